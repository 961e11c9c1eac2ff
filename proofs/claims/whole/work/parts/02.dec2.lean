theorem dX9_init_0 : decode cX9_init 0 = .ok (.aload_n 0, 1) := by decide +kernel
theorem dX9_init_1 : decode cX9_init 1 = .ok (.invokespecial 1, 3) := by decide +kernel
theorem dX9_init_4 : decode cX9_init 4 = .ok (.aload_n 0, 1) := by decide +kernel
theorem dX9_init_5 : decode cX9_init 5 = .ok (.bipush 8, 2) := by decide +kernel
theorem dX9_init_7 : decode cX9_init 7 = .ok (.newarray .int, 2) := by decide +kernel
theorem dX9_init_9 : decode cX9_init 9 = .ok (.putfield 7, 3) := by decide +kernel
theorem dX9_init_12 : decode cX9_init 12 = .ok (.aload_n 0, 1) := by decide +kernel
theorem dX9_init_13 : decode cX9_init 13 = .ok (.bipush 8, 2) := by decide +kernel
theorem dX9_init_15 : decode cX9_init 15 = .ok (.newarray .int, 2) := by decide +kernel
theorem dX9_init_17 : decode cX9_init 17 = .ok (.putfield 13, 3) := by decide +kernel
theorem dX9_init_20 : decode cX9_init 20 = .ok (.aload_n 0, 1) := by decide +kernel
theorem dX9_init_21 : decode cX9_init 21 = .ok (.bipush 8, 2) := by decide +kernel
theorem dX9_init_23 : decode cX9_init 23 = .ok (.newarray .int, 2) := by decide +kernel
theorem dX9_init_25 : decode cX9_init 25 = .ok (.putfield 16, 3) := by decide +kernel
theorem dX9_init_28 : decode cX9_init 28 = .ok (.aload_n 0, 1) := by decide +kernel
theorem dX9_init_29 : decode cX9_init 29 = .ok (.bipush 6, 2) := by decide +kernel
theorem dX9_init_31 : decode cX9_init 31 = .ok (.newarray .int, 2) := by decide +kernel
theorem dX9_init_33 : decode cX9_init 33 = .ok (.putfield 19, 3) := by decide +kernel
theorem dX9_init_36 : decode cX9_init 36 = .ok (.aload_n 0, 1) := by decide +kernel
theorem dX9_init_37 : decode cX9_init 37 = .ok (.bipush 6, 2) := by decide +kernel
theorem dX9_init_39 : decode cX9_init 39 = .ok (.newarray .int, 2) := by decide +kernel
theorem dX9_init_41 : decode cX9_init 41 = .ok (.putfield 22, 3) := by decide +kernel
theorem dX9_init_44 : decode cX9_init 44 = .ok (.aload_n 0, 1) := by decide +kernel
theorem dX9_init_45 : decode cX9_init 45 = .ok (.bipush 6, 2) := by decide +kernel
theorem dX9_init_47 : decode cX9_init 47 = .ok (.newarray .int, 2) := by decide +kernel
theorem dX9_init_49 : decode cX9_init 49 = .ok (.putfield 25, 3) := by decide +kernel
theorem dX9_init_52 : decode cX9_init 52 = .ok (.aload_n 0, 1) := by decide +kernel
theorem dX9_init_53 : decode cX9_init 53 = .ok (.bipush 36, 2) := by decide +kernel
theorem dX9_init_55 : decode cX9_init 55 = .ok (.newarray .byte, 2) := by decide +kernel
theorem dX9_init_57 : decode cX9_init 57 = .ok (.putfield 28, 3) := by decide +kernel
theorem dX9_init_60 : decode cX9_init 60 = .ok (.aload_n 0, 1) := by decide +kernel
theorem dX9_init_61 : decode cX9_init 61 = .ok (.bipush 8, 2) := by decide +kernel
theorem dX9_init_63 : decode cX9_init 63 = .ok (.newarray .int, 2) := by decide +kernel
theorem dX9_init_65 : decode cX9_init 65 = .ok (.putfield 32, 3) := by decide +kernel
theorem dX9_init_68 : decode cX9_init 68 = .ok (.aload_n 0, 1) := by decide +kernel
theorem dX9_init_69 : decode cX9_init 69 = .ok (.bipush 8, 2) := by decide +kernel
theorem dX9_init_71 : decode cX9_init 71 = .ok (.newarray .int, 2) := by decide +kernel
theorem dX9_init_73 : decode cX9_init 73 = .ok (.putfield 35, 3) := by decide +kernel
theorem dX9_init_76 : decode cX9_init 76 = .ok (.aload_n 0, 1) := by decide +kernel
theorem dX9_init_77 : decode cX9_init 77 = .ok (.bipush 8, 2) := by decide +kernel
theorem dX9_init_79 : decode cX9_init 79 = .ok (.newarray .int, 2) := by decide +kernel
theorem dX9_init_81 : decode cX9_init 81 = .ok (.putfield 38, 3) := by decide +kernel
theorem dX9_init_84 : decode cX9_init 84 = .ok (.aload_n 0, 1) := by decide +kernel
theorem dX9_init_85 : decode cX9_init 85 = .ok (.bipush 6, 2) := by decide +kernel
theorem dX9_init_87 : decode cX9_init 87 = .ok (.newarray .int, 2) := by decide +kernel
theorem dX9_init_89 : decode cX9_init 89 = .ok (.putfield 41, 3) := by decide +kernel
theorem dX9_init_92 : decode cX9_init 92 = .ok (.aload_n 0, 1) := by decide +kernel
theorem dX9_init_93 : decode cX9_init 93 = .ok (.bipush 6, 2) := by decide +kernel
theorem dX9_init_95 : decode cX9_init 95 = .ok (.newarray .int, 2) := by decide +kernel
theorem dX9_init_97 : decode cX9_init 97 = .ok (.putfield 44, 3) := by decide +kernel
theorem dX9_init_100 : decode cX9_init 100 = .ok (.aload_n 0, 1) := by decide +kernel
theorem dX9_init_101 : decode cX9_init 101 = .ok (.bipush 6, 2) := by decide +kernel
theorem dX9_init_103 : decode cX9_init 103 = .ok (.newarray .int, 2) := by decide +kernel
theorem dX9_init_105 : decode cX9_init 105 = .ok (.putfield 47, 3) := by decide +kernel
theorem dX9_init_108 : decode cX9_init 108 = .ok (.return_, 1) := by decide +kernel
theorem dX9_within_0 : decode cX9_within 0 = .ok (.iload_n 0, 1) := by decide +kernel
theorem dX9_within_1 : decode cX9_within 1 = .ok (.iload_n 1, 1) := by decide +kernel
theorem dX9_within_2 : decode cX9_within 2 = .ok (.if_icmp .lt 12, 3) := by decide +kernel
theorem dX9_within_5 : decode cX9_within 5 = .ok (.iload_n 0, 1) := by decide +kernel
theorem dX9_within_6 : decode cX9_within 6 = .ok (.iload_n 2, 1) := by decide +kernel
theorem dX9_within_7 : decode cX9_within 7 = .ok (.if_icmp .gt 7, 3) := by decide +kernel
theorem dX9_within_10 : decode cX9_within 10 = .ok (.iconst 1, 1) := by decide +kernel
theorem dX9_within_11 : decode cX9_within 11 = .ok (.goto 4, 3) := by decide +kernel
theorem dX9_within_14 : decode cX9_within 14 = .ok (.iconst 0, 1) := by decide +kernel
theorem dX9_within_15 : decode cX9_within 15 = .ok (.ireturn, 1) := by decide +kernel
theorem dX9_isIn_0 : decode cX9_isIn 0 = .ok (.iload_n 0, 1) := by decide +kernel
theorem dX9_isIn_1 : decode cX9_isIn 1 = .ok (.iload_n 1, 1) := by decide +kernel
theorem dX9_isIn_2 : decode cX9_isIn 2 = .ok (.ishr, 1) := by decide +kernel
theorem dX9_isIn_3 : decode cX9_isIn 3 = .ok (.iconst 1, 1) := by decide +kernel
theorem dX9_isIn_4 : decode cX9_isIn 4 = .ok (.iand, 1) := by decide +kernel
theorem dX9_isIn_5 : decode cX9_isIn 5 = .ok (.iconst 1, 1) := by decide +kernel
theorem dX9_isIn_6 : decode cX9_isIn 6 = .ok (.if_icmp .ne 7, 3) := by decide +kernel
theorem dX9_isIn_9 : decode cX9_isIn 9 = .ok (.iconst 1, 1) := by decide +kernel
theorem dX9_isIn_10 : decode cX9_isIn 10 = .ok (.goto 4, 3) := by decide +kernel
theorem dX9_isIn_13 : decode cX9_isIn 13 = .ok (.iconst 0, 1) := by decide +kernel
theorem dX9_isIn_14 : decode cX9_isIn 14 = .ok (.ireturn, 1) := by decide +kernel
theorem dX9_size_0 : decode cX9_size 0 = .ok (.iconst 0, 1) := by decide +kernel
theorem dX9_size_1 : decode cX9_size 1 = .ok (.istore_n 1, 1) := by decide +kernel
theorem dX9_size_2 : decode cX9_size 2 = .ok (.iconst 0, 1) := by decide +kernel
theorem dX9_size_3 : decode cX9_size 3 = .ok (.istore_n 2, 1) := by decide +kernel
theorem dX9_size_4 : decode cX9_size 4 = .ok (.iload_n 2, 1) := by decide +kernel
theorem dX9_size_5 : decode cX9_size 5 = .ok (.bipush 10, 2) := by decide +kernel
theorem dX9_size_7 : decode cX9_size 7 = .ok (.if_icmp .ge 17, 3) := by decide +kernel
theorem dX9_size_10 : decode cX9_size 10 = .ok (.iload_n 1, 1) := by decide +kernel
theorem dX9_size_11 : decode cX9_size 11 = .ok (.iload_n 0, 1) := by decide +kernel
theorem dX9_size_12 : decode cX9_size 12 = .ok (.iload_n 2, 1) := by decide +kernel
theorem dX9_size_13 : decode cX9_size 13 = .ok (.ishr, 1) := by decide +kernel
theorem dX9_size_14 : decode cX9_size 14 = .ok (.iconst 1, 1) := by decide +kernel
theorem dX9_size_15 : decode cX9_size 15 = .ok (.iand, 1) := by decide +kernel
theorem dX9_size_16 : decode cX9_size 16 = .ok (.iadd, 1) := by decide +kernel
theorem dX9_size_17 : decode cX9_size 17 = .ok (.istore_n 1, 1) := by decide +kernel
theorem dX9_size_18 : decode cX9_size 18 = .ok (.iinc 2 1, 3) := by decide +kernel
theorem dX9_size_21 : decode cX9_size 21 = .ok (.goto (-17), 3) := by decide +kernel
theorem dX9_size_24 : decode cX9_size 24 = .ok (.iload_n 1, 1) := by decide +kernel
theorem dX9_size_25 : decode cX9_size 25 = .ok (.ireturn, 1) := by decide +kernel
theorem dX9_divisor_0 : decode cX9_divisor 0 = .ok (.iload_n 0, 1) := by decide +kernel
theorem dX9_divisor_1 : decode cX9_divisor 1 = .ok (.istore_n 2, 1) := by decide +kernel
theorem dX9_divisor_2 : decode cX9_divisor 2 = .ok (.iload_n 1, 1) := by decide +kernel
theorem dX9_divisor_3 : decode cX9_divisor 3 = .ok (.istore_n 3, 1) := by decide +kernel
theorem dX9_divisor_4 : decode cX9_divisor 4 = .ok (.iload_n 3, 1) := by decide +kernel
theorem dX9_divisor_5 : decode cX9_divisor 5 = .ok (.ifCond .eq 16, 3) := by decide +kernel
theorem dX9_divisor_8 : decode cX9_divisor 8 = .ok (.iload_n 2, 1) := by decide +kernel
theorem dX9_divisor_9 : decode cX9_divisor 9 = .ok (.iload_n 3, 1) := by decide +kernel
theorem dX9_divisor_10 : decode cX9_divisor 10 = .ok (.irem, 1) := by decide +kernel
theorem dX9_divisor_11 : decode cX9_divisor 11 = .ok (.istore 4, 2) := by decide +kernel
theorem dX9_divisor_13 : decode cX9_divisor 13 = .ok (.iload_n 3, 1) := by decide +kernel
theorem dX9_divisor_14 : decode cX9_divisor 14 = .ok (.istore_n 2, 1) := by decide +kernel
theorem dX9_divisor_15 : decode cX9_divisor 15 = .ok (.iload 4, 2) := by decide +kernel
theorem dX9_divisor_17 : decode cX9_divisor 17 = .ok (.istore_n 3, 1) := by decide +kernel
theorem dX9_divisor_18 : decode cX9_divisor 18 = .ok (.goto (-14), 3) := by decide +kernel
theorem dX9_divisor_21 : decode cX9_divisor 21 = .ok (.iload_n 2, 1) := by decide +kernel
theorem dX9_divisor_22 : decode cX9_divisor 22 = .ok (.ireturn, 1) := by decide +kernel
theorem dX9_letter_0 : decode cX9_letter 0 = .ok (.iload_n 1, 1) := by decide +kernel
theorem dX9_letter_1 : decode cX9_letter 1 = .ok (.bipush 32, 2) := by decide +kernel
theorem dX9_letter_3 : decode cX9_letter 3 = .ok (.bipush 126, 2) := by decide +kernel
theorem dX9_letter_5 : decode cX9_letter 5 = .ok (.invokestatic 50, 3) := by decide +kernel
theorem dX9_letter_8 : decode cX9_letter 8 = .ok (.ifCond .ne 6, 3) := by decide +kernel
theorem dX9_letter_11 : decode cX9_letter 11 = .ok (.bipush (-102), 2) := by decide +kernel
theorem dX9_letter_13 : decode cX9_letter 13 = .ok (.ireturn, 1) := by decide +kernel
theorem dX9_letter_14 : decode cX9_letter 14 = .ok (.aload_n 0, 1) := by decide +kernel
theorem dX9_letter_15 : decode cX9_letter 15 = .ok (.getfield 54, 3) := by decide +kernel
theorem dX9_letter_18 : decode cX9_letter 18 = .ok (.bipush 36, 2) := by decide +kernel
theorem dX9_letter_20 : decode cX9_letter 20 = .ok (.if_icmp .ne 6, 3) := by decide +kernel
theorem dX9_letter_23 : decode cX9_letter 23 = .ok (.bipush (-104), 2) := by decide +kernel
theorem dX9_letter_25 : decode cX9_letter 25 = .ok (.ireturn, 1) := by decide +kernel
theorem dX9_letter_26 : decode cX9_letter 26 = .ok (.aload_n 0, 1) := by decide +kernel
theorem dX9_letter_27 : decode cX9_letter 27 = .ok (.getfield 28, 3) := by decide +kernel
theorem dX9_letter_30 : decode cX9_letter 30 = .ok (.aload_n 0, 1) := by decide +kernel
theorem dX9_letter_31 : decode cX9_letter 31 = .ok (.getfield 54, 3) := by decide +kernel
theorem dX9_letter_34 : decode cX9_letter 34 = .ok (.iload_n 1, 1) := by decide +kernel
theorem dX9_letter_35 : decode cX9_letter 35 = .ok (.i2b, 1) := by decide +kernel
theorem dX9_letter_36 : decode cX9_letter 36 = .ok (.bastore, 1) := by decide +kernel
theorem dX9_letter_37 : decode cX9_letter 37 = .ok (.aload_n 0, 1) := by decide +kernel
theorem dX9_letter_38 : decode cX9_letter 38 = .ok (.dup, 1) := by decide +kernel
theorem dX9_letter_39 : decode cX9_letter 39 = .ok (.getfield 54, 3) := by decide +kernel
theorem dX9_letter_42 : decode cX9_letter 42 = .ok (.iconst 1, 1) := by decide +kernel
theorem dX9_letter_43 : decode cX9_letter 43 = .ok (.iadd, 1) := by decide +kernel
theorem dX9_letter_44 : decode cX9_letter 44 = .ok (.putfield 54, 3) := by decide +kernel
theorem dX9_letter_47 : decode cX9_letter 47 = .ok (.aload_n 0, 1) := by decide +kernel
theorem dX9_letter_48 : decode cX9_letter 48 = .ok (.getfield 54, 3) := by decide +kernel
theorem dX9_letter_51 : decode cX9_letter 51 = .ok (.ireturn, 1) := by decide +kernel
theorem dX9_blank_0 : decode cX9_blank 0 = .ok (.aload_n 0, 1) := by decide +kernel
theorem dX9_blank_1 : decode cX9_blank 1 = .ok (.getfield 54, 3) := by decide +kernel
theorem dX9_blank_4 : decode cX9_blank 4 = .ok (.istore_n 1, 1) := by decide +kernel
theorem dX9_blank_5 : decode cX9_blank 5 = .ok (.aload_n 0, 1) := by decide +kernel
theorem dX9_blank_6 : decode cX9_blank 6 = .ok (.iconst 0, 1) := by decide +kernel
theorem dX9_blank_7 : decode cX9_blank 7 = .ok (.putfield 54, 3) := by decide +kernel
theorem dX9_blank_10 : decode cX9_blank 10 = .ok (.iload_n 1, 1) := by decide +kernel
theorem dX9_blank_11 : decode cX9_blank 11 = .ok (.ireturn, 1) := by decide +kernel
theorem dX9_kindBy_0 : decode cX9_kindBy 0 = .ok (.iload_n 0, 1) := by decide +kernel
theorem dX9_kindBy_1 : decode cX9_kindBy 1 = .ok (.tableswitch 81 99 112 #[73, 81, 81, 81, 71, 75, 81, 81, 79, 81, 81, 81, 81, 77], 71) := by decide +kernel
theorem dX9_kindBy_72 : decode cX9_kindBy 72 = .ok (.iconst 0, 1) := by decide +kernel
theorem dX9_kindBy_73 : decode cX9_kindBy 73 = .ok (.ireturn, 1) := by decide +kernel
theorem dX9_kindBy_74 : decode cX9_kindBy 74 = .ok (.iconst 1, 1) := by decide +kernel
theorem dX9_kindBy_75 : decode cX9_kindBy 75 = .ok (.ireturn, 1) := by decide +kernel
theorem dX9_kindBy_76 : decode cX9_kindBy 76 = .ok (.iconst 2, 1) := by decide +kernel
theorem dX9_kindBy_77 : decode cX9_kindBy 77 = .ok (.ireturn, 1) := by decide +kernel
theorem dX9_kindBy_78 : decode cX9_kindBy 78 = .ok (.iconst 3, 1) := by decide +kernel
theorem dX9_kindBy_79 : decode cX9_kindBy 79 = .ok (.ireturn, 1) := by decide +kernel
theorem dX9_kindBy_80 : decode cX9_kindBy 80 = .ok (.iconst 4, 1) := by decide +kernel
theorem dX9_kindBy_81 : decode cX9_kindBy 81 = .ok (.ireturn, 1) := by decide +kernel
theorem dX9_kindBy_82 : decode cX9_kindBy 82 = .ok (.iconst (-1), 1) := by decide +kernel
theorem dX9_kindBy_83 : decode cX9_kindBy 83 = .ok (.ireturn, 1) := by decide +kernel
theorem dX9_at_0 : decode cX9_at 0 = .ok (.iload_n 1, 1) := by decide +kernel
theorem dX9_at_1 : decode cX9_at 1 = .ok (.aload_n 0, 1) := by decide +kernel
theorem dX9_at_2 : decode cX9_at 2 = .ok (.getfield 54, 3) := by decide +kernel
theorem dX9_at_5 : decode cX9_at 5 = .ok (.if_icmp .ge 12, 3) := by decide +kernel
theorem dX9_at_8 : decode cX9_at 8 = .ok (.aload_n 0, 1) := by decide +kernel
theorem dX9_at_9 : decode cX9_at 9 = .ok (.getfield 28, 3) := by decide +kernel
theorem dX9_at_12 : decode cX9_at 12 = .ok (.iload_n 1, 1) := by decide +kernel
theorem dX9_at_13 : decode cX9_at 13 = .ok (.baload, 1) := by decide +kernel
theorem dX9_at_14 : decode cX9_at 14 = .ok (.goto 4, 3) := by decide +kernel
theorem dX9_at_17 : decode cX9_at 17 = .ok (.iconst 0, 1) := by decide +kernel
theorem dX9_at_18 : decode cX9_at 18 = .ok (.ireturn, 1) := by decide +kernel
theorem dX9_isFigure_0 : decode cX9_isFigure 0 = .ok (.aload_n 0, 1) := by decide +kernel
theorem dX9_isFigure_1 : decode cX9_isFigure 1 = .ok (.iload_n 1, 1) := by decide +kernel
theorem dX9_isFigure_2 : decode cX9_isFigure 2 = .ok (.invokevirtual 58, 3) := by decide +kernel
theorem dX9_isFigure_5 : decode cX9_isFigure 5 = .ok (.bipush 48, 2) := by decide +kernel
theorem dX9_isFigure_7 : decode cX9_isFigure 7 = .ok (.isub, 1) := by decide +kernel
theorem dX9_isFigure_8 : decode cX9_isFigure 8 = .ok (.iconst 0, 1) := by decide +kernel
theorem dX9_isFigure_9 : decode cX9_isFigure 9 = .ok (.iload_n 2, 1) := by decide +kernel
theorem dX9_isFigure_10 : decode cX9_isFigure 10 = .ok (.invokestatic 50, 3) := by decide +kernel
theorem dX9_isFigure_13 : decode cX9_isFigure 13 = .ok (.ireturn, 1) := by decide +kernel
theorem dX9_readGuest_0 : decode cX9_readGuest 0 = .ok (.aload_n 0, 1) := by decide +kernel
theorem dX9_readGuest_1 : decode cX9_readGuest 1 = .ok (.iload_n 1, 1) := by decide +kernel
theorem dX9_readGuest_2 : decode cX9_readGuest 2 = .ok (.invokevirtual 58, 3) := by decide +kernel
theorem dX9_readGuest_5 : decode cX9_readGuest 5 = .ok (.invokestatic 62, 3) := by decide +kernel
theorem dX9_readGuest_8 : decode cX9_readGuest 8 = .ok (.iconst (-1), 1) := by decide +kernel
theorem dX9_readGuest_9 : decode cX9_readGuest 9 = .ok (.if_icmp .ne 5, 3) := by decide +kernel
theorem dX9_readGuest_12 : decode cX9_readGuest 12 = .ok (.iload_n 1, 1) := by decide +kernel
theorem dX9_readGuest_13 : decode cX9_readGuest 13 = .ok (.ireturn, 1) := by decide +kernel
theorem dX9_readGuest_14 : decode cX9_readGuest 14 = .ok (.aload_n 0, 1) := by decide +kernel
theorem dX9_readGuest_15 : decode cX9_readGuest 15 = .ok (.iload_n 1, 1) := by decide +kernel
theorem dX9_readGuest_16 : decode cX9_readGuest 16 = .ok (.iconst 1, 1) := by decide +kernel
theorem dX9_readGuest_17 : decode cX9_readGuest 17 = .ok (.iadd, 1) := by decide +kernel
theorem dX9_readGuest_18 : decode cX9_readGuest 18 = .ok (.bipush 9, 2) := by decide +kernel
theorem dX9_readGuest_20 : decode cX9_readGuest 20 = .ok (.invokevirtual 65, 3) := by decide +kernel
theorem dX9_readGuest_23 : decode cX9_readGuest 23 = .ok (.ifCond .ne 7, 3) := by decide +kernel
theorem dX9_readGuest_26 : decode cX9_readGuest 26 = .ok (.iload_n 1, 1) := by decide +kernel
theorem dX9_readGuest_27 : decode cX9_readGuest 27 = .ok (.iconst 1, 1) := by decide +kernel
theorem dX9_readGuest_28 : decode cX9_readGuest 28 = .ok (.iadd, 1) := by decide +kernel
theorem dX9_readGuest_29 : decode cX9_readGuest 29 = .ok (.ireturn, 1) := by decide +kernel
theorem dX9_readGuest_30 : decode cX9_readGuest 30 = .ok (.aload_n 0, 1) := by decide +kernel
theorem dX9_readGuest_31 : decode cX9_readGuest 31 = .ok (.iload_n 1, 1) := by decide +kernel
theorem dX9_readGuest_32 : decode cX9_readGuest 32 = .ok (.iconst 2, 1) := by decide +kernel
theorem dX9_readGuest_33 : decode cX9_readGuest 33 = .ok (.iadd, 1) := by decide +kernel
theorem dX9_readGuest_34 : decode cX9_readGuest 34 = .ok (.invokevirtual 58, 3) := by decide +kernel
theorem dX9_readGuest_37 : decode cX9_readGuest 37 = .ok (.bipush 45, 2) := by decide +kernel
theorem dX9_readGuest_39 : decode cX9_readGuest 39 = .ok (.if_icmp .eq 19, 3) := by decide +kernel
theorem dX9_readGuest_42 : decode cX9_readGuest 42 = .ok (.aload_n 0, 1) := by decide +kernel
theorem dX9_readGuest_43 : decode cX9_readGuest 43 = .ok (.iload_n 1, 1) := by decide +kernel
theorem dX9_readGuest_44 : decode cX9_readGuest 44 = .ok (.iconst 2, 1) := by decide +kernel
theorem dX9_readGuest_45 : decode cX9_readGuest 45 = .ok (.iadd, 1) := by decide +kernel
theorem dX9_readGuest_46 : decode cX9_readGuest 46 = .ok (.aload_n 0, 1) := by decide +kernel
theorem dX9_readGuest_47 : decode cX9_readGuest 47 = .ok (.getfield 69, 3) := by decide +kernel
theorem dX9_readGuest_50 : decode cX9_readGuest 50 = .ok (.iconst 1, 1) := by decide +kernel
theorem dX9_readGuest_51 : decode cX9_readGuest 51 = .ok (.isub, 1) := by decide +kernel
theorem dX9_readGuest_52 : decode cX9_readGuest 52 = .ok (.invokevirtual 65, 3) := by decide +kernel
theorem dX9_readGuest_55 : decode cX9_readGuest 55 = .ok (.ifCond .eq 9, 3) := by decide +kernel
theorem dX9_readGuest_58 : decode cX9_readGuest 58 = .ok (.iload_n 1, 1) := by decide +kernel
theorem dX9_readGuest_59 : decode cX9_readGuest 59 = .ok (.iconst 3, 1) := by decide +kernel
theorem dX9_readGuest_60 : decode cX9_readGuest 60 = .ok (.iadd, 1) := by decide +kernel
theorem dX9_readGuest_61 : decode cX9_readGuest 61 = .ok (.goto 6, 3) := by decide +kernel
theorem dX9_readGuest_64 : decode cX9_readGuest 64 = .ok (.iload_n 1, 1) := by decide +kernel
theorem dX9_readGuest_65 : decode cX9_readGuest 65 = .ok (.iconst 2, 1) := by decide +kernel
theorem dX9_readGuest_66 : decode cX9_readGuest 66 = .ok (.iadd, 1) := by decide +kernel
theorem dX9_readGuest_67 : decode cX9_readGuest 67 = .ok (.ireturn, 1) := by decide +kernel
theorem dX9_read_0 : decode cX9_read 0 = .ok (.aload_n 0, 1) := by decide +kernel
theorem dX9_read_1 : decode cX9_read 1 = .ok (.iconst 0, 1) := by decide +kernel
theorem dX9_read_2 : decode cX9_read 2 = .ok (.putfield 72, 3) := by decide +kernel
theorem dX9_read_5 : decode cX9_read 5 = .ok (.aload_n 0, 1) := by decide +kernel
theorem dX9_read_6 : decode cX9_read 6 = .ok (.iconst 0, 1) := by decide +kernel
theorem dX9_read_7 : decode cX9_read 7 = .ok (.putfield 69, 3) := by decide +kernel
theorem dX9_read_10 : decode cX9_read 10 = .ok (.aload_n 0, 1) := by decide +kernel
theorem dX9_read_11 : decode cX9_read 11 = .ok (.iconst 0, 1) := by decide +kernel
theorem dX9_read_12 : decode cX9_read 12 = .ok (.bipush 9, 2) := by decide +kernel
theorem dX9_read_14 : decode cX9_read 14 = .ok (.invokevirtual 65, 3) := by decide +kernel
theorem dX9_read_17 : decode cX9_read 17 = .ok (.ifCond .ne 5, 3) := by decide +kernel
theorem dX9_read_20 : decode cX9_read 20 = .ok (.iconst 0, 1) := by decide +kernel
theorem dX9_read_21 : decode cX9_read 21 = .ok (.ireturn, 1) := by decide +kernel
theorem dX9_read_22 : decode cX9_read 22 = .ok (.aload_n 0, 1) := by decide +kernel
theorem dX9_read_23 : decode cX9_read 23 = .ok (.iconst 1, 1) := by decide +kernel
theorem dX9_read_24 : decode cX9_read 24 = .ok (.bipush 9, 2) := by decide +kernel
theorem dX9_read_26 : decode cX9_read 26 = .ok (.invokevirtual 65, 3) := by decide +kernel
theorem dX9_read_29 : decode cX9_read 29 = .ok (.ifCond .ne 5, 3) := by decide +kernel
theorem dX9_read_32 : decode cX9_read 32 = .ok (.iconst 1, 1) := by decide +kernel
theorem dX9_read_33 : decode cX9_read 33 = .ok (.ireturn, 1) := by decide +kernel
theorem dX9_read_34 : decode cX9_read 34 = .ok (.aload_n 0, 1) := by decide +kernel
theorem dX9_read_35 : decode cX9_read 35 = .ok (.iconst 2, 1) := by decide +kernel
theorem dX9_read_36 : decode cX9_read 36 = .ok (.invokevirtual 58, 3) := by decide +kernel
theorem dX9_read_39 : decode cX9_read 39 = .ok (.bipush 59, 2) := by decide +kernel
theorem dX9_read_41 : decode cX9_read 41 = .ok (.if_icmp .eq 5, 3) := by decide +kernel
theorem dX9_read_44 : decode cX9_read 44 = .ok (.iconst 2, 1) := by decide +kernel
theorem dX9_read_45 : decode cX9_read 45 = .ok (.ireturn, 1) := by decide +kernel
theorem dX9_read_46 : decode cX9_read 46 = .ok (.iconst 3, 1) := by decide +kernel
theorem dX9_read_47 : decode cX9_read 47 = .ok (.istore_n 1, 1) := by decide +kernel
theorem dX9_read_48 : decode cX9_read 48 = .ok (.aload_n 0, 1) := by decide +kernel
theorem dX9_read_49 : decode cX9_read 49 = .ok (.getfield 69, 3) := by decide +kernel
theorem dX9_read_52 : decode cX9_read 52 = .ok (.bipush 8, 2) := by decide +kernel
theorem dX9_read_54 : decode cX9_read 54 = .ok (.if_icmp .ge 82, 3) := by decide +kernel
theorem dX9_read_57 : decode cX9_read 57 = .ok (.aload_n 0, 1) := by decide +kernel
theorem dX9_read_58 : decode cX9_read 58 = .ok (.iload_n 1, 1) := by decide +kernel
theorem dX9_read_59 : decode cX9_read 59 = .ok (.invokevirtual 76, 3) := by decide +kernel
theorem dX9_read_62 : decode cX9_read 62 = .ok (.istore_n 2, 1) := by decide +kernel
theorem dX9_read_63 : decode cX9_read 63 = .ok (.iload_n 2, 1) := by decide +kernel
theorem dX9_read_64 : decode cX9_read 64 = .ok (.iload_n 1, 1) := by decide +kernel
theorem dX9_read_65 : decode cX9_read 65 = .ok (.iconst 3, 1) := by decide +kernel
theorem dX9_read_66 : decode cX9_read 66 = .ok (.iadd, 1) := by decide +kernel
theorem dX9_read_67 : decode cX9_read 67 = .ok (.if_icmp .eq 5, 3) := by decide +kernel
theorem dX9_read_70 : decode cX9_read 70 = .ok (.iload_n 2, 1) := by decide +kernel
theorem dX9_read_71 : decode cX9_read 71 = .ok (.ireturn, 1) := by decide +kernel
theorem dX9_read_72 : decode cX9_read 72 = .ok (.aload_n 0, 1) := by decide +kernel
theorem dX9_read_73 : decode cX9_read 73 = .ok (.dup, 1) := by decide +kernel
theorem dX9_read_74 : decode cX9_read 74 = .ok (.getfield 69, 3) := by decide +kernel
theorem dX9_read_77 : decode cX9_read 77 = .ok (.iconst 1, 1) := by decide +kernel
theorem dX9_read_78 : decode cX9_read 78 = .ok (.iadd, 1) := by decide +kernel
theorem dX9_read_79 : decode cX9_read 79 = .ok (.putfield 69, 3) := by decide +kernel
theorem dX9_read_82 : decode cX9_read 82 = .ok (.iload_n 2, 1) := by decide +kernel
theorem dX9_read_83 : decode cX9_read 83 = .ok (.istore_n 1, 1) := by decide +kernel
theorem dX9_read_84 : decode cX9_read 84 = .ok (.aload_n 0, 1) := by decide +kernel
theorem dX9_read_85 : decode cX9_read 85 = .ok (.iload_n 1, 1) := by decide +kernel
theorem dX9_read_86 : decode cX9_read 86 = .ok (.aload_n 0, 1) := by decide +kernel
theorem dX9_read_87 : decode cX9_read 87 = .ok (.getfield 54, 3) := by decide +kernel
theorem dX9_read_90 : decode cX9_read 90 = .ok (.if_icmp .ne 15, 3) := by decide +kernel
theorem dX9_read_93 : decode cX9_read 93 = .ok (.aload_n 0, 1) := by decide +kernel
theorem dX9_read_94 : decode cX9_read 94 = .ok (.getfield 69, 3) := by decide +kernel
theorem dX9_read_97 : decode cX9_read 97 = .ok (.iconst 1, 1) := by decide +kernel
theorem dX9_read_98 : decode cX9_read 98 = .ok (.if_icmp .le 7, 3) := by decide +kernel
theorem dX9_read_101 : decode cX9_read 101 = .ok (.iconst 1, 1) := by decide +kernel
theorem dX9_read_102 : decode cX9_read 102 = .ok (.goto 4, 3) := by decide +kernel
theorem dX9_read_105 : decode cX9_read 105 = .ok (.iconst 0, 1) := by decide +kernel
theorem dX9_read_106 : decode cX9_read 106 = .ok (.putfield 72, 3) := by decide +kernel
theorem dX9_read_109 : decode cX9_read 109 = .ok (.aload_n 0, 1) := by decide +kernel
theorem dX9_read_110 : decode cX9_read 110 = .ok (.getfield 69, 3) := by decide +kernel
theorem dX9_read_113 : decode cX9_read 113 = .ok (.bipush 8, 2) := by decide +kernel
theorem dX9_read_115 : decode cX9_read 115 = .ok (.if_icmp .eq 13, 3) := by decide +kernel
theorem dX9_read_118 : decode cX9_read 118 = .ok (.aload_n 0, 1) := by decide +kernel
theorem dX9_read_119 : decode cX9_read 119 = .ok (.iload_n 1, 1) := by decide +kernel
theorem dX9_read_120 : decode cX9_read 120 = .ok (.invokevirtual 58, 3) := by decide +kernel
theorem dX9_read_123 : decode cX9_read 123 = .ok (.bipush 44, 2) := by decide +kernel
theorem dX9_read_125 : decode cX9_read 125 = .ok (.if_icmp .eq 5, 3) := by decide +kernel
theorem dX9_read_128 : decode cX9_read 128 = .ok (.iload_n 1, 1) := by decide +kernel
theorem dX9_read_129 : decode cX9_read 129 = .ok (.ireturn, 1) := by decide +kernel
theorem dX9_read_130 : decode cX9_read 130 = .ok (.iinc 1 1, 3) := by decide +kernel
theorem dX9_read_133 : decode cX9_read 133 = .ok (.goto (-85), 3) := by decide +kernel
theorem dX9_read_136 : decode cX9_read 136 = .ok (.iload_n 1, 1) := by decide +kernel
theorem dX9_read_137 : decode cX9_read 137 = .ok (.ireturn, 1) := by decide +kernel
theorem dX9_fault_0 : decode cX9_fault 0 = .ok (.aload_n 0, 1) := by decide +kernel
theorem dX9_fault_1 : decode cX9_fault 1 = .ok (.invokevirtual 79, 3) := by decide +kernel
theorem dX9_fault_4 : decode cX9_fault 4 = .ok (.ireturn, 1) := by decide +kernel
theorem dX9_party_0 : decode cX9_party 0 = .ok (.aload_n 0, 1) := by decide +kernel
theorem dX9_party_1 : decode cX9_party 1 = .ok (.invokevirtual 79, 3) := by decide +kernel
theorem dX9_party_4 : decode cX9_party 4 = .ok (.pop, 1) := by decide +kernel
theorem dX9_party_5 : decode cX9_party 5 = .ok (.aload_n 0, 1) := by decide +kernel
theorem dX9_party_6 : decode cX9_party 6 = .ok (.getfield 72, 3) := by decide +kernel
theorem dX9_party_9 : decode cX9_party 9 = .ok (.ifCond .ne 6, 3) := by decide +kernel
theorem dX9_party_12 : decode cX9_party 12 = .ok (.bipush (-103), 2) := by decide +kernel
theorem dX9_party_14 : decode cX9_party 14 = .ok (.ireturn, 1) := by decide +kernel
theorem dX9_party_15 : decode cX9_party 15 = .ok (.aload_n 0, 1) := by decide +kernel
theorem dX9_party_16 : decode cX9_party 16 = .ok (.aload_n 0, 1) := by decide +kernel
theorem dX9_party_17 : decode cX9_party 17 = .ok (.getfield 69, 3) := by decide +kernel
theorem dX9_party_20 : decode cX9_party 20 = .ok (.putfield 83, 3) := by decide +kernel
theorem dX9_party_23 : decode cX9_party 23 = .ok (.aload_n 0, 1) := by decide +kernel
theorem dX9_party_24 : decode cX9_party 24 = .ok (.bipush 10, 2) := by decide +kernel
theorem dX9_party_26 : decode cX9_party 26 = .ok (.aload_n 0, 1) := by decide +kernel
theorem dX9_party_27 : decode cX9_party 27 = .ok (.getfield 28, 3) := by decide +kernel
theorem dX9_party_30 : decode cX9_party 30 = .ok (.iconst 0, 1) := by decide +kernel
theorem dX9_party_31 : decode cX9_party 31 = .ok (.baload, 1) := by decide +kernel
theorem dX9_party_32 : decode cX9_party 32 = .ok (.bipush 48, 2) := by decide +kernel
theorem dX9_party_34 : decode cX9_party 34 = .ok (.isub, 1) := by decide +kernel
theorem dX9_party_35 : decode cX9_party 35 = .ok (.imul, 1) := by decide +kernel
theorem dX9_party_36 : decode cX9_party 36 = .ok (.aload_n 0, 1) := by decide +kernel
theorem dX9_party_37 : decode cX9_party 37 = .ok (.getfield 28, 3) := by decide +kernel
theorem dX9_party_40 : decode cX9_party 40 = .ok (.iconst 1, 1) := by decide +kernel
theorem dX9_party_41 : decode cX9_party 41 = .ok (.baload, 1) := by decide +kernel
theorem dX9_party_42 : decode cX9_party 42 = .ok (.iadd, 1) := by decide +kernel
theorem dX9_party_43 : decode cX9_party 43 = .ok (.bipush 48, 2) := by decide +kernel
theorem dX9_party_45 : decode cX9_party 45 = .ok (.isub, 1) := by decide +kernel
theorem dX9_party_46 : decode cX9_party 46 = .ok (.putfield 86, 3) := by decide +kernel
theorem dX9_party_49 : decode cX9_party 49 = .ok (.iconst 0, 1) := by decide +kernel
theorem dX9_party_50 : decode cX9_party 50 = .ok (.istore_n 1, 1) := by decide +kernel
theorem dX9_party_51 : decode cX9_party 51 = .ok (.iload_n 1, 1) := by decide +kernel
theorem dX9_party_52 : decode cX9_party 52 = .ok (.aload_n 0, 1) := by decide +kernel
theorem dX9_party_53 : decode cX9_party 53 = .ok (.getfield 83, 3) := by decide +kernel
theorem dX9_party_56 : decode cX9_party 56 = .ok (.if_icmp .ge 81, 3) := by decide +kernel
theorem dX9_party_59 : decode cX9_party 59 = .ok (.iconst 3, 1) := by decide +kernel
theorem dX9_party_60 : decode cX9_party 60 = .ok (.iconst 4, 1) := by decide +kernel
theorem dX9_party_61 : decode cX9_party 61 = .ok (.iload_n 1, 1) := by decide +kernel
theorem dX9_party_62 : decode cX9_party 62 = .ok (.imul, 1) := by decide +kernel
theorem dX9_party_63 : decode cX9_party 63 = .ok (.iadd, 1) := by decide +kernel
theorem dX9_party_64 : decode cX9_party 64 = .ok (.istore_n 2, 1) := by decide +kernel
theorem dX9_party_65 : decode cX9_party 65 = .ok (.aload_n 0, 1) := by decide +kernel
theorem dX9_party_66 : decode cX9_party 66 = .ok (.getfield 7, 3) := by decide +kernel
theorem dX9_party_69 : decode cX9_party 69 = .ok (.iload_n 1, 1) := by decide +kernel
theorem dX9_party_70 : decode cX9_party 70 = .ok (.aload_n 0, 1) := by decide +kernel
theorem dX9_party_71 : decode cX9_party 71 = .ok (.getfield 28, 3) := by decide +kernel
theorem dX9_party_74 : decode cX9_party 74 = .ok (.iload_n 2, 1) := by decide +kernel
theorem dX9_party_75 : decode cX9_party 75 = .ok (.baload, 1) := by decide +kernel
theorem dX9_party_76 : decode cX9_party 76 = .ok (.invokestatic 62, 3) := by decide +kernel
theorem dX9_party_79 : decode cX9_party 79 = .ok (.iastore, 1) := by decide +kernel
theorem dX9_party_80 : decode cX9_party 80 = .ok (.aload_n 0, 1) := by decide +kernel
theorem dX9_party_81 : decode cX9_party 81 = .ok (.getfield 13, 3) := by decide +kernel
theorem dX9_party_84 : decode cX9_party 84 = .ok (.iload_n 1, 1) := by decide +kernel
theorem dX9_party_85 : decode cX9_party 85 = .ok (.aload_n 0, 1) := by decide +kernel
theorem dX9_party_86 : decode cX9_party 86 = .ok (.getfield 28, 3) := by decide +kernel
theorem dX9_party_89 : decode cX9_party 89 = .ok (.iload_n 2, 1) := by decide +kernel
theorem dX9_party_90 : decode cX9_party 90 = .ok (.iconst 1, 1) := by decide +kernel
theorem dX9_party_91 : decode cX9_party 91 = .ok (.iadd, 1) := by decide +kernel
theorem dX9_party_92 : decode cX9_party 92 = .ok (.baload, 1) := by decide +kernel
theorem dX9_party_93 : decode cX9_party 93 = .ok (.bipush 48, 2) := by decide +kernel
theorem dX9_party_95 : decode cX9_party 95 = .ok (.isub, 1) := by decide +kernel
theorem dX9_party_96 : decode cX9_party 96 = .ok (.iastore, 1) := by decide +kernel
theorem dX9_party_97 : decode cX9_party 97 = .ok (.aload_n 0, 1) := by decide +kernel
theorem dX9_party_98 : decode cX9_party 98 = .ok (.getfield 16, 3) := by decide +kernel
theorem dX9_party_101 : decode cX9_party 101 = .ok (.iload_n 1, 1) := by decide +kernel
theorem dX9_party_102 : decode cX9_party 102 = .ok (.aload_n 0, 1) := by decide +kernel
theorem dX9_party_103 : decode cX9_party 103 = .ok (.getfield 28, 3) := by decide +kernel
theorem dX9_party_106 : decode cX9_party 106 = .ok (.iload_n 2, 1) := by decide +kernel
theorem dX9_party_107 : decode cX9_party 107 = .ok (.iconst 2, 1) := by decide +kernel
theorem dX9_party_108 : decode cX9_party 108 = .ok (.iadd, 1) := by decide +kernel
theorem dX9_party_109 : decode cX9_party 109 = .ok (.baload, 1) := by decide +kernel
theorem dX9_party_110 : decode cX9_party 110 = .ok (.bipush 45, 2) := by decide +kernel
theorem dX9_party_112 : decode cX9_party 112 = .ok (.if_icmp .ne 7, 3) := by decide +kernel
theorem dX9_party_115 : decode cX9_party 115 = .ok (.iconst (-1), 1) := by decide +kernel
theorem dX9_party_116 : decode cX9_party 116 = .ok (.goto 14, 3) := by decide +kernel
theorem dX9_party_119 : decode cX9_party 119 = .ok (.aload_n 0, 1) := by decide +kernel
theorem dX9_party_120 : decode cX9_party 120 = .ok (.getfield 28, 3) := by decide +kernel
theorem dX9_party_123 : decode cX9_party 123 = .ok (.iload_n 2, 1) := by decide +kernel
theorem dX9_party_124 : decode cX9_party 124 = .ok (.iconst 2, 1) := by decide +kernel
theorem dX9_party_125 : decode cX9_party 125 = .ok (.iadd, 1) := by decide +kernel
theorem dX9_party_126 : decode cX9_party 126 = .ok (.baload, 1) := by decide +kernel
theorem dX9_party_127 : decode cX9_party 127 = .ok (.bipush 48, 2) := by decide +kernel
theorem dX9_party_129 : decode cX9_party 129 = .ok (.isub, 1) := by decide +kernel
theorem dX9_party_130 : decode cX9_party 130 = .ok (.iastore, 1) := by decide +kernel
theorem dX9_party_131 : decode cX9_party 131 = .ok (.iinc 1 1, 3) := by decide +kernel
theorem dX9_party_134 : decode cX9_party 134 = .ok (.goto (-83), 3) := by decide +kernel
theorem dX9_party_137 : decode cX9_party 137 = .ok (.aload_n 0, 1) := by decide +kernel
theorem dX9_party_138 : decode cX9_party 138 = .ok (.iconst 1, 1) := by decide +kernel
theorem dX9_party_139 : decode cX9_party 139 = .ok (.aload_n 0, 1) := by decide +kernel
theorem dX9_party_140 : decode cX9_party 140 = .ok (.getfield 83, 3) := by decide +kernel
theorem dX9_party_143 : decode cX9_party 143 = .ok (.ishl, 1) := by decide +kernel
theorem dX9_party_144 : decode cX9_party 144 = .ok (.iconst 1, 1) := by decide +kernel
theorem dX9_party_145 : decode cX9_party 145 = .ok (.isub, 1) := by decide +kernel
theorem dX9_party_146 : decode cX9_party 146 = .ok (.putfield 89, 3) := by decide +kernel
theorem dX9_party_149 : decode cX9_party 149 = .ok (.aload_n 0, 1) := by decide +kernel
theorem dX9_party_150 : decode cX9_party 150 = .ok (.iconst 0, 1) := by decide +kernel
theorem dX9_party_151 : decode cX9_party 151 = .ok (.putfield 92, 3) := by decide +kernel
theorem dX9_party_154 : decode cX9_party 154 = .ok (.aload_n 0, 1) := by decide +kernel
theorem dX9_party_155 : decode cX9_party 155 = .ok (.dup, 1) := by decide +kernel
theorem dX9_party_156 : decode cX9_party 156 = .ok (.getfield 95, 3) := by decide +kernel
theorem dX9_party_159 : decode cX9_party 159 = .ok (.iconst 1, 1) := by decide +kernel
theorem dX9_party_160 : decode cX9_party 160 = .ok (.iadd, 1) := by decide +kernel
theorem dX9_party_161 : decode cX9_party 161 = .ok (.putfield 95, 3) := by decide +kernel
theorem dX9_party_164 : decode cX9_party 164 = .ok (.aload_n 0, 1) := by decide +kernel
theorem dX9_party_165 : decode cX9_party 165 = .ok (.iconst 0, 1) := by decide +kernel
theorem dX9_party_166 : decode cX9_party 166 = .ok (.putfield 98, 3) := by decide +kernel
theorem dX9_party_169 : decode cX9_party 169 = .ok (.aload_n 0, 1) := by decide +kernel
theorem dX9_party_170 : decode cX9_party 170 = .ok (.iconst 0, 1) := by decide +kernel
theorem dX9_party_171 : decode cX9_party 171 = .ok (.putfield 54, 3) := by decide +kernel
theorem dX9_party_174 : decode cX9_party 174 = .ok (.aload_n 0, 1) := by decide +kernel
theorem dX9_party_175 : decode cX9_party 175 = .ok (.getfield 83, 3) := by decide +kernel
theorem dX9_party_178 : decode cX9_party 178 = .ok (.ireturn, 1) := by decide +kernel
theorem dX9_isGuest_0 : decode cX9_isGuest 0 = .ok (.iload_n 1, 1) := by decide +kernel
theorem dX9_isGuest_1 : decode cX9_isGuest 1 = .ok (.iconst 0, 1) := by decide +kernel
theorem dX9_isGuest_2 : decode cX9_isGuest 2 = .ok (.aload_n 0, 1) := by decide +kernel
theorem dX9_isGuest_3 : decode cX9_isGuest 3 = .ok (.getfield 83, 3) := by decide +kernel
theorem dX9_isGuest_6 : decode cX9_isGuest 6 = .ok (.iconst 1, 1) := by decide +kernel
theorem dX9_isGuest_7 : decode cX9_isGuest 7 = .ok (.isub, 1) := by decide +kernel
theorem dX9_isGuest_8 : decode cX9_isGuest 8 = .ok (.invokestatic 50, 3) := by decide +kernel
theorem dX9_isGuest_11 : decode cX9_isGuest 11 = .ok (.ireturn, 1) := by decide +kernel
theorem dX9_all_0 : decode cX9_all 0 = .ok (.iconst 1, 1) := by decide +kernel
theorem dX9_all_1 : decode cX9_all 1 = .ok (.aload_n 0, 1) := by decide +kernel
theorem dX9_all_2 : decode cX9_all 2 = .ok (.getfield 83, 3) := by decide +kernel
theorem dX9_all_5 : decode cX9_all 5 = .ok (.ishl, 1) := by decide +kernel
theorem dX9_all_6 : decode cX9_all 6 = .ok (.iconst 1, 1) := by decide +kernel
theorem dX9_all_7 : decode cX9_all 7 = .ok (.isub, 1) := by decide +kernel
theorem dX9_all_8 : decode cX9_all 8 = .ok (.ireturn, 1) := by decide +kernel
theorem dX9_needsBy_0 : decode cX9_needsBy 0 = .ok (.iload_n 0, 1) := by decide +kernel
theorem dX9_needsBy_1 : decode cX9_needsBy 1 = .ok (.tableswitch 41 1 4 #[31, 35, 39, 39], 31) := by decide +kernel
theorem dX9_needsBy_32 : decode cX9_needsBy 32 = .ok (.iload_n 1, 1) := by decide +kernel
theorem dX9_needsBy_33 : decode cX9_needsBy 33 = .ok (.iconst 2, 1) := by decide +kernel
theorem dX9_needsBy_34 : decode cX9_needsBy 34 = .ok (.idiv, 1) := by decide +kernel
theorem dX9_needsBy_35 : decode cX9_needsBy 35 = .ok (.ireturn, 1) := by decide +kernel
theorem dX9_needsBy_36 : decode cX9_needsBy 36 = .ok (.iload_n 1, 1) := by decide +kernel
theorem dX9_needsBy_37 : decode cX9_needsBy 37 = .ok (.iconst 2, 1) := by decide +kernel
theorem dX9_needsBy_38 : decode cX9_needsBy 38 = .ok (.iadd, 1) := by decide +kernel
theorem dX9_needsBy_39 : decode cX9_needsBy 39 = .ok (.ireturn, 1) := by decide +kernel
theorem dX9_needsBy_40 : decode cX9_needsBy 40 = .ok (.iconst 0, 1) := by decide +kernel
theorem dX9_needsBy_41 : decode cX9_needsBy 41 = .ok (.ireturn, 1) := by decide +kernel
theorem dX9_needsBy_42 : decode cX9_needsBy 42 = .ok (.iload_n 1, 1) := by decide +kernel
theorem dX9_needsBy_43 : decode cX9_needsBy 43 = .ok (.ireturn, 1) := by decide +kernel
theorem dX9_needs_0 : decode cX9_needs 0 = .ok (.aload_n 0, 1) := by decide +kernel
theorem dX9_needs_1 : decode cX9_needs 1 = .ok (.getfield 7, 3) := by decide +kernel
theorem dX9_needs_4 : decode cX9_needs 4 = .ok (.iload_n 1, 1) := by decide +kernel
theorem dX9_needs_5 : decode cX9_needs 5 = .ok (.iaload, 1) := by decide +kernel
theorem dX9_needs_6 : decode cX9_needs 6 = .ok (.aload_n 0, 1) := by decide +kernel
theorem dX9_needs_7 : decode cX9_needs 7 = .ok (.getfield 13, 3) := by decide +kernel
theorem dX9_needs_10 : decode cX9_needs 10 = .ok (.iload_n 1, 1) := by decide +kernel
theorem dX9_needs_11 : decode cX9_needs 11 = .ok (.iaload, 1) := by decide +kernel
theorem dX9_needs_12 : decode cX9_needs 12 = .ok (.invokestatic 101, 3) := by decide +kernel
theorem dX9_needs_15 : decode cX9_needs 15 = .ok (.ireturn, 1) := by decide +kernel
theorem dX9_counts_0 : decode cX9_counts 0 = .ok (.aload_n 0, 1) := by decide +kernel
theorem dX9_counts_1 : decode cX9_counts 1 = .ok (.getfield 7, 3) := by decide +kernel
theorem dX9_counts_4 : decode cX9_counts 4 = .ok (.iload_n 1, 1) := by decide +kernel
theorem dX9_counts_5 : decode cX9_counts 5 = .ok (.iaload, 1) := by decide +kernel
theorem dX9_counts_6 : decode cX9_counts 6 = .ok (.iconst 4, 1) := by decide +kernel
theorem dX9_counts_7 : decode cX9_counts 7 = .ok (.if_icmp .ne 7, 3) := by decide +kernel
theorem dX9_counts_10 : decode cX9_counts 10 = .ok (.iconst 2, 1) := by decide +kernel
theorem dX9_counts_11 : decode cX9_counts 11 = .ok (.goto 4, 3) := by decide +kernel
theorem dX9_counts_14 : decode cX9_counts 14 = .ok (.iconst 1, 1) := by decide +kernel
theorem dX9_counts_15 : decode cX9_counts 15 = .ok (.ireturn, 1) := by decide +kernel
theorem dX9_countsOf_0 : decode cX9_countsOf 0 = .ok (.iconst 0, 1) := by decide +kernel
theorem dX9_countsOf_1 : decode cX9_countsOf 1 = .ok (.istore_n 2, 1) := by decide +kernel
theorem dX9_countsOf_2 : decode cX9_countsOf 2 = .ok (.iconst 0, 1) := by decide +kernel
theorem dX9_countsOf_3 : decode cX9_countsOf 3 = .ok (.istore_n 3, 1) := by decide +kernel
theorem dX9_countsOf_4 : decode cX9_countsOf 4 = .ok (.iload_n 3, 1) := by decide +kernel
theorem dX9_countsOf_5 : decode cX9_countsOf 5 = .ok (.aload_n 0, 1) := by decide +kernel
theorem dX9_countsOf_6 : decode cX9_countsOf 6 = .ok (.getfield 83, 3) := by decide +kernel
theorem dX9_countsOf_9 : decode cX9_countsOf 9 = .ok (.if_icmp .ge 29, 3) := by decide +kernel
theorem dX9_countsOf_12 : decode cX9_countsOf 12 = .ok (.iload_n 2, 1) := by decide +kernel
theorem dX9_countsOf_13 : decode cX9_countsOf 13 = .ok (.iload_n 1, 1) := by decide +kernel
theorem dX9_countsOf_14 : decode cX9_countsOf 14 = .ok (.iload_n 3, 1) := by decide +kernel
theorem dX9_countsOf_15 : decode cX9_countsOf 15 = .ok (.invokestatic 105, 3) := by decide +kernel
theorem dX9_countsOf_18 : decode cX9_countsOf 18 = .ok (.ifCond .eq 11, 3) := by decide +kernel
theorem dX9_countsOf_21 : decode cX9_countsOf 21 = .ok (.aload_n 0, 1) := by decide +kernel
theorem dX9_countsOf_22 : decode cX9_countsOf 22 = .ok (.iload_n 3, 1) := by decide +kernel
theorem dX9_countsOf_23 : decode cX9_countsOf 23 = .ok (.invokevirtual 108, 3) := by decide +kernel
theorem dX9_countsOf_26 : decode cX9_countsOf 26 = .ok (.goto 4, 3) := by decide +kernel
theorem dX9_countsOf_29 : decode cX9_countsOf 29 = .ok (.iconst 0, 1) := by decide +kernel
theorem dX9_countsOf_30 : decode cX9_countsOf 30 = .ok (.iadd, 1) := by decide +kernel
theorem dX9_countsOf_31 : decode cX9_countsOf 31 = .ok (.istore_n 2, 1) := by decide +kernel
theorem dX9_countsOf_32 : decode cX9_countsOf 32 = .ok (.iinc 3 1, 3) := by decide +kernel
theorem dX9_countsOf_35 : decode cX9_countsOf 35 = .ok (.goto (-31), 3) := by decide +kernel
theorem dX9_countsOf_38 : decode cX9_countsOf 38 = .ok (.iload_n 2, 1) := by decide +kernel
theorem dX9_countsOf_39 : decode cX9_countsOf 39 = .ok (.ireturn, 1) := by decide +kernel
theorem dX9_gone_0 : decode cX9_gone 0 = .ok (.aload_n 0, 1) := by decide +kernel
theorem dX9_gone_1 : decode cX9_gone 1 = .ok (.invokevirtual 111, 3) := by decide +kernel
theorem dX9_gone_4 : decode cX9_gone 4 = .ok (.aload_n 0, 1) := by decide +kernel
theorem dX9_gone_5 : decode cX9_gone 5 = .ok (.getfield 89, 3) := by decide +kernel
theorem dX9_gone_8 : decode cX9_gone 8 = .ok (.iconst (-1), 1) := by decide +kernel
theorem dX9_gone_9 : decode cX9_gone 9 = .ok (.ixor, 1) := by decide +kernel
theorem dX9_gone_10 : decode cX9_gone 10 = .ok (.iand, 1) := by decide +kernel
theorem dX9_gone_11 : decode cX9_gone 11 = .ok (.ireturn, 1) := by decide +kernel
theorem dX9_othersFor_0 : decode cX9_othersFor 0 = .ok (.aload_n 0, 1) := by decide +kernel
theorem dX9_othersFor_1 : decode cX9_othersFor 1 = .ok (.iload_n 2, 1) := by decide +kernel
theorem dX9_othersFor_2 : decode cX9_othersFor 2 = .ok (.aload_n 0, 1) := by decide +kernel
theorem dX9_othersFor_3 : decode cX9_othersFor 3 = .ok (.invokevirtual 114, 3) := by decide +kernel
theorem dX9_othersFor_6 : decode cX9_othersFor 6 = .ok (.ior, 1) := by decide +kernel
theorem dX9_othersFor_7 : decode cX9_othersFor 7 = .ok (.iconst 1, 1) := by decide +kernel
theorem dX9_othersFor_8 : decode cX9_othersFor 8 = .ok (.iload_n 1, 1) := by decide +kernel
theorem dX9_othersFor_9 : decode cX9_othersFor 9 = .ok (.ishl, 1) := by decide +kernel
theorem dX9_othersFor_10 : decode cX9_othersFor 10 = .ok (.iconst (-1), 1) := by decide +kernel
theorem dX9_othersFor_11 : decode cX9_othersFor 11 = .ok (.ixor, 1) := by decide +kernel
theorem dX9_othersFor_12 : decode cX9_othersFor 12 = .ok (.iand, 1) := by decide +kernel
theorem dX9_othersFor_13 : decode cX9_othersFor 13 = .ok (.invokevirtual 117, 3) := by decide +kernel
theorem dX9_othersFor_16 : decode cX9_othersFor 16 = .ok (.ireturn, 1) := by decide +kernel
theorem dX9_hasFriend_0 : decode cX9_hasFriend 0 = .ok (.aload_n 0, 1) := by decide +kernel
theorem dX9_hasFriend_1 : decode cX9_hasFriend 1 = .ok (.getfield 16, 3) := by decide +kernel
theorem dX9_hasFriend_4 : decode cX9_hasFriend 4 = .ok (.iload_n 1, 1) := by decide +kernel
theorem dX9_hasFriend_5 : decode cX9_hasFriend 5 = .ok (.iaload, 1) := by decide +kernel
theorem dX9_hasFriend_6 : decode cX9_hasFriend 6 = .ok (.iconst (-1), 1) := by decide +kernel
theorem dX9_hasFriend_7 : decode cX9_hasFriend 7 = .ok (.if_icmp .eq 21, 3) := by decide +kernel
theorem dX9_hasFriend_10 : decode cX9_hasFriend 10 = .ok (.iload_n 2, 1) := by decide +kernel
theorem dX9_hasFriend_11 : decode cX9_hasFriend 11 = .ok (.aload_n 0, 1) := by decide +kernel
theorem dX9_hasFriend_12 : decode cX9_hasFriend 12 = .ok (.invokevirtual 114, 3) := by decide +kernel
theorem dX9_hasFriend_15 : decode cX9_hasFriend 15 = .ok (.ior, 1) := by decide +kernel
theorem dX9_hasFriend_16 : decode cX9_hasFriend 16 = .ok (.aload_n 0, 1) := by decide +kernel
theorem dX9_hasFriend_17 : decode cX9_hasFriend 17 = .ok (.getfield 16, 3) := by decide +kernel
theorem dX9_hasFriend_20 : decode cX9_hasFriend 20 = .ok (.iload_n 1, 1) := by decide +kernel
theorem dX9_hasFriend_21 : decode cX9_hasFriend 21 = .ok (.iaload, 1) := by decide +kernel
theorem dX9_hasFriend_22 : decode cX9_hasFriend 22 = .ok (.invokestatic 105, 3) := by decide +kernel
theorem dX9_hasFriend_25 : decode cX9_hasFriend 25 = .ok (.ifCond .eq 7, 3) := by decide +kernel
theorem dX9_hasFriend_28 : decode cX9_hasFriend 28 = .ok (.iconst 1, 1) := by decide +kernel
theorem dX9_hasFriend_29 : decode cX9_hasFriend 29 = .ok (.goto 4, 3) := by decide +kernel
theorem dX9_hasFriend_32 : decode cX9_hasFriend 32 = .ok (.iconst 0, 1) := by decide +kernel
theorem dX9_hasFriend_33 : decode cX9_hasFriend 33 = .ok (.ireturn, 1) := by decide +kernel
theorem dX9_canGo_0 : decode cX9_canGo 0 = .ok (.aload_n 0, 1) := by decide +kernel
theorem dX9_canGo_1 : decode cX9_canGo 1 = .ok (.iload_n 1, 1) := by decide +kernel
theorem dX9_canGo_2 : decode cX9_canGo 2 = .ok (.iload_n 2, 1) := by decide +kernel
theorem dX9_canGo_3 : decode cX9_canGo 3 = .ok (.invokevirtual 120, 3) := by decide +kernel
theorem dX9_canGo_6 : decode cX9_canGo 6 = .ok (.ifCond .eq 21, 3) := by decide +kernel
theorem dX9_canGo_9 : decode cX9_canGo 9 = .ok (.aload_n 0, 1) := by decide +kernel
theorem dX9_canGo_10 : decode cX9_canGo 10 = .ok (.iload_n 1, 1) := by decide +kernel
theorem dX9_canGo_11 : decode cX9_canGo 11 = .ok (.iload_n 2, 1) := by decide +kernel
theorem dX9_canGo_12 : decode cX9_canGo 12 = .ok (.invokevirtual 123, 3) := by decide +kernel
theorem dX9_canGo_15 : decode cX9_canGo 15 = .ok (.aload_n 0, 1) := by decide +kernel
theorem dX9_canGo_16 : decode cX9_canGo 16 = .ok (.iload_n 1, 1) := by decide +kernel
theorem dX9_canGo_17 : decode cX9_canGo 17 = .ok (.invokevirtual 126, 3) := by decide +kernel
theorem dX9_canGo_20 : decode cX9_canGo 20 = .ok (.if_icmp .lt 7, 3) := by decide +kernel
theorem dX9_canGo_23 : decode cX9_canGo 23 = .ok (.iconst 1, 1) := by decide +kernel
theorem dX9_canGo_24 : decode cX9_canGo 24 = .ok (.goto 4, 3) := by decide +kernel
theorem dX9_canGo_27 : decode cX9_canGo 27 = .ok (.iconst 0, 1) := by decide +kernel
theorem dX9_canGo_28 : decode cX9_canGo 28 = .ok (.ireturn, 1) := by decide +kernel
theorem dX9_canRise_0 : decode cX9_canRise 0 = .ok (.iconst 1, 1) := by decide +kernel
theorem dX9_canRise_1 : decode cX9_canRise 1 = .ok (.istore_n 2, 1) := by decide +kernel
theorem dX9_canRise_2 : decode cX9_canRise 2 = .ok (.iconst 0, 1) := by decide +kernel
theorem dX9_canRise_3 : decode cX9_canRise 3 = .ok (.istore_n 3, 1) := by decide +kernel
theorem dX9_canRise_4 : decode cX9_canRise 4 = .ok (.iload_n 3, 1) := by decide +kernel
theorem dX9_canRise_5 : decode cX9_canRise 5 = .ok (.aload_n 0, 1) := by decide +kernel
theorem dX9_canRise_6 : decode cX9_canRise 6 = .ok (.getfield 83, 3) := by decide +kernel
theorem dX9_canRise_9 : decode cX9_canRise 9 = .ok (.if_icmp .ge 36, 3) := by decide +kernel
theorem dX9_canRise_12 : decode cX9_canRise 12 = .ok (.iload_n 2, 1) := by decide +kernel
theorem dX9_canRise_13 : decode cX9_canRise 13 = .ok (.ifCond .eq 24, 3) := by decide +kernel
theorem dX9_canRise_16 : decode cX9_canRise 16 = .ok (.iload_n 1, 1) := by decide +kernel
theorem dX9_canRise_17 : decode cX9_canRise 17 = .ok (.iload_n 3, 1) := by decide +kernel
theorem dX9_canRise_18 : decode cX9_canRise 18 = .ok (.invokestatic 105, 3) := by decide +kernel
theorem dX9_canRise_21 : decode cX9_canRise 21 = .ok (.ifCond .eq 12, 3) := by decide +kernel
theorem dX9_canRise_24 : decode cX9_canRise 24 = .ok (.aload_n 0, 1) := by decide +kernel
theorem dX9_canRise_25 : decode cX9_canRise 25 = .ok (.iload_n 3, 1) := by decide +kernel
theorem dX9_canRise_26 : decode cX9_canRise 26 = .ok (.iload_n 1, 1) := by decide +kernel
theorem dX9_canRise_27 : decode cX9_canRise 27 = .ok (.invokevirtual 129, 3) := by decide +kernel
theorem dX9_canRise_30 : decode cX9_canRise 30 = .ok (.ifCond .eq 7, 3) := by decide +kernel
theorem dX9_canRise_33 : decode cX9_canRise 33 = .ok (.iconst 1, 1) := by decide +kernel
theorem dX9_canRise_34 : decode cX9_canRise 34 = .ok (.goto 4, 3) := by decide +kernel
theorem dX9_canRise_37 : decode cX9_canRise 37 = .ok (.iconst 0, 1) := by decide +kernel
theorem dX9_canRise_38 : decode cX9_canRise 38 = .ok (.istore_n 2, 1) := by decide +kernel
theorem dX9_canRise_39 : decode cX9_canRise 39 = .ok (.iinc 3 1, 3) := by decide +kernel
theorem dX9_canRise_42 : decode cX9_canRise 42 = .ok (.goto (-38), 3) := by decide +kernel
theorem dX9_canRise_45 : decode cX9_canRise 45 = .ok (.iload_n 2, 1) := by decide +kernel
theorem dX9_canRise_46 : decode cX9_canRise 46 = .ok (.ireturn, 1) := by decide +kernel
theorem dX9_mostOf_0 : decode cX9_mostOf 0 = .ok (.iload_n 1, 1) := by decide +kernel
theorem dX9_mostOf_1 : decode cX9_mostOf 1 = .ok (.istore_n 2, 1) := by decide +kernel
theorem dX9_mostOf_2 : decode cX9_mostOf 2 = .ok (.aload_n 0, 1) := by decide +kernel
theorem dX9_mostOf_3 : decode cX9_mostOf 3 = .ok (.iload_n 2, 1) := by decide +kernel
theorem dX9_mostOf_4 : decode cX9_mostOf 4 = .ok (.invokevirtual 132, 3) := by decide +kernel
theorem dX9_mostOf_7 : decode cX9_mostOf 7 = .ok (.istore_n 3, 1) := by decide +kernel
theorem dX9_mostOf_8 : decode cX9_mostOf 8 = .ok (.iload_n 3, 1) := by decide +kernel
theorem dX9_mostOf_9 : decode cX9_mostOf 9 = .ok (.iload_n 2, 1) := by decide +kernel
theorem dX9_mostOf_10 : decode cX9_mostOf 10 = .ok (.if_icmp .eq 14, 3) := by decide +kernel
theorem dX9_mostOf_13 : decode cX9_mostOf 13 = .ok (.iload_n 3, 1) := by decide +kernel
theorem dX9_mostOf_14 : decode cX9_mostOf 14 = .ok (.istore_n 2, 1) := by decide +kernel
theorem dX9_mostOf_15 : decode cX9_mostOf 15 = .ok (.aload_n 0, 1) := by decide +kernel
theorem dX9_mostOf_16 : decode cX9_mostOf 16 = .ok (.iload_n 2, 1) := by decide +kernel
theorem dX9_mostOf_17 : decode cX9_mostOf 17 = .ok (.invokevirtual 132, 3) := by decide +kernel
theorem dX9_mostOf_20 : decode cX9_mostOf 20 = .ok (.istore_n 3, 1) := by decide +kernel
theorem dX9_mostOf_21 : decode cX9_mostOf 21 = .ok (.goto (-13), 3) := by decide +kernel
theorem dX9_mostOf_24 : decode cX9_mostOf 24 = .ok (.iload_n 2, 1) := by decide +kernel
theorem dX9_mostOf_25 : decode cX9_mostOf 25 = .ok (.ireturn, 1) := by decide +kernel
theorem dX9_withoutStuck_0 : decode cX9_withoutStuck 0 = .ok (.iload_n 1, 1) := by decide +kernel
theorem dX9_withoutStuck_1 : decode cX9_withoutStuck 1 = .ok (.istore_n 2, 1) := by decide +kernel
theorem dX9_withoutStuck_2 : decode cX9_withoutStuck 2 = .ok (.iconst 0, 1) := by decide +kernel
theorem dX9_withoutStuck_3 : decode cX9_withoutStuck 3 = .ok (.istore_n 3, 1) := by decide +kernel
theorem dX9_withoutStuck_4 : decode cX9_withoutStuck 4 = .ok (.iload_n 3, 1) := by decide +kernel
theorem dX9_withoutStuck_5 : decode cX9_withoutStuck 5 = .ok (.aload_n 0, 1) := by decide +kernel
theorem dX9_withoutStuck_6 : decode cX9_withoutStuck 6 = .ok (.getfield 83, 3) := by decide +kernel
theorem dX9_withoutStuck_9 : decode cX9_withoutStuck 9 = .ok (.if_icmp .ge 38, 3) := by decide +kernel
theorem dX9_withoutStuck_12 : decode cX9_withoutStuck 12 = .ok (.iload_n 2, 1) := by decide +kernel
theorem dX9_withoutStuck_13 : decode cX9_withoutStuck 13 = .ok (.iload_n 1, 1) := by decide +kernel
theorem dX9_withoutStuck_14 : decode cX9_withoutStuck 14 = .ok (.iload_n 3, 1) := by decide +kernel
theorem dX9_withoutStuck_15 : decode cX9_withoutStuck 15 = .ok (.invokestatic 105, 3) := by decide +kernel
theorem dX9_withoutStuck_18 : decode cX9_withoutStuck 18 = .ok (.ifCond .eq 20, 3) := by decide +kernel
theorem dX9_withoutStuck_21 : decode cX9_withoutStuck 21 = .ok (.aload_n 0, 1) := by decide +kernel
theorem dX9_withoutStuck_22 : decode cX9_withoutStuck 22 = .ok (.iload_n 3, 1) := by decide +kernel
theorem dX9_withoutStuck_23 : decode cX9_withoutStuck 23 = .ok (.iload_n 1, 1) := by decide +kernel
theorem dX9_withoutStuck_24 : decode cX9_withoutStuck 24 = .ok (.invokevirtual 129, 3) := by decide +kernel
theorem dX9_withoutStuck_27 : decode cX9_withoutStuck 27 = .ok (.ifCond .ne 11, 3) := by decide +kernel
theorem dX9_withoutStuck_30 : decode cX9_withoutStuck 30 = .ok (.iconst 1, 1) := by decide +kernel
theorem dX9_withoutStuck_31 : decode cX9_withoutStuck 31 = .ok (.iload_n 3, 1) := by decide +kernel
theorem dX9_withoutStuck_32 : decode cX9_withoutStuck 32 = .ok (.ishl, 1) := by decide +kernel
theorem dX9_withoutStuck_33 : decode cX9_withoutStuck 33 = .ok (.iconst (-1), 1) := by decide +kernel
theorem dX9_withoutStuck_34 : decode cX9_withoutStuck 34 = .ok (.ixor, 1) := by decide +kernel
theorem dX9_withoutStuck_35 : decode cX9_withoutStuck 35 = .ok (.goto 4, 3) := by decide +kernel
theorem dX9_withoutStuck_38 : decode cX9_withoutStuck 38 = .ok (.iconst (-1), 1) := by decide +kernel
theorem dX9_withoutStuck_39 : decode cX9_withoutStuck 39 = .ok (.iand, 1) := by decide +kernel
theorem dX9_withoutStuck_40 : decode cX9_withoutStuck 40 = .ok (.istore_n 2, 1) := by decide +kernel
theorem dX9_withoutStuck_41 : decode cX9_withoutStuck 41 = .ok (.iinc 3 1, 3) := by decide +kernel
theorem dX9_withoutStuck_44 : decode cX9_withoutStuck 44 = .ok (.goto (-40), 3) := by decide +kernel
theorem dX9_withoutStuck_47 : decode cX9_withoutStuck 47 = .ok (.iload_n 2, 1) := by decide +kernel
theorem dX9_withoutStuck_48 : decode cX9_withoutStuck 48 = .ok (.ireturn, 1) := by decide +kernel
theorem dX9_guestNow_0 : decode cX9_guestNow 0 = .ok (.iload_n 2, 1) := by decide +kernel
theorem dX9_guestNow_1 : decode cX9_guestNow 1 = .ok (.tableswitch 109 0 7 #[47, 54, 61, 68, 85, 91, 97, 103], 47) := by decide +kernel
theorem dX9_guestNow_48 : decode cX9_guestNow 48 = .ok (.aload_n 0, 1) := by decide +kernel
theorem dX9_guestNow_49 : decode cX9_guestNow 49 = .ok (.getfield 7, 3) := by decide +kernel
theorem dX9_guestNow_52 : decode cX9_guestNow 52 = .ok (.iload_n 1, 1) := by decide +kernel
theorem dX9_guestNow_53 : decode cX9_guestNow 53 = .ok (.iaload, 1) := by decide +kernel
theorem dX9_guestNow_54 : decode cX9_guestNow 54 = .ok (.ireturn, 1) := by decide +kernel
theorem dX9_guestNow_55 : decode cX9_guestNow 55 = .ok (.aload_n 0, 1) := by decide +kernel
theorem dX9_guestNow_56 : decode cX9_guestNow 56 = .ok (.getfield 13, 3) := by decide +kernel
theorem dX9_guestNow_59 : decode cX9_guestNow 59 = .ok (.iload_n 1, 1) := by decide +kernel
theorem dX9_guestNow_60 : decode cX9_guestNow 60 = .ok (.iaload, 1) := by decide +kernel
theorem dX9_guestNow_61 : decode cX9_guestNow 61 = .ok (.ireturn, 1) := by decide +kernel
theorem dX9_guestNow_62 : decode cX9_guestNow 62 = .ok (.aload_n 0, 1) := by decide +kernel
theorem dX9_guestNow_63 : decode cX9_guestNow 63 = .ok (.getfield 16, 3) := by decide +kernel
theorem dX9_guestNow_66 : decode cX9_guestNow 66 = .ok (.iload_n 1, 1) := by decide +kernel
theorem dX9_guestNow_67 : decode cX9_guestNow 67 = .ok (.iaload, 1) := by decide +kernel
theorem dX9_guestNow_68 : decode cX9_guestNow 68 = .ok (.ireturn, 1) := by decide +kernel
theorem dX9_guestNow_69 : decode cX9_guestNow 69 = .ok (.aload_n 0, 1) := by decide +kernel
theorem dX9_guestNow_70 : decode cX9_guestNow 70 = .ok (.getfield 89, 3) := by decide +kernel
theorem dX9_guestNow_73 : decode cX9_guestNow 73 = .ok (.iload_n 1, 1) := by decide +kernel
theorem dX9_guestNow_74 : decode cX9_guestNow 74 = .ok (.invokestatic 105, 3) := by decide +kernel
theorem dX9_guestNow_77 : decode cX9_guestNow 77 = .ok (.ifCond .eq 7, 3) := by decide +kernel
theorem dX9_guestNow_80 : decode cX9_guestNow 80 = .ok (.iconst 1, 1) := by decide +kernel
theorem dX9_guestNow_81 : decode cX9_guestNow 81 = .ok (.goto 4, 3) := by decide +kernel
theorem dX9_guestNow_84 : decode cX9_guestNow 84 = .ok (.iconst 0, 1) := by decide +kernel
theorem dX9_guestNow_85 : decode cX9_guestNow 85 = .ok (.ireturn, 1) := by decide +kernel
theorem dX9_guestNow_86 : decode cX9_guestNow 86 = .ok (.aload_n 0, 1) := by decide +kernel
theorem dX9_guestNow_87 : decode cX9_guestNow 87 = .ok (.iload_n 1, 1) := by decide +kernel
theorem dX9_guestNow_88 : decode cX9_guestNow 88 = .ok (.invokevirtual 126, 3) := by decide +kernel
theorem dX9_guestNow_91 : decode cX9_guestNow 91 = .ok (.ireturn, 1) := by decide +kernel
theorem dX9_guestNow_92 : decode cX9_guestNow 92 = .ok (.aload_n 0, 1) := by decide +kernel
theorem dX9_guestNow_93 : decode cX9_guestNow 93 = .ok (.iload_n 1, 1) := by decide +kernel
theorem dX9_guestNow_94 : decode cX9_guestNow 94 = .ok (.invokevirtual 108, 3) := by decide +kernel
theorem dX9_guestNow_97 : decode cX9_guestNow 97 = .ok (.ireturn, 1) := by decide +kernel
theorem dX9_guestNow_98 : decode cX9_guestNow 98 = .ok (.aload_n 0, 1) := by decide +kernel
theorem dX9_guestNow_99 : decode cX9_guestNow 99 = .ok (.iload_n 1, 1) := by decide +kernel
theorem dX9_guestNow_100 : decode cX9_guestNow 100 = .ok (.invokevirtual 135, 3) := by decide +kernel
theorem dX9_guestNow_103 : decode cX9_guestNow 103 = .ok (.ireturn, 1) := by decide +kernel
theorem dX9_guestNow_104 : decode cX9_guestNow 104 = .ok (.aload_n 0, 1) := by decide +kernel
theorem dX9_guestNow_105 : decode cX9_guestNow 105 = .ok (.iload_n 1, 1) := by decide +kernel
theorem dX9_guestNow_106 : decode cX9_guestNow 106 = .ok (.invokevirtual 138, 3) := by decide +kernel
theorem dX9_guestNow_109 : decode cX9_guestNow 109 = .ok (.ireturn, 1) := by decide +kernel
theorem dX9_guestNow_110 : decode cX9_guestNow 110 = .ok (.aload_n 0, 1) := by decide +kernel
theorem dX9_guestNow_111 : decode cX9_guestNow 111 = .ok (.iload_n 1, 1) := by decide +kernel
theorem dX9_guestNow_112 : decode cX9_guestNow 112 = .ok (.invokevirtual 141, 3) := by decide +kernel
theorem dX9_guestNow_115 : decode cX9_guestNow 115 = .ok (.ireturn, 1) := by decide +kernel
theorem dX9_guest_0 : decode cX9_guest 0 = .ok (.aload_n 0, 1) := by decide +kernel
theorem dX9_guest_1 : decode cX9_guest 1 = .ok (.iload_n 1, 1) := by decide +kernel
theorem dX9_guest_2 : decode cX9_guest 2 = .ok (.invokevirtual 144, 3) := by decide +kernel
theorem dX9_guest_5 : decode cX9_guest 5 = .ok (.ifCond .ne 8, 3) := by decide +kernel
theorem dX9_guest_8 : decode cX9_guest 8 = .ok (.bipush (-101), 2) := by decide +kernel
theorem dX9_guest_10 : decode cX9_guest 10 = .ok (.goto 24, 3) := by decide +kernel
theorem dX9_guest_13 : decode cX9_guest 13 = .ok (.iload_n 2, 1) := by decide +kernel
theorem dX9_guest_14 : decode cX9_guest 14 = .ok (.iconst 0, 1) := by decide +kernel
theorem dX9_guest_15 : decode cX9_guest 15 = .ok (.bipush 8, 2) := by decide +kernel
theorem dX9_guest_17 : decode cX9_guest 17 = .ok (.invokestatic 50, 3) := by decide +kernel
theorem dX9_guest_20 : decode cX9_guest 20 = .ok (.ifCond .eq 12, 3) := by decide +kernel
theorem dX9_guest_23 : decode cX9_guest 23 = .ok (.aload_n 0, 1) := by decide +kernel
theorem dX9_guest_24 : decode cX9_guest 24 = .ok (.iload_n 1, 1) := by decide +kernel
theorem dX9_guest_25 : decode cX9_guest 25 = .ok (.iload_n 2, 1) := by decide +kernel
theorem dX9_guest_26 : decode cX9_guest 26 = .ok (.invokevirtual 148, 3) := by decide +kernel
theorem dX9_guest_29 : decode cX9_guest 29 = .ok (.goto 5, 3) := by decide +kernel
theorem dX9_guest_32 : decode cX9_guest 32 = .ok (.bipush (-102), 2) := by decide +kernel
theorem dX9_guest_34 : decode cX9_guest 34 = .ok (.ireturn, 1) := by decide +kernel
theorem dX9_as_0 : decode cX9_as 0 = .ok (.aload_n 0, 1) := by decide +kernel
theorem dX9_as_1 : decode cX9_as 1 = .ok (.iload_n 1, 1) := by decide +kernel
theorem dX9_as_2 : decode cX9_as 2 = .ok (.invokevirtual 144, 3) := by decide +kernel
theorem dX9_as_5 : decode cX9_as 5 = .ok (.ifCond .ne 6, 3) := by decide +kernel
theorem dX9_as_8 : decode cX9_as 8 = .ok (.bipush (-101), 2) := by decide +kernel
theorem dX9_as_10 : decode cX9_as 10 = .ok (.ireturn, 1) := by decide +kernel
theorem dX9_as_11 : decode cX9_as 11 = .ok (.iload_n 2, 1) := by decide +kernel
theorem dX9_as_12 : decode cX9_as 12 = .ok (.iconst 0, 1) := by decide +kernel
theorem dX9_as_13 : decode cX9_as 13 = .ok (.iconst 4, 1) := by decide +kernel
theorem dX9_as_14 : decode cX9_as 14 = .ok (.invokestatic 50, 3) := by decide +kernel
theorem dX9_as_17 : decode cX9_as 17 = .ok (.ifCond .ne 6, 3) := by decide +kernel
theorem dX9_as_20 : decode cX9_as 20 = .ok (.bipush (-102), 2) := by decide +kernel
theorem dX9_as_22 : decode cX9_as 22 = .ok (.ireturn, 1) := by decide +kernel
theorem dX9_as_23 : decode cX9_as 23 = .ok (.aload_n 0, 1) := by decide +kernel
theorem dX9_as_24 : decode cX9_as 24 = .ok (.getfield 7, 3) := by decide +kernel
theorem dX9_as_27 : decode cX9_as 27 = .ok (.iload_n 1, 1) := by decide +kernel
theorem dX9_as_28 : decode cX9_as 28 = .ok (.iaload, 1) := by decide +kernel
theorem dX9_as_29 : decode cX9_as 29 = .ok (.istore_n 3, 1) := by decide +kernel
theorem dX9_as_30 : decode cX9_as 30 = .ok (.iload_n 2, 1) := by decide +kernel
theorem dX9_as_31 : decode cX9_as 31 = .ok (.ifCond .eq 18, 3) := by decide +kernel
theorem dX9_as_34 : decode cX9_as 34 = .ok (.iload_n 3, 1) := by decide +kernel
theorem dX9_as_35 : decode cX9_as 35 = .ok (.iload_n 2, 1) := by decide +kernel
theorem dX9_as_36 : decode cX9_as 36 = .ok (.if_icmp .eq 13, 3) := by decide +kernel
theorem dX9_as_39 : decode cX9_as 39 = .ok (.iload_n 2, 1) := by decide +kernel
theorem dX9_as_40 : decode cX9_as 40 = .ok (.iconst 3, 1) := by decide +kernel
theorem dX9_as_41 : decode cX9_as 41 = .ok (.if_icmp .ne 12, 3) := by decide +kernel
theorem dX9_as_44 : decode cX9_as 44 = .ok (.iload_n 3, 1) := by decide +kernel
theorem dX9_as_45 : decode cX9_as 45 = .ok (.iconst 4, 1) := by decide +kernel
theorem dX9_as_46 : decode cX9_as 46 = .ok (.if_icmp .ne 7, 3) := by decide +kernel
theorem dX9_as_49 : decode cX9_as 49 = .ok (.iload_n 1, 1) := by decide +kernel
theorem dX9_as_50 : decode cX9_as 50 = .ok (.goto 4, 3) := by decide +kernel
theorem dX9_as_53 : decode cX9_as 53 = .ok (.iconst (-1), 1) := by decide +kernel
theorem dX9_as_54 : decode cX9_as 54 = .ok (.ireturn, 1) := by decide +kernel
theorem dX9_rise_0 : decode cX9_rise 0 = .ok (.iload_n 1, 1) := by decide +kernel
theorem dX9_rise_1 : decode cX9_rise 1 = .ok (.ifCond .le 11, 3) := by decide +kernel
theorem dX9_rise_4 : decode cX9_rise 4 = .ok (.iload_n 1, 1) := by decide +kernel
theorem dX9_rise_5 : decode cX9_rise 5 = .ok (.aload_n 0, 1) := by decide +kernel
theorem dX9_rise_6 : decode cX9_rise 6 = .ok (.invokevirtual 111, 3) := by decide +kernel
theorem dX9_rise_9 : decode cX9_rise 9 = .ok (.if_icmp .le 6, 3) := by decide +kernel
theorem dX9_rise_12 : decode cX9_rise 12 = .ok (.bipush (-101), 2) := by decide +kernel
theorem dX9_rise_14 : decode cX9_rise 14 = .ok (.ireturn, 1) := by decide +kernel
theorem dX9_rise_15 : decode cX9_rise 15 = .ok (.iload_n 1, 1) := by decide +kernel
theorem dX9_rise_16 : decode cX9_rise 16 = .ok (.aload_n 0, 1) := by decide +kernel
theorem dX9_rise_17 : decode cX9_rise 17 = .ok (.getfield 89, 3) := by decide +kernel
theorem dX9_rise_20 : decode cX9_rise 20 = .ok (.iconst (-1), 1) := by decide +kernel
theorem dX9_rise_21 : decode cX9_rise 21 = .ok (.ixor, 1) := by decide +kernel
theorem dX9_rise_22 : decode cX9_rise 22 = .ok (.iand, 1) := by decide +kernel
theorem dX9_rise_23 : decode cX9_rise 23 = .ok (.ifCond .ne 11, 3) := by decide +kernel
theorem dX9_rise_26 : decode cX9_rise 26 = .ok (.aload_n 0, 1) := by decide +kernel
theorem dX9_rise_27 : decode cX9_rise 27 = .ok (.iload_n 1, 1) := by decide +kernel
theorem dX9_rise_28 : decode cX9_rise 28 = .ok (.invokevirtual 151, 3) := by decide +kernel
theorem dX9_rise_31 : decode cX9_rise 31 = .ok (.ifCond .ne 6, 3) := by decide +kernel
theorem dX9_rise_34 : decode cX9_rise 34 = .ok (.bipush (-103), 2) := by decide +kernel
theorem dX9_rise_36 : decode cX9_rise 36 = .ok (.ireturn, 1) := by decide +kernel
theorem dX9_rise_37 : decode cX9_rise 37 = .ok (.aload_n 0, 1) := by decide +kernel
theorem dX9_rise_38 : decode cX9_rise 38 = .ok (.dup, 1) := by decide +kernel
theorem dX9_rise_39 : decode cX9_rise 39 = .ok (.getfield 89, 3) := by decide +kernel
theorem dX9_rise_42 : decode cX9_rise 42 = .ok (.iload_n 1, 1) := by decide +kernel
theorem dX9_rise_43 : decode cX9_rise 43 = .ok (.iconst (-1), 1) := by decide +kernel
theorem dX9_rise_44 : decode cX9_rise 44 = .ok (.ixor, 1) := by decide +kernel
theorem dX9_rise_45 : decode cX9_rise 45 = .ok (.iand, 1) := by decide +kernel
theorem dX9_rise_46 : decode cX9_rise 46 = .ok (.putfield 89, 3) := by decide +kernel
theorem dX9_rise_49 : decode cX9_rise 49 = .ok (.iload_n 1, 1) := by decide +kernel
theorem dX9_rise_50 : decode cX9_rise 50 = .ok (.invokestatic 154, 3) := by decide +kernel
theorem dX9_rise_53 : decode cX9_rise 53 = .ok (.ireturn, 1) := by decide +kernel
theorem dX9_firstAlone_0 : decode cX9_firstAlone 0 = .ok (.iconst 0, 1) := by decide +kernel
theorem dX9_firstAlone_1 : decode cX9_firstAlone 1 = .ok (.istore_n 1, 1) := by decide +kernel
theorem dX9_firstAlone_2 : decode cX9_firstAlone 2 = .ok (.iload_n 1, 1) := by decide +kernel
theorem dX9_firstAlone_3 : decode cX9_firstAlone 3 = .ok (.aload_n 0, 1) := by decide +kernel
theorem dX9_firstAlone_4 : decode cX9_firstAlone 4 = .ok (.getfield 83, 3) := by decide +kernel
theorem dX9_firstAlone_7 : decode cX9_firstAlone 7 = .ok (.if_icmp .ge 31, 3) := by decide +kernel
theorem dX9_firstAlone_10 : decode cX9_firstAlone 10 = .ok (.aload_n 0, 1) := by decide +kernel
theorem dX9_firstAlone_11 : decode cX9_firstAlone 11 = .ok (.getfield 89, 3) := by decide +kernel
theorem dX9_firstAlone_14 : decode cX9_firstAlone 14 = .ok (.iload_n 1, 1) := by decide +kernel
theorem dX9_firstAlone_15 : decode cX9_firstAlone 15 = .ok (.invokestatic 105, 3) := by decide +kernel
theorem dX9_firstAlone_18 : decode cX9_firstAlone 18 = .ok (.ifCond .eq 14, 3) := by decide +kernel
theorem dX9_firstAlone_21 : decode cX9_firstAlone 21 = .ok (.aload_n 0, 1) := by decide +kernel
theorem dX9_firstAlone_22 : decode cX9_firstAlone 22 = .ok (.iload_n 1, 1) := by decide +kernel
theorem dX9_firstAlone_23 : decode cX9_firstAlone 23 = .ok (.iconst 1, 1) := by decide +kernel
theorem dX9_firstAlone_24 : decode cX9_firstAlone 24 = .ok (.iload_n 1, 1) := by decide +kernel
theorem dX9_firstAlone_25 : decode cX9_firstAlone 25 = .ok (.ishl, 1) := by decide +kernel
theorem dX9_firstAlone_26 : decode cX9_firstAlone 26 = .ok (.invokevirtual 129, 3) := by decide +kernel
theorem dX9_firstAlone_29 : decode cX9_firstAlone 29 = .ok (.ifCond .ne 9, 3) := by decide +kernel
theorem dX9_firstAlone_32 : decode cX9_firstAlone 32 = .ok (.iinc 1 1, 3) := by decide +kernel
theorem dX9_firstAlone_35 : decode cX9_firstAlone 35 = .ok (.goto (-33), 3) := by decide +kernel
theorem dX9_firstAlone_38 : decode cX9_firstAlone 38 = .ok (.iload_n 1, 1) := by decide +kernel
theorem dX9_firstAlone_39 : decode cX9_firstAlone 39 = .ok (.aload_n 0, 1) := by decide +kernel
theorem dX9_firstAlone_40 : decode cX9_firstAlone 40 = .ok (.getfield 83, 3) := by decide +kernel
theorem dX9_firstAlone_43 : decode cX9_firstAlone 43 = .ok (.if_icmp .ne 7, 3) := by decide +kernel
theorem dX9_firstAlone_46 : decode cX9_firstAlone 46 = .ok (.iconst (-1), 1) := by decide +kernel
theorem dX9_firstAlone_47 : decode cX9_firstAlone 47 = .ok (.goto 4, 3) := by decide +kernel
theorem dX9_firstAlone_50 : decode cX9_firstAlone 50 = .ok (.iload_n 1, 1) := by decide +kernel
theorem dX9_firstAlone_51 : decode cX9_firstAlone 51 = .ok (.ireturn, 1) := by decide +kernel
theorem dX9_shyLess_0 : decode cX9_shyLess 0 = .ok (.aload_n 0, 1) := by decide +kernel
theorem dX9_shyLess_1 : decode cX9_shyLess 1 = .ok (.getfield 13, 3) := by decide +kernel
theorem dX9_shyLess_4 : decode cX9_shyLess 4 = .ok (.iload_n 1, 1) := by decide +kernel
theorem dX9_shyLess_5 : decode cX9_shyLess 5 = .ok (.dup2, 1) := by decide +kernel
theorem dX9_shyLess_6 : decode cX9_shyLess 6 = .ok (.iaload, 1) := by decide +kernel
theorem dX9_shyLess_7 : decode cX9_shyLess 7 = .ok (.aload_n 0, 1) := by decide +kernel
theorem dX9_shyLess_8 : decode cX9_shyLess 8 = .ok (.getfield 13, 3) := by decide +kernel
theorem dX9_shyLess_11 : decode cX9_shyLess 11 = .ok (.iload_n 1, 1) := by decide +kernel
theorem dX9_shyLess_12 : decode cX9_shyLess 12 = .ok (.iaload, 1) := by decide +kernel
theorem dX9_shyLess_13 : decode cX9_shyLess 13 = .ok (.ifCond .le 7, 3) := by decide +kernel
theorem dX9_shyLess_16 : decode cX9_shyLess 16 = .ok (.iconst 1, 1) := by decide +kernel
theorem dX9_shyLess_17 : decode cX9_shyLess 17 = .ok (.goto 4, 3) := by decide +kernel
theorem dX9_shyLess_20 : decode cX9_shyLess 20 = .ok (.iconst 0, 1) := by decide +kernel
theorem dX9_shyLess_21 : decode cX9_shyLess 21 = .ok (.isub, 1) := by decide +kernel
theorem dX9_shyLess_22 : decode cX9_shyLess 22 = .ok (.iastore, 1) := by decide +kernel
theorem dX9_shyLess_23 : decode cX9_shyLess 23 = .ok (.return_, 1) := by decide +kernel
theorem dX9_goHour_0 : decode cX9_goHour 0 = .ok (.aload_n 0, 1) := by decide +kernel
theorem dX9_goHour_1 : decode cX9_goHour 1 = .ok (.getfield 89, 3) := by decide +kernel
theorem dX9_goHour_4 : decode cX9_goHour 4 = .ok (.invokestatic 154, 3) := by decide +kernel
theorem dX9_goHour_7 : decode cX9_goHour 7 = .ok (.istore_n 1, 1) := by decide +kernel
theorem dX9_goHour_8 : decode cX9_goHour 8 = .ok (.aload_n 0, 1) := by decide +kernel
theorem dX9_goHour_9 : decode cX9_goHour 9 = .ok (.aload_n 0, 1) := by decide +kernel
theorem dX9_goHour_10 : decode cX9_goHour 10 = .ok (.getfield 86, 3) := by decide +kernel
theorem dX9_goHour_13 : decode cX9_goHour 13 = .ok (.iload_n 1, 1) := by decide +kernel
theorem dX9_goHour_14 : decode cX9_goHour 14 = .ok (.if_icmp .le 12, 3) := by decide +kernel
theorem dX9_goHour_17 : decode cX9_goHour 17 = .ok (.aload_n 0, 1) := by decide +kernel
theorem dX9_goHour_18 : decode cX9_goHour 18 = .ok (.getfield 86, 3) := by decide +kernel
theorem dX9_goHour_21 : decode cX9_goHour 21 = .ok (.iload_n 1, 1) := by decide +kernel
theorem dX9_goHour_22 : decode cX9_goHour 22 = .ok (.isub, 1) := by decide +kernel
theorem dX9_goHour_23 : decode cX9_goHour 23 = .ok (.goto 4, 3) := by decide +kernel
theorem dX9_goHour_26 : decode cX9_goHour 26 = .ok (.iconst 0, 1) := by decide +kernel
theorem dX9_goHour_27 : decode cX9_goHour 27 = .ok (.putfield 86, 3) := by decide +kernel
theorem dX9_goHour_30 : decode cX9_goHour 30 = .ok (.iconst 0, 1) := by decide +kernel
theorem dX9_goHour_31 : decode cX9_goHour 31 = .ok (.istore_n 2, 1) := by decide +kernel
theorem dX9_goHour_32 : decode cX9_goHour 32 = .ok (.iload_n 2, 1) := by decide +kernel
theorem dX9_goHour_33 : decode cX9_goHour 33 = .ok (.aload_n 0, 1) := by decide +kernel
theorem dX9_goHour_34 : decode cX9_goHour 34 = .ok (.getfield 83, 3) := by decide +kernel
theorem dX9_goHour_37 : decode cX9_goHour 37 = .ok (.if_icmp .ge 32, 3) := by decide +kernel
theorem dX9_goHour_40 : decode cX9_goHour 40 = .ok (.aload_n 0, 1) := by decide +kernel
theorem dX9_goHour_41 : decode cX9_goHour 41 = .ok (.getfield 86, 3) := by decide +kernel
theorem dX9_goHour_44 : decode cX9_goHour 44 = .ok (.ifCond .ne 25, 3) := by decide +kernel
theorem dX9_goHour_47 : decode cX9_goHour 47 = .ok (.aload_n 0, 1) := by decide +kernel
theorem dX9_goHour_48 : decode cX9_goHour 48 = .ok (.getfield 89, 3) := by decide +kernel
theorem dX9_goHour_51 : decode cX9_goHour 51 = .ok (.iload_n 2, 1) := by decide +kernel
theorem dX9_goHour_52 : decode cX9_goHour 52 = .ok (.invokestatic 105, 3) := by decide +kernel
theorem dX9_goHour_55 : decode cX9_goHour 55 = .ok (.ifCond .eq 8, 3) := by decide +kernel
theorem dX9_goHour_58 : decode cX9_goHour 58 = .ok (.aload_n 0, 1) := by decide +kernel
theorem dX9_goHour_59 : decode cX9_goHour 59 = .ok (.iload_n 2, 1) := by decide +kernel
theorem dX9_goHour_60 : decode cX9_goHour 60 = .ok (.invokevirtual 157, 3) := by decide +kernel
theorem dX9_goHour_63 : decode cX9_goHour 63 = .ok (.iinc 2 1, 3) := by decide +kernel
theorem dX9_goHour_66 : decode cX9_goHour 66 = .ok (.goto (-34), 3) := by decide +kernel
theorem dX9_goHour_69 : decode cX9_goHour 69 = .ok (.iconst 0, 1) := by decide +kernel
theorem dX9_goHour_70 : decode cX9_goHour 70 = .ok (.istore_n 2, 1) := by decide +kernel
theorem dX9_goHour_71 : decode cX9_goHour 71 = .ok (.aload_n 0, 1) := by decide +kernel
theorem dX9_goHour_72 : decode cX9_goHour 72 = .ok (.invokevirtual 161, 3) := by decide +kernel
theorem dX9_goHour_75 : decode cX9_goHour 75 = .ok (.istore_n 3, 1) := by decide +kernel
theorem dX9_goHour_76 : decode cX9_goHour 76 = .ok (.iload_n 3, 1) := by decide +kernel
theorem dX9_goHour_77 : decode cX9_goHour 77 = .ok (.iconst (-1), 1) := by decide +kernel
theorem dX9_goHour_78 : decode cX9_goHour 78 = .ok (.if_icmp .eq 28, 3) := by decide +kernel
theorem dX9_goHour_81 : decode cX9_goHour 81 = .ok (.aload_n 0, 1) := by decide +kernel
theorem dX9_goHour_82 : decode cX9_goHour 82 = .ok (.dup, 1) := by decide +kernel
theorem dX9_goHour_83 : decode cX9_goHour 83 = .ok (.getfield 89, 3) := by decide +kernel
theorem dX9_goHour_86 : decode cX9_goHour 86 = .ok (.iconst 1, 1) := by decide +kernel
theorem dX9_goHour_87 : decode cX9_goHour 87 = .ok (.iload_n 3, 1) := by decide +kernel
theorem dX9_goHour_88 : decode cX9_goHour 88 = .ok (.ishl, 1) := by decide +kernel
theorem dX9_goHour_89 : decode cX9_goHour 89 = .ok (.iconst (-1), 1) := by decide +kernel
theorem dX9_goHour_90 : decode cX9_goHour 90 = .ok (.ixor, 1) := by decide +kernel
theorem dX9_goHour_91 : decode cX9_goHour 91 = .ok (.iand, 1) := by decide +kernel
theorem dX9_goHour_92 : decode cX9_goHour 92 = .ok (.putfield 89, 3) := by decide +kernel
theorem dX9_goHour_95 : decode cX9_goHour 95 = .ok (.iinc 2 1, 3) := by decide +kernel
theorem dX9_goHour_98 : decode cX9_goHour 98 = .ok (.aload_n 0, 1) := by decide +kernel
theorem dX9_goHour_99 : decode cX9_goHour 99 = .ok (.invokevirtual 161, 3) := by decide +kernel
theorem dX9_goHour_102 : decode cX9_goHour 102 = .ok (.istore_n 3, 1) := by decide +kernel
theorem dX9_goHour_103 : decode cX9_goHour 103 = .ok (.goto (-27), 3) := by decide +kernel
theorem dX9_goHour_106 : decode cX9_goHour 106 = .ok (.iload_n 2, 1) := by decide +kernel
theorem dX9_goHour_107 : decode cX9_goHour 107 = .ok (.ireturn, 1) := by decide +kernel
theorem dX9_hour_0 : decode cX9_hour 0 = .ok (.aload_n 0, 1) := by decide +kernel
theorem dX9_hour_1 : decode cX9_hour 1 = .ok (.getfield 83, 3) := by decide +kernel
theorem dX9_hour_4 : decode cX9_hour 4 = .ok (.ifCond .ne 6, 3) := by decide +kernel
theorem dX9_hour_7 : decode cX9_hour 7 = .ok (.bipush (-103), 2) := by decide +kernel
theorem dX9_hour_9 : decode cX9_hour 9 = .ok (.ireturn, 1) := by decide +kernel
theorem dX9_hour_10 : decode cX9_hour 10 = .ok (.aload_n 0, 1) := by decide +kernel
theorem dX9_hour_11 : decode cX9_hour 11 = .ok (.getfield 92, 3) := by decide +kernel
theorem dX9_hour_14 : decode cX9_hour 14 = .ok (.sipush 999, 3) := by decide +kernel
theorem dX9_hour_17 : decode cX9_hour 17 = .ok (.if_icmp .ne 6, 3) := by decide +kernel
theorem dX9_hour_20 : decode cX9_hour 20 = .ok (.bipush (-104), 2) := by decide +kernel
theorem dX9_hour_22 : decode cX9_hour 22 = .ok (.ireturn, 1) := by decide +kernel
theorem dX9_hour_23 : decode cX9_hour 23 = .ok (.aload_n 0, 1) := by decide +kernel
theorem dX9_hour_24 : decode cX9_hour 24 = .ok (.dup, 1) := by decide +kernel
theorem dX9_hour_25 : decode cX9_hour 25 = .ok (.getfield 92, 3) := by decide +kernel
theorem dX9_hour_28 : decode cX9_hour 28 = .ok (.iconst 1, 1) := by decide +kernel
theorem dX9_hour_29 : decode cX9_hour 29 = .ok (.iadd, 1) := by decide +kernel
theorem dX9_hour_30 : decode cX9_hour 30 = .ok (.putfield 92, 3) := by decide +kernel
theorem dX9_hour_33 : decode cX9_hour 33 = .ok (.aload_n 0, 1) := by decide +kernel
theorem dX9_hour_34 : decode cX9_hour 34 = .ok (.invokevirtual 164, 3) := by decide +kernel
theorem dX9_hour_37 : decode cX9_hour 37 = .ok (.ireturn, 1) := by decide +kernel
theorem dX9_hint_0 : decode cX9_hint 0 = .ok (.aload_n 0, 1) := by decide +kernel
theorem dX9_hint_1 : decode cX9_hint 1 = .ok (.iload_n 1, 1) := by decide +kernel
theorem dX9_hint_2 : decode cX9_hint 2 = .ok (.invokevirtual 144, 3) := by decide +kernel
theorem dX9_hint_5 : decode cX9_hint 5 = .ok (.ifCond .ne 6, 3) := by decide +kernel
theorem dX9_hint_8 : decode cX9_hint 8 = .ok (.bipush (-101), 2) := by decide +kernel
theorem dX9_hint_10 : decode cX9_hint 10 = .ok (.ireturn, 1) := by decide +kernel
theorem dX9_hint_11 : decode cX9_hint 11 = .ok (.aload_n 0, 1) := by decide +kernel
theorem dX9_hint_12 : decode cX9_hint 12 = .ok (.getfield 89, 3) := by decide +kernel
theorem dX9_hint_15 : decode cX9_hint 15 = .ok (.iload_n 1, 1) := by decide +kernel
theorem dX9_hint_16 : decode cX9_hint 16 = .ok (.invokestatic 105, 3) := by decide +kernel
theorem dX9_hint_19 : decode cX9_hint 19 = .ok (.ifCond .ne 6, 3) := by decide +kernel
theorem dX9_hint_22 : decode cX9_hint 22 = .ok (.bipush (-103), 2) := by decide +kernel
theorem dX9_hint_24 : decode cX9_hint 24 = .ok (.ireturn, 1) := by decide +kernel
theorem dX9_hint_25 : decode cX9_hint 25 = .ok (.aload_n 0, 1) := by decide +kernel
theorem dX9_hint_26 : decode cX9_hint 26 = .ok (.iload_n 1, 1) := by decide +kernel
theorem dX9_hint_27 : decode cX9_hint 27 = .ok (.invokevirtual 157, 3) := by decide +kernel
theorem dX9_hint_30 : decode cX9_hint 30 = .ok (.aload_n 0, 1) := by decide +kernel
theorem dX9_hint_31 : decode cX9_hint 31 = .ok (.getfield 13, 3) := by decide +kernel
theorem dX9_hint_34 : decode cX9_hint 34 = .ok (.iload_n 1, 1) := by decide +kernel
theorem dX9_hint_35 : decode cX9_hint 35 = .ok (.iaload, 1) := by decide +kernel
theorem dX9_hint_36 : decode cX9_hint 36 = .ok (.ireturn, 1) := by decide +kernel
theorem dX9_back_0 : decode cX9_back 0 = .ok (.aload_n 0, 1) := by decide +kernel
theorem dX9_back_1 : decode cX9_back 1 = .ok (.iload_n 1, 1) := by decide +kernel
theorem dX9_back_2 : decode cX9_back 2 = .ok (.invokevirtual 144, 3) := by decide +kernel
theorem dX9_back_5 : decode cX9_back 5 = .ok (.ifCond .ne 6, 3) := by decide +kernel
theorem dX9_back_8 : decode cX9_back 8 = .ok (.bipush (-101), 2) := by decide +kernel
theorem dX9_back_10 : decode cX9_back 10 = .ok (.ireturn, 1) := by decide +kernel
theorem dX9_back_11 : decode cX9_back 11 = .ok (.aload_n 0, 1) := by decide +kernel
theorem dX9_back_12 : decode cX9_back 12 = .ok (.getfield 89, 3) := by decide +kernel
theorem dX9_back_15 : decode cX9_back 15 = .ok (.iload_n 1, 1) := by decide +kernel
theorem dX9_back_16 : decode cX9_back 16 = .ok (.invokestatic 105, 3) := by decide +kernel
theorem dX9_back_19 : decode cX9_back 19 = .ok (.ifCond .eq 6, 3) := by decide +kernel
theorem dX9_back_22 : decode cX9_back 22 = .ok (.bipush (-103), 2) := by decide +kernel
theorem dX9_back_24 : decode cX9_back 24 = .ok (.ireturn, 1) := by decide +kernel
theorem dX9_back_25 : decode cX9_back 25 = .ok (.aload_n 0, 1) := by decide +kernel
theorem dX9_back_26 : decode cX9_back 26 = .ok (.dup, 1) := by decide +kernel
theorem dX9_back_27 : decode cX9_back 27 = .ok (.getfield 89, 3) := by decide +kernel
theorem dX9_back_30 : decode cX9_back 30 = .ok (.iconst 1, 1) := by decide +kernel
theorem dX9_back_31 : decode cX9_back 31 = .ok (.iload_n 1, 1) := by decide +kernel
theorem dX9_back_32 : decode cX9_back 32 = .ok (.ishl, 1) := by decide +kernel
theorem dX9_back_33 : decode cX9_back 33 = .ok (.ior, 1) := by decide +kernel
theorem dX9_back_34 : decode cX9_back 34 = .ok (.putfield 89, 3) := by decide +kernel
theorem dX9_back_37 : decode cX9_back 37 = .ok (.aload_n 0, 1) := by decide +kernel
theorem dX9_back_38 : decode cX9_back 38 = .ok (.getfield 89, 3) := by decide +kernel
theorem dX9_back_41 : decode cX9_back 41 = .ok (.invokestatic 154, 3) := by decide +kernel
theorem dX9_back_44 : decode cX9_back 44 = .ok (.ireturn, 1) := by decide +kernel
theorem dX9_feed_0 : decode cX9_feed 0 = .ok (.iload_n 1, 1) := by decide +kernel
theorem dX9_feed_1 : decode cX9_feed 1 = .ok (.iconst 1, 1) := by decide +kernel
theorem dX9_feed_2 : decode cX9_feed 2 = .ok (.bipush 50, 2) := by decide +kernel
theorem dX9_feed_4 : decode cX9_feed 4 = .ok (.invokestatic 50, 3) := by decide +kernel
theorem dX9_feed_7 : decode cX9_feed 7 = .ok (.ifCond .ne 6, 3) := by decide +kernel
theorem dX9_feed_10 : decode cX9_feed 10 = .ok (.bipush (-102), 2) := by decide +kernel
theorem dX9_feed_12 : decode cX9_feed 12 = .ok (.ireturn, 1) := by decide +kernel
theorem dX9_feed_13 : decode cX9_feed 13 = .ok (.aload_n 0, 1) := by decide +kernel
theorem dX9_feed_14 : decode cX9_feed 14 = .ok (.getfield 83, 3) := by decide +kernel
theorem dX9_feed_17 : decode cX9_feed 17 = .ok (.ifCond .ne 6, 3) := by decide +kernel
theorem dX9_feed_20 : decode cX9_feed 20 = .ok (.bipush (-103), 2) := by decide +kernel
theorem dX9_feed_22 : decode cX9_feed 22 = .ok (.ireturn, 1) := by decide +kernel
theorem dX9_feed_23 : decode cX9_feed 23 = .ok (.aload_n 0, 1) := by decide +kernel
theorem dX9_feed_24 : decode cX9_feed 24 = .ok (.getfield 86, 3) := by decide +kernel
theorem dX9_feed_27 : decode cX9_feed 27 = .ok (.iload_n 1, 1) := by decide +kernel
theorem dX9_feed_28 : decode cX9_feed 28 = .ok (.iadd, 1) := by decide +kernel
theorem dX9_feed_29 : decode cX9_feed 29 = .ok (.bipush 99, 2) := by decide +kernel
theorem dX9_feed_31 : decode cX9_feed 31 = .ok (.if_icmp .le 6, 3) := by decide +kernel
theorem dX9_feed_34 : decode cX9_feed 34 = .ok (.bipush (-104), 2) := by decide +kernel
theorem dX9_feed_36 : decode cX9_feed 36 = .ok (.ireturn, 1) := by decide +kernel
theorem dX9_feed_37 : decode cX9_feed 37 = .ok (.aload_n 0, 1) := by decide +kernel
theorem dX9_feed_38 : decode cX9_feed 38 = .ok (.dup, 1) := by decide +kernel
theorem dX9_feed_39 : decode cX9_feed 39 = .ok (.getfield 86, 3) := by decide +kernel
theorem dX9_feed_42 : decode cX9_feed 42 = .ok (.iload_n 1, 1) := by decide +kernel
theorem dX9_feed_43 : decode cX9_feed 43 = .ok (.iadd, 1) := by decide +kernel
theorem dX9_feed_44 : decode cX9_feed 44 = .ok (.putfield 86, 3) := by decide +kernel
theorem dX9_feed_47 : decode cX9_feed 47 = .ok (.aload_n 0, 1) := by decide +kernel
theorem dX9_feed_48 : decode cX9_feed 48 = .ok (.getfield 86, 3) := by decide +kernel
theorem dX9_feed_51 : decode cX9_feed 51 = .ok (.ireturn, 1) := by decide +kernel
theorem dX9_turn_0 : decode cX9_turn 0 = .ok (.aload_n 0, 1) := by decide +kernel
theorem dX9_turn_1 : decode cX9_turn 1 = .ok (.iload_n 1, 1) := by decide +kernel
theorem dX9_turn_2 : decode cX9_turn 2 = .ok (.invokevirtual 144, 3) := by decide +kernel
theorem dX9_turn_5 : decode cX9_turn 5 = .ok (.ifCond .ne 6, 3) := by decide +kernel
theorem dX9_turn_8 : decode cX9_turn 8 = .ok (.bipush (-101), 2) := by decide +kernel
theorem dX9_turn_10 : decode cX9_turn 10 = .ok (.ireturn, 1) := by decide +kernel
theorem dX9_turn_11 : decode cX9_turn 11 = .ok (.iload_n 2, 1) := by decide +kernel
theorem dX9_turn_12 : decode cX9_turn 12 = .ok (.iconst 0, 1) := by decide +kernel
theorem dX9_turn_13 : decode cX9_turn 13 = .ok (.iconst 4, 1) := by decide +kernel
theorem dX9_turn_14 : decode cX9_turn 14 = .ok (.invokestatic 50, 3) := by decide +kernel
theorem dX9_turn_17 : decode cX9_turn 17 = .ok (.ifCond .eq 13, 3) := by decide +kernel
theorem dX9_turn_20 : decode cX9_turn 20 = .ok (.iload_n 3, 1) := by decide +kernel
theorem dX9_turn_21 : decode cX9_turn 21 = .ok (.iconst 0, 1) := by decide +kernel
theorem dX9_turn_22 : decode cX9_turn 22 = .ok (.bipush 9, 2) := by decide +kernel
theorem dX9_turn_24 : decode cX9_turn 24 = .ok (.invokestatic 50, 3) := by decide +kernel
theorem dX9_turn_27 : decode cX9_turn 27 = .ok (.ifCond .ne 6, 3) := by decide +kernel
theorem dX9_turn_30 : decode cX9_turn 30 = .ok (.bipush (-102), 2) := by decide +kernel
theorem dX9_turn_32 : decode cX9_turn 32 = .ok (.ireturn, 1) := by decide +kernel
theorem dX9_turn_33 : decode cX9_turn 33 = .ok (.aload_n 0, 1) := by decide +kernel
theorem dX9_turn_34 : decode cX9_turn 34 = .ok (.getfield 7, 3) := by decide +kernel
theorem dX9_turn_37 : decode cX9_turn 37 = .ok (.iload_n 1, 1) := by decide +kernel
theorem dX9_turn_38 : decode cX9_turn 38 = .ok (.iaload, 1) := by decide +kernel
theorem dX9_turn_39 : decode cX9_turn 39 = .ok (.istore 4, 2) := by decide +kernel
theorem dX9_turn_41 : decode cX9_turn 41 = .ok (.aload_n 0, 1) := by decide +kernel
theorem dX9_turn_42 : decode cX9_turn 42 = .ok (.getfield 7, 3) := by decide +kernel
theorem dX9_turn_45 : decode cX9_turn 45 = .ok (.iload_n 1, 1) := by decide +kernel
theorem dX9_turn_46 : decode cX9_turn 46 = .ok (.iload_n 2, 1) := by decide +kernel
theorem dX9_turn_47 : decode cX9_turn 47 = .ok (.iastore, 1) := by decide +kernel
theorem dX9_turn_48 : decode cX9_turn 48 = .ok (.aload_n 0, 1) := by decide +kernel
theorem dX9_turn_49 : decode cX9_turn 49 = .ok (.getfield 13, 3) := by decide +kernel
theorem dX9_turn_52 : decode cX9_turn 52 = .ok (.iload_n 1, 1) := by decide +kernel
theorem dX9_turn_53 : decode cX9_turn 53 = .ok (.iload_n 3, 1) := by decide +kernel
theorem dX9_turn_54 : decode cX9_turn 54 = .ok (.iastore, 1) := by decide +kernel
theorem dX9_turn_55 : decode cX9_turn 55 = .ok (.iload 4, 2) := by decide +kernel
theorem dX9_turn_57 : decode cX9_turn 57 = .ok (.ireturn, 1) := by decide +kernel
theorem dX9_most_0 : decode cX9_most 0 = .ok (.aload_n 0, 1) := by decide +kernel
theorem dX9_most_1 : decode cX9_most 1 = .ok (.getfield 83, 3) := by decide +kernel
theorem dX9_most_4 : decode cX9_most 4 = .ok (.ifCond .ne 8, 3) := by decide +kernel
theorem dX9_most_7 : decode cX9_most 7 = .ok (.bipush (-103), 2) := by decide +kernel
theorem dX9_most_9 : decode cX9_most 9 = .ok (.goto 11, 3) := by decide +kernel
theorem dX9_most_12 : decode cX9_most 12 = .ok (.aload_n 0, 1) := by decide +kernel
theorem dX9_most_13 : decode cX9_most 13 = .ok (.aload_n 0, 1) := by decide +kernel
theorem dX9_most_14 : decode cX9_most 14 = .ok (.getfield 89, 3) := by decide +kernel
theorem dX9_most_17 : decode cX9_most 17 = .ok (.invokevirtual 167, 3) := by decide +kernel
theorem dX9_most_20 : decode cX9_most 20 = .ok (.ireturn, 1) := by decide +kernel
theorem dX9_leastNow_0 : decode cX9_leastNow 0 = .ok (.iconst 0, 1) := by decide +kernel
theorem dX9_leastNow_1 : decode cX9_leastNow 1 = .ok (.istore_n 1, 1) := by decide +kernel
theorem dX9_leastNow_2 : decode cX9_leastNow 2 = .ok (.iconst 1, 1) := by decide +kernel
theorem dX9_leastNow_3 : decode cX9_leastNow 3 = .ok (.istore_n 2, 1) := by decide +kernel
theorem dX9_leastNow_4 : decode cX9_leastNow 4 = .ok (.iload_n 2, 1) := by decide +kernel
theorem dX9_leastNow_5 : decode cX9_leastNow 5 = .ok (.aload_n 0, 1) := by decide +kernel
theorem dX9_leastNow_6 : decode cX9_leastNow 6 = .ok (.getfield 89, 3) := by decide +kernel
theorem dX9_leastNow_9 : decode cX9_leastNow 9 = .ok (.if_icmp .gt 59, 3) := by decide +kernel
theorem dX9_leastNow_12 : decode cX9_leastNow 12 = .ok (.iload_n 2, 1) := by decide +kernel
theorem dX9_leastNow_13 : decode cX9_leastNow 13 = .ok (.aload_n 0, 1) := by decide +kernel
theorem dX9_leastNow_14 : decode cX9_leastNow 14 = .ok (.getfield 89, 3) := by decide +kernel
theorem dX9_leastNow_17 : decode cX9_leastNow 17 = .ok (.iconst (-1), 1) := by decide +kernel
theorem dX9_leastNow_18 : decode cX9_leastNow 18 = .ok (.ixor, 1) := by decide +kernel
theorem dX9_leastNow_19 : decode cX9_leastNow 19 = .ok (.iand, 1) := by decide +kernel
theorem dX9_leastNow_20 : decode cX9_leastNow 20 = .ok (.ifCond .ne 22, 3) := by decide +kernel
theorem dX9_leastNow_23 : decode cX9_leastNow 23 = .ok (.iload_n 1, 1) := by decide +kernel
theorem dX9_leastNow_24 : decode cX9_leastNow 24 = .ok (.ifCond .eq 14, 3) := by decide +kernel
theorem dX9_leastNow_27 : decode cX9_leastNow 27 = .ok (.iload_n 2, 1) := by decide +kernel
theorem dX9_leastNow_28 : decode cX9_leastNow 28 = .ok (.invokestatic 154, 3) := by decide +kernel
theorem dX9_leastNow_31 : decode cX9_leastNow 31 = .ok (.iload_n 1, 1) := by decide +kernel
theorem dX9_leastNow_32 : decode cX9_leastNow 32 = .ok (.invokestatic 154, 3) := by decide +kernel
theorem dX9_leastNow_35 : decode cX9_leastNow 35 = .ok (.if_icmp .ge 7, 3) := by decide +kernel
theorem dX9_leastNow_38 : decode cX9_leastNow 38 = .ok (.iconst 1, 1) := by decide +kernel
theorem dX9_leastNow_39 : decode cX9_leastNow 39 = .ok (.goto 4, 3) := by decide +kernel
theorem dX9_leastNow_42 : decode cX9_leastNow 42 = .ok (.iconst 0, 1) := by decide +kernel
theorem dX9_leastNow_43 : decode cX9_leastNow 43 = .ok (.istore_n 3, 1) := by decide +kernel
theorem dX9_leastNow_44 : decode cX9_leastNow 44 = .ok (.iload_n 3, 1) := by decide +kernel
theorem dX9_leastNow_45 : decode cX9_leastNow 45 = .ok (.ifCond .eq 15, 3) := by decide +kernel
theorem dX9_leastNow_48 : decode cX9_leastNow 48 = .ok (.aload_n 0, 1) := by decide +kernel
theorem dX9_leastNow_49 : decode cX9_leastNow 49 = .ok (.iload_n 2, 1) := by decide +kernel
theorem dX9_leastNow_50 : decode cX9_leastNow 50 = .ok (.invokevirtual 151, 3) := by decide +kernel
theorem dX9_leastNow_53 : decode cX9_leastNow 53 = .ok (.ifCond .eq 7, 3) := by decide +kernel
theorem dX9_leastNow_56 : decode cX9_leastNow 56 = .ok (.iload_n 2, 1) := by decide +kernel
theorem dX9_leastNow_57 : decode cX9_leastNow 57 = .ok (.goto 4, 3) := by decide +kernel
theorem dX9_leastNow_60 : decode cX9_leastNow 60 = .ok (.iload_n 1, 1) := by decide +kernel
theorem dX9_leastNow_61 : decode cX9_leastNow 61 = .ok (.istore_n 1, 1) := by decide +kernel
theorem dX9_leastNow_62 : decode cX9_leastNow 62 = .ok (.iinc 2 1, 3) := by decide +kernel
theorem dX9_leastNow_65 : decode cX9_leastNow 65 = .ok (.goto (-61), 3) := by decide +kernel
theorem dX9_leastNow_68 : decode cX9_leastNow 68 = .ok (.iload_n 1, 1) := by decide +kernel
theorem dX9_leastNow_69 : decode cX9_leastNow 69 = .ok (.ireturn, 1) := by decide +kernel
theorem dX9_least_0 : decode cX9_least 0 = .ok (.aload_n 0, 1) := by decide +kernel
theorem dX9_least_1 : decode cX9_least 1 = .ok (.getfield 83, 3) := by decide +kernel
theorem dX9_least_4 : decode cX9_least 4 = .ok (.ifCond .ne 8, 3) := by decide +kernel
theorem dX9_least_7 : decode cX9_least 7 = .ok (.bipush (-103), 2) := by decide +kernel
theorem dX9_least_9 : decode cX9_least 9 = .ok (.goto 7, 3) := by decide +kernel
theorem dX9_least_12 : decode cX9_least 12 = .ok (.aload_n 0, 1) := by decide +kernel
theorem dX9_least_13 : decode cX9_least 13 = .ok (.invokevirtual 170, 3) := by decide +kernel
theorem dX9_least_16 : decode cX9_least 16 = .ok (.ireturn, 1) := by decide +kernel
theorem dX9_hintsFor_0 : decode cX9_hintsFor 0 = .ok (.aload_n 0, 1) := by decide +kernel
theorem dX9_hintsFor_1 : decode cX9_hintsFor 1 = .ok (.getfield 13, 3) := by decide +kernel
theorem dX9_hintsFor_4 : decode cX9_hintsFor 4 = .ok (.iload_n 1, 1) := by decide +kernel
theorem dX9_hintsFor_5 : decode cX9_hintsFor 5 = .ok (.iaload, 1) := by decide +kernel
theorem dX9_hintsFor_6 : decode cX9_hintsFor 6 = .ok (.istore_n 3, 1) := by decide +kernel
theorem dX9_hintsFor_7 : decode cX9_hintsFor 7 = .ok (.iload_n 3, 1) := by decide +kernel
theorem dX9_hintsFor_8 : decode cX9_hintsFor 8 = .ok (.ifCond .lt 32, 3) := by decide +kernel
theorem dX9_hintsFor_11 : decode cX9_hintsFor 11 = .ok (.aload_n 0, 1) := by decide +kernel
theorem dX9_hintsFor_12 : decode cX9_hintsFor 12 = .ok (.getfield 7, 3) := by decide +kernel
theorem dX9_hintsFor_15 : decode cX9_hintsFor 15 = .ok (.iload_n 1, 1) := by decide +kernel
theorem dX9_hintsFor_16 : decode cX9_hintsFor 16 = .ok (.iaload, 1) := by decide +kernel
theorem dX9_hintsFor_17 : decode cX9_hintsFor 17 = .ok (.iload_n 3, 1) := by decide +kernel
theorem dX9_hintsFor_18 : decode cX9_hintsFor 18 = .ok (.invokestatic 101, 3) := by decide +kernel
theorem dX9_hintsFor_21 : decode cX9_hintsFor 21 = .ok (.iload_n 2, 1) := by decide +kernel
theorem dX9_hintsFor_22 : decode cX9_hintsFor 22 = .ok (.if_icmp .gt 12, 3) := by decide +kernel
theorem dX9_hintsFor_25 : decode cX9_hintsFor 25 = .ok (.aload_n 0, 1) := by decide +kernel
theorem dX9_hintsFor_26 : decode cX9_hintsFor 26 = .ok (.getfield 13, 3) := by decide +kernel
theorem dX9_hintsFor_29 : decode cX9_hintsFor 29 = .ok (.iload_n 1, 1) := by decide +kernel
theorem dX9_hintsFor_30 : decode cX9_hintsFor 30 = .ok (.iaload, 1) := by decide +kernel
theorem dX9_hintsFor_31 : decode cX9_hintsFor 31 = .ok (.iload_n 3, 1) := by decide +kernel
theorem dX9_hintsFor_32 : decode cX9_hintsFor 32 = .ok (.isub, 1) := by decide +kernel
theorem dX9_hintsFor_33 : decode cX9_hintsFor 33 = .ok (.ireturn, 1) := by decide +kernel
theorem dX9_hintsFor_34 : decode cX9_hintsFor 34 = .ok (.iinc 3 (-1), 3) := by decide +kernel
theorem dX9_hintsFor_37 : decode cX9_hintsFor 37 = .ok (.goto (-30), 3) := by decide +kernel
theorem dX9_hintsFor_40 : decode cX9_hintsFor 40 = .ok (.ldc 173, 2) := by decide +kernel
theorem dX9_hintsFor_42 : decode cX9_hintsFor 42 = .ok (.ireturn, 1) := by decide +kernel
theorem dX9_hintsIn_0 : decode cX9_hintsIn 0 = .ok (.iconst 0, 1) := by decide +kernel
theorem dX9_hintsIn_1 : decode cX9_hintsIn 1 = .ok (.istore_n 2, 1) := by decide +kernel
theorem dX9_hintsIn_2 : decode cX9_hintsIn 2 = .ok (.iconst 0, 1) := by decide +kernel
theorem dX9_hintsIn_3 : decode cX9_hintsIn 3 = .ok (.istore_n 3, 1) := by decide +kernel
theorem dX9_hintsIn_4 : decode cX9_hintsIn 4 = .ok (.iload_n 3, 1) := by decide +kernel
theorem dX9_hintsIn_5 : decode cX9_hintsIn 5 = .ok (.aload_n 0, 1) := by decide +kernel
theorem dX9_hintsIn_6 : decode cX9_hintsIn 6 = .ok (.getfield 83, 3) := by decide +kernel
theorem dX9_hintsIn_9 : decode cX9_hintsIn 9 = .ok (.if_icmp .ge 67, 3) := by decide +kernel
theorem dX9_hintsIn_12 : decode cX9_hintsIn 12 = .ok (.iload_n 2, 1) := by decide +kernel
theorem dX9_hintsIn_13 : decode cX9_hintsIn 13 = .ok (.ldc 173, 2) := by decide +kernel
theorem dX9_hintsIn_15 : decode cX9_hintsIn 15 = .ok (.if_icmp .ge 61, 3) := by decide +kernel
theorem dX9_hintsIn_18 : decode cX9_hintsIn 18 = .ok (.iload_n 1, 1) := by decide +kernel
theorem dX9_hintsIn_19 : decode cX9_hintsIn 19 = .ok (.iload_n 3, 1) := by decide +kernel
theorem dX9_hintsIn_20 : decode cX9_hintsIn 20 = .ok (.invokestatic 105, 3) := by decide +kernel
theorem dX9_hintsIn_23 : decode cX9_hintsIn 23 = .ok (.ifCond .eq 47, 3) := by decide +kernel
theorem dX9_hintsIn_26 : decode cX9_hintsIn 26 = .ok (.aload_n 0, 1) := by decide +kernel
theorem dX9_hintsIn_27 : decode cX9_hintsIn 27 = .ok (.iload_n 3, 1) := by decide +kernel
theorem dX9_hintsIn_28 : decode cX9_hintsIn 28 = .ok (.iload_n 1, 1) := by decide +kernel
theorem dX9_hintsIn_29 : decode cX9_hintsIn 29 = .ok (.invokevirtual 120, 3) := by decide +kernel
theorem dX9_hintsIn_32 : decode cX9_hintsIn 32 = .ok (.ifCond .eq 17, 3) := by decide +kernel
theorem dX9_hintsIn_35 : decode cX9_hintsIn 35 = .ok (.aload_n 0, 1) := by decide +kernel
theorem dX9_hintsIn_36 : decode cX9_hintsIn 36 = .ok (.iload_n 3, 1) := by decide +kernel
theorem dX9_hintsIn_37 : decode cX9_hintsIn 37 = .ok (.aload_n 0, 1) := by decide +kernel
theorem dX9_hintsIn_38 : decode cX9_hintsIn 38 = .ok (.iload_n 3, 1) := by decide +kernel
theorem dX9_hintsIn_39 : decode cX9_hintsIn 39 = .ok (.iload_n 1, 1) := by decide +kernel
theorem dX9_hintsIn_40 : decode cX9_hintsIn 40 = .ok (.invokevirtual 123, 3) := by decide +kernel
theorem dX9_hintsIn_43 : decode cX9_hintsIn 43 = .ok (.invokevirtual 174, 3) := by decide +kernel
theorem dX9_hintsIn_46 : decode cX9_hintsIn 46 = .ok (.goto 5, 3) := by decide +kernel
theorem dX9_hintsIn_49 : decode cX9_hintsIn 49 = .ok (.ldc 173, 2) := by decide +kernel
theorem dX9_hintsIn_51 : decode cX9_hintsIn 51 = .ok (.istore 4, 2) := by decide +kernel
theorem dX9_hintsIn_53 : decode cX9_hintsIn 53 = .ok (.iload 4, 2) := by decide +kernel
theorem dX9_hintsIn_55 : decode cX9_hintsIn 55 = .ok (.ldc 173, 2) := by decide +kernel
theorem dX9_hintsIn_57 : decode cX9_hintsIn 57 = .ok (.if_icmp .ne 8, 3) := by decide +kernel
theorem dX9_hintsIn_60 : decode cX9_hintsIn 60 = .ok (.ldc 173, 2) := by decide +kernel
theorem dX9_hintsIn_62 : decode cX9_hintsIn 62 = .ok (.goto 7, 3) := by decide +kernel
theorem dX9_hintsIn_65 : decode cX9_hintsIn 65 = .ok (.iload_n 2, 1) := by decide +kernel
theorem dX9_hintsIn_66 : decode cX9_hintsIn 66 = .ok (.iload 4, 2) := by decide +kernel
theorem dX9_hintsIn_68 : decode cX9_hintsIn 68 = .ok (.iadd, 1) := by decide +kernel
theorem dX9_hintsIn_69 : decode cX9_hintsIn 69 = .ok (.istore_n 2, 1) := by decide +kernel
theorem dX9_hintsIn_70 : decode cX9_hintsIn 70 = .ok (.iinc 3 1, 3) := by decide +kernel
theorem dX9_hintsIn_73 : decode cX9_hintsIn 73 = .ok (.goto (-69), 3) := by decide +kernel
theorem dX9_hintsIn_76 : decode cX9_hintsIn 76 = .ok (.iload_n 2, 1) := by decide +kernel
theorem dX9_hintsIn_77 : decode cX9_hintsIn 77 = .ok (.ireturn, 1) := by decide +kernel
theorem dX9_homeFor_0 : decode cX9_homeFor 0 = .ok (.ldc 173, 2) := by decide +kernel
theorem dX9_homeFor_2 : decode cX9_homeFor 2 = .ok (.istore_n 2, 1) := by decide +kernel
theorem dX9_homeFor_3 : decode cX9_homeFor 3 = .ok (.iconst 1, 1) := by decide +kernel
theorem dX9_homeFor_4 : decode cX9_homeFor 4 = .ok (.istore_n 3, 1) := by decide +kernel
theorem dX9_homeFor_5 : decode cX9_homeFor 5 = .ok (.iload_n 3, 1) := by decide +kernel
theorem dX9_homeFor_6 : decode cX9_homeFor 6 = .ok (.aload_n 0, 1) := by decide +kernel
theorem dX9_homeFor_7 : decode cX9_homeFor 7 = .ok (.getfield 89, 3) := by decide +kernel
theorem dX9_homeFor_10 : decode cX9_homeFor 10 = .ok (.if_icmp .gt 65, 3) := by decide +kernel
theorem dX9_homeFor_13 : decode cX9_homeFor 13 = .ok (.iload_n 3, 1) := by decide +kernel
theorem dX9_homeFor_14 : decode cX9_homeFor 14 = .ok (.aload_n 0, 1) := by decide +kernel
theorem dX9_homeFor_15 : decode cX9_homeFor 15 = .ok (.getfield 89, 3) := by decide +kernel
theorem dX9_homeFor_18 : decode cX9_homeFor 18 = .ok (.iconst (-1), 1) := by decide +kernel
theorem dX9_homeFor_19 : decode cX9_homeFor 19 = .ok (.ixor, 1) := by decide +kernel
theorem dX9_homeFor_20 : decode cX9_homeFor 20 = .ok (.iand, 1) := by decide +kernel
theorem dX9_homeFor_21 : decode cX9_homeFor 21 = .ok (.ifCond .ne 15, 3) := by decide +kernel
theorem dX9_homeFor_24 : decode cX9_homeFor 24 = .ok (.iload_n 3, 1) := by decide +kernel
theorem dX9_homeFor_25 : decode cX9_homeFor 25 = .ok (.iload_n 1, 1) := by decide +kernel
theorem dX9_homeFor_26 : decode cX9_homeFor 26 = .ok (.invokestatic 105, 3) := by decide +kernel
theorem dX9_homeFor_29 : decode cX9_homeFor 29 = .ok (.ifCond .eq 7, 3) := by decide +kernel
theorem dX9_homeFor_32 : decode cX9_homeFor 32 = .ok (.iconst 1, 1) := by decide +kernel
theorem dX9_homeFor_33 : decode cX9_homeFor 33 = .ok (.goto 4, 3) := by decide +kernel
theorem dX9_homeFor_36 : decode cX9_homeFor 36 = .ok (.iconst 0, 1) := by decide +kernel
theorem dX9_homeFor_37 : decode cX9_homeFor 37 = .ok (.istore 4, 2) := by decide +kernel
theorem dX9_homeFor_39 : decode cX9_homeFor 39 = .ok (.iload 4, 2) := by decide +kernel
theorem dX9_homeFor_41 : decode cX9_homeFor 41 = .ok (.ifCond .eq 11, 3) := by decide +kernel
theorem dX9_homeFor_44 : decode cX9_homeFor 44 = .ok (.aload_n 0, 1) := by decide +kernel
theorem dX9_homeFor_45 : decode cX9_homeFor 45 = .ok (.iload_n 3, 1) := by decide +kernel
theorem dX9_homeFor_46 : decode cX9_homeFor 46 = .ok (.invokevirtual 177, 3) := by decide +kernel
theorem dX9_homeFor_49 : decode cX9_homeFor 49 = .ok (.goto 5, 3) := by decide +kernel
theorem dX9_homeFor_52 : decode cX9_homeFor 52 = .ok (.ldc 173, 2) := by decide +kernel
theorem dX9_homeFor_54 : decode cX9_homeFor 54 = .ok (.istore 5, 2) := by decide +kernel
theorem dX9_homeFor_56 : decode cX9_homeFor 56 = .ok (.iload 5, 2) := by decide +kernel
theorem dX9_homeFor_58 : decode cX9_homeFor 58 = .ok (.iload_n 2, 1) := by decide +kernel
theorem dX9_homeFor_59 : decode cX9_homeFor 59 = .ok (.if_icmp .ge 8, 3) := by decide +kernel
theorem dX9_homeFor_62 : decode cX9_homeFor 62 = .ok (.iload 5, 2) := by decide +kernel
theorem dX9_homeFor_64 : decode cX9_homeFor 64 = .ok (.goto 4, 3) := by decide +kernel
theorem dX9_homeFor_67 : decode cX9_homeFor 67 = .ok (.iload_n 2, 1) := by decide +kernel
theorem dX9_homeFor_68 : decode cX9_homeFor 68 = .ok (.istore_n 2, 1) := by decide +kernel
theorem dX9_homeFor_69 : decode cX9_homeFor 69 = .ok (.iinc 3 1, 3) := by decide +kernel
theorem dX9_homeFor_72 : decode cX9_homeFor 72 = .ok (.goto (-67), 3) := by decide +kernel
theorem dX9_homeFor_75 : decode cX9_homeFor 75 = .ok (.iload_n 2, 1) := by decide +kernel
theorem dX9_homeFor_76 : decode cX9_homeFor 76 = .ok (.ldc 173, 2) := by decide +kernel
theorem dX9_homeFor_78 : decode cX9_homeFor 78 = .ok (.if_icmp .ne 7, 3) := by decide +kernel
theorem dX9_homeFor_81 : decode cX9_homeFor 81 = .ok (.iconst (-1), 1) := by decide +kernel
theorem dX9_homeFor_82 : decode cX9_homeFor 82 = .ok (.goto 4, 3) := by decide +kernel
theorem dX9_homeFor_85 : decode cX9_homeFor 85 = .ok (.iload_n 2, 1) := by decide +kernel
theorem dX9_homeFor_86 : decode cX9_homeFor 86 = .ok (.ireturn, 1) := by decide +kernel
theorem dX9_hired_0 : decode cX9_hired 0 = .ok (.aload_n 0, 1) := by decide +kernel
theorem dX9_hired_1 : decode cX9_hired 1 = .ok (.getfield 89, 3) := by decide +kernel
theorem dX9_hired_4 : decode cX9_hired 4 = .ok (.aload_n 0, 1) := by decide +kernel
theorem dX9_hired_5 : decode cX9_hired 5 = .ok (.aload_n 0, 1) := by decide +kernel
theorem dX9_hired_6 : decode cX9_hired 6 = .ok (.getfield 89, 3) := by decide +kernel
theorem dX9_hired_9 : decode cX9_hired 9 = .ok (.invokevirtual 132, 3) := by decide +kernel
theorem dX9_hired_12 : decode cX9_hired 12 = .ok (.iconst (-1), 1) := by decide +kernel
theorem dX9_hired_13 : decode cX9_hired 13 = .ok (.ixor, 1) := by decide +kernel
theorem dX9_hired_14 : decode cX9_hired 14 = .ok (.iand, 1) := by decide +kernel
theorem dX9_hired_15 : decode cX9_hired 15 = .ok (.ireturn, 1) := by decide +kernel
theorem dX9_hire_0 : decode cX9_hire 0 = .ok (.iload_n 1, 1) := by decide +kernel
theorem dX9_hire_1 : decode cX9_hire 1 = .ok (.iconst 0, 1) := by decide +kernel
theorem dX9_hire_2 : decode cX9_hire 2 = .ok (.iconst 1, 1) := by decide +kernel
theorem dX9_hire_3 : decode cX9_hire 3 = .ok (.invokestatic 50, 3) := by decide +kernel
theorem dX9_hire_6 : decode cX9_hire 6 = .ok (.ifCond .ne 6, 3) := by decide +kernel
theorem dX9_hire_9 : decode cX9_hire 9 = .ok (.bipush (-102), 2) := by decide +kernel
theorem dX9_hire_11 : decode cX9_hire 11 = .ok (.ireturn, 1) := by decide +kernel
theorem dX9_hire_12 : decode cX9_hire 12 = .ok (.aload_n 0, 1) := by decide +kernel
theorem dX9_hire_13 : decode cX9_hire 13 = .ok (.getfield 83, 3) := by decide +kernel
theorem dX9_hire_16 : decode cX9_hire 16 = .ok (.ifCond .ne 8, 3) := by decide +kernel
theorem dX9_hire_19 : decode cX9_hire 19 = .ok (.bipush (-103), 2) := by decide +kernel
theorem dX9_hire_21 : decode cX9_hire 21 = .ok (.goto 21, 3) := by decide +kernel
theorem dX9_hire_24 : decode cX9_hire 24 = .ok (.iload_n 1, 1) := by decide +kernel
theorem dX9_hire_25 : decode cX9_hire 25 = .ok (.ifCond .ne 13, 3) := by decide +kernel
theorem dX9_hire_28 : decode cX9_hire 28 = .ok (.aload_n 0, 1) := by decide +kernel
theorem dX9_hire_29 : decode cX9_hire 29 = .ok (.invokevirtual 180, 3) := by decide +kernel
theorem dX9_hire_32 : decode cX9_hire 32 = .ok (.invokestatic 154, 3) := by decide +kernel
theorem dX9_hire_35 : decode cX9_hire 35 = .ok (.goto 7, 3) := by decide +kernel
theorem dX9_hire_38 : decode cX9_hire 38 = .ok (.aload_n 0, 1) := by decide +kernel
theorem dX9_hire_39 : decode cX9_hire 39 = .ok (.invokevirtual 180, 3) := by decide +kernel
theorem dX9_hire_42 : decode cX9_hire 42 = .ok (.ireturn, 1) := by decide +kernel
theorem dX9_save_0 : decode cX9_save 0 = .ok (.iconst 0, 1) := by decide +kernel
theorem dX9_save_1 : decode cX9_save 1 = .ok (.istore_n 1, 1) := by decide +kernel
theorem dX9_save_2 : decode cX9_save 2 = .ok (.iload_n 1, 1) := by decide +kernel
theorem dX9_save_3 : decode cX9_save 3 = .ok (.bipush 8, 2) := by decide +kernel
theorem dX9_save_5 : decode cX9_save 5 = .ok (.if_icmp .ge 21, 3) := by decide +kernel
theorem dX9_save_8 : decode cX9_save 8 = .ok (.aload_n 0, 1) := by decide +kernel
theorem dX9_save_9 : decode cX9_save 9 = .ok (.getfield 32, 3) := by decide +kernel
theorem dX9_save_12 : decode cX9_save 12 = .ok (.iload_n 1, 1) := by decide +kernel
theorem dX9_save_13 : decode cX9_save 13 = .ok (.aload_n 0, 1) := by decide +kernel
theorem dX9_save_14 : decode cX9_save 14 = .ok (.getfield 13, 3) := by decide +kernel
theorem dX9_save_17 : decode cX9_save 17 = .ok (.iload_n 1, 1) := by decide +kernel
theorem dX9_save_18 : decode cX9_save 18 = .ok (.iaload, 1) := by decide +kernel
theorem dX9_save_19 : decode cX9_save 19 = .ok (.iastore, 1) := by decide +kernel
theorem dX9_save_20 : decode cX9_save 20 = .ok (.iinc 1 1, 3) := by decide +kernel
theorem dX9_save_23 : decode cX9_save 23 = .ok (.goto (-21), 3) := by decide +kernel
theorem dX9_save_26 : decode cX9_save 26 = .ok (.aload_n 0, 1) := by decide +kernel
theorem dX9_save_27 : decode cX9_save 27 = .ok (.aload_n 0, 1) := by decide +kernel
theorem dX9_save_28 : decode cX9_save 28 = .ok (.getfield 89, 3) := by decide +kernel
theorem dX9_save_31 : decode cX9_save 31 = .ok (.putfield 183, 3) := by decide +kernel
theorem dX9_save_34 : decode cX9_save 34 = .ok (.aload_n 0, 1) := by decide +kernel
theorem dX9_save_35 : decode cX9_save 35 = .ok (.aload_n 0, 1) := by decide +kernel
theorem dX9_save_36 : decode cX9_save 36 = .ok (.getfield 86, 3) := by decide +kernel
theorem dX9_save_39 : decode cX9_save 39 = .ok (.putfield 186, 3) := by decide +kernel
theorem dX9_save_42 : decode cX9_save 42 = .ok (.return_, 1) := by decide +kernel
theorem dX9_load_0 : decode cX9_load 0 = .ok (.iconst 0, 1) := by decide +kernel
theorem dX9_load_1 : decode cX9_load 1 = .ok (.istore_n 1, 1) := by decide +kernel
theorem dX9_load_2 : decode cX9_load 2 = .ok (.iload_n 1, 1) := by decide +kernel
theorem dX9_load_3 : decode cX9_load 3 = .ok (.bipush 8, 2) := by decide +kernel
theorem dX9_load_5 : decode cX9_load 5 = .ok (.if_icmp .ge 21, 3) := by decide +kernel
theorem dX9_load_8 : decode cX9_load 8 = .ok (.aload_n 0, 1) := by decide +kernel
theorem dX9_load_9 : decode cX9_load 9 = .ok (.getfield 13, 3) := by decide +kernel
theorem dX9_load_12 : decode cX9_load 12 = .ok (.iload_n 1, 1) := by decide +kernel
theorem dX9_load_13 : decode cX9_load 13 = .ok (.aload_n 0, 1) := by decide +kernel
theorem dX9_load_14 : decode cX9_load 14 = .ok (.getfield 32, 3) := by decide +kernel
theorem dX9_load_17 : decode cX9_load 17 = .ok (.iload_n 1, 1) := by decide +kernel
theorem dX9_load_18 : decode cX9_load 18 = .ok (.iaload, 1) := by decide +kernel
theorem dX9_load_19 : decode cX9_load 19 = .ok (.iastore, 1) := by decide +kernel
theorem dX9_load_20 : decode cX9_load 20 = .ok (.iinc 1 1, 3) := by decide +kernel
theorem dX9_load_23 : decode cX9_load 23 = .ok (.goto (-21), 3) := by decide +kernel
theorem dX9_load_26 : decode cX9_load 26 = .ok (.aload_n 0, 1) := by decide +kernel
theorem dX9_load_27 : decode cX9_load 27 = .ok (.aload_n 0, 1) := by decide +kernel
theorem dX9_load_28 : decode cX9_load 28 = .ok (.getfield 183, 3) := by decide +kernel
theorem dX9_load_31 : decode cX9_load 31 = .ok (.putfield 89, 3) := by decide +kernel
theorem dX9_load_34 : decode cX9_load 34 = .ok (.aload_n 0, 1) := by decide +kernel
theorem dX9_load_35 : decode cX9_load 35 = .ok (.aload_n 0, 1) := by decide +kernel
theorem dX9_load_36 : decode cX9_load 36 = .ok (.getfield 186, 3) := by decide +kernel
theorem dX9_load_39 : decode cX9_load 39 = .ok (.putfield 86, 3) := by decide +kernel
theorem dX9_load_42 : decode cX9_load 42 = .ok (.return_, 1) := by decide +kernel
theorem dX9_endsNow_0 : decode cX9_endsNow 0 = .ok (.aload_n 0, 1) := by decide +kernel
theorem dX9_endsNow_1 : decode cX9_endsNow 1 = .ok (.invokevirtual 189, 3) := by decide +kernel
theorem dX9_endsNow_4 : decode cX9_endsNow 4 = .ok (.iconst 0, 1) := by decide +kernel
theorem dX9_endsNow_5 : decode cX9_endsNow 5 = .ok (.istore_n 1, 1) := by decide +kernel
theorem dX9_endsNow_6 : decode cX9_endsNow 6 = .ok (.aload_n 0, 1) := by decide +kernel
theorem dX9_endsNow_7 : decode cX9_endsNow 7 = .ok (.getfield 89, 3) := by decide +kernel
theorem dX9_endsNow_10 : decode cX9_endsNow 10 = .ok (.ifCond .eq 20, 3) := by decide +kernel
theorem dX9_endsNow_13 : decode cX9_endsNow 13 = .ok (.iload_n 1, 1) := by decide +kernel
theorem dX9_endsNow_14 : decode cX9_endsNow 14 = .ok (.bipush 60, 2) := by decide +kernel
theorem dX9_endsNow_16 : decode cX9_endsNow 16 = .ok (.if_icmp .gt 14, 3) := by decide +kernel
theorem dX9_endsNow_19 : decode cX9_endsNow 19 = .ok (.aload_n 0, 1) := by decide +kernel
theorem dX9_endsNow_20 : decode cX9_endsNow 20 = .ok (.invokevirtual 164, 3) := by decide +kernel
theorem dX9_endsNow_23 : decode cX9_endsNow 23 = .ok (.pop, 1) := by decide +kernel
theorem dX9_endsNow_24 : decode cX9_endsNow 24 = .ok (.iinc 1 1, 3) := by decide +kernel
theorem dX9_endsNow_27 : decode cX9_endsNow 27 = .ok (.goto (-21), 3) := by decide +kernel
theorem dX9_endsNow_30 : decode cX9_endsNow 30 = .ok (.aload_n 0, 1) := by decide +kernel
theorem dX9_endsNow_31 : decode cX9_endsNow 31 = .ok (.invokevirtual 192, 3) := by decide +kernel
theorem dX9_endsNow_34 : decode cX9_endsNow 34 = .ok (.iload_n 1, 1) := by decide +kernel
theorem dX9_endsNow_35 : decode cX9_endsNow 35 = .ok (.bipush 60, 2) := by decide +kernel
theorem dX9_endsNow_37 : decode cX9_endsNow 37 = .ok (.if_icmp .le 7, 3) := by decide +kernel
theorem dX9_endsNow_40 : decode cX9_endsNow 40 = .ok (.iconst (-1), 1) := by decide +kernel
theorem dX9_endsNow_41 : decode cX9_endsNow 41 = .ok (.goto 4, 3) := by decide +kernel
theorem dX9_endsNow_44 : decode cX9_endsNow 44 = .ok (.iload_n 1, 1) := by decide +kernel
theorem dX9_endsNow_45 : decode cX9_endsNow 45 = .ok (.ireturn, 1) := by decide +kernel
theorem dX9_ends_0 : decode cX9_ends 0 = .ok (.aload_n 0, 1) := by decide +kernel
theorem dX9_ends_1 : decode cX9_ends 1 = .ok (.getfield 83, 3) := by decide +kernel
theorem dX9_ends_4 : decode cX9_ends 4 = .ok (.ifCond .ne 8, 3) := by decide +kernel
theorem dX9_ends_7 : decode cX9_ends 7 = .ok (.bipush (-103), 2) := by decide +kernel
theorem dX9_ends_9 : decode cX9_ends 9 = .ok (.goto 7, 3) := by decide +kernel
theorem dX9_ends_12 : decode cX9_ends 12 = .ok (.aload_n 0, 1) := by decide +kernel
theorem dX9_ends_13 : decode cX9_ends 13 = .ok (.invokevirtual 195, 3) := by decide +kernel
theorem dX9_ends_16 : decode cX9_ends 16 = .ok (.ireturn, 1) := by decide +kernel
theorem dX9_oddsNow_0 : decode cX9_oddsNow 0 = .ok (.aload_n 0, 1) := by decide +kernel
theorem dX9_oddsNow_1 : decode cX9_oddsNow 1 = .ok (.getfield 89, 3) := by decide +kernel
theorem dX9_oddsNow_4 : decode cX9_oddsNow 4 = .ok (.iconst 1, 1) := by decide +kernel
theorem dX9_oddsNow_5 : decode cX9_oddsNow 5 = .ok (.iload_n 1, 1) := by decide +kernel
theorem dX9_oddsNow_6 : decode cX9_oddsNow 6 = .ok (.ishl, 1) := by decide +kernel
theorem dX9_oddsNow_7 : decode cX9_oddsNow 7 = .ok (.iconst (-1), 1) := by decide +kernel
theorem dX9_oddsNow_8 : decode cX9_oddsNow 8 = .ok (.ixor, 1) := by decide +kernel
theorem dX9_oddsNow_9 : decode cX9_oddsNow 9 = .ok (.iand, 1) := by decide +kernel
theorem dX9_oddsNow_10 : decode cX9_oddsNow 10 = .ok (.istore 4, 2) := by decide +kernel
theorem dX9_oddsNow_12 : decode cX9_oddsNow 12 = .ok (.iconst 1, 1) := by decide +kernel
theorem dX9_oddsNow_13 : decode cX9_oddsNow 13 = .ok (.istore 5, 2) := by decide +kernel
theorem dX9_oddsNow_15 : decode cX9_oddsNow 15 = .ok (.iconst 0, 1) := by decide +kernel
theorem dX9_oddsNow_16 : decode cX9_oddsNow 16 = .ok (.istore 6, 2) := by decide +kernel
theorem dX9_oddsNow_18 : decode cX9_oddsNow 18 = .ok (.iconst 0, 1) := by decide +kernel
theorem dX9_oddsNow_19 : decode cX9_oddsNow 19 = .ok (.istore 7, 2) := by decide +kernel
theorem dX9_oddsNow_21 : decode cX9_oddsNow 21 = .ok (.iload 7, 2) := by decide +kernel
theorem dX9_oddsNow_23 : decode cX9_oddsNow 23 = .ok (.iload 4, 2) := by decide +kernel
theorem dX9_oddsNow_25 : decode cX9_oddsNow 25 = .ok (.invokestatic 154, 3) := by decide +kernel
theorem dX9_oddsNow_28 : decode cX9_oddsNow 28 = .ok (.if_icmp .ge 16, 3) := by decide +kernel
theorem dX9_oddsNow_31 : decode cX9_oddsNow 31 = .ok (.iload 5, 2) := by decide +kernel
theorem dX9_oddsNow_33 : decode cX9_oddsNow 33 = .ok (.bipush 10, 2) := by decide +kernel
theorem dX9_oddsNow_35 : decode cX9_oddsNow 35 = .ok (.imul, 1) := by decide +kernel
theorem dX9_oddsNow_36 : decode cX9_oddsNow 36 = .ok (.istore 5, 2) := by decide +kernel
theorem dX9_oddsNow_38 : decode cX9_oddsNow 38 = .ok (.iinc 7 1, 3) := by decide +kernel
theorem dX9_oddsNow_41 : decode cX9_oddsNow 41 = .ok (.goto (-20), 3) := by decide +kernel
theorem dX9_oddsNow_44 : decode cX9_oddsNow 44 = .ok (.iconst 0, 1) := by decide +kernel
theorem dX9_oddsNow_45 : decode cX9_oddsNow 45 = .ok (.istore 7, 2) := by decide +kernel
theorem dX9_oddsNow_47 : decode cX9_oddsNow 47 = .ok (.iload 7, 2) := by decide +kernel
theorem dX9_oddsNow_49 : decode cX9_oddsNow 49 = .ok (.iload 4, 2) := by decide +kernel
theorem dX9_oddsNow_51 : decode cX9_oddsNow 51 = .ok (.if_icmp .gt 105, 3) := by decide +kernel
theorem dX9_oddsNow_54 : decode cX9_oddsNow 54 = .ok (.iload 7, 2) := by decide +kernel
theorem dX9_oddsNow_56 : decode cX9_oddsNow 56 = .ok (.iload 4, 2) := by decide +kernel
theorem dX9_oddsNow_58 : decode cX9_oddsNow 58 = .ok (.iconst (-1), 1) := by decide +kernel
theorem dX9_oddsNow_59 : decode cX9_oddsNow 59 = .ok (.ixor, 1) := by decide +kernel
theorem dX9_oddsNow_60 : decode cX9_oddsNow 60 = .ok (.iand, 1) := by decide +kernel
theorem dX9_oddsNow_61 : decode cX9_oddsNow 61 = .ok (.ifCond .ne 89, 3) := by decide +kernel
theorem dX9_oddsNow_64 : decode cX9_oddsNow 64 = .ok (.aload_n 0, 1) := by decide +kernel
theorem dX9_oddsNow_65 : decode cX9_oddsNow 65 = .ok (.iload 7, 2) := by decide +kernel
theorem dX9_oddsNow_67 : decode cX9_oddsNow 67 = .ok (.iconst 1, 1) := by decide +kernel
theorem dX9_oddsNow_68 : decode cX9_oddsNow 68 = .ok (.iload_n 1, 1) := by decide +kernel
theorem dX9_oddsNow_69 : decode cX9_oddsNow 69 = .ok (.ishl, 1) := by decide +kernel
theorem dX9_oddsNow_70 : decode cX9_oddsNow 70 = .ok (.ior, 1) := by decide +kernel
theorem dX9_oddsNow_71 : decode cX9_oddsNow 71 = .ok (.invokevirtual 167, 3) := by decide +kernel
theorem dX9_oddsNow_74 : decode cX9_oddsNow 74 = .ok (.iload_n 1, 1) := by decide +kernel
theorem dX9_oddsNow_75 : decode cX9_oddsNow 75 = .ok (.invokestatic 105, 3) := by decide +kernel
theorem dX9_oddsNow_78 : decode cX9_oddsNow 78 = .ok (.ifCond .eq 72, 3) := by decide +kernel
theorem dX9_oddsNow_81 : decode cX9_oddsNow 81 = .ok (.iconst 1, 1) := by decide +kernel
theorem dX9_oddsNow_82 : decode cX9_oddsNow 82 = .ok (.istore 8, 2) := by decide +kernel
theorem dX9_oddsNow_84 : decode cX9_oddsNow 84 = .ok (.iconst 0, 1) := by decide +kernel
theorem dX9_oddsNow_85 : decode cX9_oddsNow 85 = .ok (.istore 9, 2) := by decide +kernel
theorem dX9_oddsNow_87 : decode cX9_oddsNow 87 = .ok (.iload 9, 2) := by decide +kernel
theorem dX9_oddsNow_89 : decode cX9_oddsNow 89 = .ok (.aload_n 0, 1) := by decide +kernel
theorem dX9_oddsNow_90 : decode cX9_oddsNow 90 = .ok (.getfield 83, 3) := by decide +kernel
theorem dX9_oddsNow_93 : decode cX9_oddsNow 93 = .ok (.if_icmp .ge 50, 3) := by decide +kernel
theorem dX9_oddsNow_96 : decode cX9_oddsNow 96 = .ok (.iload 7, 2) := by decide +kernel
theorem dX9_oddsNow_98 : decode cX9_oddsNow 98 = .ok (.iload 9, 2) := by decide +kernel
theorem dX9_oddsNow_100 : decode cX9_oddsNow 100 = .ok (.invokestatic 105, 3) := by decide +kernel
theorem dX9_oddsNow_103 : decode cX9_oddsNow 103 = .ok (.ifCond .eq 10, 3) := by decide +kernel
theorem dX9_oddsNow_106 : decode cX9_oddsNow 106 = .ok (.bipush 10, 2) := by decide +kernel
theorem dX9_oddsNow_108 : decode cX9_oddsNow 108 = .ok (.iload_n 2, 1) := by decide +kernel
theorem dX9_oddsNow_109 : decode cX9_oddsNow 109 = .ok (.isub, 1) := by decide +kernel
theorem dX9_oddsNow_110 : decode cX9_oddsNow 110 = .ok (.goto 4, 3) := by decide +kernel
theorem dX9_oddsNow_113 : decode cX9_oddsNow 113 = .ok (.iload_n 2, 1) := by decide +kernel
theorem dX9_oddsNow_114 : decode cX9_oddsNow 114 = .ok (.istore 10, 2) := by decide +kernel
theorem dX9_oddsNow_116 : decode cX9_oddsNow 116 = .ok (.iload 8, 2) := by decide +kernel
theorem dX9_oddsNow_118 : decode cX9_oddsNow 118 = .ok (.iload 4, 2) := by decide +kernel
theorem dX9_oddsNow_120 : decode cX9_oddsNow 120 = .ok (.iload 9, 2) := by decide +kernel
theorem dX9_oddsNow_122 : decode cX9_oddsNow 122 = .ok (.invokestatic 105, 3) := by decide +kernel
theorem dX9_oddsNow_125 : decode cX9_oddsNow 125 = .ok (.ifCond .eq 8, 3) := by decide +kernel
theorem dX9_oddsNow_128 : decode cX9_oddsNow 128 = .ok (.iload 10, 2) := by decide +kernel
theorem dX9_oddsNow_130 : decode cX9_oddsNow 130 = .ok (.goto 4, 3) := by decide +kernel
theorem dX9_oddsNow_133 : decode cX9_oddsNow 133 = .ok (.iconst 1, 1) := by decide +kernel
theorem dX9_oddsNow_134 : decode cX9_oddsNow 134 = .ok (.imul, 1) := by decide +kernel
theorem dX9_oddsNow_135 : decode cX9_oddsNow 135 = .ok (.istore 8, 2) := by decide +kernel
theorem dX9_oddsNow_137 : decode cX9_oddsNow 137 = .ok (.iinc 9 1, 3) := by decide +kernel
theorem dX9_oddsNow_140 : decode cX9_oddsNow 140 = .ok (.goto (-53), 3) := by decide +kernel
theorem dX9_oddsNow_143 : decode cX9_oddsNow 143 = .ok (.iload 6, 2) := by decide +kernel
theorem dX9_oddsNow_145 : decode cX9_oddsNow 145 = .ok (.iload 8, 2) := by decide +kernel
theorem dX9_oddsNow_147 : decode cX9_oddsNow 147 = .ok (.iadd, 1) := by decide +kernel
theorem dX9_oddsNow_148 : decode cX9_oddsNow 148 = .ok (.istore 6, 2) := by decide +kernel
theorem dX9_oddsNow_150 : decode cX9_oddsNow 150 = .ok (.iinc 7 1, 3) := by decide +kernel
theorem dX9_oddsNow_153 : decode cX9_oddsNow 153 = .ok (.goto (-106), 3) := by decide +kernel
theorem dX9_oddsNow_156 : decode cX9_oddsNow 156 = .ok (.iload 6, 2) := by decide +kernel
theorem dX9_oddsNow_158 : decode cX9_oddsNow 158 = .ok (.iload 5, 2) := by decide +kernel
theorem dX9_oddsNow_160 : decode cX9_oddsNow 160 = .ok (.invokestatic 198, 3) := by decide +kernel
theorem dX9_oddsNow_163 : decode cX9_oddsNow 163 = .ok (.istore 7, 2) := by decide +kernel
theorem dX9_oddsNow_165 : decode cX9_oddsNow 165 = .ok (.iload_n 3, 1) := by decide +kernel
theorem dX9_oddsNow_166 : decode cX9_oddsNow 166 = .ok (.ifCond .ne 11, 3) := by decide +kernel
theorem dX9_oddsNow_169 : decode cX9_oddsNow 169 = .ok (.iload 6, 2) := by decide +kernel
theorem dX9_oddsNow_171 : decode cX9_oddsNow 171 = .ok (.iload 7, 2) := by decide +kernel
theorem dX9_oddsNow_173 : decode cX9_oddsNow 173 = .ok (.idiv, 1) := by decide +kernel
theorem dX9_oddsNow_174 : decode cX9_oddsNow 174 = .ok (.goto 8, 3) := by decide +kernel
theorem dX9_oddsNow_177 : decode cX9_oddsNow 177 = .ok (.iload 5, 2) := by decide +kernel
theorem dX9_oddsNow_179 : decode cX9_oddsNow 179 = .ok (.iload 7, 2) := by decide +kernel
theorem dX9_oddsNow_181 : decode cX9_oddsNow 181 = .ok (.idiv, 1) := by decide +kernel
theorem dX9_oddsNow_182 : decode cX9_oddsNow 182 = .ok (.ireturn, 1) := by decide +kernel
theorem dX9_odds_0 : decode cX9_odds 0 = .ok (.aload_n 0, 1) := by decide +kernel
theorem dX9_odds_1 : decode cX9_odds 1 = .ok (.iload_n 1, 1) := by decide +kernel
theorem dX9_odds_2 : decode cX9_odds 2 = .ok (.invokevirtual 144, 3) := by decide +kernel
theorem dX9_odds_5 : decode cX9_odds 5 = .ok (.ifCond .ne 6, 3) := by decide +kernel
theorem dX9_odds_8 : decode cX9_odds 8 = .ok (.bipush (-101), 2) := by decide +kernel
theorem dX9_odds_10 : decode cX9_odds 10 = .ok (.ireturn, 1) := by decide +kernel
theorem dX9_odds_11 : decode cX9_odds 11 = .ok (.iload_n 2, 1) := by decide +kernel
theorem dX9_odds_12 : decode cX9_odds 12 = .ok (.iconst 0, 1) := by decide +kernel
theorem dX9_odds_13 : decode cX9_odds 13 = .ok (.bipush 10, 2) := by decide +kernel
theorem dX9_odds_15 : decode cX9_odds 15 = .ok (.invokestatic 50, 3) := by decide +kernel
theorem dX9_odds_18 : decode cX9_odds 18 = .ok (.ifCond .eq 12, 3) := by decide +kernel
theorem dX9_odds_21 : decode cX9_odds 21 = .ok (.iload_n 3, 1) := by decide +kernel
theorem dX9_odds_22 : decode cX9_odds 22 = .ok (.iconst 0, 1) := by decide +kernel
theorem dX9_odds_23 : decode cX9_odds 23 = .ok (.iconst 1, 1) := by decide +kernel
theorem dX9_odds_24 : decode cX9_odds 24 = .ok (.invokestatic 50, 3) := by decide +kernel
theorem dX9_odds_27 : decode cX9_odds 27 = .ok (.ifCond .ne 6, 3) := by decide +kernel
theorem dX9_odds_30 : decode cX9_odds 30 = .ok (.bipush (-102), 2) := by decide +kernel
theorem dX9_odds_32 : decode cX9_odds 32 = .ok (.ireturn, 1) := by decide +kernel
theorem dX9_odds_33 : decode cX9_odds 33 = .ok (.aload_n 0, 1) := by decide +kernel
theorem dX9_odds_34 : decode cX9_odds 34 = .ok (.getfield 89, 3) := by decide +kernel
theorem dX9_odds_37 : decode cX9_odds 37 = .ok (.iload_n 1, 1) := by decide +kernel
theorem dX9_odds_38 : decode cX9_odds 38 = .ok (.invokestatic 105, 3) := by decide +kernel
theorem dX9_odds_41 : decode cX9_odds 41 = .ok (.ifCond .eq 13, 3) := by decide +kernel
theorem dX9_odds_44 : decode cX9_odds 44 = .ok (.aload_n 0, 1) := by decide +kernel
theorem dX9_odds_45 : decode cX9_odds 45 = .ok (.iload_n 1, 1) := by decide +kernel
theorem dX9_odds_46 : decode cX9_odds 46 = .ok (.iload_n 2, 1) := by decide +kernel
theorem dX9_odds_47 : decode cX9_odds 47 = .ok (.iload_n 3, 1) := by decide +kernel
theorem dX9_odds_48 : decode cX9_odds 48 = .ok (.invokevirtual 201, 3) := by decide +kernel
theorem dX9_odds_51 : decode cX9_odds 51 = .ok (.goto 5, 3) := by decide +kernel
theorem dX9_odds_54 : decode cX9_odds 54 = .ok (.bipush (-103), 2) := by decide +kernel
theorem dX9_odds_56 : decode cX9_odds 56 = .ok (.ireturn, 1) := by decide +kernel
theorem dX9_see_0 : decode cX9_see 0 = .ok (.aload_n 0, 1) := by decide +kernel
theorem dX9_see_1 : decode cX9_see 1 = .ok (.iload_n 1, 1) := by decide +kernel
theorem dX9_see_2 : decode cX9_see 2 = .ok (.invokevirtual 144, 3) := by decide +kernel
theorem dX9_see_5 : decode cX9_see 5 = .ok (.ifCond .ne 6, 3) := by decide +kernel
theorem dX9_see_8 : decode cX9_see 8 = .ok (.bipush (-101), 2) := by decide +kernel
theorem dX9_see_10 : decode cX9_see 10 = .ok (.ireturn, 1) := by decide +kernel
theorem dX9_see_11 : decode cX9_see 11 = .ok (.iload_n 2, 1) := by decide +kernel
theorem dX9_see_12 : decode cX9_see 12 = .ok (.iconst 0, 1) := by decide +kernel
theorem dX9_see_13 : decode cX9_see 13 = .ok (.bipush 16, 2) := by decide +kernel
theorem dX9_see_15 : decode cX9_see 15 = .ok (.invokestatic 50, 3) := by decide +kernel
theorem dX9_see_18 : decode cX9_see 18 = .ok (.ifCond .ne 6, 3) := by decide +kernel
theorem dX9_see_21 : decode cX9_see 21 = .ok (.bipush (-102), 2) := by decide +kernel
theorem dX9_see_23 : decode cX9_see 23 = .ok (.ireturn, 1) := by decide +kernel
theorem dX9_see_24 : decode cX9_see 24 = .ok (.aload_n 0, 1) := by decide +kernel
theorem dX9_see_25 : decode cX9_see 25 = .ok (.getfield 98, 3) := by decide +kernel
theorem dX9_see_28 : decode cX9_see 28 = .ok (.bipush 6, 2) := by decide +kernel
theorem dX9_see_30 : decode cX9_see 30 = .ok (.if_icmp .ne 6, 3) := by decide +kernel
theorem dX9_see_33 : decode cX9_see 33 = .ok (.bipush (-104), 2) := by decide +kernel
theorem dX9_see_35 : decode cX9_see 35 = .ok (.ireturn, 1) := by decide +kernel
theorem dX9_see_36 : decode cX9_see 36 = .ok (.aload_n 0, 1) := by decide +kernel
theorem dX9_see_37 : decode cX9_see 37 = .ok (.getfield 19, 3) := by decide +kernel
theorem dX9_see_40 : decode cX9_see 40 = .ok (.aload_n 0, 1) := by decide +kernel
theorem dX9_see_41 : decode cX9_see 41 = .ok (.getfield 98, 3) := by decide +kernel
theorem dX9_see_44 : decode cX9_see 44 = .ok (.iload_n 1, 1) := by decide +kernel
theorem dX9_see_45 : decode cX9_see 45 = .ok (.iastore, 1) := by decide +kernel
theorem dX9_see_46 : decode cX9_see 46 = .ok (.aload_n 0, 1) := by decide +kernel
theorem dX9_see_47 : decode cX9_see 47 = .ok (.getfield 22, 3) := by decide +kernel
theorem dX9_see_50 : decode cX9_see 50 = .ok (.aload_n 0, 1) := by decide +kernel
theorem dX9_see_51 : decode cX9_see 51 = .ok (.getfield 98, 3) := by decide +kernel
theorem dX9_see_54 : decode cX9_see 54 = .ok (.iload_n 2, 1) := by decide +kernel
theorem dX9_see_55 : decode cX9_see 55 = .ok (.iastore, 1) := by decide +kernel
theorem dX9_see_56 : decode cX9_see 56 = .ok (.aload_n 0, 1) := by decide +kernel
theorem dX9_see_57 : decode cX9_see 57 = .ok (.getfield 25, 3) := by decide +kernel
theorem dX9_see_60 : decode cX9_see 60 = .ok (.aload_n 0, 1) := by decide +kernel
theorem dX9_see_61 : decode cX9_see 61 = .ok (.getfield 98, 3) := by decide +kernel
theorem dX9_see_64 : decode cX9_see 64 = .ok (.iload_n 3, 1) := by decide +kernel
theorem dX9_see_65 : decode cX9_see 65 = .ok (.ifCond .eq 7, 3) := by decide +kernel
theorem dX9_see_68 : decode cX9_see 68 = .ok (.iconst 1, 1) := by decide +kernel
theorem dX9_see_69 : decode cX9_see 69 = .ok (.goto 4, 3) := by decide +kernel
theorem dX9_see_72 : decode cX9_see 72 = .ok (.iconst 0, 1) := by decide +kernel
theorem dX9_see_73 : decode cX9_see 73 = .ok (.iastore, 1) := by decide +kernel
theorem dX9_see_74 : decode cX9_see 74 = .ok (.aload_n 0, 1) := by decide +kernel
theorem dX9_see_75 : decode cX9_see 75 = .ok (.dup, 1) := by decide +kernel
theorem dX9_see_76 : decode cX9_see 76 = .ok (.getfield 98, 3) := by decide +kernel
theorem dX9_see_79 : decode cX9_see 79 = .ok (.iconst 1, 1) := by decide +kernel
theorem dX9_see_80 : decode cX9_see 80 = .ok (.iadd, 1) := by decide +kernel
theorem dX9_see_81 : decode cX9_see 81 = .ok (.putfield 98, 3) := by decide +kernel
theorem dX9_see_84 : decode cX9_see 84 = .ok (.aload_n 0, 1) := by decide +kernel
theorem dX9_see_85 : decode cX9_see 85 = .ok (.getfield 98, 3) := by decide +kernel
theorem dX9_see_88 : decode cX9_see 88 = .ok (.ireturn, 1) := by decide +kernel
theorem dX9_forget_0 : decode cX9_forget 0 = .ok (.aload_n 0, 1) := by decide +kernel
theorem dX9_forget_1 : decode cX9_forget 1 = .ok (.getfield 98, 3) := by decide +kernel
theorem dX9_forget_4 : decode cX9_forget 4 = .ok (.istore_n 1, 1) := by decide +kernel
theorem dX9_forget_5 : decode cX9_forget 5 = .ok (.aload_n 0, 1) := by decide +kernel
theorem dX9_forget_6 : decode cX9_forget 6 = .ok (.iconst 0, 1) := by decide +kernel
theorem dX9_forget_7 : decode cX9_forget 7 = .ok (.putfield 98, 3) := by decide +kernel
theorem dX9_forget_10 : decode cX9_forget 10 = .ok (.iload_n 1, 1) := by decide +kernel
theorem dX9_forget_11 : decode cX9_forget 11 = .ok (.ireturn, 1) := by decide +kernel
theorem dX9_wouldGo_0 : decode cX9_wouldGo 0 = .ok (.aload_n 0, 1) := by decide +kernel
theorem dX9_wouldGo_1 : decode cX9_wouldGo 1 = .ok (.getfield 7, 3) := by decide +kernel
theorem dX9_wouldGo_4 : decode cX9_wouldGo 4 = .ok (.iload_n 1, 1) := by decide +kernel
theorem dX9_wouldGo_5 : decode cX9_wouldGo 5 = .ok (.iaload, 1) := by decide +kernel
theorem dX9_wouldGo_6 : decode cX9_wouldGo 6 = .ok (.iload_n 2, 1) := by decide +kernel
theorem dX9_wouldGo_7 : decode cX9_wouldGo 7 = .ok (.invokestatic 101, 3) := by decide +kernel
theorem dX9_wouldGo_10 : decode cX9_wouldGo 10 = .ok (.iload_n 3, 1) := by decide +kernel
theorem dX9_wouldGo_11 : decode cX9_wouldGo 11 = .ok (.if_icmp .gt 7, 3) := by decide +kernel
theorem dX9_wouldGo_14 : decode cX9_wouldGo 14 = .ok (.iconst 1, 1) := by decide +kernel
theorem dX9_wouldGo_15 : decode cX9_wouldGo 15 = .ok (.goto 4, 3) := by decide +kernel
theorem dX9_wouldGo_18 : decode cX9_wouldGo 18 = .ok (.iconst 0, 1) := by decide +kernel
theorem dX9_wouldGo_19 : decode cX9_wouldGo 19 = .ok (.ireturn, 1) := by decide +kernel
theorem dX9_shynessOf_0 : decode cX9_shynessOf 0 = .ok (.iconst 0, 1) := by decide +kernel
theorem dX9_shynessOf_1 : decode cX9_shynessOf 1 = .ok (.istore_n 2, 1) := by decide +kernel
theorem dX9_shynessOf_2 : decode cX9_shynessOf 2 = .ok (.iconst 0, 1) := by decide +kernel
theorem dX9_shynessOf_3 : decode cX9_shynessOf 3 = .ok (.istore_n 3, 1) := by decide +kernel
theorem dX9_shynessOf_4 : decode cX9_shynessOf 4 = .ok (.iload_n 3, 1) := by decide +kernel
theorem dX9_shynessOf_5 : decode cX9_shynessOf 5 = .ok (.bipush 9, 2) := by decide +kernel
theorem dX9_shynessOf_7 : decode cX9_shynessOf 7 = .ok (.if_icmp .gt 100, 3) := by decide +kernel
theorem dX9_shynessOf_10 : decode cX9_shynessOf 10 = .ok (.iconst 1, 1) := by decide +kernel
theorem dX9_shynessOf_11 : decode cX9_shynessOf 11 = .ok (.istore 4, 2) := by decide +kernel
theorem dX9_shynessOf_13 : decode cX9_shynessOf 13 = .ok (.iconst 0, 1) := by decide +kernel
theorem dX9_shynessOf_14 : decode cX9_shynessOf 14 = .ok (.istore 5, 2) := by decide +kernel
theorem dX9_shynessOf_16 : decode cX9_shynessOf 16 = .ok (.iload 5, 2) := by decide +kernel
theorem dX9_shynessOf_18 : decode cX9_shynessOf 18 = .ok (.aload_n 0, 1) := by decide +kernel
theorem dX9_shynessOf_19 : decode cX9_shynessOf 19 = .ok (.getfield 98, 3) := by decide +kernel
theorem dX9_shynessOf_22 : decode cX9_shynessOf 22 = .ok (.if_icmp .ge 64, 3) := by decide +kernel
theorem dX9_shynessOf_25 : decode cX9_shynessOf 25 = .ok (.iload 4, 2) := by decide +kernel
theorem dX9_shynessOf_27 : decode cX9_shynessOf 27 = .ok (.ifCond .eq 50, 3) := by decide +kernel
theorem dX9_shynessOf_30 : decode cX9_shynessOf 30 = .ok (.aload_n 0, 1) := by decide +kernel
theorem dX9_shynessOf_31 : decode cX9_shynessOf 31 = .ok (.getfield 19, 3) := by decide +kernel
theorem dX9_shynessOf_34 : decode cX9_shynessOf 34 = .ok (.iload 5, 2) := by decide +kernel
theorem dX9_shynessOf_36 : decode cX9_shynessOf 36 = .ok (.iaload, 1) := by decide +kernel
theorem dX9_shynessOf_37 : decode cX9_shynessOf 37 = .ok (.iload_n 1, 1) := by decide +kernel
theorem dX9_shynessOf_38 : decode cX9_shynessOf 38 = .ok (.if_icmp .ne 35, 3) := by decide +kernel
theorem dX9_shynessOf_41 : decode cX9_shynessOf 41 = .ok (.aload_n 0, 1) := by decide +kernel
theorem dX9_shynessOf_42 : decode cX9_shynessOf 42 = .ok (.iload_n 1, 1) := by decide +kernel
theorem dX9_shynessOf_43 : decode cX9_shynessOf 43 = .ok (.iload_n 3, 1) := by decide +kernel
theorem dX9_shynessOf_44 : decode cX9_shynessOf 44 = .ok (.aload_n 0, 1) := by decide +kernel
theorem dX9_shynessOf_45 : decode cX9_shynessOf 45 = .ok (.getfield 22, 3) := by decide +kernel
theorem dX9_shynessOf_48 : decode cX9_shynessOf 48 = .ok (.iload 5, 2) := by decide +kernel
theorem dX9_shynessOf_50 : decode cX9_shynessOf 50 = .ok (.iaload, 1) := by decide +kernel
theorem dX9_shynessOf_51 : decode cX9_shynessOf 51 = .ok (.invokevirtual 205, 3) := by decide +kernel
theorem dX9_shynessOf_54 : decode cX9_shynessOf 54 = .ok (.aload_n 0, 1) := by decide +kernel
theorem dX9_shynessOf_55 : decode cX9_shynessOf 55 = .ok (.getfield 25, 3) := by decide +kernel
theorem dX9_shynessOf_58 : decode cX9_shynessOf 58 = .ok (.iload 5, 2) := by decide +kernel
theorem dX9_shynessOf_60 : decode cX9_shynessOf 60 = .ok (.iaload, 1) := by decide +kernel
theorem dX9_shynessOf_61 : decode cX9_shynessOf 61 = .ok (.iconst 1, 1) := by decide +kernel
theorem dX9_shynessOf_62 : decode cX9_shynessOf 62 = .ok (.if_icmp .ne 7, 3) := by decide +kernel
theorem dX9_shynessOf_65 : decode cX9_shynessOf 65 = .ok (.iconst 1, 1) := by decide +kernel
theorem dX9_shynessOf_66 : decode cX9_shynessOf 66 = .ok (.goto 4, 3) := by decide +kernel
theorem dX9_shynessOf_69 : decode cX9_shynessOf 69 = .ok (.iconst 0, 1) := by decide +kernel
theorem dX9_shynessOf_70 : decode cX9_shynessOf 70 = .ok (.if_icmp .ne 7, 3) := by decide +kernel
theorem dX9_shynessOf_73 : decode cX9_shynessOf 73 = .ok (.iconst 1, 1) := by decide +kernel
theorem dX9_shynessOf_74 : decode cX9_shynessOf 74 = .ok (.goto 4, 3) := by decide +kernel
theorem dX9_shynessOf_77 : decode cX9_shynessOf 77 = .ok (.iconst 0, 1) := by decide +kernel
theorem dX9_shynessOf_78 : decode cX9_shynessOf 78 = .ok (.istore 4, 2) := by decide +kernel
theorem dX9_shynessOf_80 : decode cX9_shynessOf 80 = .ok (.iinc 5 1, 3) := by decide +kernel
theorem dX9_shynessOf_83 : decode cX9_shynessOf 83 = .ok (.goto (-67), 3) := by decide +kernel
theorem dX9_shynessOf_86 : decode cX9_shynessOf 86 = .ok (.iload_n 2, 1) := by decide +kernel
theorem dX9_shynessOf_87 : decode cX9_shynessOf 87 = .ok (.iload 4, 2) := by decide +kernel
theorem dX9_shynessOf_89 : decode cX9_shynessOf 89 = .ok (.ifCond .eq 9, 3) := by decide +kernel
theorem dX9_shynessOf_92 : decode cX9_shynessOf 92 = .ok (.iconst 1, 1) := by decide +kernel
theorem dX9_shynessOf_93 : decode cX9_shynessOf 93 = .ok (.iload_n 3, 1) := by decide +kernel
theorem dX9_shynessOf_94 : decode cX9_shynessOf 94 = .ok (.ishl, 1) := by decide +kernel
theorem dX9_shynessOf_95 : decode cX9_shynessOf 95 = .ok (.goto 4, 3) := by decide +kernel
theorem dX9_shynessOf_98 : decode cX9_shynessOf 98 = .ok (.iconst 0, 1) := by decide +kernel
theorem dX9_shynessOf_99 : decode cX9_shynessOf 99 = .ok (.ior, 1) := by decide +kernel
theorem dX9_shynessOf_100 : decode cX9_shynessOf 100 = .ok (.istore_n 2, 1) := by decide +kernel
theorem dX9_shynessOf_101 : decode cX9_shynessOf 101 = .ok (.iinc 3 1, 3) := by decide +kernel
theorem dX9_shynessOf_104 : decode cX9_shynessOf 104 = .ok (.goto (-100), 3) := by decide +kernel
theorem dX9_shynessOf_107 : decode cX9_shynessOf 107 = .ok (.iload_n 2, 1) := by decide +kernel
theorem dX9_shynessOf_108 : decode cX9_shynessOf 108 = .ok (.ireturn, 1) := by decide +kernel
theorem dX9_askOf_0 : decode cX9_askOf 0 = .ok (.aload_n 0, 1) := by decide +kernel
theorem dX9_askOf_1 : decode cX9_askOf 1 = .ok (.iload_n 1, 1) := by decide +kernel
theorem dX9_askOf_2 : decode cX9_askOf 2 = .ok (.invokevirtual 135, 3) := by decide +kernel
theorem dX9_askOf_5 : decode cX9_askOf 5 = .ok (.istore_n 2, 1) := by decide +kernel
theorem dX9_askOf_6 : decode cX9_askOf 6 = .ok (.iconst (-1), 1) := by decide +kernel
theorem dX9_askOf_7 : decode cX9_askOf 7 = .ok (.istore_n 3, 1) := by decide +kernel
theorem dX9_askOf_8 : decode cX9_askOf 8 = .ok (.ldc 173, 2) := by decide +kernel
theorem dX9_askOf_10 : decode cX9_askOf 10 = .ok (.istore 4, 2) := by decide +kernel
theorem dX9_askOf_12 : decode cX9_askOf 12 = .ok (.iconst 0, 1) := by decide +kernel
theorem dX9_askOf_13 : decode cX9_askOf 13 = .ok (.istore 5, 2) := by decide +kernel
theorem dX9_askOf_15 : decode cX9_askOf 15 = .ok (.iload 5, 2) := by decide +kernel
theorem dX9_askOf_17 : decode cX9_askOf 17 = .ok (.bipush 16, 2) := by decide +kernel
theorem dX9_askOf_19 : decode cX9_askOf 19 = .ok (.if_icmp .gt 118, 3) := by decide +kernel
theorem dX9_askOf_22 : decode cX9_askOf 22 = .ok (.iload_n 2, 1) := by decide +kernel
theorem dX9_askOf_23 : decode cX9_askOf 23 = .ok (.ifCond .eq 114, 3) := by decide +kernel
theorem dX9_askOf_26 : decode cX9_askOf 26 = .ok (.iconst 0, 1) := by decide +kernel
theorem dX9_askOf_27 : decode cX9_askOf 27 = .ok (.istore 6, 2) := by decide +kernel
theorem dX9_askOf_29 : decode cX9_askOf 29 = .ok (.iconst 0, 1) := by decide +kernel
theorem dX9_askOf_30 : decode cX9_askOf 30 = .ok (.istore 7, 2) := by decide +kernel
theorem dX9_askOf_32 : decode cX9_askOf 32 = .ok (.iload 7, 2) := by decide +kernel
theorem dX9_askOf_34 : decode cX9_askOf 34 = .ok (.bipush 9, 2) := by decide +kernel
theorem dX9_askOf_36 : decode cX9_askOf 36 = .ok (.if_icmp .gt 40, 3) := by decide +kernel
theorem dX9_askOf_39 : decode cX9_askOf 39 = .ok (.iload 6, 2) := by decide +kernel
theorem dX9_askOf_41 : decode cX9_askOf 41 = .ok (.iload_n 2, 1) := by decide +kernel
theorem dX9_askOf_42 : decode cX9_askOf 42 = .ok (.iload 7, 2) := by decide +kernel
theorem dX9_askOf_44 : decode cX9_askOf 44 = .ok (.invokestatic 105, 3) := by decide +kernel
theorem dX9_askOf_47 : decode cX9_askOf 47 = .ok (.ifCond .eq 19, 3) := by decide +kernel
theorem dX9_askOf_50 : decode cX9_askOf 50 = .ok (.aload_n 0, 1) := by decide +kernel
theorem dX9_askOf_51 : decode cX9_askOf 51 = .ok (.iload_n 1, 1) := by decide +kernel
theorem dX9_askOf_52 : decode cX9_askOf 52 = .ok (.iload 7, 2) := by decide +kernel
theorem dX9_askOf_54 : decode cX9_askOf 54 = .ok (.iload 5, 2) := by decide +kernel
theorem dX9_askOf_56 : decode cX9_askOf 56 = .ok (.invokevirtual 205, 3) := by decide +kernel
theorem dX9_askOf_59 : decode cX9_askOf 59 = .ok (.ifCond .eq 7, 3) := by decide +kernel
theorem dX9_askOf_62 : decode cX9_askOf 62 = .ok (.iconst 1, 1) := by decide +kernel
theorem dX9_askOf_63 : decode cX9_askOf 63 = .ok (.goto 4, 3) := by decide +kernel
theorem dX9_askOf_66 : decode cX9_askOf 66 = .ok (.iconst 0, 1) := by decide +kernel
theorem dX9_askOf_67 : decode cX9_askOf 67 = .ok (.iadd, 1) := by decide +kernel
theorem dX9_askOf_68 : decode cX9_askOf 68 = .ok (.istore 6, 2) := by decide +kernel
theorem dX9_askOf_70 : decode cX9_askOf 70 = .ok (.iinc 7 1, 3) := by decide +kernel
theorem dX9_askOf_73 : decode cX9_askOf 73 = .ok (.goto (-41), 3) := by decide +kernel
theorem dX9_askOf_76 : decode cX9_askOf 76 = .ok (.iload_n 2, 1) := by decide +kernel
theorem dX9_askOf_77 : decode cX9_askOf 77 = .ok (.invokestatic 154, 3) := by decide +kernel
theorem dX9_askOf_80 : decode cX9_askOf 80 = .ok (.iload 6, 2) := by decide +kernel
theorem dX9_askOf_82 : decode cX9_askOf 82 = .ok (.isub, 1) := by decide +kernel
theorem dX9_askOf_83 : decode cX9_askOf 83 = .ok (.istore 7, 2) := by decide +kernel
theorem dX9_askOf_85 : decode cX9_askOf 85 = .ok (.iload 6, 2) := by decide +kernel
theorem dX9_askOf_87 : decode cX9_askOf 87 = .ok (.iload 7, 2) := by decide +kernel
theorem dX9_askOf_89 : decode cX9_askOf 89 = .ok (.if_icmp .le 8, 3) := by decide +kernel
theorem dX9_askOf_92 : decode cX9_askOf 92 = .ok (.iload 6, 2) := by decide +kernel
theorem dX9_askOf_94 : decode cX9_askOf 94 = .ok (.goto 5, 3) := by decide +kernel
theorem dX9_askOf_97 : decode cX9_askOf 97 = .ok (.iload 7, 2) := by decide +kernel
theorem dX9_askOf_99 : decode cX9_askOf 99 = .ok (.istore 8, 2) := by decide +kernel
theorem dX9_askOf_101 : decode cX9_askOf 101 = .ok (.iload 8, 2) := by decide +kernel
theorem dX9_askOf_103 : decode cX9_askOf 103 = .ok (.iload 4, 2) := by decide +kernel
theorem dX9_askOf_105 : decode cX9_askOf 105 = .ok (.if_icmp .ge 8, 3) := by decide +kernel
theorem dX9_askOf_108 : decode cX9_askOf 108 = .ok (.iload 5, 2) := by decide +kernel
theorem dX9_askOf_110 : decode cX9_askOf 110 = .ok (.goto 4, 3) := by decide +kernel
theorem dX9_askOf_113 : decode cX9_askOf 113 = .ok (.iload_n 3, 1) := by decide +kernel
theorem dX9_askOf_114 : decode cX9_askOf 114 = .ok (.istore_n 3, 1) := by decide +kernel
theorem dX9_askOf_115 : decode cX9_askOf 115 = .ok (.iload 8, 2) := by decide +kernel
theorem dX9_askOf_117 : decode cX9_askOf 117 = .ok (.iload 4, 2) := by decide +kernel
theorem dX9_askOf_119 : decode cX9_askOf 119 = .ok (.if_icmp .ge 8, 3) := by decide +kernel
theorem dX9_askOf_122 : decode cX9_askOf 122 = .ok (.iload 8, 2) := by decide +kernel
theorem dX9_askOf_124 : decode cX9_askOf 124 = .ok (.goto 5, 3) := by decide +kernel
theorem dX9_askOf_127 : decode cX9_askOf 127 = .ok (.iload 4, 2) := by decide +kernel
theorem dX9_askOf_129 : decode cX9_askOf 129 = .ok (.istore 4, 2) := by decide +kernel
theorem dX9_askOf_131 : decode cX9_askOf 131 = .ok (.iinc 5 1, 3) := by decide +kernel
theorem dX9_askOf_134 : decode cX9_askOf 134 = .ok (.goto (-119), 3) := by decide +kernel
theorem dX9_askOf_137 : decode cX9_askOf 137 = .ok (.iload_n 3, 1) := by decide +kernel
theorem dX9_askOf_138 : decode cX9_askOf 138 = .ok (.ireturn, 1) := by decide +kernel
theorem dX9_draw_0 : decode cX9_draw 0 = .ok (.aload_n 0, 1) := by decide +kernel
theorem dX9_draw_1 : decode cX9_draw 1 = .ok (.ldc2_w 208, 3) := by decide +kernel
theorem dX9_draw_4 : decode cX9_draw 4 = .ok (.aload_n 0, 1) := by decide +kernel
theorem dX9_draw_5 : decode cX9_draw 5 = .ok (.getfield 210, 3) := by decide +kernel
theorem dX9_draw_8 : decode cX9_draw 8 = .ok (.lmul, 1) := by decide +kernel
theorem dX9_draw_9 : decode cX9_draw 9 = .ok (.ldc2_w 214, 3) := by decide +kernel
theorem dX9_draw_12 : decode cX9_draw 12 = .ok (.ladd, 1) := by decide +kernel
theorem dX9_draw_13 : decode cX9_draw 13 = .ok (.ldc2_w 216, 3) := by decide +kernel
theorem dX9_draw_16 : decode cX9_draw 16 = .ok (.land, 1) := by decide +kernel
theorem dX9_draw_17 : decode cX9_draw 17 = .ok (.putfield 210, 3) := by decide +kernel
theorem dX9_draw_20 : decode cX9_draw 20 = .ok (.aload_n 0, 1) := by decide +kernel
theorem dX9_draw_21 : decode cX9_draw 21 = .ok (.getfield 210, 3) := by decide +kernel
theorem dX9_draw_24 : decode cX9_draw 24 = .ok (.ldc2_w 218, 3) := by decide +kernel
theorem dX9_draw_27 : decode cX9_draw 27 = .ok (.ldiv, 1) := by decide +kernel
theorem dX9_draw_28 : decode cX9_draw 28 = .ok (.iload_n 1, 1) := by decide +kernel
theorem dX9_draw_29 : decode cX9_draw 29 = .ok (.i2l, 1) := by decide +kernel
theorem dX9_draw_30 : decode cX9_draw 30 = .ok (.lrem, 1) := by decide +kernel
theorem dX9_draw_31 : decode cX9_draw 31 = .ok (.l2i, 1) := by decide +kernel
theorem dX9_draw_32 : decode cX9_draw 32 = .ok (.ireturn, 1) := by decide +kernel
theorem dX9_goNight_0 : decode cX9_goNight 0 = .ok (.aload_n 0, 1) := by decide +kernel
theorem dX9_goNight_1 : decode cX9_goNight 1 = .ok (.iconst 3, 1) := by decide +kernel
theorem dX9_goNight_2 : decode cX9_goNight 2 = .ok (.invokevirtual 220, 3) := by decide +kernel
theorem dX9_goNight_5 : decode cX9_goNight 5 = .ok (.ifCond .ne 31, 3) := by decide +kernel
theorem dX9_goNight_8 : decode cX9_goNight 8 = .ok (.aload_n 0, 1) := by decide +kernel
theorem dX9_goNight_9 : decode cX9_goNight 9 = .ok (.aload_n 0, 1) := by decide +kernel
theorem dX9_goNight_10 : decode cX9_goNight 10 = .ok (.getfield 83, 3) := by decide +kernel
theorem dX9_goNight_13 : decode cX9_goNight 13 = .ok (.invokevirtual 220, 3) := by decide +kernel
theorem dX9_goNight_16 : decode cX9_goNight 16 = .ok (.istore_n 1, 1) := by decide +kernel
theorem dX9_goNight_17 : decode cX9_goNight 17 = .ok (.aload_n 0, 1) := by decide +kernel
theorem dX9_goNight_18 : decode cX9_goNight 18 = .ok (.getfield 89, 3) := by decide +kernel
theorem dX9_goNight_21 : decode cX9_goNight 21 = .ok (.iload_n 1, 1) := by decide +kernel
theorem dX9_goNight_22 : decode cX9_goNight 22 = .ok (.invokestatic 105, 3) := by decide +kernel
theorem dX9_goNight_25 : decode cX9_goNight 25 = .ok (.ifCond .eq 8, 3) := by decide +kernel
theorem dX9_goNight_28 : decode cX9_goNight 28 = .ok (.aload_n 0, 1) := by decide +kernel
theorem dX9_goNight_29 : decode cX9_goNight 29 = .ok (.iload_n 1, 1) := by decide +kernel
theorem dX9_goNight_30 : decode cX9_goNight 30 = .ok (.invokevirtual 157, 3) := by decide +kernel
theorem dX9_goNight_33 : decode cX9_goNight 33 = .ok (.goto 8, 3) := by decide +kernel
theorem dX9_goNight_36 : decode cX9_goNight 36 = .ok (.aload_n 0, 1) := by decide +kernel
theorem dX9_goNight_37 : decode cX9_goNight 37 = .ok (.invokevirtual 164, 3) := by decide +kernel
theorem dX9_goNight_40 : decode cX9_goNight 40 = .ok (.pop, 1) := by decide +kernel
theorem dX9_goNight_41 : decode cX9_goNight 41 = .ok (.return_, 1) := by decide +kernel
theorem dX9_nightsNow_0 : decode cX9_nightsNow 0 = .ok (.aload_n 0, 1) := by decide +kernel
theorem dX9_nightsNow_1 : decode cX9_nightsNow 1 = .ok (.invokevirtual 189, 3) := by decide +kernel
theorem dX9_nightsNow_4 : decode cX9_nightsNow 4 = .ok (.aload_n 0, 1) := by decide +kernel
theorem dX9_nightsNow_5 : decode cX9_nightsNow 5 = .ok (.iload_n 2, 1) := by decide +kernel
theorem dX9_nightsNow_6 : decode cX9_nightsNow 6 = .ok (.i2l, 1) := by decide +kernel
theorem dX9_nightsNow_7 : decode cX9_nightsNow 7 = .ok (.putfield 210, 3) := by decide +kernel
theorem dX9_nightsNow_10 : decode cX9_nightsNow 10 = .ok (.iconst 0, 1) := by decide +kernel
theorem dX9_nightsNow_11 : decode cX9_nightsNow 11 = .ok (.istore 4, 2) := by decide +kernel
theorem dX9_nightsNow_13 : decode cX9_nightsNow 13 = .ok (.iload 4, 2) := by decide +kernel
theorem dX9_nightsNow_15 : decode cX9_nightsNow 15 = .ok (.iload_n 1, 1) := by decide +kernel
theorem dX9_nightsNow_16 : decode cX9_nightsNow 16 = .ok (.if_icmp .ge 13, 3) := by decide +kernel
theorem dX9_nightsNow_19 : decode cX9_nightsNow 19 = .ok (.aload_n 0, 1) := by decide +kernel
theorem dX9_nightsNow_20 : decode cX9_nightsNow 20 = .ok (.invokevirtual 223, 3) := by decide +kernel
theorem dX9_nightsNow_23 : decode cX9_nightsNow 23 = .ok (.iinc 4 1, 3) := by decide +kernel
theorem dX9_nightsNow_26 : decode cX9_nightsNow 26 = .ok (.goto (-13), 3) := by decide +kernel
theorem dX9_nightsNow_29 : decode cX9_nightsNow 29 = .ok (.iload_n 3, 1) := by decide +kernel
theorem dX9_nightsNow_30 : decode cX9_nightsNow 30 = .ok (.ifCond .ne 13, 3) := by decide +kernel
theorem dX9_nightsNow_33 : decode cX9_nightsNow 33 = .ok (.aload_n 0, 1) := by decide +kernel
theorem dX9_nightsNow_34 : decode cX9_nightsNow 34 = .ok (.invokevirtual 114, 3) := by decide +kernel
theorem dX9_nightsNow_37 : decode cX9_nightsNow 37 = .ok (.invokestatic 154, 3) := by decide +kernel
theorem dX9_nightsNow_40 : decode cX9_nightsNow 40 = .ok (.goto 20, 3) := by decide +kernel
theorem dX9_nightsNow_43 : decode cX9_nightsNow 43 = .ok (.iload_n 3, 1) := by decide +kernel
theorem dX9_nightsNow_44 : decode cX9_nightsNow 44 = .ok (.iconst 1, 1) := by decide +kernel
theorem dX9_nightsNow_45 : decode cX9_nightsNow 45 = .ok (.if_icmp .ne 10, 3) := by decide +kernel
theorem dX9_nightsNow_48 : decode cX9_nightsNow 48 = .ok (.aload_n 0, 1) := by decide +kernel
theorem dX9_nightsNow_49 : decode cX9_nightsNow 49 = .ok (.getfield 86, 3) := by decide +kernel
theorem dX9_nightsNow_52 : decode cX9_nightsNow 52 = .ok (.goto 8, 3) := by decide +kernel
theorem dX9_nightsNow_55 : decode cX9_nightsNow 55 = .ok (.aload_n 0, 1) := by decide +kernel
theorem dX9_nightsNow_56 : decode cX9_nightsNow 56 = .ok (.getfield 210, 3) := by decide +kernel
theorem dX9_nightsNow_59 : decode cX9_nightsNow 59 = .ok (.l2i, 1) := by decide +kernel
theorem dX9_nightsNow_60 : decode cX9_nightsNow 60 = .ok (.istore 4, 2) := by decide +kernel
theorem dX9_nightsNow_62 : decode cX9_nightsNow 62 = .ok (.aload_n 0, 1) := by decide +kernel
theorem dX9_nightsNow_63 : decode cX9_nightsNow 63 = .ok (.invokevirtual 192, 3) := by decide +kernel
theorem dX9_nightsNow_66 : decode cX9_nightsNow 66 = .ok (.iload 4, 2) := by decide +kernel
theorem dX9_nightsNow_68 : decode cX9_nightsNow 68 = .ok (.ireturn, 1) := by decide +kernel
theorem dX9_nights_0 : decode cX9_nights 0 = .ok (.iload_n 1, 1) := by decide +kernel
theorem dX9_nights_1 : decode cX9_nights 1 = .ok (.iconst 1, 1) := by decide +kernel
theorem dX9_nights_2 : decode cX9_nights 2 = .ok (.bipush 60, 2) := by decide +kernel
theorem dX9_nights_4 : decode cX9_nights 4 = .ok (.invokestatic 50, 3) := by decide +kernel
theorem dX9_nights_7 : decode cX9_nights 7 = .ok (.ifCond .eq 16, 3) := by decide +kernel
theorem dX9_nights_10 : decode cX9_nights 10 = .ok (.iload_n 2, 1) := by decide +kernel
theorem dX9_nights_11 : decode cX9_nights 11 = .ok (.ifCond .lt 12, 3) := by decide +kernel
theorem dX9_nights_14 : decode cX9_nights 14 = .ok (.iload_n 3, 1) := by decide +kernel
theorem dX9_nights_15 : decode cX9_nights 15 = .ok (.iconst 0, 1) := by decide +kernel
theorem dX9_nights_16 : decode cX9_nights 16 = .ok (.iconst 2, 1) := by decide +kernel
theorem dX9_nights_17 : decode cX9_nights 17 = .ok (.invokestatic 50, 3) := by decide +kernel
theorem dX9_nights_20 : decode cX9_nights 20 = .ok (.ifCond .ne 6, 3) := by decide +kernel
theorem dX9_nights_23 : decode cX9_nights 23 = .ok (.bipush (-102), 2) := by decide +kernel
theorem dX9_nights_25 : decode cX9_nights 25 = .ok (.ireturn, 1) := by decide +kernel
theorem dX9_nights_26 : decode cX9_nights 26 = .ok (.aload_n 0, 1) := by decide +kernel
theorem dX9_nights_27 : decode cX9_nights 27 = .ok (.getfield 83, 3) := by decide +kernel
theorem dX9_nights_30 : decode cX9_nights 30 = .ok (.ifCond .ne 8, 3) := by decide +kernel
theorem dX9_nights_33 : decode cX9_nights 33 = .ok (.bipush (-103), 2) := by decide +kernel
theorem dX9_nights_35 : decode cX9_nights 35 = .ok (.goto 10, 3) := by decide +kernel
theorem dX9_nights_38 : decode cX9_nights 38 = .ok (.aload_n 0, 1) := by decide +kernel
theorem dX9_nights_39 : decode cX9_nights 39 = .ok (.iload_n 1, 1) := by decide +kernel
theorem dX9_nights_40 : decode cX9_nights 40 = .ok (.iload_n 2, 1) := by decide +kernel
theorem dX9_nights_41 : decode cX9_nights 41 = .ok (.iload_n 3, 1) := by decide +kernel
theorem dX9_nights_42 : decode cX9_nights 42 = .ok (.invokevirtual 226, 3) := by decide +kernel
theorem dX9_nights_45 : decode cX9_nights 45 = .ok (.ireturn, 1) := by decide +kernel
theorem dX9_image_0 : decode cX9_image 0 = .ok (.aload_n 0, 1) := by decide +kernel
theorem dX9_image_1 : decode cX9_image 1 = .ok (.getfield 83, 3) := by decide +kernel
theorem dX9_image_4 : decode cX9_image 4 = .ok (.ifCond .ne 6, 3) := by decide +kernel
theorem dX9_image_7 : decode cX9_image 7 = .ok (.bipush (-103), 2) := by decide +kernel
theorem dX9_image_9 : decode cX9_image 9 = .ok (.ireturn, 1) := by decide +kernel
theorem dX9_image_10 : decode cX9_image 10 = .ok (.aload_n 0, 1) := by decide +kernel
theorem dX9_image_11 : decode cX9_image 11 = .ok (.iconst 1, 1) := by decide +kernel
theorem dX9_image_12 : decode cX9_image 12 = .ok (.putfield 229, 3) := by decide +kernel
theorem dX9_image_15 : decode cX9_image 15 = .ok (.aload_n 0, 1) := by decide +kernel
theorem dX9_image_16 : decode cX9_image 16 = .ok (.aload_n 0, 1) := by decide +kernel
theorem dX9_image_17 : decode cX9_image 17 = .ok (.getfield 95, 3) := by decide +kernel
theorem dX9_image_20 : decode cX9_image 20 = .ok (.putfield 232, 3) := by decide +kernel
theorem dX9_image_23 : decode cX9_image 23 = .ok (.aload_n 0, 1) := by decide +kernel
theorem dX9_image_24 : decode cX9_image 24 = .ok (.aload_n 0, 1) := by decide +kernel
theorem dX9_image_25 : decode cX9_image 25 = .ok (.getfield 86, 3) := by decide +kernel
theorem dX9_image_28 : decode cX9_image 28 = .ok (.putfield 235, 3) := by decide +kernel
theorem dX9_image_31 : decode cX9_image 31 = .ok (.aload_n 0, 1) := by decide +kernel
theorem dX9_image_32 : decode cX9_image 32 = .ok (.aload_n 0, 1) := by decide +kernel
theorem dX9_image_33 : decode cX9_image 33 = .ok (.getfield 92, 3) := by decide +kernel
theorem dX9_image_36 : decode cX9_image 36 = .ok (.putfield 238, 3) := by decide +kernel
theorem dX9_image_39 : decode cX9_image 39 = .ok (.aload_n 0, 1) := by decide +kernel
theorem dX9_image_40 : decode cX9_image 40 = .ok (.aload_n 0, 1) := by decide +kernel
theorem dX9_image_41 : decode cX9_image 41 = .ok (.getfield 89, 3) := by decide +kernel
theorem dX9_image_44 : decode cX9_image 44 = .ok (.putfield 241, 3) := by decide +kernel
theorem dX9_image_47 : decode cX9_image 47 = .ok (.aload_n 0, 1) := by decide +kernel
theorem dX9_image_48 : decode cX9_image 48 = .ok (.aload_n 0, 1) := by decide +kernel
theorem dX9_image_49 : decode cX9_image 49 = .ok (.getfield 98, 3) := by decide +kernel
theorem dX9_image_52 : decode cX9_image 52 = .ok (.putfield 244, 3) := by decide +kernel
theorem dX9_image_55 : decode cX9_image 55 = .ok (.iconst 0, 1) := by decide +kernel
theorem dX9_image_56 : decode cX9_image 56 = .ok (.istore_n 1, 1) := by decide +kernel
theorem dX9_image_57 : decode cX9_image 57 = .ok (.iload_n 1, 1) := by decide +kernel
theorem dX9_image_58 : decode cX9_image 58 = .ok (.bipush 8, 2) := by decide +kernel
theorem dX9_image_60 : decode cX9_image 60 = .ok (.if_icmp .ge 33, 3) := by decide +kernel
theorem dX9_image_63 : decode cX9_image 63 = .ok (.aload_n 0, 1) := by decide +kernel
theorem dX9_image_64 : decode cX9_image 64 = .ok (.getfield 35, 3) := by decide +kernel
theorem dX9_image_67 : decode cX9_image 67 = .ok (.iload_n 1, 1) := by decide +kernel
theorem dX9_image_68 : decode cX9_image 68 = .ok (.aload_n 0, 1) := by decide +kernel
theorem dX9_image_69 : decode cX9_image 69 = .ok (.getfield 7, 3) := by decide +kernel
theorem dX9_image_72 : decode cX9_image 72 = .ok (.iload_n 1, 1) := by decide +kernel
theorem dX9_image_73 : decode cX9_image 73 = .ok (.iaload, 1) := by decide +kernel
theorem dX9_image_74 : decode cX9_image 74 = .ok (.iastore, 1) := by decide +kernel
theorem dX9_image_75 : decode cX9_image 75 = .ok (.aload_n 0, 1) := by decide +kernel
theorem dX9_image_76 : decode cX9_image 76 = .ok (.getfield 38, 3) := by decide +kernel
theorem dX9_image_79 : decode cX9_image 79 = .ok (.iload_n 1, 1) := by decide +kernel
theorem dX9_image_80 : decode cX9_image 80 = .ok (.aload_n 0, 1) := by decide +kernel
theorem dX9_image_81 : decode cX9_image 81 = .ok (.getfield 13, 3) := by decide +kernel
theorem dX9_image_84 : decode cX9_image 84 = .ok (.iload_n 1, 1) := by decide +kernel
theorem dX9_image_85 : decode cX9_image 85 = .ok (.iaload, 1) := by decide +kernel
theorem dX9_image_86 : decode cX9_image 86 = .ok (.iastore, 1) := by decide +kernel
theorem dX9_image_87 : decode cX9_image 87 = .ok (.iinc 1 1, 3) := by decide +kernel
theorem dX9_image_90 : decode cX9_image 90 = .ok (.goto (-33), 3) := by decide +kernel
theorem dX9_image_93 : decode cX9_image 93 = .ok (.iconst 0, 1) := by decide +kernel
theorem dX9_image_94 : decode cX9_image 94 = .ok (.istore_n 1, 1) := by decide +kernel
theorem dX9_image_95 : decode cX9_image 95 = .ok (.iload_n 1, 1) := by decide +kernel
theorem dX9_image_96 : decode cX9_image 96 = .ok (.bipush 6, 2) := by decide +kernel
theorem dX9_image_98 : decode cX9_image 98 = .ok (.if_icmp .ge 45, 3) := by decide +kernel
theorem dX9_image_101 : decode cX9_image 101 = .ok (.aload_n 0, 1) := by decide +kernel
theorem dX9_image_102 : decode cX9_image 102 = .ok (.getfield 41, 3) := by decide +kernel
theorem dX9_image_105 : decode cX9_image 105 = .ok (.iload_n 1, 1) := by decide +kernel
theorem dX9_image_106 : decode cX9_image 106 = .ok (.aload_n 0, 1) := by decide +kernel
theorem dX9_image_107 : decode cX9_image 107 = .ok (.getfield 19, 3) := by decide +kernel
theorem dX9_image_110 : decode cX9_image 110 = .ok (.iload_n 1, 1) := by decide +kernel
theorem dX9_image_111 : decode cX9_image 111 = .ok (.iaload, 1) := by decide +kernel
theorem dX9_image_112 : decode cX9_image 112 = .ok (.iastore, 1) := by decide +kernel
theorem dX9_image_113 : decode cX9_image 113 = .ok (.aload_n 0, 1) := by decide +kernel
theorem dX9_image_114 : decode cX9_image 114 = .ok (.getfield 44, 3) := by decide +kernel
theorem dX9_image_117 : decode cX9_image 117 = .ok (.iload_n 1, 1) := by decide +kernel
theorem dX9_image_118 : decode cX9_image 118 = .ok (.aload_n 0, 1) := by decide +kernel
theorem dX9_image_119 : decode cX9_image 119 = .ok (.getfield 22, 3) := by decide +kernel
theorem dX9_image_122 : decode cX9_image 122 = .ok (.iload_n 1, 1) := by decide +kernel
theorem dX9_image_123 : decode cX9_image 123 = .ok (.iaload, 1) := by decide +kernel
theorem dX9_image_124 : decode cX9_image 124 = .ok (.iastore, 1) := by decide +kernel
theorem dX9_image_125 : decode cX9_image 125 = .ok (.aload_n 0, 1) := by decide +kernel
theorem dX9_image_126 : decode cX9_image 126 = .ok (.getfield 47, 3) := by decide +kernel
theorem dX9_image_129 : decode cX9_image 129 = .ok (.iload_n 1, 1) := by decide +kernel
theorem dX9_image_130 : decode cX9_image 130 = .ok (.aload_n 0, 1) := by decide +kernel
theorem dX9_image_131 : decode cX9_image 131 = .ok (.getfield 25, 3) := by decide +kernel
theorem dX9_image_134 : decode cX9_image 134 = .ok (.iload_n 1, 1) := by decide +kernel
theorem dX9_image_135 : decode cX9_image 135 = .ok (.iaload, 1) := by decide +kernel
theorem dX9_image_136 : decode cX9_image 136 = .ok (.iastore, 1) := by decide +kernel
theorem dX9_image_137 : decode cX9_image 137 = .ok (.iinc 1 1, 3) := by decide +kernel
theorem dX9_image_140 : decode cX9_image 140 = .ok (.goto (-45), 3) := by decide +kernel
theorem dX9_image_143 : decode cX9_image 143 = .ok (.aload_n 0, 1) := by decide +kernel
theorem dX9_image_144 : decode cX9_image 144 = .ok (.getfield 92, 3) := by decide +kernel
theorem dX9_image_147 : decode cX9_image 147 = .ok (.ireturn, 1) := by decide +kernel
theorem dX9_restore_0 : decode cX9_restore 0 = .ok (.aload_n 0, 1) := by decide +kernel
theorem dX9_restore_1 : decode cX9_restore 1 = .ok (.getfield 229, 3) := by decide +kernel
theorem dX9_restore_4 : decode cX9_restore 4 = .ok (.ifCond .eq 14, 3) := by decide +kernel
theorem dX9_restore_7 : decode cX9_restore 7 = .ok (.aload_n 0, 1) := by decide +kernel
theorem dX9_restore_8 : decode cX9_restore 8 = .ok (.getfield 232, 3) := by decide +kernel
theorem dX9_restore_11 : decode cX9_restore 11 = .ok (.aload_n 0, 1) := by decide +kernel
theorem dX9_restore_12 : decode cX9_restore 12 = .ok (.getfield 95, 3) := by decide +kernel
theorem dX9_restore_15 : decode cX9_restore 15 = .ok (.if_icmp .eq 6, 3) := by decide +kernel
theorem dX9_restore_18 : decode cX9_restore 18 = .ok (.bipush (-103), 2) := by decide +kernel
theorem dX9_restore_20 : decode cX9_restore 20 = .ok (.ireturn, 1) := by decide +kernel
theorem dX9_restore_21 : decode cX9_restore 21 = .ok (.aload_n 0, 1) := by decide +kernel
theorem dX9_restore_22 : decode cX9_restore 22 = .ok (.aload_n 0, 1) := by decide +kernel
theorem dX9_restore_23 : decode cX9_restore 23 = .ok (.getfield 235, 3) := by decide +kernel
theorem dX9_restore_26 : decode cX9_restore 26 = .ok (.putfield 86, 3) := by decide +kernel
theorem dX9_restore_29 : decode cX9_restore 29 = .ok (.aload_n 0, 1) := by decide +kernel
theorem dX9_restore_30 : decode cX9_restore 30 = .ok (.aload_n 0, 1) := by decide +kernel
theorem dX9_restore_31 : decode cX9_restore 31 = .ok (.getfield 238, 3) := by decide +kernel
theorem dX9_restore_34 : decode cX9_restore 34 = .ok (.putfield 92, 3) := by decide +kernel
theorem dX9_restore_37 : decode cX9_restore 37 = .ok (.aload_n 0, 1) := by decide +kernel
theorem dX9_restore_38 : decode cX9_restore 38 = .ok (.aload_n 0, 1) := by decide +kernel
theorem dX9_restore_39 : decode cX9_restore 39 = .ok (.getfield 241, 3) := by decide +kernel
theorem dX9_restore_42 : decode cX9_restore 42 = .ok (.putfield 89, 3) := by decide +kernel
theorem dX9_restore_45 : decode cX9_restore 45 = .ok (.aload_n 0, 1) := by decide +kernel
theorem dX9_restore_46 : decode cX9_restore 46 = .ok (.aload_n 0, 1) := by decide +kernel
theorem dX9_restore_47 : decode cX9_restore 47 = .ok (.getfield 244, 3) := by decide +kernel
theorem dX9_restore_50 : decode cX9_restore 50 = .ok (.putfield 98, 3) := by decide +kernel
theorem dX9_restore_53 : decode cX9_restore 53 = .ok (.iconst 0, 1) := by decide +kernel
theorem dX9_restore_54 : decode cX9_restore 54 = .ok (.istore_n 1, 1) := by decide +kernel
theorem dX9_restore_55 : decode cX9_restore 55 = .ok (.iload_n 1, 1) := by decide +kernel
theorem dX9_restore_56 : decode cX9_restore 56 = .ok (.bipush 8, 2) := by decide +kernel
theorem dX9_restore_58 : decode cX9_restore 58 = .ok (.if_icmp .ge 33, 3) := by decide +kernel
theorem dX9_restore_61 : decode cX9_restore 61 = .ok (.aload_n 0, 1) := by decide +kernel
theorem dX9_restore_62 : decode cX9_restore 62 = .ok (.getfield 7, 3) := by decide +kernel
theorem dX9_restore_65 : decode cX9_restore 65 = .ok (.iload_n 1, 1) := by decide +kernel
theorem dX9_restore_66 : decode cX9_restore 66 = .ok (.aload_n 0, 1) := by decide +kernel
theorem dX9_restore_67 : decode cX9_restore 67 = .ok (.getfield 35, 3) := by decide +kernel
theorem dX9_restore_70 : decode cX9_restore 70 = .ok (.iload_n 1, 1) := by decide +kernel
theorem dX9_restore_71 : decode cX9_restore 71 = .ok (.iaload, 1) := by decide +kernel
theorem dX9_restore_72 : decode cX9_restore 72 = .ok (.iastore, 1) := by decide +kernel
theorem dX9_restore_73 : decode cX9_restore 73 = .ok (.aload_n 0, 1) := by decide +kernel
theorem dX9_restore_74 : decode cX9_restore 74 = .ok (.getfield 13, 3) := by decide +kernel
theorem dX9_restore_77 : decode cX9_restore 77 = .ok (.iload_n 1, 1) := by decide +kernel
theorem dX9_restore_78 : decode cX9_restore 78 = .ok (.aload_n 0, 1) := by decide +kernel
theorem dX9_restore_79 : decode cX9_restore 79 = .ok (.getfield 38, 3) := by decide +kernel
theorem dX9_restore_82 : decode cX9_restore 82 = .ok (.iload_n 1, 1) := by decide +kernel
theorem dX9_restore_83 : decode cX9_restore 83 = .ok (.iaload, 1) := by decide +kernel
theorem dX9_restore_84 : decode cX9_restore 84 = .ok (.iastore, 1) := by decide +kernel
theorem dX9_restore_85 : decode cX9_restore 85 = .ok (.iinc 1 1, 3) := by decide +kernel
theorem dX9_restore_88 : decode cX9_restore 88 = .ok (.goto (-33), 3) := by decide +kernel
theorem dX9_restore_91 : decode cX9_restore 91 = .ok (.iconst 0, 1) := by decide +kernel
theorem dX9_restore_92 : decode cX9_restore 92 = .ok (.istore_n 1, 1) := by decide +kernel
theorem dX9_restore_93 : decode cX9_restore 93 = .ok (.iload_n 1, 1) := by decide +kernel
theorem dX9_restore_94 : decode cX9_restore 94 = .ok (.bipush 6, 2) := by decide +kernel
theorem dX9_restore_96 : decode cX9_restore 96 = .ok (.if_icmp .ge 45, 3) := by decide +kernel
theorem dX9_restore_99 : decode cX9_restore 99 = .ok (.aload_n 0, 1) := by decide +kernel
theorem dX9_restore_100 : decode cX9_restore 100 = .ok (.getfield 19, 3) := by decide +kernel
theorem dX9_restore_103 : decode cX9_restore 103 = .ok (.iload_n 1, 1) := by decide +kernel
theorem dX9_restore_104 : decode cX9_restore 104 = .ok (.aload_n 0, 1) := by decide +kernel
theorem dX9_restore_105 : decode cX9_restore 105 = .ok (.getfield 41, 3) := by decide +kernel
theorem dX9_restore_108 : decode cX9_restore 108 = .ok (.iload_n 1, 1) := by decide +kernel
theorem dX9_restore_109 : decode cX9_restore 109 = .ok (.iaload, 1) := by decide +kernel
theorem dX9_restore_110 : decode cX9_restore 110 = .ok (.iastore, 1) := by decide +kernel
theorem dX9_restore_111 : decode cX9_restore 111 = .ok (.aload_n 0, 1) := by decide +kernel
theorem dX9_restore_112 : decode cX9_restore 112 = .ok (.getfield 22, 3) := by decide +kernel
theorem dX9_restore_115 : decode cX9_restore 115 = .ok (.iload_n 1, 1) := by decide +kernel
theorem dX9_restore_116 : decode cX9_restore 116 = .ok (.aload_n 0, 1) := by decide +kernel
theorem dX9_restore_117 : decode cX9_restore 117 = .ok (.getfield 44, 3) := by decide +kernel
theorem dX9_restore_120 : decode cX9_restore 120 = .ok (.iload_n 1, 1) := by decide +kernel
theorem dX9_restore_121 : decode cX9_restore 121 = .ok (.iaload, 1) := by decide +kernel
theorem dX9_restore_122 : decode cX9_restore 122 = .ok (.iastore, 1) := by decide +kernel
theorem dX9_restore_123 : decode cX9_restore 123 = .ok (.aload_n 0, 1) := by decide +kernel
theorem dX9_restore_124 : decode cX9_restore 124 = .ok (.getfield 25, 3) := by decide +kernel
theorem dX9_restore_127 : decode cX9_restore 127 = .ok (.iload_n 1, 1) := by decide +kernel
theorem dX9_restore_128 : decode cX9_restore 128 = .ok (.aload_n 0, 1) := by decide +kernel
theorem dX9_restore_129 : decode cX9_restore 129 = .ok (.getfield 47, 3) := by decide +kernel
theorem dX9_restore_132 : decode cX9_restore 132 = .ok (.iload_n 1, 1) := by decide +kernel
theorem dX9_restore_133 : decode cX9_restore 133 = .ok (.iaload, 1) := by decide +kernel
theorem dX9_restore_134 : decode cX9_restore 134 = .ok (.iastore, 1) := by decide +kernel
theorem dX9_restore_135 : decode cX9_restore 135 = .ok (.iinc 1 1, 3) := by decide +kernel
theorem dX9_restore_138 : decode cX9_restore 138 = .ok (.goto (-45), 3) := by decide +kernel
theorem dX9_restore_141 : decode cX9_restore 141 = .ok (.aload_n 0, 1) := by decide +kernel
theorem dX9_restore_142 : decode cX9_restore 142 = .ok (.getfield 92, 3) := by decide +kernel
theorem dX9_restore_145 : decode cX9_restore 145 = .ok (.ireturn, 1) := by decide +kernel
theorem dX9_shyAll_0 : decode cX9_shyAll 0 = .ok (.iconst 0, 1) := by decide +kernel
theorem dX9_shyAll_1 : decode cX9_shyAll 1 = .ok (.istore_n 1, 1) := by decide +kernel
theorem dX9_shyAll_2 : decode cX9_shyAll 2 = .ok (.iconst 0, 1) := by decide +kernel
theorem dX9_shyAll_3 : decode cX9_shyAll 3 = .ok (.istore_n 2, 1) := by decide +kernel
theorem dX9_shyAll_4 : decode cX9_shyAll 4 = .ok (.iload_n 2, 1) := by decide +kernel
theorem dX9_shyAll_5 : decode cX9_shyAll 5 = .ok (.aload_n 0, 1) := by decide +kernel
theorem dX9_shyAll_6 : decode cX9_shyAll 6 = .ok (.getfield 83, 3) := by decide +kernel
theorem dX9_shyAll_9 : decode cX9_shyAll 9 = .ok (.if_icmp .ge 33, 3) := by decide +kernel
theorem dX9_shyAll_12 : decode cX9_shyAll 12 = .ok (.iload_n 1, 1) := by decide +kernel
theorem dX9_shyAll_13 : decode cX9_shyAll 13 = .ok (.aload_n 0, 1) := by decide +kernel
theorem dX9_shyAll_14 : decode cX9_shyAll 14 = .ok (.getfield 89, 3) := by decide +kernel
theorem dX9_shyAll_17 : decode cX9_shyAll 17 = .ok (.iload_n 2, 1) := by decide +kernel
theorem dX9_shyAll_18 : decode cX9_shyAll 18 = .ok (.invokestatic 105, 3) := by decide +kernel
theorem dX9_shyAll_21 : decode cX9_shyAll 21 = .ok (.ifCond .eq 12, 3) := by decide +kernel
theorem dX9_shyAll_24 : decode cX9_shyAll 24 = .ok (.aload_n 0, 1) := by decide +kernel
theorem dX9_shyAll_25 : decode cX9_shyAll 25 = .ok (.getfield 13, 3) := by decide +kernel
theorem dX9_shyAll_28 : decode cX9_shyAll 28 = .ok (.iload_n 2, 1) := by decide +kernel
theorem dX9_shyAll_29 : decode cX9_shyAll 29 = .ok (.iaload, 1) := by decide +kernel
theorem dX9_shyAll_30 : decode cX9_shyAll 30 = .ok (.goto 4, 3) := by decide +kernel
theorem dX9_shyAll_33 : decode cX9_shyAll 33 = .ok (.iconst 0, 1) := by decide +kernel
theorem dX9_shyAll_34 : decode cX9_shyAll 34 = .ok (.iadd, 1) := by decide +kernel
theorem dX9_shyAll_35 : decode cX9_shyAll 35 = .ok (.istore_n 1, 1) := by decide +kernel
theorem dX9_shyAll_36 : decode cX9_shyAll 36 = .ok (.iinc 2 1, 3) := by decide +kernel
theorem dX9_shyAll_39 : decode cX9_shyAll 39 = .ok (.goto (-35), 3) := by decide +kernel
theorem dX9_shyAll_42 : decode cX9_shyAll 42 = .ok (.iload_n 1, 1) := by decide +kernel
theorem dX9_shyAll_43 : decode cX9_shyAll 43 = .ok (.ireturn, 1) := by decide +kernel
theorem dX9_alone_0 : decode cX9_alone 0 = .ok (.iconst 0, 1) := by decide +kernel
theorem dX9_alone_1 : decode cX9_alone 1 = .ok (.istore_n 1, 1) := by decide +kernel
theorem dX9_alone_2 : decode cX9_alone 2 = .ok (.iconst 0, 1) := by decide +kernel
theorem dX9_alone_3 : decode cX9_alone 3 = .ok (.istore_n 2, 1) := by decide +kernel
theorem dX9_alone_4 : decode cX9_alone 4 = .ok (.iload_n 2, 1) := by decide +kernel
theorem dX9_alone_5 : decode cX9_alone 5 = .ok (.aload_n 0, 1) := by decide +kernel
theorem dX9_alone_6 : decode cX9_alone 6 = .ok (.getfield 83, 3) := by decide +kernel
theorem dX9_alone_9 : decode cX9_alone 9 = .ok (.if_icmp .ge 39, 3) := by decide +kernel
theorem dX9_alone_12 : decode cX9_alone 12 = .ok (.iload_n 1, 1) := by decide +kernel
theorem dX9_alone_13 : decode cX9_alone 13 = .ok (.aload_n 0, 1) := by decide +kernel
theorem dX9_alone_14 : decode cX9_alone 14 = .ok (.getfield 89, 3) := by decide +kernel
theorem dX9_alone_17 : decode cX9_alone 17 = .ok (.iload_n 2, 1) := by decide +kernel
theorem dX9_alone_18 : decode cX9_alone 18 = .ok (.invokestatic 105, 3) := by decide +kernel
theorem dX9_alone_21 : decode cX9_alone 21 = .ok (.ifCond .eq 18, 3) := by decide +kernel
theorem dX9_alone_24 : decode cX9_alone 24 = .ok (.aload_n 0, 1) := by decide +kernel
theorem dX9_alone_25 : decode cX9_alone 25 = .ok (.iload_n 2, 1) := by decide +kernel
theorem dX9_alone_26 : decode cX9_alone 26 = .ok (.iconst 1, 1) := by decide +kernel
theorem dX9_alone_27 : decode cX9_alone 27 = .ok (.iload_n 2, 1) := by decide +kernel
theorem dX9_alone_28 : decode cX9_alone 28 = .ok (.ishl, 1) := by decide +kernel
theorem dX9_alone_29 : decode cX9_alone 29 = .ok (.invokevirtual 129, 3) := by decide +kernel
theorem dX9_alone_32 : decode cX9_alone 32 = .ok (.ifCond .eq 7, 3) := by decide +kernel
theorem dX9_alone_35 : decode cX9_alone 35 = .ok (.iconst 1, 1) := by decide +kernel
theorem dX9_alone_36 : decode cX9_alone 36 = .ok (.goto 4, 3) := by decide +kernel
theorem dX9_alone_39 : decode cX9_alone 39 = .ok (.iconst 0, 1) := by decide +kernel
theorem dX9_alone_40 : decode cX9_alone 40 = .ok (.iadd, 1) := by decide +kernel
theorem dX9_alone_41 : decode cX9_alone 41 = .ok (.istore_n 1, 1) := by decide +kernel
theorem dX9_alone_42 : decode cX9_alone 42 = .ok (.iinc 2 1, 3) := by decide +kernel
theorem dX9_alone_45 : decode cX9_alone 45 = .ok (.goto (-41), 3) := by decide +kernel
theorem dX9_alone_48 : decode cX9_alone 48 = .ok (.iload_n 1, 1) := by decide +kernel
theorem dX9_alone_49 : decode cX9_alone 49 = .ok (.ireturn, 1) := by decide +kernel
theorem dX9_howMany_0 : decode cX9_howMany 0 = .ok (.iload_n 1, 1) := by decide +kernel
theorem dX9_howMany_1 : decode cX9_howMany 1 = .ok (.tableswitch 112 0 9 #[55, 60, 68, 73, 78, 83, 92, 97, 102, 107], 55) := by decide +kernel
theorem dX9_howMany_56 : decode cX9_howMany 56 = .ok (.aload_n 0, 1) := by decide +kernel
theorem dX9_howMany_57 : decode cX9_howMany 57 = .ok (.getfield 83, 3) := by decide +kernel
theorem dX9_howMany_60 : decode cX9_howMany 60 = .ok (.ireturn, 1) := by decide +kernel
theorem dX9_howMany_61 : decode cX9_howMany 61 = .ok (.aload_n 0, 1) := by decide +kernel
theorem dX9_howMany_62 : decode cX9_howMany 62 = .ok (.getfield 89, 3) := by decide +kernel
theorem dX9_howMany_65 : decode cX9_howMany 65 = .ok (.invokestatic 154, 3) := by decide +kernel
theorem dX9_howMany_68 : decode cX9_howMany 68 = .ok (.ireturn, 1) := by decide +kernel
theorem dX9_howMany_69 : decode cX9_howMany 69 = .ok (.aload_n 0, 1) := by decide +kernel
theorem dX9_howMany_70 : decode cX9_howMany 70 = .ok (.getfield 86, 3) := by decide +kernel
theorem dX9_howMany_73 : decode cX9_howMany 73 = .ok (.ireturn, 1) := by decide +kernel
theorem dX9_howMany_74 : decode cX9_howMany 74 = .ok (.aload_n 0, 1) := by decide +kernel
theorem dX9_howMany_75 : decode cX9_howMany 75 = .ok (.getfield 92, 3) := by decide +kernel
theorem dX9_howMany_78 : decode cX9_howMany 78 = .ok (.ireturn, 1) := by decide +kernel
theorem dX9_howMany_79 : decode cX9_howMany 79 = .ok (.aload_n 0, 1) := by decide +kernel
theorem dX9_howMany_80 : decode cX9_howMany 80 = .ok (.invokevirtual 247, 3) := by decide +kernel
theorem dX9_howMany_83 : decode cX9_howMany 83 = .ok (.ireturn, 1) := by decide +kernel
theorem dX9_howMany_84 : decode cX9_howMany 84 = .ok (.aload_n 0, 1) := by decide +kernel
theorem dX9_howMany_85 : decode cX9_howMany 85 = .ok (.aload_n 0, 1) := by decide +kernel
theorem dX9_howMany_86 : decode cX9_howMany 86 = .ok (.invokevirtual 114, 3) := by decide +kernel
theorem dX9_howMany_89 : decode cX9_howMany 89 = .ok (.invokevirtual 117, 3) := by decide +kernel
theorem dX9_howMany_92 : decode cX9_howMany 92 = .ok (.ireturn, 1) := by decide +kernel
theorem dX9_howMany_93 : decode cX9_howMany 93 = .ok (.aload_n 0, 1) := by decide +kernel
theorem dX9_howMany_94 : decode cX9_howMany 94 = .ok (.invokevirtual 250, 3) := by decide +kernel
theorem dX9_howMany_97 : decode cX9_howMany 97 = .ok (.ireturn, 1) := by decide +kernel
theorem dX9_howMany_98 : decode cX9_howMany 98 = .ok (.aload_n 0, 1) := by decide +kernel
theorem dX9_howMany_99 : decode cX9_howMany 99 = .ok (.getfield 98, 3) := by decide +kernel
theorem dX9_howMany_102 : decode cX9_howMany 102 = .ok (.ireturn, 1) := by decide +kernel
theorem dX9_howMany_103 : decode cX9_howMany 103 = .ok (.aload_n 0, 1) := by decide +kernel
theorem dX9_howMany_104 : decode cX9_howMany 104 = .ok (.getfield 54, 3) := by decide +kernel
theorem dX9_howMany_107 : decode cX9_howMany 107 = .ok (.ireturn, 1) := by decide +kernel
theorem dX9_howMany_108 : decode cX9_howMany 108 = .ok (.aload_n 0, 1) := by decide +kernel
theorem dX9_howMany_109 : decode cX9_howMany 109 = .ok (.getfield 95, 3) := by decide +kernel
theorem dX9_howMany_112 : decode cX9_howMany 112 = .ok (.ireturn, 1) := by decide +kernel
theorem dX9_howMany_113 : decode cX9_howMany 113 = .ok (.bipush (-102), 2) := by decide +kernel
theorem dX9_howMany_115 : decode cX9_howMany 115 = .ok (.ireturn, 1) := by decide +kernel
theorem dX9_count_0 : decode cX9_count 0 = .ok (.aload_n 0, 1) := by decide +kernel
theorem dX9_count_1 : decode cX9_count 1 = .ok (.iload_n 1, 1) := by decide +kernel
theorem dX9_count_2 : decode cX9_count 2 = .ok (.invokevirtual 253, 3) := by decide +kernel
theorem dX9_count_5 : decode cX9_count 5 = .ok (.ireturn, 1) := by decide +kernel
theorem dX9_mix_0 : decode cX9_mix 0 = .ok (.aload_n 0, 1) := by decide +kernel
theorem dX9_mix_1 : decode cX9_mix 1 = .ok (.ldc2_w 256, 3) := by decide +kernel
theorem dX9_mix_4 : decode cX9_mix 4 = .ok (.aload_n 0, 1) := by decide +kernel
theorem dX9_mix_5 : decode cX9_mix 5 = .ok (.getfield 258, 3) := by decide +kernel
theorem dX9_mix_8 : decode cX9_mix 8 = .ok (.lmul, 1) := by decide +kernel
theorem dX9_mix_9 : decode cX9_mix 9 = .ok (.lload_n 1, 1) := by decide +kernel
theorem dX9_mix_10 : decode cX9_mix 10 = .ok (.ladd, 1) := by decide +kernel
theorem dX9_mix_11 : decode cX9_mix 11 = .ok (.putfield 258, 3) := by decide +kernel
theorem dX9_mix_14 : decode cX9_mix 14 = .ok (.return_, 1) := by decide +kernel
theorem dX9_mixParty_0 : decode cX9_mixParty 0 = .ok (.aload_n 0, 1) := by decide +kernel
theorem dX9_mixParty_1 : decode cX9_mixParty 1 = .ok (.aload_n 0, 1) := by decide +kernel
theorem dX9_mixParty_2 : decode cX9_mixParty 2 = .ok (.aload_n 0, 1) := by decide +kernel
theorem dX9_mixParty_3 : decode cX9_mixParty 3 = .ok (.getfield 89, 3) := by decide +kernel
theorem dX9_mixParty_6 : decode cX9_mixParty 6 = .ok (.invokevirtual 167, 3) := by decide +kernel
theorem dX9_mixParty_9 : decode cX9_mixParty 9 = .ok (.i2l, 1) := by decide +kernel
theorem dX9_mixParty_10 : decode cX9_mixParty 10 = .ok (.invokevirtual 261, 3) := by decide +kernel
theorem dX9_mixParty_13 : decode cX9_mixParty 13 = .ok (.aload_n 0, 1) := by decide +kernel
theorem dX9_mixParty_14 : decode cX9_mixParty 14 = .ok (.aload_n 0, 1) := by decide +kernel
theorem dX9_mixParty_15 : decode cX9_mixParty 15 = .ok (.invokevirtual 170, 3) := by decide +kernel
theorem dX9_mixParty_18 : decode cX9_mixParty 18 = .ok (.i2l, 1) := by decide +kernel
theorem dX9_mixParty_19 : decode cX9_mixParty 19 = .ok (.invokevirtual 261, 3) := by decide +kernel
theorem dX9_mixParty_22 : decode cX9_mixParty 22 = .ok (.aload_n 0, 1) := by decide +kernel
theorem dX9_mixParty_23 : decode cX9_mixParty 23 = .ok (.aload_n 0, 1) := by decide +kernel
theorem dX9_mixParty_24 : decode cX9_mixParty 24 = .ok (.invokevirtual 180, 3) := by decide +kernel
theorem dX9_mixParty_27 : decode cX9_mixParty 27 = .ok (.invokestatic 154, 3) := by decide +kernel
theorem dX9_mixParty_30 : decode cX9_mixParty 30 = .ok (.i2l, 1) := by decide +kernel
theorem dX9_mixParty_31 : decode cX9_mixParty 31 = .ok (.invokevirtual 261, 3) := by decide +kernel
theorem dX9_mixParty_34 : decode cX9_mixParty 34 = .ok (.aload_n 0, 1) := by decide +kernel
theorem dX9_mixParty_35 : decode cX9_mixParty 35 = .ok (.aload_n 0, 1) := by decide +kernel
theorem dX9_mixParty_36 : decode cX9_mixParty 36 = .ok (.invokevirtual 180, 3) := by decide +kernel
theorem dX9_mixParty_39 : decode cX9_mixParty 39 = .ok (.i2l, 1) := by decide +kernel
theorem dX9_mixParty_40 : decode cX9_mixParty 40 = .ok (.invokevirtual 261, 3) := by decide +kernel
theorem dX9_mixParty_43 : decode cX9_mixParty 43 = .ok (.aload_n 0, 1) := by decide +kernel
theorem dX9_mixParty_44 : decode cX9_mixParty 44 = .ok (.aload_n 0, 1) := by decide +kernel
theorem dX9_mixParty_45 : decode cX9_mixParty 45 = .ok (.invokevirtual 195, 3) := by decide +kernel
theorem dX9_mixParty_48 : decode cX9_mixParty 48 = .ok (.i2l, 1) := by decide +kernel
theorem dX9_mixParty_49 : decode cX9_mixParty 49 = .ok (.invokevirtual 261, 3) := by decide +kernel
theorem dX9_mixParty_52 : decode cX9_mixParty 52 = .ok (.iconst 0, 1) := by decide +kernel
theorem dX9_mixParty_53 : decode cX9_mixParty 53 = .ok (.istore_n 1, 1) := by decide +kernel
theorem dX9_mixParty_54 : decode cX9_mixParty 54 = .ok (.iload_n 1, 1) := by decide +kernel
theorem dX9_mixParty_55 : decode cX9_mixParty 55 = .ok (.aload_n 0, 1) := by decide +kernel
theorem dX9_mixParty_56 : decode cX9_mixParty 56 = .ok (.getfield 83, 3) := by decide +kernel
theorem dX9_mixParty_59 : decode cX9_mixParty 59 = .ok (.if_icmp .ge 44, 3) := by decide +kernel
theorem dX9_mixParty_62 : decode cX9_mixParty 62 = .ok (.aload_n 0, 1) := by decide +kernel
theorem dX9_mixParty_63 : decode cX9_mixParty 63 = .ok (.getfield 89, 3) := by decide +kernel
theorem dX9_mixParty_66 : decode cX9_mixParty 66 = .ok (.iload_n 1, 1) := by decide +kernel
theorem dX9_mixParty_67 : decode cX9_mixParty 67 = .ok (.invokestatic 105, 3) := by decide +kernel
theorem dX9_mixParty_70 : decode cX9_mixParty 70 = .ok (.ifCond .eq 27, 3) := by decide +kernel
theorem dX9_mixParty_73 : decode cX9_mixParty 73 = .ok (.aload_n 0, 1) := by decide +kernel
theorem dX9_mixParty_74 : decode cX9_mixParty 74 = .ok (.aload_n 0, 1) := by decide +kernel
theorem dX9_mixParty_75 : decode cX9_mixParty 75 = .ok (.iload_n 1, 1) := by decide +kernel
theorem dX9_mixParty_76 : decode cX9_mixParty 76 = .ok (.iconst 4, 1) := by decide +kernel
theorem dX9_mixParty_77 : decode cX9_mixParty 77 = .ok (.iconst 0, 1) := by decide +kernel
theorem dX9_mixParty_78 : decode cX9_mixParty 78 = .ok (.invokevirtual 201, 3) := by decide +kernel
theorem dX9_mixParty_81 : decode cX9_mixParty 81 = .ok (.i2l, 1) := by decide +kernel
theorem dX9_mixParty_82 : decode cX9_mixParty 82 = .ok (.invokevirtual 261, 3) := by decide +kernel
theorem dX9_mixParty_85 : decode cX9_mixParty 85 = .ok (.aload_n 0, 1) := by decide +kernel
theorem dX9_mixParty_86 : decode cX9_mixParty 86 = .ok (.aload_n 0, 1) := by decide +kernel
theorem dX9_mixParty_87 : decode cX9_mixParty 87 = .ok (.iload_n 1, 1) := by decide +kernel
theorem dX9_mixParty_88 : decode cX9_mixParty 88 = .ok (.iconst 4, 1) := by decide +kernel
theorem dX9_mixParty_89 : decode cX9_mixParty 89 = .ok (.iconst 1, 1) := by decide +kernel
theorem dX9_mixParty_90 : decode cX9_mixParty 90 = .ok (.invokevirtual 201, 3) := by decide +kernel
theorem dX9_mixParty_93 : decode cX9_mixParty 93 = .ok (.i2l, 1) := by decide +kernel
theorem dX9_mixParty_94 : decode cX9_mixParty 94 = .ok (.invokevirtual 261, 3) := by decide +kernel
theorem dX9_mixParty_97 : decode cX9_mixParty 97 = .ok (.iinc 1 1, 3) := by decide +kernel
theorem dX9_mixParty_100 : decode cX9_mixParty 100 = .ok (.goto (-46), 3) := by decide +kernel
theorem dX9_mixParty_103 : decode cX9_mixParty 103 = .ok (.return_, 1) := by decide +kernel
theorem dX9_digest_0 : decode cX9_digest 0 = .ok (.aload_n 0, 1) := by decide +kernel
theorem dX9_digest_1 : decode cX9_digest 1 = .ok (.ldc2_w 265, 3) := by decide +kernel
theorem dX9_digest_4 : decode cX9_digest 4 = .ok (.putfield 258, 3) := by decide +kernel
theorem dX9_digest_7 : decode cX9_digest 7 = .ok (.iconst 0, 1) := by decide +kernel
theorem dX9_digest_8 : decode cX9_digest 8 = .ok (.istore_n 1, 1) := by decide +kernel
theorem dX9_digest_9 : decode cX9_digest 9 = .ok (.iload_n 1, 1) := by decide +kernel
theorem dX9_digest_10 : decode cX9_digest 10 = .ok (.aload_n 0, 1) := by decide +kernel
theorem dX9_digest_11 : decode cX9_digest 11 = .ok (.getfield 83, 3) := by decide +kernel
theorem dX9_digest_14 : decode cX9_digest 14 = .ok (.if_icmp .ge 34, 3) := by decide +kernel
theorem dX9_digest_17 : decode cX9_digest 17 = .ok (.iconst 0, 1) := by decide +kernel
theorem dX9_digest_18 : decode cX9_digest 18 = .ok (.istore_n 2, 1) := by decide +kernel
theorem dX9_digest_19 : decode cX9_digest 19 = .ok (.iload_n 2, 1) := by decide +kernel
theorem dX9_digest_20 : decode cX9_digest 20 = .ok (.bipush 9, 2) := by decide +kernel
theorem dX9_digest_22 : decode cX9_digest 22 = .ok (.if_icmp .ge 20, 3) := by decide +kernel
theorem dX9_digest_25 : decode cX9_digest 25 = .ok (.aload_n 0, 1) := by decide +kernel
theorem dX9_digest_26 : decode cX9_digest 26 = .ok (.aload_n 0, 1) := by decide +kernel
theorem dX9_digest_27 : decode cX9_digest 27 = .ok (.iload_n 1, 1) := by decide +kernel
theorem dX9_digest_28 : decode cX9_digest 28 = .ok (.iload_n 2, 1) := by decide +kernel
theorem dX9_digest_29 : decode cX9_digest 29 = .ok (.invokevirtual 148, 3) := by decide +kernel
theorem dX9_digest_32 : decode cX9_digest 32 = .ok (.i2l, 1) := by decide +kernel
theorem dX9_digest_33 : decode cX9_digest 33 = .ok (.invokevirtual 261, 3) := by decide +kernel
theorem dX9_digest_36 : decode cX9_digest 36 = .ok (.iinc 2 1, 3) := by decide +kernel
theorem dX9_digest_39 : decode cX9_digest 39 = .ok (.goto (-20), 3) := by decide +kernel
theorem dX9_digest_42 : decode cX9_digest 42 = .ok (.iinc 1 1, 3) := by decide +kernel
theorem dX9_digest_45 : decode cX9_digest 45 = .ok (.goto (-36), 3) := by decide +kernel
theorem dX9_digest_48 : decode cX9_digest 48 = .ok (.aload_n 0, 1) := by decide +kernel
theorem dX9_digest_49 : decode cX9_digest 49 = .ok (.getfield 83, 3) := by decide +kernel
theorem dX9_digest_52 : decode cX9_digest 52 = .ok (.ifCond .le 7, 3) := by decide +kernel
theorem dX9_digest_55 : decode cX9_digest 55 = .ok (.aload_n 0, 1) := by decide +kernel
theorem dX9_digest_56 : decode cX9_digest 56 = .ok (.invokevirtual 267, 3) := by decide +kernel
theorem dX9_digest_59 : decode cX9_digest 59 = .ok (.iconst 0, 1) := by decide +kernel
theorem dX9_digest_60 : decode cX9_digest 60 = .ok (.istore_n 1, 1) := by decide +kernel
theorem dX9_digest_61 : decode cX9_digest 61 = .ok (.iload_n 1, 1) := by decide +kernel
theorem dX9_digest_62 : decode cX9_digest 62 = .ok (.aload_n 0, 1) := by decide +kernel
theorem dX9_digest_63 : decode cX9_digest 63 = .ok (.getfield 54, 3) := by decide +kernel
theorem dX9_digest_66 : decode cX9_digest 66 = .ok (.if_icmp .ge 20, 3) := by decide +kernel
theorem dX9_digest_69 : decode cX9_digest 69 = .ok (.aload_n 0, 1) := by decide +kernel
theorem dX9_digest_70 : decode cX9_digest 70 = .ok (.aload_n 0, 1) := by decide +kernel
theorem dX9_digest_71 : decode cX9_digest 71 = .ok (.getfield 28, 3) := by decide +kernel
theorem dX9_digest_74 : decode cX9_digest 74 = .ok (.iload_n 1, 1) := by decide +kernel
theorem dX9_digest_75 : decode cX9_digest 75 = .ok (.baload, 1) := by decide +kernel
theorem dX9_digest_76 : decode cX9_digest 76 = .ok (.i2l, 1) := by decide +kernel
theorem dX9_digest_77 : decode cX9_digest 77 = .ok (.invokevirtual 261, 3) := by decide +kernel
theorem dX9_digest_80 : decode cX9_digest 80 = .ok (.iinc 1 1, 3) := by decide +kernel
theorem dX9_digest_83 : decode cX9_digest 83 = .ok (.goto (-22), 3) := by decide +kernel
theorem dX9_digest_86 : decode cX9_digest 86 = .ok (.iconst 0, 1) := by decide +kernel
theorem dX9_digest_87 : decode cX9_digest 87 = .ok (.istore_n 1, 1) := by decide +kernel
theorem dX9_digest_88 : decode cX9_digest 88 = .ok (.iload_n 1, 1) := by decide +kernel
theorem dX9_digest_89 : decode cX9_digest 89 = .ok (.bipush 10, 2) := by decide +kernel
theorem dX9_digest_91 : decode cX9_digest 91 = .ok (.if_icmp .ge 19, 3) := by decide +kernel
theorem dX9_digest_94 : decode cX9_digest 94 = .ok (.aload_n 0, 1) := by decide +kernel
theorem dX9_digest_95 : decode cX9_digest 95 = .ok (.aload_n 0, 1) := by decide +kernel
theorem dX9_digest_96 : decode cX9_digest 96 = .ok (.iload_n 1, 1) := by decide +kernel
theorem dX9_digest_97 : decode cX9_digest 97 = .ok (.invokevirtual 253, 3) := by decide +kernel
theorem dX9_digest_100 : decode cX9_digest 100 = .ok (.i2l, 1) := by decide +kernel
theorem dX9_digest_101 : decode cX9_digest 101 = .ok (.invokevirtual 261, 3) := by decide +kernel
theorem dX9_digest_104 : decode cX9_digest 104 = .ok (.iinc 1 1, 3) := by decide +kernel
theorem dX9_digest_107 : decode cX9_digest 107 = .ok (.goto (-19), 3) := by decide +kernel
theorem dX9_digest_110 : decode cX9_digest 110 = .ok (.aload_n 0, 1) := by decide +kernel
theorem dX9_digest_111 : decode cX9_digest 111 = .ok (.getfield 258, 3) := by decide +kernel
theorem dX9_digest_114 : decode cX9_digest 114 = .ok (.lreturn, 1) := by decide +kernel
