theorem dX0_init_0 : decode cX0_init 0 = .ok (.aload_n 0, 1) := by decide +kernel
theorem dX0_init_1 : decode cX0_init 1 = .ok (.invokespecial 3, 3) := by decide +kernel
theorem dX0_init_4 : decode cX0_init 4 = .ok (.aload_n 0, 1) := by decide +kernel
theorem dX0_init_5 : decode cX0_init 5 = .ok (.bipush 8, 2) := by decide +kernel
theorem dX0_init_7 : decode cX0_init 7 = .ok (.newarray .int, 2) := by decide +kernel
theorem dX0_init_9 : decode cX0_init 9 = .ok (.putfield 9, 3) := by decide +kernel
theorem dX0_init_12 : decode cX0_init 12 = .ok (.return_, 1) := by decide +kernel
theorem dX0_find_0 : decode cX0_find 0 = .ok (.aload_n 1, 1) := by decide +kernel
theorem dX0_find_1 : decode cX0_find 1 = .ok (.getfield 15, 3) := by decide +kernel
theorem dX0_find_4 : decode cX0_find 4 = .ok (.invokestatic 21, 3) := by decide +kernel
theorem dX0_find_7 : decode cX0_find 7 = .ok (.iconst 1, 1) := by decide +kernel
theorem dX0_find_8 : decode cX0_find 8 = .ok (.isub, 1) := by decide +kernel
theorem dX0_find_9 : decode cX0_find 9 = .ok (.istore 4, 2) := by decide +kernel
theorem dX0_find_11 : decode cX0_find 11 = .ok (.aload_n 0, 1) := by decide +kernel
theorem dX0_find_12 : decode cX0_find 12 = .ok (.iload 4, 2) := by decide +kernel
theorem dX0_find_14 : decode cX0_find 14 = .ok (.iload_n 3, 1) := by decide +kernel
theorem dX0_find_15 : decode cX0_find 15 = .ok (.invokevirtual 27, 3) := by decide +kernel
theorem dX0_find_18 : decode cX0_find 18 = .ok (.aload_n 0, 1) := by decide +kernel
theorem dX0_find_19 : decode cX0_find 19 = .ok (.iconst 0, 1) := by decide +kernel
theorem dX0_find_20 : decode cX0_find 20 = .ok (.putfield 31, 3) := by decide +kernel
theorem dX0_find_23 : decode cX0_find 23 = .ok (.iconst 1, 1) := by decide +kernel
theorem dX0_find_24 : decode cX0_find 24 = .ok (.istore 5, 2) := by decide +kernel
theorem dX0_find_26 : decode cX0_find 26 = .ok (.iload 5, 2) := by decide +kernel
theorem dX0_find_28 : decode cX0_find 28 = .ok (.aload_n 1, 1) := by decide +kernel
theorem dX0_find_29 : decode cX0_find 29 = .ok (.getfield 15, 3) := by decide +kernel
theorem dX0_find_32 : decode cX0_find 32 = .ok (.if_icmp .gt 57, 3) := by decide +kernel
theorem dX0_find_35 : decode cX0_find 35 = .ok (.iload 5, 2) := by decide +kernel
theorem dX0_find_37 : decode cX0_find 37 = .ok (.aload_n 1, 1) := by decide +kernel
theorem dX0_find_38 : decode cX0_find 38 = .ok (.getfield 34, 3) := by decide +kernel
theorem dX0_find_41 : decode cX0_find 41 = .ok (.arraylength, 1) := by decide +kernel
theorem dX0_find_42 : decode cX0_find 42 = .ok (.if_icmp .ge 47, 3) := by decide +kernel
theorem dX0_find_45 : decode cX0_find 45 = .ok (.aload_n 1, 1) := by decide +kernel
theorem dX0_find_46 : decode cX0_find 46 = .ok (.iload 5, 2) := by decide +kernel
theorem dX0_find_48 : decode cX0_find 48 = .ok (.invokevirtual 37, 3) := by decide +kernel
theorem dX0_find_51 : decode cX0_find 51 = .ok (.ifCond .eq 32, 3) := by decide +kernel
theorem dX0_find_54 : decode cX0_find 54 = .ok (.iload_n 2, 1) := by decide +kernel
theorem dX0_find_55 : decode cX0_find 55 = .ok (.aload_n 1, 1) := by decide +kernel
theorem dX0_find_56 : decode cX0_find 56 = .ok (.getfield 34, 3) := by decide +kernel
theorem dX0_find_59 : decode cX0_find 59 = .ok (.iload 5, 2) := by decide +kernel
theorem dX0_find_61 : decode cX0_find 61 = .ok (.iaload, 1) := by decide +kernel
theorem dX0_find_62 : decode cX0_find 62 = .ok (.invokestatic 41, 3) := by decide +kernel
theorem dX0_find_65 : decode cX0_find 65 = .ok (.ifCond .eq 18, 3) := by decide +kernel
theorem dX0_find_68 : decode cX0_find 68 = .ok (.aload_n 0, 1) := by decide +kernel
theorem dX0_find_69 : decode cX0_find 69 = .ok (.dup, 1) := by decide +kernel
theorem dX0_find_70 : decode cX0_find 70 = .ok (.getfield 31, 3) := by decide +kernel
theorem dX0_find_73 : decode cX0_find 73 = .ok (.aload_n 0, 1) := by decide +kernel
theorem dX0_find_74 : decode cX0_find 74 = .ok (.iload 5, 2) := by decide +kernel
theorem dX0_find_76 : decode cX0_find 76 = .ok (.invokevirtual 45, 3) := by decide +kernel
theorem dX0_find_79 : decode cX0_find 79 = .ok (.iadd, 1) := by decide +kernel
theorem dX0_find_80 : decode cX0_find 80 = .ok (.putfield 31, 3) := by decide +kernel
theorem dX0_find_83 : decode cX0_find 83 = .ok (.iinc 5 1, 3) := by decide +kernel
theorem dX0_find_86 : decode cX0_find 86 = .ok (.goto (-60), 3) := by decide +kernel
theorem dX0_find_89 : decode cX0_find 89 = .ok (.aload_n 0, 1) := by decide +kernel
theorem dX0_find_90 : decode cX0_find 90 = .ok (.bipush 10, 2) := by decide +kernel
theorem dX0_find_92 : decode cX0_find 92 = .ok (.iload 4, 2) := by decide +kernel
theorem dX0_find_94 : decode cX0_find 94 = .ok (.invokestatic 48, 3) := by decide +kernel
theorem dX0_find_97 : decode cX0_find 97 = .ok (.putfield 52, 3) := by decide +kernel
theorem dX0_find_100 : decode cX0_find 100 = .ok (.aload_n 0, 1) := by decide +kernel
theorem dX0_find_101 : decode cX0_find 101 = .ok (.invokevirtual 55, 3) := by decide +kernel
theorem dX0_find_104 : decode cX0_find 104 = .ok (.return_, 1) := by decide +kernel
theorem dX0_weigh_0 : decode cX0_weigh 0 = .ok (.iconst 0, 1) := by decide +kernel
theorem dX0_weigh_1 : decode cX0_weigh 1 = .ok (.istore_n 3, 1) := by decide +kernel
theorem dX0_weigh_2 : decode cX0_weigh 2 = .ok (.iload_n 3, 1) := by decide +kernel
theorem dX0_weigh_3 : decode cX0_weigh 3 = .ok (.iload_n 1, 1) := by decide +kernel
theorem dX0_weigh_4 : decode cX0_weigh 4 = .ok (.if_icmp .gt 37, 3) := by decide +kernel
theorem dX0_weigh_7 : decode cX0_weigh 7 = .ok (.iload_n 3, 1) := by decide +kernel
theorem dX0_weigh_8 : decode cX0_weigh 8 = .ok (.bipush 8, 2) := by decide +kernel
theorem dX0_weigh_10 : decode cX0_weigh 10 = .ok (.if_icmp .ge 31, 3) := by decide +kernel
theorem dX0_weigh_13 : decode cX0_weigh 13 = .ok (.aload_n 0, 1) := by decide +kernel
theorem dX0_weigh_14 : decode cX0_weigh 14 = .ok (.getfield 9, 3) := by decide +kernel
theorem dX0_weigh_17 : decode cX0_weigh 17 = .ok (.iload_n 3, 1) := by decide +kernel
theorem dX0_weigh_18 : decode cX0_weigh 18 = .ok (.bipush 10, 2) := by decide +kernel
theorem dX0_weigh_20 : decode cX0_weigh 20 = .ok (.iload_n 2, 1) := by decide +kernel
theorem dX0_weigh_21 : decode cX0_weigh 21 = .ok (.isub, 1) := by decide +kernel
theorem dX0_weigh_22 : decode cX0_weigh 22 = .ok (.iload_n 3, 1) := by decide +kernel
theorem dX0_weigh_23 : decode cX0_weigh 23 = .ok (.invokestatic 48, 3) := by decide +kernel
theorem dX0_weigh_26 : decode cX0_weigh 26 = .ok (.iload_n 2, 1) := by decide +kernel
theorem dX0_weigh_27 : decode cX0_weigh 27 = .ok (.iload_n 1, 1) := by decide +kernel
theorem dX0_weigh_28 : decode cX0_weigh 28 = .ok (.iload_n 3, 1) := by decide +kernel
theorem dX0_weigh_29 : decode cX0_weigh 29 = .ok (.isub, 1) := by decide +kernel
theorem dX0_weigh_30 : decode cX0_weigh 30 = .ok (.invokestatic 48, 3) := by decide +kernel
theorem dX0_weigh_33 : decode cX0_weigh 33 = .ok (.imul, 1) := by decide +kernel
theorem dX0_weigh_34 : decode cX0_weigh 34 = .ok (.iastore, 1) := by decide +kernel
theorem dX0_weigh_35 : decode cX0_weigh 35 = .ok (.iinc 3 1, 3) := by decide +kernel
theorem dX0_weigh_38 : decode cX0_weigh 38 = .ok (.goto (-36), 3) := by decide +kernel
theorem dX0_weigh_41 : decode cX0_weigh 41 = .ok (.return_, 1) := by decide +kernel
theorem dX0_weightOf_0 : decode cX0_weightOf 0 = .ok (.iload_n 1, 1) := by decide +kernel
theorem dX0_weightOf_1 : decode cX0_weightOf 1 = .ok (.invokestatic 21, 3) := by decide +kernel
theorem dX0_weightOf_4 : decode cX0_weightOf 4 = .ok (.iconst 1, 1) := by decide +kernel
theorem dX0_weightOf_5 : decode cX0_weightOf 5 = .ok (.isub, 1) := by decide +kernel
theorem dX0_weightOf_6 : decode cX0_weightOf 6 = .ok (.istore_n 2, 1) := by decide +kernel
theorem dX0_weightOf_7 : decode cX0_weightOf 7 = .ok (.iload_n 2, 1) := by decide +kernel
theorem dX0_weightOf_8 : decode cX0_weightOf 8 = .ok (.ifCond .lt 9, 3) := by decide +kernel
theorem dX0_weightOf_11 : decode cX0_weightOf 11 = .ok (.iload_n 2, 1) := by decide +kernel
theorem dX0_weightOf_12 : decode cX0_weightOf 12 = .ok (.bipush 8, 2) := by decide +kernel
theorem dX0_weightOf_14 : decode cX0_weightOf 14 = .ok (.if_icmp .lt 7, 3) := by decide +kernel
theorem dX0_weightOf_17 : decode cX0_weightOf 17 = .ok (.iconst 0, 1) := by decide +kernel
theorem dX0_weightOf_18 : decode cX0_weightOf 18 = .ok (.goto 9, 3) := by decide +kernel
theorem dX0_weightOf_21 : decode cX0_weightOf 21 = .ok (.aload_n 0, 1) := by decide +kernel
theorem dX0_weightOf_22 : decode cX0_weightOf 22 = .ok (.getfield 9, 3) := by decide +kernel
theorem dX0_weightOf_25 : decode cX0_weightOf 25 = .ok (.iload_n 2, 1) := by decide +kernel
theorem dX0_weightOf_26 : decode cX0_weightOf 26 = .ok (.iaload, 1) := by decide +kernel
theorem dX0_weightOf_27 : decode cX0_weightOf 27 = .ok (.ireturn, 1) := by decide +kernel
theorem dX0_reduce_0 : decode cX0_reduce 0 = .ok (.aload_n 0, 1) := by decide +kernel
theorem dX0_reduce_1 : decode cX0_reduce 1 = .ok (.getfield 31, 3) := by decide +kernel
theorem dX0_reduce_4 : decode cX0_reduce 4 = .ok (.aload_n 0, 1) := by decide +kernel
theorem dX0_reduce_5 : decode cX0_reduce 5 = .ok (.getfield 52, 3) := by decide +kernel
theorem dX0_reduce_8 : decode cX0_reduce 8 = .ok (.invokestatic 58, 3) := by decide +kernel
theorem dX0_reduce_11 : decode cX0_reduce 11 = .ok (.istore_n 1, 1) := by decide +kernel
theorem dX0_reduce_12 : decode cX0_reduce 12 = .ok (.iload_n 1, 1) := by decide +kernel
theorem dX0_reduce_13 : decode cX0_reduce 13 = .ok (.iconst 1, 1) := by decide +kernel
theorem dX0_reduce_14 : decode cX0_reduce 14 = .ok (.if_icmp .le 23, 3) := by decide +kernel
theorem dX0_reduce_17 : decode cX0_reduce 17 = .ok (.aload_n 0, 1) := by decide +kernel
theorem dX0_reduce_18 : decode cX0_reduce 18 = .ok (.dup, 1) := by decide +kernel
theorem dX0_reduce_19 : decode cX0_reduce 19 = .ok (.getfield 31, 3) := by decide +kernel
theorem dX0_reduce_22 : decode cX0_reduce 22 = .ok (.iload_n 1, 1) := by decide +kernel
theorem dX0_reduce_23 : decode cX0_reduce 23 = .ok (.idiv, 1) := by decide +kernel
theorem dX0_reduce_24 : decode cX0_reduce 24 = .ok (.putfield 31, 3) := by decide +kernel
theorem dX0_reduce_27 : decode cX0_reduce 27 = .ok (.aload_n 0, 1) := by decide +kernel
theorem dX0_reduce_28 : decode cX0_reduce 28 = .ok (.dup, 1) := by decide +kernel
theorem dX0_reduce_29 : decode cX0_reduce 29 = .ok (.getfield 52, 3) := by decide +kernel
theorem dX0_reduce_32 : decode cX0_reduce 32 = .ok (.iload_n 1, 1) := by decide +kernel
theorem dX0_reduce_33 : decode cX0_reduce 33 = .ok (.idiv, 1) := by decide +kernel
theorem dX0_reduce_34 : decode cX0_reduce 34 = .ok (.putfield 52, 3) := by decide +kernel
theorem dX0_reduce_37 : decode cX0_reduce 37 = .ok (.return_, 1) := by decide +kernel
theorem dX0_power_0 : decode cX0_power 0 = .ok (.iconst 1, 1) := by decide +kernel
theorem dX0_power_1 : decode cX0_power 1 = .ok (.istore_n 2, 1) := by decide +kernel
theorem dX0_power_2 : decode cX0_power 2 = .ok (.iconst 0, 1) := by decide +kernel
theorem dX0_power_3 : decode cX0_power 3 = .ok (.istore_n 3, 1) := by decide +kernel
theorem dX0_power_4 : decode cX0_power 4 = .ok (.iload_n 3, 1) := by decide +kernel
theorem dX0_power_5 : decode cX0_power 5 = .ok (.iload_n 1, 1) := by decide +kernel
theorem dX0_power_6 : decode cX0_power 6 = .ok (.if_icmp .ge 13, 3) := by decide +kernel
theorem dX0_power_9 : decode cX0_power 9 = .ok (.iload_n 2, 1) := by decide +kernel
theorem dX0_power_10 : decode cX0_power 10 = .ok (.iload_n 0, 1) := by decide +kernel
theorem dX0_power_11 : decode cX0_power 11 = .ok (.imul, 1) := by decide +kernel
theorem dX0_power_12 : decode cX0_power 12 = .ok (.istore_n 2, 1) := by decide +kernel
theorem dX0_power_13 : decode cX0_power 13 = .ok (.iinc 3 1, 3) := by decide +kernel
theorem dX0_power_16 : decode cX0_power 16 = .ok (.goto (-12), 3) := by decide +kernel
theorem dX0_power_19 : decode cX0_power 19 = .ok (.iload_n 2, 1) := by decide +kernel
theorem dX0_power_20 : decode cX0_power 20 = .ok (.ireturn, 1) := by decide +kernel
theorem dX0_commonDivisor_0 : decode cX0_commonDivisor 0 = .ok (.iload_n 0, 1) := by decide +kernel
theorem dX0_commonDivisor_1 : decode cX0_commonDivisor 1 = .ok (.istore_n 2, 1) := by decide +kernel
theorem dX0_commonDivisor_2 : decode cX0_commonDivisor 2 = .ok (.iload_n 1, 1) := by decide +kernel
theorem dX0_commonDivisor_3 : decode cX0_commonDivisor 3 = .ok (.istore_n 3, 1) := by decide +kernel
theorem dX0_commonDivisor_4 : decode cX0_commonDivisor 4 = .ok (.iconst 0, 1) := by decide +kernel
theorem dX0_commonDivisor_5 : decode cX0_commonDivisor 5 = .ok (.istore 4, 2) := by decide +kernel
theorem dX0_commonDivisor_7 : decode cX0_commonDivisor 7 = .ok (.iload 4, 2) := by decide +kernel
theorem dX0_commonDivisor_9 : decode cX0_commonDivisor 9 = .ok (.bipush 64, 2) := by decide +kernel
theorem dX0_commonDivisor_11 : decode cX0_commonDivisor 11 = .ok (.if_icmp .ge 23, 3) := by decide +kernel
theorem dX0_commonDivisor_14 : decode cX0_commonDivisor 14 = .ok (.iload_n 3, 1) := by decide +kernel
theorem dX0_commonDivisor_15 : decode cX0_commonDivisor 15 = .ok (.ifCond .eq 19, 3) := by decide +kernel
theorem dX0_commonDivisor_18 : decode cX0_commonDivisor 18 = .ok (.iload_n 2, 1) := by decide +kernel
theorem dX0_commonDivisor_19 : decode cX0_commonDivisor 19 = .ok (.iload_n 3, 1) := by decide +kernel
theorem dX0_commonDivisor_20 : decode cX0_commonDivisor 20 = .ok (.irem, 1) := by decide +kernel
theorem dX0_commonDivisor_21 : decode cX0_commonDivisor 21 = .ok (.istore 5, 2) := by decide +kernel
theorem dX0_commonDivisor_23 : decode cX0_commonDivisor 23 = .ok (.iload_n 3, 1) := by decide +kernel
theorem dX0_commonDivisor_24 : decode cX0_commonDivisor 24 = .ok (.istore_n 2, 1) := by decide +kernel
theorem dX0_commonDivisor_25 : decode cX0_commonDivisor 25 = .ok (.iload 5, 2) := by decide +kernel
theorem dX0_commonDivisor_27 : decode cX0_commonDivisor 27 = .ok (.istore_n 3, 1) := by decide +kernel
theorem dX0_commonDivisor_28 : decode cX0_commonDivisor 28 = .ok (.iinc 4 1, 3) := by decide +kernel
theorem dX0_commonDivisor_31 : decode cX0_commonDivisor 31 = .ok (.goto (-24), 3) := by decide +kernel
theorem dX0_commonDivisor_34 : decode cX0_commonDivisor 34 = .ok (.iload_n 2, 1) := by decide +kernel
theorem dX0_commonDivisor_35 : decode cX0_commonDivisor 35 = .ok (.ireturn, 1) := by decide +kernel
theorem dX1_init_0 : decode cX1_init 0 = .ok (.aload_n 0, 1) := by decide +kernel
theorem dX1_init_1 : decode cX1_init 1 = .ok (.invokespecial 1, 3) := by decide +kernel
theorem dX1_init_4 : decode cX1_init 4 = .ok (.return_, 1) := by decide +kernel
theorem dX1_next_0 : decode cX1_next 0 = .ok (.aload_n 0, 1) := by decide +kernel
theorem dX1_next_1 : decode cX1_next 1 = .ok (.ldc2_w 7, 3) := by decide +kernel
theorem dX1_next_4 : decode cX1_next 4 = .ok (.aload_n 0, 1) := by decide +kernel
theorem dX1_next_5 : decode cX1_next 5 = .ok (.getfield 9, 3) := by decide +kernel
theorem dX1_next_8 : decode cX1_next 8 = .ok (.i2l, 1) := by decide +kernel
theorem dX1_next_9 : decode cX1_next 9 = .ok (.lmul, 1) := by decide +kernel
theorem dX1_next_10 : decode cX1_next 10 = .ok (.ldc2_w 15, 3) := by decide +kernel
theorem dX1_next_13 : decode cX1_next 13 = .ok (.ladd, 1) := by decide +kernel
theorem dX1_next_14 : decode cX1_next 14 = .ok (.ldc2_w 17, 3) := by decide +kernel
theorem dX1_next_17 : decode cX1_next 17 = .ok (.lrem, 1) := by decide +kernel
theorem dX1_next_18 : decode cX1_next 18 = .ok (.l2i, 1) := by decide +kernel
theorem dX1_next_19 : decode cX1_next 19 = .ok (.putfield 9, 3) := by decide +kernel
theorem dX1_next_22 : decode cX1_next 22 = .ok (.iload_n 1, 1) := by decide +kernel
theorem dX1_next_23 : decode cX1_next 23 = .ok (.ifCond .gt 7, 3) := by decide +kernel
theorem dX1_next_26 : decode cX1_next 26 = .ok (.iconst 0, 1) := by decide +kernel
theorem dX1_next_27 : decode cX1_next 27 = .ok (.goto 12, 3) := by decide +kernel
theorem dX1_next_30 : decode cX1_next 30 = .ok (.aload_n 0, 1) := by decide +kernel
theorem dX1_next_31 : decode cX1_next 31 = .ok (.getfield 9, 3) := by decide +kernel
theorem dX1_next_34 : decode cX1_next 34 = .ok (.ldc 19, 2) := by decide +kernel
theorem dX1_next_36 : decode cX1_next 36 = .ok (.idiv, 1) := by decide +kernel
theorem dX1_next_37 : decode cX1_next 37 = .ok (.iload_n 1, 1) := by decide +kernel
theorem dX1_next_38 : decode cX1_next 38 = .ok (.irem, 1) := by decide +kernel
theorem dX1_next_39 : decode cX1_next 39 = .ok (.ireturn, 1) := by decide +kernel
theorem dX2_init_0 : decode cX2_init 0 = .ok (.aload_n 0, 1) := by decide +kernel
theorem dX2_init_1 : decode cX2_init 1 = .ok (.invokespecial 3, 3) := by decide +kernel
theorem dX2_init_4 : decode cX2_init 4 = .ok (.aload_n 0, 1) := by decide +kernel
theorem dX2_init_5 : decode cX2_init 5 = .ok (.bipush 8, 2) := by decide +kernel
theorem dX2_init_7 : decode cX2_init 7 = .ok (.newarray .int, 2) := by decide +kernel
theorem dX2_init_9 : decode cX2_init 9 = .ok (.putfield 9, 3) := by decide +kernel
theorem dX2_init_12 : decode cX2_init 12 = .ok (.return_, 1) := by decide +kernel
theorem dX2_find_0 : decode cX2_find 0 = .ok (.iconst 0, 1) := by decide +kernel
theorem dX2_find_1 : decode cX2_find 1 = .ok (.istore_n 2, 1) := by decide +kernel
theorem dX2_find_2 : decode cX2_find 2 = .ok (.iload_n 2, 1) := by decide +kernel
theorem dX2_find_3 : decode cX2_find 3 = .ok (.bipush 8, 2) := by decide +kernel
theorem dX2_find_5 : decode cX2_find 5 = .ok (.if_icmp .ge 16, 3) := by decide +kernel
theorem dX2_find_8 : decode cX2_find 8 = .ok (.aload_n 0, 1) := by decide +kernel
theorem dX2_find_9 : decode cX2_find 9 = .ok (.getfield 9, 3) := by decide +kernel
theorem dX2_find_12 : decode cX2_find 12 = .ok (.iload_n 2, 1) := by decide +kernel
theorem dX2_find_13 : decode cX2_find 13 = .ok (.iconst (-1), 1) := by decide +kernel
theorem dX2_find_14 : decode cX2_find 14 = .ok (.iastore, 1) := by decide +kernel
theorem dX2_find_15 : decode cX2_find 15 = .ok (.iinc 2 1, 3) := by decide +kernel
theorem dX2_find_18 : decode cX2_find 18 = .ok (.goto (-16), 3) := by decide +kernel
theorem dX2_find_21 : decode cX2_find 21 = .ok (.iconst 1, 1) := by decide +kernel
theorem dX2_find_22 : decode cX2_find 22 = .ok (.istore_n 2, 1) := by decide +kernel
theorem dX2_find_23 : decode cX2_find 23 = .ok (.iload_n 2, 1) := by decide +kernel
theorem dX2_find_24 : decode cX2_find 24 = .ok (.aload_n 1, 1) := by decide +kernel
theorem dX2_find_25 : decode cX2_find 25 = .ok (.getfield 15, 3) := by decide +kernel
theorem dX2_find_28 : decode cX2_find 28 = .ok (.if_icmp .gt 37, 3) := by decide +kernel
theorem dX2_find_31 : decode cX2_find 31 = .ok (.iload_n 2, 1) := by decide +kernel
theorem dX2_find_32 : decode cX2_find 32 = .ok (.sipush 256, 3) := by decide +kernel
theorem dX2_find_35 : decode cX2_find 35 = .ok (.if_icmp .ge 30, 3) := by decide +kernel
theorem dX2_find_38 : decode cX2_find 38 = .ok (.iload_n 2, 1) := by decide +kernel
theorem dX2_find_39 : decode cX2_find 39 = .ok (.aload_n 1, 1) := by decide +kernel
theorem dX2_find_40 : decode cX2_find 40 = .ok (.getfield 15, 3) := by decide +kernel
theorem dX2_find_43 : decode cX2_find 43 = .ok (.iconst (-1), 1) := by decide +kernel
theorem dX2_find_44 : decode cX2_find 44 = .ok (.ixor, 1) := by decide +kernel
theorem dX2_find_45 : decode cX2_find 45 = .ok (.iand, 1) := by decide +kernel
theorem dX2_find_46 : decode cX2_find 46 = .ok (.ifCond .ne 13, 3) := by decide +kernel
theorem dX2_find_49 : decode cX2_find 49 = .ok (.aload_n 0, 1) := by decide +kernel
theorem dX2_find_50 : decode cX2_find 50 = .ok (.iload_n 2, 1) := by decide +kernel
theorem dX2_find_51 : decode cX2_find 51 = .ok (.aload_n 1, 1) := by decide +kernel
theorem dX2_find_52 : decode cX2_find 52 = .ok (.iload_n 2, 1) := by decide +kernel
theorem dX2_find_53 : decode cX2_find 53 = .ok (.invokestatic 21, 3) := by decide +kernel
theorem dX2_find_56 : decode cX2_find 56 = .ok (.invokevirtual 25, 3) := by decide +kernel
theorem dX2_find_59 : decode cX2_find 59 = .ok (.iinc 2 1, 3) := by decide +kernel
theorem dX2_find_62 : decode cX2_find 62 = .ok (.goto (-39), 3) := by decide +kernel
theorem dX2_find_65 : decode cX2_find 65 = .ok (.return_, 1) := by decide +kernel
theorem dX2_noteFor_0 : decode cX2_noteFor 0 = .ok (.iload_n 2, 1) := by decide +kernel
theorem dX2_noteFor_1 : decode cX2_noteFor 1 = .ok (.iconst (-1), 1) := by decide +kernel
theorem dX2_noteFor_2 : decode cX2_noteFor 2 = .ok (.if_icmp .ne 4, 3) := by decide +kernel
theorem dX2_noteFor_5 : decode cX2_noteFor 5 = .ok (.return_, 1) := by decide +kernel
theorem dX2_noteFor_6 : decode cX2_noteFor 6 = .ok (.iconst 0, 1) := by decide +kernel
theorem dX2_noteFor_7 : decode cX2_noteFor 7 = .ok (.istore_n 3, 1) := by decide +kernel
theorem dX2_noteFor_8 : decode cX2_noteFor 8 = .ok (.iload_n 3, 1) := by decide +kernel
theorem dX2_noteFor_9 : decode cX2_noteFor 9 = .ok (.bipush 8, 2) := by decide +kernel
theorem dX2_noteFor_11 : decode cX2_noteFor 11 = .ok (.if_icmp .ge 44, 3) := by decide +kernel
theorem dX2_noteFor_14 : decode cX2_noteFor 14 = .ok (.iload_n 3, 1) := by decide +kernel
theorem dX2_noteFor_15 : decode cX2_noteFor 15 = .ok (.iload_n 1, 1) := by decide +kernel
theorem dX2_noteFor_16 : decode cX2_noteFor 16 = .ok (.invokestatic 29, 3) := by decide +kernel
theorem dX2_noteFor_19 : decode cX2_noteFor 19 = .ok (.ifCond .eq 30, 3) := by decide +kernel
theorem dX2_noteFor_22 : decode cX2_noteFor 22 = .ok (.aload_n 0, 1) := by decide +kernel
theorem dX2_noteFor_23 : decode cX2_noteFor 23 = .ok (.getfield 9, 3) := by decide +kernel
theorem dX2_noteFor_26 : decode cX2_noteFor 26 = .ok (.iload_n 3, 1) := by decide +kernel
theorem dX2_noteFor_27 : decode cX2_noteFor 27 = .ok (.iaload, 1) := by decide +kernel
theorem dX2_noteFor_28 : decode cX2_noteFor 28 = .ok (.iconst (-1), 1) := by decide +kernel
theorem dX2_noteFor_29 : decode cX2_noteFor 29 = .ok (.if_icmp .eq 13, 3) := by decide +kernel
theorem dX2_noteFor_32 : decode cX2_noteFor 32 = .ok (.iload_n 2, 1) := by decide +kernel
theorem dX2_noteFor_33 : decode cX2_noteFor 33 = .ok (.aload_n 0, 1) := by decide +kernel
theorem dX2_noteFor_34 : decode cX2_noteFor 34 = .ok (.getfield 9, 3) := by decide +kernel
theorem dX2_noteFor_37 : decode cX2_noteFor 37 = .ok (.iload_n 3, 1) := by decide +kernel
theorem dX2_noteFor_38 : decode cX2_noteFor 38 = .ok (.iaload, 1) := by decide +kernel
theorem dX2_noteFor_39 : decode cX2_noteFor 39 = .ok (.if_icmp .ge 10, 3) := by decide +kernel
theorem dX2_noteFor_42 : decode cX2_noteFor 42 = .ok (.aload_n 0, 1) := by decide +kernel
theorem dX2_noteFor_43 : decode cX2_noteFor 43 = .ok (.getfield 9, 3) := by decide +kernel
theorem dX2_noteFor_46 : decode cX2_noteFor 46 = .ok (.iload_n 3, 1) := by decide +kernel
theorem dX2_noteFor_47 : decode cX2_noteFor 47 = .ok (.iload_n 2, 1) := by decide +kernel
theorem dX2_noteFor_48 : decode cX2_noteFor 48 = .ok (.iastore, 1) := by decide +kernel
theorem dX2_noteFor_49 : decode cX2_noteFor 49 = .ok (.iinc 3 1, 3) := by decide +kernel
theorem dX2_noteFor_52 : decode cX2_noteFor 52 = .ok (.goto (-44), 3) := by decide +kernel
theorem dX2_noteFor_55 : decode cX2_noteFor 55 = .ok (.return_, 1) := by decide +kernel
theorem dX2_hintsToRise_0 : decode cX2_hintsToRise 0 = .ok (.iload_n 1, 1) := by decide +kernel
theorem dX2_hintsToRise_1 : decode cX2_hintsToRise 1 = .ok (.aload_n 0, 1) := by decide +kernel
theorem dX2_hintsToRise_2 : decode cX2_hintsToRise 2 = .ok (.invokevirtual 33, 3) := by decide +kernel
theorem dX2_hintsToRise_5 : decode cX2_hintsToRise 5 = .ok (.ior, 1) := by decide +kernel
theorem dX2_hintsToRise_6 : decode cX2_hintsToRise 6 = .ok (.istore_n 2, 1) := by decide +kernel
theorem dX2_hintsToRise_7 : decode cX2_hintsToRise 7 = .ok (.aload_n 0, 1) := by decide +kernel
theorem dX2_hintsToRise_8 : decode cX2_hintsToRise 8 = .ok (.iload_n 2, 1) := by decide +kernel
theorem dX2_hintsToRise_9 : decode cX2_hintsToRise 9 = .ok (.invokevirtual 37, 3) := by decide +kernel
theorem dX2_hintsToRise_12 : decode cX2_hintsToRise 12 = .ok (.istore_n 3, 1) := by decide +kernel
theorem dX2_hintsToRise_13 : decode cX2_hintsToRise 13 = .ok (.iconst 0, 1) := by decide +kernel
theorem dX2_hintsToRise_14 : decode cX2_hintsToRise 14 = .ok (.istore 4, 2) := by decide +kernel
theorem dX2_hintsToRise_16 : decode cX2_hintsToRise 16 = .ok (.iconst 0, 1) := by decide +kernel
theorem dX2_hintsToRise_17 : decode cX2_hintsToRise 17 = .ok (.istore 5, 2) := by decide +kernel
theorem dX2_hintsToRise_19 : decode cX2_hintsToRise 19 = .ok (.iload 5, 2) := by decide +kernel
theorem dX2_hintsToRise_21 : decode cX2_hintsToRise 21 = .ok (.bipush 8, 2) := by decide +kernel
theorem dX2_hintsToRise_23 : decode cX2_hintsToRise 23 = .ok (.if_icmp .ge 78, 3) := by decide +kernel
theorem dX2_hintsToRise_26 : decode cX2_hintsToRise 26 = .ok (.iload 5, 2) := by decide +kernel
theorem dX2_hintsToRise_28 : decode cX2_hintsToRise 28 = .ok (.iload_n 1, 1) := by decide +kernel
theorem dX2_hintsToRise_29 : decode cX2_hintsToRise 29 = .ok (.invokestatic 29, 3) := by decide +kernel
theorem dX2_hintsToRise_32 : decode cX2_hintsToRise 32 = .ok (.ifCond .eq 63, 3) := by decide +kernel
theorem dX2_hintsToRise_35 : decode cX2_hintsToRise 35 = .ok (.iload_n 3, 1) := by decide +kernel
theorem dX2_hintsToRise_36 : decode cX2_hintsToRise 36 = .ok (.aload_n 0, 1) := by decide +kernel
theorem dX2_hintsToRise_37 : decode cX2_hintsToRise 37 = .ok (.getfield 41, 3) := by decide +kernel
theorem dX2_hintsToRise_40 : decode cX2_hintsToRise 40 = .ok (.iload 5, 2) := by decide +kernel
theorem dX2_hintsToRise_42 : decode cX2_hintsToRise 42 = .ok (.iaload, 1) := by decide +kernel
theorem dX2_hintsToRise_43 : decode cX2_hintsToRise 43 = .ok (.invokestatic 44, 3) := by decide +kernel
theorem dX2_hintsToRise_46 : decode cX2_hintsToRise 46 = .ok (.isub, 1) := by decide +kernel
theorem dX2_hintsToRise_47 : decode cX2_hintsToRise 47 = .ok (.istore 6, 2) := by decide +kernel
theorem dX2_hintsToRise_49 : decode cX2_hintsToRise 49 = .ok (.aload_n 0, 1) := by decide +kernel
theorem dX2_hintsToRise_50 : decode cX2_hintsToRise 50 = .ok (.getfield 41, 3) := by decide +kernel
theorem dX2_hintsToRise_53 : decode cX2_hintsToRise 53 = .ok (.iload 5, 2) := by decide +kernel
theorem dX2_hintsToRise_55 : decode cX2_hintsToRise 55 = .ok (.iaload, 1) := by decide +kernel
theorem dX2_hintsToRise_56 : decode cX2_hintsToRise 56 = .ok (.aload_n 0, 1) := by decide +kernel
theorem dX2_hintsToRise_57 : decode cX2_hintsToRise 57 = .ok (.getfield 49, 3) := by decide +kernel
theorem dX2_hintsToRise_60 : decode cX2_hintsToRise 60 = .ok (.iload 5, 2) := by decide +kernel
theorem dX2_hintsToRise_62 : decode cX2_hintsToRise 62 = .ok (.iaload, 1) := by decide +kernel
theorem dX2_hintsToRise_63 : decode cX2_hintsToRise 63 = .ok (.iload 6, 2) := by decide +kernel
theorem dX2_hintsToRise_65 : decode cX2_hintsToRise 65 = .ok (.invokestatic 52, 3) := by decide +kernel
theorem dX2_hintsToRise_68 : decode cX2_hintsToRise 68 = .ok (.istore 7, 2) := by decide +kernel
theorem dX2_hintsToRise_70 : decode cX2_hintsToRise 70 = .ok (.iload 7, 2) := by decide +kernel
theorem dX2_hintsToRise_72 : decode cX2_hintsToRise 72 = .ok (.iconst (-1), 1) := by decide +kernel
theorem dX2_hintsToRise_73 : decode cX2_hintsToRise 73 = .ok (.if_icmp .eq 13, 3) := by decide +kernel
theorem dX2_hintsToRise_76 : decode cX2_hintsToRise 76 = .ok (.aload_n 0, 1) := by decide +kernel
theorem dX2_hintsToRise_77 : decode cX2_hintsToRise 77 = .ok (.iload 5, 2) := by decide +kernel
theorem dX2_hintsToRise_79 : decode cX2_hintsToRise 79 = .ok (.iload_n 2, 1) := by decide +kernel
theorem dX2_hintsToRise_80 : decode cX2_hintsToRise 80 = .ok (.invokevirtual 56, 3) := by decide +kernel
theorem dX2_hintsToRise_83 : decode cX2_hintsToRise 83 = .ok (.ifCond .ne 5, 3) := by decide +kernel
theorem dX2_hintsToRise_86 : decode cX2_hintsToRise 86 = .ok (.iconst (-1), 1) := by decide +kernel
theorem dX2_hintsToRise_87 : decode cX2_hintsToRise 87 = .ok (.ireturn, 1) := by decide +kernel
theorem dX2_hintsToRise_88 : decode cX2_hintsToRise 88 = .ok (.iload 4, 2) := by decide +kernel
theorem dX2_hintsToRise_90 : decode cX2_hintsToRise 90 = .ok (.iload 7, 2) := by decide +kernel
theorem dX2_hintsToRise_92 : decode cX2_hintsToRise 92 = .ok (.iadd, 1) := by decide +kernel
theorem dX2_hintsToRise_93 : decode cX2_hintsToRise 93 = .ok (.istore 4, 2) := by decide +kernel
theorem dX2_hintsToRise_95 : decode cX2_hintsToRise 95 = .ok (.iinc 5 1, 3) := by decide +kernel
theorem dX2_hintsToRise_98 : decode cX2_hintsToRise 98 = .ok (.goto (-79), 3) := by decide +kernel
theorem dX2_hintsToRise_101 : decode cX2_hintsToRise 101 = .ok (.iload 4, 2) := by decide +kernel
theorem dX2_hintsToRise_103 : decode cX2_hintsToRise 103 = .ok (.ireturn, 1) := by decide +kernel
theorem dX3_isKind_0 : decode cX3_isKind 0 = .ok (.iload_n 0, 1) := by decide +kernel
theorem dX3_isKind_1 : decode cX3_isKind 1 = .ok (.ifCond .lt 12, 3) := by decide +kernel
theorem dX3_isKind_4 : decode cX3_isKind 4 = .ok (.iload_n 0, 1) := by decide +kernel
theorem dX3_isKind_5 : decode cX3_isKind 5 = .ok (.iconst 4, 1) := by decide +kernel
theorem dX3_isKind_6 : decode cX3_isKind 6 = .ok (.if_icmp .gt 7, 3) := by decide +kernel
theorem dX3_isKind_9 : decode cX3_isKind 9 = .ok (.iconst 1, 1) := by decide +kernel
theorem dX3_isKind_10 : decode cX3_isKind 10 = .ok (.goto 4, 3) := by decide +kernel
theorem dX3_isKind_13 : decode cX3_isKind 13 = .ok (.iconst 0, 1) := by decide +kernel
theorem dX3_isKind_14 : decode cX3_isKind 14 = .ok (.ireturn, 1) := by decide +kernel
theorem dX3_ofLetter_0 : decode cX3_ofLetter 0 = .ok (.iconst 0, 1) := by decide +kernel
theorem dX3_ofLetter_1 : decode cX3_ofLetter 1 = .ok (.istore_n 1, 1) := by decide +kernel
theorem dX3_ofLetter_2 : decode cX3_ofLetter 2 = .ok (.iload_n 1, 1) := by decide +kernel
theorem dX3_ofLetter_3 : decode cX3_ofLetter 3 = .ok (.ldc 11, 2) := by decide +kernel
theorem dX3_ofLetter_5 : decode cX3_ofLetter 5 = .ok (.invokevirtual 13, 3) := by decide +kernel
theorem dX3_ofLetter_8 : decode cX3_ofLetter 8 = .ok (.if_icmp .ge 21, 3) := by decide +kernel
theorem dX3_ofLetter_11 : decode cX3_ofLetter 11 = .ok (.ldc 11, 2) := by decide +kernel
theorem dX3_ofLetter_13 : decode cX3_ofLetter 13 = .ok (.iload_n 1, 1) := by decide +kernel
theorem dX3_ofLetter_14 : decode cX3_ofLetter 14 = .ok (.invokevirtual 19, 3) := by decide +kernel
theorem dX3_ofLetter_17 : decode cX3_ofLetter 17 = .ok (.iload_n 0, 1) := by decide +kernel
theorem dX3_ofLetter_18 : decode cX3_ofLetter 18 = .ok (.if_icmp .ne 5, 3) := by decide +kernel
theorem dX3_ofLetter_21 : decode cX3_ofLetter 21 = .ok (.iload_n 1, 1) := by decide +kernel
theorem dX3_ofLetter_22 : decode cX3_ofLetter 22 = .ok (.ireturn, 1) := by decide +kernel
theorem dX3_ofLetter_23 : decode cX3_ofLetter 23 = .ok (.iinc 1 1, 3) := by decide +kernel
theorem dX3_ofLetter_26 : decode cX3_ofLetter 26 = .ok (.goto (-24), 3) := by decide +kernel
theorem dX3_ofLetter_29 : decode cX3_ofLetter 29 = .ok (.iconst (-1), 1) := by decide +kernel
theorem dX3_ofLetter_30 : decode cX3_ofLetter 30 = .ok (.ireturn, 1) := by decide +kernel
theorem dX3_isSuch_0 : decode cX3_isSuch 0 = .ok (.iload_n 1, 1) := by decide +kernel
theorem dX3_isSuch_1 : decode cX3_isSuch 1 = .ok (.ifCond .eq 18, 3) := by decide +kernel
theorem dX3_isSuch_4 : decode cX3_isSuch 4 = .ok (.iload_n 1, 1) := by decide +kernel
theorem dX3_isSuch_5 : decode cX3_isSuch 5 = .ok (.iload_n 0, 1) := by decide +kernel
theorem dX3_isSuch_6 : decode cX3_isSuch 6 = .ok (.if_icmp .eq 13, 3) := by decide +kernel
theorem dX3_isSuch_9 : decode cX3_isSuch 9 = .ok (.iload_n 1, 1) := by decide +kernel
theorem dX3_isSuch_10 : decode cX3_isSuch 10 = .ok (.iconst 3, 1) := by decide +kernel
theorem dX3_isSuch_11 : decode cX3_isSuch 11 = .ok (.if_icmp .ne 12, 3) := by decide +kernel
theorem dX3_isSuch_14 : decode cX3_isSuch 14 = .ok (.iload_n 0, 1) := by decide +kernel
theorem dX3_isSuch_15 : decode cX3_isSuch 15 = .ok (.iconst 4, 1) := by decide +kernel
theorem dX3_isSuch_16 : decode cX3_isSuch 16 = .ok (.if_icmp .ne 7, 3) := by decide +kernel
theorem dX3_isSuch_19 : decode cX3_isSuch 19 = .ok (.iconst 1, 1) := by decide +kernel
theorem dX3_isSuch_20 : decode cX3_isSuch 20 = .ok (.goto 4, 3) := by decide +kernel
theorem dX3_isSuch_23 : decode cX3_isSuch 23 = .ok (.iconst 0, 1) := by decide +kernel
theorem dX3_isSuch_24 : decode cX3_isSuch 24 = .ok (.ireturn, 1) := by decide +kernel
theorem dX3_needs_0 : decode cX3_needs 0 = .ok (.iload_n 0, 1) := by decide +kernel
theorem dX3_needs_1 : decode cX3_needs 1 = .ok (.tableswitch 41 1 4 #[31, 35, 39, 39], 31) := by decide +kernel
theorem dX3_needs_32 : decode cX3_needs 32 = .ok (.iload_n 1, 1) := by decide +kernel
theorem dX3_needs_33 : decode cX3_needs 33 = .ok (.iconst 2, 1) := by decide +kernel
theorem dX3_needs_34 : decode cX3_needs 34 = .ok (.idiv, 1) := by decide +kernel
theorem dX3_needs_35 : decode cX3_needs 35 = .ok (.ireturn, 1) := by decide +kernel
theorem dX3_needs_36 : decode cX3_needs 36 = .ok (.iload_n 1, 1) := by decide +kernel
theorem dX3_needs_37 : decode cX3_needs 37 = .ok (.iconst 2, 1) := by decide +kernel
theorem dX3_needs_38 : decode cX3_needs 38 = .ok (.iadd, 1) := by decide +kernel
theorem dX3_needs_39 : decode cX3_needs 39 = .ok (.ireturn, 1) := by decide +kernel
theorem dX3_needs_40 : decode cX3_needs 40 = .ok (.iconst 0, 1) := by decide +kernel
theorem dX3_needs_41 : decode cX3_needs 41 = .ok (.ireturn, 1) := by decide +kernel
theorem dX3_needs_42 : decode cX3_needs 42 = .ok (.iload_n 1, 1) := by decide +kernel
theorem dX3_needs_43 : decode cX3_needs 43 = .ok (.ireturn, 1) := by decide +kernel
theorem dX3_countsAs_0 : decode cX3_countsAs 0 = .ok (.iload_n 0, 1) := by decide +kernel
theorem dX3_countsAs_1 : decode cX3_countsAs 1 = .ok (.iconst 4, 1) := by decide +kernel
theorem dX3_countsAs_2 : decode cX3_countsAs 2 = .ok (.if_icmp .ne 7, 3) := by decide +kernel
theorem dX3_countsAs_5 : decode cX3_countsAs 5 = .ok (.iconst 2, 1) := by decide +kernel
theorem dX3_countsAs_6 : decode cX3_countsAs 6 = .ok (.goto 4, 3) := by decide +kernel
theorem dX3_countsAs_9 : decode cX3_countsAs 9 = .ok (.iconst 1, 1) := by decide +kernel
theorem dX3_countsAs_10 : decode cX3_countsAs 10 = .ok (.ireturn, 1) := by decide +kernel
theorem dX3_hintsTill_0 : decode cX3_hintsTill 0 = .ok (.iconst 0, 1) := by decide +kernel
theorem dX3_hintsTill_1 : decode cX3_hintsTill 1 = .ok (.istore_n 3, 1) := by decide +kernel
theorem dX3_hintsTill_2 : decode cX3_hintsTill 2 = .ok (.iload_n 3, 1) := by decide +kernel
theorem dX3_hintsTill_3 : decode cX3_hintsTill 3 = .ok (.iload_n 1, 1) := by decide +kernel
theorem dX3_hintsTill_4 : decode cX3_hintsTill 4 = .ok (.if_icmp .gt 22, 3) := by decide +kernel
theorem dX3_hintsTill_7 : decode cX3_hintsTill 7 = .ok (.iload_n 0, 1) := by decide +kernel
theorem dX3_hintsTill_8 : decode cX3_hintsTill 8 = .ok (.iload_n 1, 1) := by decide +kernel
theorem dX3_hintsTill_9 : decode cX3_hintsTill 9 = .ok (.iload_n 3, 1) := by decide +kernel
theorem dX3_hintsTill_10 : decode cX3_hintsTill 10 = .ok (.isub, 1) := by decide +kernel
theorem dX3_hintsTill_11 : decode cX3_hintsTill 11 = .ok (.invokestatic 23, 3) := by decide +kernel
theorem dX3_hintsTill_14 : decode cX3_hintsTill 14 = .ok (.iload_n 2, 1) := by decide +kernel
theorem dX3_hintsTill_15 : decode cX3_hintsTill 15 = .ok (.if_icmp .gt 5, 3) := by decide +kernel
theorem dX3_hintsTill_18 : decode cX3_hintsTill 18 = .ok (.iload_n 3, 1) := by decide +kernel
theorem dX3_hintsTill_19 : decode cX3_hintsTill 19 = .ok (.ireturn, 1) := by decide +kernel
theorem dX3_hintsTill_20 : decode cX3_hintsTill 20 = .ok (.iinc 3 1, 3) := by decide +kernel
theorem dX3_hintsTill_23 : decode cX3_hintsTill 23 = .ok (.goto (-21), 3) := by decide +kernel
theorem dX3_hintsTill_26 : decode cX3_hintsTill 26 = .ok (.iconst (-1), 1) := by decide +kernel
theorem dX3_hintsTill_27 : decode cX3_hintsTill 27 = .ok (.ireturn, 1) := by decide +kernel
theorem dX4_init_0 : decode cX4_init 0 = .ok (.aload_n 0, 1) := by decide +kernel
theorem dX4_init_1 : decode cX4_init 1 = .ok (.invokespecial 3, 3) := by decide +kernel
theorem dX4_init_4 : decode cX4_init 4 = .ok (.aload_n 0, 1) := by decide +kernel
theorem dX4_init_5 : decode cX4_init 5 = .ok (.bipush 36, 2) := by decide +kernel
theorem dX4_init_7 : decode cX4_init 7 = .ok (.newarray .int, 2) := by decide +kernel
theorem dX4_init_9 : decode cX4_init 9 = .ok (.putfield 9, 3) := by decide +kernel
theorem dX4_init_12 : decode cX4_init 12 = .ok (.return_, 1) := by decide +kernel
theorem dX4_append_0 : decode cX4_append 0 = .ok (.aload_n 0, 1) := by decide +kernel
theorem dX4_append_1 : decode cX4_append 1 = .ok (.getfield 15, 3) := by decide +kernel
theorem dX4_append_4 : decode cX4_append 4 = .ok (.bipush 36, 2) := by decide +kernel
theorem dX4_append_6 : decode cX4_append 6 = .ok (.if_icmp .ge 23, 3) := by decide +kernel
theorem dX4_append_9 : decode cX4_append 9 = .ok (.aload_n 0, 1) := by decide +kernel
theorem dX4_append_10 : decode cX4_append 10 = .ok (.getfield 9, 3) := by decide +kernel
theorem dX4_append_13 : decode cX4_append 13 = .ok (.aload_n 0, 1) := by decide +kernel
theorem dX4_append_14 : decode cX4_append 14 = .ok (.getfield 15, 3) := by decide +kernel
theorem dX4_append_17 : decode cX4_append 17 = .ok (.iload_n 1, 1) := by decide +kernel
theorem dX4_append_18 : decode cX4_append 18 = .ok (.iastore, 1) := by decide +kernel
theorem dX4_append_19 : decode cX4_append 19 = .ok (.aload_n 0, 1) := by decide +kernel
theorem dX4_append_20 : decode cX4_append 20 = .ok (.dup, 1) := by decide +kernel
theorem dX4_append_21 : decode cX4_append 21 = .ok (.getfield 15, 3) := by decide +kernel
theorem dX4_append_24 : decode cX4_append 24 = .ok (.iconst 1, 1) := by decide +kernel
theorem dX4_append_25 : decode cX4_append 25 = .ok (.iadd, 1) := by decide +kernel
theorem dX4_append_26 : decode cX4_append 26 = .ok (.putfield 15, 3) := by decide +kernel
theorem dX4_append_29 : decode cX4_append 29 = .ok (.aload_n 0, 1) := by decide +kernel
theorem dX4_append_30 : decode cX4_append 30 = .ok (.getfield 15, 3) := by decide +kernel
theorem dX4_append_33 : decode cX4_append 33 = .ok (.ireturn, 1) := by decide +kernel
theorem dX4_clear_0 : decode cX4_clear 0 = .ok (.aload_n 0, 1) := by decide +kernel
theorem dX4_clear_1 : decode cX4_clear 1 = .ok (.getfield 15, 3) := by decide +kernel
theorem dX4_clear_4 : decode cX4_clear 4 = .ok (.istore_n 1, 1) := by decide +kernel
theorem dX4_clear_5 : decode cX4_clear 5 = .ok (.aload_n 0, 1) := by decide +kernel
theorem dX4_clear_6 : decode cX4_clear 6 = .ok (.iconst 0, 1) := by decide +kernel
theorem dX4_clear_7 : decode cX4_clear 7 = .ok (.putfield 15, 3) := by decide +kernel
theorem dX4_clear_10 : decode cX4_clear 10 = .ok (.iload_n 1, 1) := by decide +kernel
theorem dX4_clear_11 : decode cX4_clear 11 = .ok (.ireturn, 1) := by decide +kernel
theorem dX4_at_0 : decode cX4_at 0 = .ok (.iload_n 1, 1) := by decide +kernel
theorem dX4_at_1 : decode cX4_at 1 = .ok (.ifCond .lt 11, 3) := by decide +kernel
theorem dX4_at_4 : decode cX4_at 4 = .ok (.iload_n 1, 1) := by decide +kernel
theorem dX4_at_5 : decode cX4_at 5 = .ok (.aload_n 0, 1) := by decide +kernel
theorem dX4_at_6 : decode cX4_at 6 = .ok (.getfield 15, 3) := by decide +kernel
theorem dX4_at_9 : decode cX4_at 9 = .ok (.if_icmp .lt 7, 3) := by decide +kernel
theorem dX4_at_12 : decode cX4_at 12 = .ok (.iconst (-1), 1) := by decide +kernel
theorem dX4_at_13 : decode cX4_at 13 = .ok (.goto 9, 3) := by decide +kernel
theorem dX4_at_16 : decode cX4_at 16 = .ok (.aload_n 0, 1) := by decide +kernel
theorem dX4_at_17 : decode cX4_at 17 = .ok (.getfield 9, 3) := by decide +kernel
theorem dX4_at_20 : decode cX4_at 20 = .ok (.iload_n 1, 1) := by decide +kernel
theorem dX4_at_21 : decode cX4_at 21 = .ok (.iaload, 1) := by decide +kernel
theorem dX4_at_22 : decode cX4_at 22 = .ok (.ireturn, 1) := by decide +kernel
theorem dX4_digitAt_0 : decode cX4_digitAt 0 = .ok (.aload_n 0, 1) := by decide +kernel
theorem dX4_digitAt_1 : decode cX4_digitAt 1 = .ok (.iload_n 1, 1) := by decide +kernel
theorem dX4_digitAt_2 : decode cX4_digitAt 2 = .ok (.invokevirtual 19, 3) := by decide +kernel
theorem dX4_digitAt_5 : decode cX4_digitAt 5 = .ok (.bipush 48, 2) := by decide +kernel
theorem dX4_digitAt_7 : decode cX4_digitAt 7 = .ok (.isub, 1) := by decide +kernel
theorem dX4_digitAt_8 : decode cX4_digitAt 8 = .ok (.ireturn, 1) := by decide +kernel
theorem dX4_firstFault_0 : decode cX4_firstFault 0 = .ok (.iconst 0, 1) := by decide +kernel
theorem dX4_firstFault_1 : decode cX4_firstFault 1 = .ok (.istore_n 1, 1) := by decide +kernel
theorem dX4_firstFault_2 : decode cX4_firstFault 2 = .ok (.iload_n 1, 1) := by decide +kernel
theorem dX4_firstFault_3 : decode cX4_firstFault 3 = .ok (.aload_n 0, 1) := by decide +kernel
theorem dX4_firstFault_4 : decode cX4_firstFault 4 = .ok (.getfield 15, 3) := by decide +kernel
theorem dX4_firstFault_7 : decode cX4_firstFault 7 = .ok (.if_icmp .ge 30, 3) := by decide +kernel
theorem dX4_firstFault_10 : decode cX4_firstFault 10 = .ok (.iload_n 1, 1) := by decide +kernel
theorem dX4_firstFault_11 : decode cX4_firstFault 11 = .ok (.bipush 36, 2) := by decide +kernel
theorem dX4_firstFault_13 : decode cX4_firstFault 13 = .ok (.if_icmp .ge 24, 3) := by decide +kernel
theorem dX4_firstFault_16 : decode cX4_firstFault 16 = .ok (.iload_n 1, 1) := by decide +kernel
theorem dX4_firstFault_17 : decode cX4_firstFault 17 = .ok (.aload_n 0, 1) := by decide +kernel
theorem dX4_firstFault_18 : decode cX4_firstFault 18 = .ok (.getfield 9, 3) := by decide +kernel
theorem dX4_firstFault_21 : decode cX4_firstFault 21 = .ok (.iload_n 1, 1) := by decide +kernel
theorem dX4_firstFault_22 : decode cX4_firstFault 22 = .ok (.iaload, 1) := by decide +kernel
theorem dX4_firstFault_23 : decode cX4_firstFault 23 = .ok (.invokestatic 23, 3) := by decide +kernel
theorem dX4_firstFault_26 : decode cX4_firstFault 26 = .ok (.ifCond .ne 5, 3) := by decide +kernel
theorem dX4_firstFault_29 : decode cX4_firstFault 29 = .ok (.iload_n 1, 1) := by decide +kernel
theorem dX4_firstFault_30 : decode cX4_firstFault 30 = .ok (.ireturn, 1) := by decide +kernel
theorem dX4_firstFault_31 : decode cX4_firstFault 31 = .ok (.iinc 1 1, 3) := by decide +kernel
theorem dX4_firstFault_34 : decode cX4_firstFault 34 = .ok (.goto (-32), 3) := by decide +kernel
theorem dX4_firstFault_37 : decode cX4_firstFault 37 = .ok (.aload_n 0, 1) := by decide +kernel
theorem dX4_firstFault_38 : decode cX4_firstFault 38 = .ok (.getfield 15, 3) := by decide +kernel
theorem dX4_firstFault_41 : decode cX4_firstFault 41 = .ok (.ireturn, 1) := by decide +kernel
theorem dX4_isParty_0 : decode cX4_isParty 0 = .ok (.aload_n 0, 1) := by decide +kernel
theorem dX4_isParty_1 : decode cX4_isParty 1 = .ok (.getfield 15, 3) := by decide +kernel
theorem dX4_isParty_4 : decode cX4_isParty 4 = .ok (.iconst 3, 1) := by decide +kernel
theorem dX4_isParty_5 : decode cX4_isParty 5 = .ok (.if_icmp .le 19, 3) := by decide +kernel
theorem dX4_isParty_8 : decode cX4_isParty 8 = .ok (.aload_n 0, 1) := by decide +kernel
theorem dX4_isParty_9 : decode cX4_isParty 9 = .ok (.getfield 15, 3) := by decide +kernel
theorem dX4_isParty_12 : decode cX4_isParty 12 = .ok (.iconst 3, 1) := by decide +kernel
theorem dX4_isParty_13 : decode cX4_isParty 13 = .ok (.isub, 1) := by decide +kernel
theorem dX4_isParty_14 : decode cX4_isParty 14 = .ok (.iconst 4, 1) := by decide +kernel
theorem dX4_isParty_15 : decode cX4_isParty 15 = .ok (.irem, 1) := by decide +kernel
theorem dX4_isParty_16 : decode cX4_isParty 16 = .ok (.iconst 3, 1) := by decide +kernel
theorem dX4_isParty_17 : decode cX4_isParty 17 = .ok (.if_icmp .ne 7, 3) := by decide +kernel
theorem dX4_isParty_20 : decode cX4_isParty 20 = .ok (.iconst 1, 1) := by decide +kernel
theorem dX4_isParty_21 : decode cX4_isParty 21 = .ok (.goto 4, 3) := by decide +kernel
theorem dX4_isParty_24 : decode cX4_isParty 24 = .ok (.iconst 0, 1) := by decide +kernel
theorem dX4_isParty_25 : decode cX4_isParty 25 = .ok (.istore_n 1, 1) := by decide +kernel
theorem dX4_isParty_26 : decode cX4_isParty 26 = .ok (.iload_n 1, 1) := by decide +kernel
theorem dX4_isParty_27 : decode cX4_isParty 27 = .ok (.ifCond .eq 26, 3) := by decide +kernel
theorem dX4_isParty_30 : decode cX4_isParty 30 = .ok (.aload_n 0, 1) := by decide +kernel
theorem dX4_isParty_31 : decode cX4_isParty 31 = .ok (.invokevirtual 27, 3) := by decide +kernel
theorem dX4_isParty_34 : decode cX4_isParty 34 = .ok (.iconst 2, 1) := by decide +kernel
theorem dX4_isParty_35 : decode cX4_isParty 35 = .ok (.if_icmp .lt 18, 3) := by decide +kernel
theorem dX4_isParty_38 : decode cX4_isParty 38 = .ok (.aload_n 0, 1) := by decide +kernel
theorem dX4_isParty_39 : decode cX4_isParty 39 = .ok (.invokevirtual 31, 3) := by decide +kernel
theorem dX4_isParty_42 : decode cX4_isParty 42 = .ok (.aload_n 0, 1) := by decide +kernel
theorem dX4_isParty_43 : decode cX4_isParty 43 = .ok (.getfield 15, 3) := by decide +kernel
theorem dX4_isParty_46 : decode cX4_isParty 46 = .ok (.if_icmp .ne 7, 3) := by decide +kernel
theorem dX4_isParty_49 : decode cX4_isParty 49 = .ok (.iconst 1, 1) := by decide +kernel
theorem dX4_isParty_50 : decode cX4_isParty 50 = .ok (.goto 4, 3) := by decide +kernel
theorem dX4_isParty_53 : decode cX4_isParty 53 = .ok (.iconst 0, 1) := by decide +kernel
theorem dX4_isParty_54 : decode cX4_isParty 54 = .ok (.ireturn, 1) := by decide +kernel
theorem dX4_guests_0 : decode cX4_guests 0 = .ok (.aload_n 0, 1) := by decide +kernel
theorem dX4_guests_1 : decode cX4_guests 1 = .ok (.getfield 15, 3) := by decide +kernel
theorem dX4_guests_4 : decode cX4_guests 4 = .ok (.iconst 3, 1) := by decide +kernel
theorem dX4_guests_5 : decode cX4_guests 5 = .ok (.isub, 1) := by decide +kernel
theorem dX4_guests_6 : decode cX4_guests 6 = .ok (.iconst 1, 1) := by decide +kernel
theorem dX4_guests_7 : decode cX4_guests 7 = .ok (.iadd, 1) := by decide +kernel
theorem dX4_guests_8 : decode cX4_guests 8 = .ok (.iconst 4, 1) := by decide +kernel
theorem dX4_guests_9 : decode cX4_guests 9 = .ok (.idiv, 1) := by decide +kernel
theorem dX4_guests_10 : decode cX4_guests 10 = .ok (.ireturn, 1) := by decide +kernel
theorem dX4_placeOf_0 : decode cX4_placeOf 0 = .ok (.iconst 3, 1) := by decide +kernel
theorem dX4_placeOf_1 : decode cX4_placeOf 1 = .ok (.iconst 4, 1) := by decide +kernel
theorem dX4_placeOf_2 : decode cX4_placeOf 2 = .ok (.iload_n 0, 1) := by decide +kernel
theorem dX4_placeOf_3 : decode cX4_placeOf 3 = .ok (.imul, 1) := by decide +kernel
theorem dX4_placeOf_4 : decode cX4_placeOf 4 = .ok (.iadd, 1) := by decide +kernel
theorem dX4_placeOf_5 : decode cX4_placeOf 5 = .ok (.ireturn, 1) := by decide +kernel
theorem dX4_fits_0 : decode cX4_fits 0 = .ok (.iload_n 0, 1) := by decide +kernel
theorem dX4_fits_1 : decode cX4_fits 1 = .ok (.iconst 2, 1) := by decide +kernel
theorem dX4_fits_2 : decode cX4_fits 2 = .ok (.if_icmp .ge 10, 3) := by decide +kernel
theorem dX4_fits_5 : decode cX4_fits 5 = .ok (.iload_n 1, 1) := by decide +kernel
theorem dX4_fits_6 : decode cX4_fits 6 = .ok (.bipush 10, 2) := by decide +kernel
theorem dX4_fits_8 : decode cX4_fits 8 = .ok (.invokestatic 34, 3) := by decide +kernel
theorem dX4_fits_11 : decode cX4_fits 11 = .ok (.ireturn, 1) := by decide +kernel
theorem dX4_fits_12 : decode cX4_fits 12 = .ok (.iload_n 0, 1) := by decide +kernel
theorem dX4_fits_13 : decode cX4_fits 13 = .ok (.iconst 2, 1) := by decide +kernel
theorem dX4_fits_14 : decode cX4_fits 14 = .ok (.if_icmp .ne 15, 3) := by decide +kernel
theorem dX4_fits_17 : decode cX4_fits 17 = .ok (.iload_n 1, 1) := by decide +kernel
theorem dX4_fits_18 : decode cX4_fits 18 = .ok (.bipush 59, 2) := by decide +kernel
theorem dX4_fits_20 : decode cX4_fits 20 = .ok (.if_icmp .ne 7, 3) := by decide +kernel
theorem dX4_fits_23 : decode cX4_fits 23 = .ok (.iconst 1, 1) := by decide +kernel
theorem dX4_fits_24 : decode cX4_fits 24 = .ok (.goto 4, 3) := by decide +kernel
theorem dX4_fits_27 : decode cX4_fits 27 = .ok (.iconst 0, 1) := by decide +kernel
theorem dX4_fits_28 : decode cX4_fits 28 = .ok (.ireturn, 1) := by decide +kernel
theorem dX4_fits_29 : decode cX4_fits 29 = .ok (.iload_n 0, 1) := by decide +kernel
theorem dX4_fits_30 : decode cX4_fits 30 = .ok (.iconst 3, 1) := by decide +kernel
theorem dX4_fits_31 : decode cX4_fits 31 = .ok (.isub, 1) := by decide +kernel
theorem dX4_fits_32 : decode cX4_fits 32 = .ok (.iconst 4, 1) := by decide +kernel
theorem dX4_fits_33 : decode cX4_fits 33 = .ok (.idiv, 1) := by decide +kernel
theorem dX4_fits_34 : decode cX4_fits 34 = .ok (.iload_n 0, 1) := by decide +kernel
theorem dX4_fits_35 : decode cX4_fits 35 = .ok (.iconst 3, 1) := by decide +kernel
theorem dX4_fits_36 : decode cX4_fits 36 = .ok (.isub, 1) := by decide +kernel
theorem dX4_fits_37 : decode cX4_fits 37 = .ok (.iconst 4, 1) := by decide +kernel
theorem dX4_fits_38 : decode cX4_fits 38 = .ok (.irem, 1) := by decide +kernel
theorem dX4_fits_39 : decode cX4_fits 39 = .ok (.iload_n 1, 1) := by decide +kernel
theorem dX4_fits_40 : decode cX4_fits 40 = .ok (.invokestatic 37, 3) := by decide +kernel
theorem dX4_fits_43 : decode cX4_fits 43 = .ok (.ireturn, 1) := by decide +kernel
theorem dX4_fitsGuest_0 : decode cX4_fitsGuest 0 = .ok (.iload_n 0, 1) := by decide +kernel
theorem dX4_fitsGuest_1 : decode cX4_fitsGuest 1 = .ok (.bipush 8, 2) := by decide +kernel
theorem dX4_fitsGuest_3 : decode cX4_fitsGuest 3 = .ok (.if_icmp .lt 5, 3) := by decide +kernel
theorem dX4_fitsGuest_6 : decode cX4_fitsGuest 6 = .ok (.iconst 0, 1) := by decide +kernel
theorem dX4_fitsGuest_7 : decode cX4_fitsGuest 7 = .ok (.ireturn, 1) := by decide +kernel
theorem dX4_fitsGuest_8 : decode cX4_fitsGuest 8 = .ok (.iload_n 1, 1) := by decide +kernel
theorem dX4_fitsGuest_9 : decode cX4_fitsGuest 9 = .ok (.tableswitch 68 0 2 #[27, 41, 48], 27) := by decide +kernel
theorem dX4_fitsGuest_36 : decode cX4_fitsGuest 36 = .ok (.iload_n 2, 1) := by decide +kernel
theorem dX4_fitsGuest_37 : decode cX4_fitsGuest 37 = .ok (.invokestatic 41, 3) := by decide +kernel
theorem dX4_fitsGuest_40 : decode cX4_fitsGuest 40 = .ok (.iconst (-1), 1) := by decide +kernel
theorem dX4_fitsGuest_41 : decode cX4_fitsGuest 41 = .ok (.if_icmp .eq 7, 3) := by decide +kernel
theorem dX4_fitsGuest_44 : decode cX4_fitsGuest 44 = .ok (.iconst 1, 1) := by decide +kernel
theorem dX4_fitsGuest_45 : decode cX4_fitsGuest 45 = .ok (.goto 4, 3) := by decide +kernel
theorem dX4_fitsGuest_48 : decode cX4_fitsGuest 48 = .ok (.iconst 0, 1) := by decide +kernel
theorem dX4_fitsGuest_49 : decode cX4_fitsGuest 49 = .ok (.ireturn, 1) := by decide +kernel
theorem dX4_fitsGuest_50 : decode cX4_fitsGuest 50 = .ok (.iload_n 2, 1) := by decide +kernel
theorem dX4_fitsGuest_51 : decode cX4_fitsGuest 51 = .ok (.bipush 10, 2) := by decide +kernel
theorem dX4_fitsGuest_53 : decode cX4_fitsGuest 53 = .ok (.invokestatic 34, 3) := by decide +kernel
theorem dX4_fitsGuest_56 : decode cX4_fitsGuest 56 = .ok (.ireturn, 1) := by decide +kernel
theorem dX4_fitsGuest_57 : decode cX4_fitsGuest 57 = .ok (.iload_n 2, 1) := by decide +kernel
theorem dX4_fitsGuest_58 : decode cX4_fitsGuest 58 = .ok (.bipush 45, 2) := by decide +kernel
theorem dX4_fitsGuest_60 : decode cX4_fitsGuest 60 = .ok (.if_icmp .eq 11, 3) := by decide +kernel
theorem dX4_fitsGuest_63 : decode cX4_fitsGuest 63 = .ok (.iload_n 2, 1) := by decide +kernel
theorem dX4_fitsGuest_64 : decode cX4_fitsGuest 64 = .ok (.iload_n 0, 1) := by decide +kernel
theorem dX4_fitsGuest_65 : decode cX4_fitsGuest 65 = .ok (.invokestatic 34, 3) := by decide +kernel
theorem dX4_fitsGuest_68 : decode cX4_fitsGuest 68 = .ok (.ifCond .eq 7, 3) := by decide +kernel
theorem dX4_fitsGuest_71 : decode cX4_fitsGuest 71 = .ok (.iconst 1, 1) := by decide +kernel
theorem dX4_fitsGuest_72 : decode cX4_fitsGuest 72 = .ok (.goto 4, 3) := by decide +kernel
theorem dX4_fitsGuest_75 : decode cX4_fitsGuest 75 = .ok (.iconst 0, 1) := by decide +kernel
theorem dX4_fitsGuest_76 : decode cX4_fitsGuest 76 = .ok (.ireturn, 1) := by decide +kernel
theorem dX4_fitsGuest_77 : decode cX4_fitsGuest 77 = .ok (.iload_n 2, 1) := by decide +kernel
theorem dX4_fitsGuest_78 : decode cX4_fitsGuest 78 = .ok (.bipush 44, 2) := by decide +kernel
theorem dX4_fitsGuest_80 : decode cX4_fitsGuest 80 = .ok (.if_icmp .ne 13, 3) := by decide +kernel
theorem dX4_fitsGuest_83 : decode cX4_fitsGuest 83 = .ok (.iload_n 0, 1) := by decide +kernel
theorem dX4_fitsGuest_84 : decode cX4_fitsGuest 84 = .ok (.bipush 7, 2) := by decide +kernel
theorem dX4_fitsGuest_86 : decode cX4_fitsGuest 86 = .ok (.if_icmp .ge 7, 3) := by decide +kernel
theorem dX4_fitsGuest_89 : decode cX4_fitsGuest 89 = .ok (.iconst 1, 1) := by decide +kernel
theorem dX4_fitsGuest_90 : decode cX4_fitsGuest 90 = .ok (.goto 4, 3) := by decide +kernel
theorem dX4_fitsGuest_93 : decode cX4_fitsGuest 93 = .ok (.iconst 0, 1) := by decide +kernel
theorem dX4_fitsGuest_94 : decode cX4_fitsGuest 94 = .ok (.ireturn, 1) := by decide +kernel
theorem dX4_isDigitBelow_0 : decode cX4_isDigitBelow 0 = .ok (.iload_n 0, 1) := by decide +kernel
theorem dX4_isDigitBelow_1 : decode cX4_isDigitBelow 1 = .ok (.bipush 48, 2) := by decide +kernel
theorem dX4_isDigitBelow_3 : decode cX4_isDigitBelow 3 = .ok (.if_icmp .lt 15, 3) := by decide +kernel
theorem dX4_isDigitBelow_6 : decode cX4_isDigitBelow 6 = .ok (.iload_n 0, 1) := by decide +kernel
theorem dX4_isDigitBelow_7 : decode cX4_isDigitBelow 7 = .ok (.bipush 48, 2) := by decide +kernel
theorem dX4_isDigitBelow_9 : decode cX4_isDigitBelow 9 = .ok (.iload_n 1, 1) := by decide +kernel
theorem dX4_isDigitBelow_10 : decode cX4_isDigitBelow 10 = .ok (.iadd, 1) := by decide +kernel
theorem dX4_isDigitBelow_11 : decode cX4_isDigitBelow 11 = .ok (.if_icmp .ge 7, 3) := by decide +kernel
theorem dX4_isDigitBelow_14 : decode cX4_isDigitBelow 14 = .ok (.iconst 1, 1) := by decide +kernel
theorem dX4_isDigitBelow_15 : decode cX4_isDigitBelow 15 = .ok (.goto 4, 3) := by decide +kernel
theorem dX4_isDigitBelow_18 : decode cX4_isDigitBelow 18 = .ok (.iconst 0, 1) := by decide +kernel
theorem dX4_isDigitBelow_19 : decode cX4_isDigitBelow 19 = .ok (.ireturn, 1) := by decide +kernel
theorem dX5_init_0 : decode cX5_init 0 = .ok (.aload_n 0, 1) := by decide +kernel
theorem dX5_init_1 : decode cX5_init 1 = .ok (.invokespecial 3, 3) := by decide +kernel
theorem dX5_init_4 : decode cX5_init 4 = .ok (.aload_n 0, 1) := by decide +kernel
theorem dX5_init_5 : decode cX5_init 5 = .ok (.sipush 256, 3) := by decide +kernel
theorem dX5_init_8 : decode cX5_init 8 = .ok (.newarray .int, 2) := by decide +kernel
theorem dX5_init_10 : decode cX5_init 10 = .ok (.putfield 9, 3) := by decide +kernel
theorem dX5_init_13 : decode cX5_init 13 = .ok (.return_, 1) := by decide +kernel
theorem dX5_find_0 : decode cX5_find 0 = .ok (.aload_n 0, 1) := by decide +kernel
theorem dX5_find_1 : decode cX5_find 1 = .ok (.aload_n 1, 1) := by decide +kernel
theorem dX5_find_2 : decode cX5_find 2 = .ok (.getfield 15, 3) := by decide +kernel
theorem dX5_find_5 : decode cX5_find 5 = .ok (.putfield 21, 3) := by decide +kernel
theorem dX5_find_8 : decode cX5_find 8 = .ok (.iconst 1, 1) := by decide +kernel
theorem dX5_find_9 : decode cX5_find 9 = .ok (.istore_n 2, 1) := by decide +kernel
theorem dX5_find_10 : decode cX5_find 10 = .ok (.iload_n 2, 1) := by decide +kernel
theorem dX5_find_11 : decode cX5_find 11 = .ok (.aload_n 0, 1) := by decide +kernel
theorem dX5_find_12 : decode cX5_find 12 = .ok (.getfield 21, 3) := by decide +kernel
theorem dX5_find_15 : decode cX5_find 15 = .ok (.if_icmp .gt 52, 3) := by decide +kernel
theorem dX5_find_18 : decode cX5_find 18 = .ok (.iload_n 2, 1) := by decide +kernel
theorem dX5_find_19 : decode cX5_find 19 = .ok (.aload_n 0, 1) := by decide +kernel
theorem dX5_find_20 : decode cX5_find 20 = .ok (.getfield 9, 3) := by decide +kernel
theorem dX5_find_23 : decode cX5_find 23 = .ok (.arraylength, 1) := by decide +kernel
theorem dX5_find_24 : decode cX5_find 24 = .ok (.if_icmp .ge 43, 3) := by decide +kernel
theorem dX5_find_27 : decode cX5_find 27 = .ok (.aload_n 0, 1) := by decide +kernel
theorem dX5_find_28 : decode cX5_find 28 = .ok (.iload_n 2, 1) := by decide +kernel
theorem dX5_find_29 : decode cX5_find 29 = .ok (.invokevirtual 22, 3) := by decide +kernel
theorem dX5_find_32 : decode cX5_find 32 = .ok (.ifCond .eq 29, 3) := by decide +kernel
theorem dX5_find_35 : decode cX5_find 35 = .ok (.aload_n 1, 1) := by decide +kernel
theorem dX5_find_36 : decode cX5_find 36 = .ok (.iload_n 2, 1) := by decide +kernel
theorem dX5_find_37 : decode cX5_find 37 = .ok (.invokevirtual 26, 3) := by decide +kernel
theorem dX5_find_40 : decode cX5_find 40 = .ok (.istore_n 3, 1) := by decide +kernel
theorem dX5_find_41 : decode cX5_find 41 = .ok (.aload_n 0, 1) := by decide +kernel
theorem dX5_find_42 : decode cX5_find 42 = .ok (.getfield 9, 3) := by decide +kernel
theorem dX5_find_45 : decode cX5_find 45 = .ok (.iload_n 2, 1) := by decide +kernel
theorem dX5_find_46 : decode cX5_find 46 = .ok (.iload_n 3, 1) := by decide +kernel
theorem dX5_find_47 : decode cX5_find 47 = .ok (.iload_n 2, 1) := by decide +kernel
theorem dX5_find_48 : decode cX5_find 48 = .ok (.if_icmp .ne 7, 3) := by decide +kernel
theorem dX5_find_51 : decode cX5_find 51 = .ok (.iload_n 2, 1) := by decide +kernel
theorem dX5_find_52 : decode cX5_find 52 = .ok (.goto 8, 3) := by decide +kernel
theorem dX5_find_55 : decode cX5_find 55 = .ok (.aload_n 0, 1) := by decide +kernel
theorem dX5_find_56 : decode cX5_find 56 = .ok (.iload_n 3, 1) := by decide +kernel
theorem dX5_find_57 : decode cX5_find 57 = .ok (.invokevirtual 30, 3) := by decide +kernel
theorem dX5_find_60 : decode cX5_find 60 = .ok (.iastore, 1) := by decide +kernel
theorem dX5_find_61 : decode cX5_find 61 = .ok (.iinc 2 1, 3) := by decide +kernel
theorem dX5_find_64 : decode cX5_find 64 = .ok (.goto (-54), 3) := by decide +kernel
theorem dX5_find_67 : decode cX5_find 67 = .ok (.return_, 1) := by decide +kernel
theorem dX5_mostOf_0 : decode cX5_mostOf 0 = .ok (.iload_n 1, 1) := by decide +kernel
theorem dX5_mostOf_1 : decode cX5_mostOf 1 = .ok (.ifCond .lt 12, 3) := by decide +kernel
theorem dX5_mostOf_4 : decode cX5_mostOf 4 = .ok (.iload_n 1, 1) := by decide +kernel
theorem dX5_mostOf_5 : decode cX5_mostOf 5 = .ok (.aload_n 0, 1) := by decide +kernel
theorem dX5_mostOf_6 : decode cX5_mostOf 6 = .ok (.getfield 9, 3) := by decide +kernel
theorem dX5_mostOf_9 : decode cX5_mostOf 9 = .ok (.arraylength, 1) := by decide +kernel
theorem dX5_mostOf_10 : decode cX5_mostOf 10 = .ok (.if_icmp .lt 7, 3) := by decide +kernel
theorem dX5_mostOf_13 : decode cX5_mostOf 13 = .ok (.iconst 0, 1) := by decide +kernel
theorem dX5_mostOf_14 : decode cX5_mostOf 14 = .ok (.goto 9, 3) := by decide +kernel
theorem dX5_mostOf_17 : decode cX5_mostOf 17 = .ok (.aload_n 0, 1) := by decide +kernel
theorem dX5_mostOf_18 : decode cX5_mostOf 18 = .ok (.getfield 9, 3) := by decide +kernel
theorem dX5_mostOf_21 : decode cX5_mostOf 21 = .ok (.iload_n 1, 1) := by decide +kernel
theorem dX5_mostOf_22 : decode cX5_mostOf 22 = .ok (.iaload, 1) := by decide +kernel
theorem dX5_mostOf_23 : decode cX5_mostOf 23 = .ok (.ireturn, 1) := by decide +kernel
theorem dX5_isChoice_0 : decode cX5_isChoice 0 = .ok (.iload_n 1, 1) := by decide +kernel
theorem dX5_isChoice_1 : decode cX5_isChoice 1 = .ok (.aload_n 0, 1) := by decide +kernel
theorem dX5_isChoice_2 : decode cX5_isChoice 2 = .ok (.getfield 21, 3) := by decide +kernel
theorem dX5_isChoice_5 : decode cX5_isChoice 5 = .ok (.iconst (-1), 1) := by decide +kernel
theorem dX5_isChoice_6 : decode cX5_isChoice 6 = .ok (.ixor, 1) := by decide +kernel
theorem dX5_isChoice_7 : decode cX5_isChoice 7 = .ok (.iand, 1) := by decide +kernel
theorem dX5_isChoice_8 : decode cX5_isChoice 8 = .ok (.ifCond .ne 7, 3) := by decide +kernel
theorem dX5_isChoice_11 : decode cX5_isChoice 11 = .ok (.iconst 1, 1) := by decide +kernel
theorem dX5_isChoice_12 : decode cX5_isChoice 12 = .ok (.goto 4, 3) := by decide +kernel
theorem dX5_isChoice_15 : decode cX5_isChoice 15 = .ok (.iconst 0, 1) := by decide +kernel
theorem dX5_isChoice_16 : decode cX5_isChoice 16 = .ok (.ireturn, 1) := by decide +kernel
theorem dX5_fewest_0 : decode cX5_fewest 0 = .ok (.iconst 0, 1) := by decide +kernel
theorem dX5_fewest_1 : decode cX5_fewest 1 = .ok (.istore_n 1, 1) := by decide +kernel
theorem dX5_fewest_2 : decode cX5_fewest 2 = .ok (.iconst 1, 1) := by decide +kernel
theorem dX5_fewest_3 : decode cX5_fewest 3 = .ok (.istore_n 2, 1) := by decide +kernel
theorem dX5_fewest_4 : decode cX5_fewest 4 = .ok (.iload_n 2, 1) := by decide +kernel
theorem dX5_fewest_5 : decode cX5_fewest 5 = .ok (.aload_n 0, 1) := by decide +kernel
theorem dX5_fewest_6 : decode cX5_fewest 6 = .ok (.getfield 21, 3) := by decide +kernel
theorem dX5_fewest_9 : decode cX5_fewest 9 = .ok (.if_icmp .gt 53, 3) := by decide +kernel
theorem dX5_fewest_12 : decode cX5_fewest 12 = .ok (.iload_n 2, 1) := by decide +kernel
theorem dX5_fewest_13 : decode cX5_fewest 13 = .ok (.aload_n 0, 1) := by decide +kernel
theorem dX5_fewest_14 : decode cX5_fewest 14 = .ok (.getfield 9, 3) := by decide +kernel
theorem dX5_fewest_17 : decode cX5_fewest 17 = .ok (.arraylength, 1) := by decide +kernel
theorem dX5_fewest_18 : decode cX5_fewest 18 = .ok (.if_icmp .ge 44, 3) := by decide +kernel
theorem dX5_fewest_21 : decode cX5_fewest 21 = .ok (.aload_n 0, 1) := by decide +kernel
theorem dX5_fewest_22 : decode cX5_fewest 22 = .ok (.iload_n 2, 1) := by decide +kernel
theorem dX5_fewest_23 : decode cX5_fewest 23 = .ok (.invokevirtual 22, 3) := by decide +kernel
theorem dX5_fewest_26 : decode cX5_fewest 26 = .ok (.ifCond .eq 30, 3) := by decide +kernel
theorem dX5_fewest_29 : decode cX5_fewest 29 = .ok (.aload_n 0, 1) := by decide +kernel
theorem dX5_fewest_30 : decode cX5_fewest 30 = .ok (.getfield 9, 3) := by decide +kernel
theorem dX5_fewest_33 : decode cX5_fewest 33 = .ok (.iload_n 2, 1) := by decide +kernel
theorem dX5_fewest_34 : decode cX5_fewest 34 = .ok (.iaload, 1) := by decide +kernel
theorem dX5_fewest_35 : decode cX5_fewest 35 = .ok (.iload_n 2, 1) := by decide +kernel
theorem dX5_fewest_36 : decode cX5_fewest 36 = .ok (.if_icmp .ne 20, 3) := by decide +kernel
theorem dX5_fewest_39 : decode cX5_fewest 39 = .ok (.iload_n 1, 1) := by decide +kernel
theorem dX5_fewest_40 : decode cX5_fewest 40 = .ok (.ifCond .eq 14, 3) := by decide +kernel
theorem dX5_fewest_43 : decode cX5_fewest 43 = .ok (.iload_n 2, 1) := by decide +kernel
theorem dX5_fewest_44 : decode cX5_fewest 44 = .ok (.invokestatic 33, 3) := by decide +kernel
theorem dX5_fewest_47 : decode cX5_fewest 47 = .ok (.iload_n 1, 1) := by decide +kernel
theorem dX5_fewest_48 : decode cX5_fewest 48 = .ok (.invokestatic 33, 3) := by decide +kernel
theorem dX5_fewest_51 : decode cX5_fewest 51 = .ok (.if_icmp .ge 5, 3) := by decide +kernel
theorem dX5_fewest_54 : decode cX5_fewest 54 = .ok (.iload_n 2, 1) := by decide +kernel
theorem dX5_fewest_55 : decode cX5_fewest 55 = .ok (.istore_n 1, 1) := by decide +kernel
theorem dX5_fewest_56 : decode cX5_fewest 56 = .ok (.iinc 2 1, 3) := by decide +kernel
theorem dX5_fewest_59 : decode cX5_fewest 59 = .ok (.goto (-55), 3) := by decide +kernel
theorem dX5_fewest_62 : decode cX5_fewest 62 = .ok (.iload_n 1, 1) := by decide +kernel
theorem dX5_fewest_63 : decode cX5_fewest 63 = .ok (.ireturn, 1) := by decide +kernel
theorem dX6_init_0 : decode cX6_init 0 = .ok (.aload_n 0, 1) := by decide +kernel
theorem dX6_init_1 : decode cX6_init 1 = .ok (.invokespecial 3, 3) := by decide +kernel
theorem dX6_init_4 : decode cX6_init 4 = .ok (.aload_n 0, 1) := by decide +kernel
theorem dX6_init_5 : decode cX6_init 5 = .ok (.bipush 8, 2) := by decide +kernel
theorem dX6_init_7 : decode cX6_init 7 = .ok (.newarray .int, 2) := by decide +kernel
theorem dX6_init_9 : decode cX6_init 9 = .ok (.putfield 9, 3) := by decide +kernel
theorem dX6_init_12 : decode cX6_init 12 = .ok (.aload_n 0, 1) := by decide +kernel
theorem dX6_init_13 : decode cX6_init 13 = .ok (.bipush 8, 2) := by decide +kernel
theorem dX6_init_15 : decode cX6_init 15 = .ok (.newarray .int, 2) := by decide +kernel
theorem dX6_init_17 : decode cX6_init 17 = .ok (.putfield 15, 3) := by decide +kernel
theorem dX6_init_20 : decode cX6_init 20 = .ok (.aload_n 0, 1) := by decide +kernel
theorem dX6_init_21 : decode cX6_init 21 = .ok (.bipush 8, 2) := by decide +kernel
theorem dX6_init_23 : decode cX6_init 23 = .ok (.newarray .int, 2) := by decide +kernel
theorem dX6_init_25 : decode cX6_init 25 = .ok (.putfield 18, 3) := by decide +kernel
theorem dX6_init_28 : decode cX6_init 28 = .ok (.return_, 1) := by decide +kernel
theorem dX6_readFrom_0 : decode cX6_readFrom 0 = .ok (.aload_n 0, 1) := by decide +kernel
theorem dX6_readFrom_1 : decode cX6_readFrom 1 = .ok (.aload_n 1, 1) := by decide +kernel
theorem dX6_readFrom_2 : decode cX6_readFrom 2 = .ok (.invokevirtual 21, 3) := by decide +kernel
theorem dX6_readFrom_5 : decode cX6_readFrom 5 = .ok (.putfield 27, 3) := by decide +kernel
theorem dX6_readFrom_8 : decode cX6_readFrom 8 = .ok (.aload_n 0, 1) := by decide +kernel
theorem dX6_readFrom_9 : decode cX6_readFrom 9 = .ok (.aload_n 0, 1) := by decide +kernel
theorem dX6_readFrom_10 : decode cX6_readFrom 10 = .ok (.invokevirtual 30, 3) := by decide +kernel
theorem dX6_readFrom_13 : decode cX6_readFrom 13 = .ok (.putfield 33, 3) := by decide +kernel
theorem dX6_readFrom_16 : decode cX6_readFrom 16 = .ok (.aload_n 0, 1) := by decide +kernel
theorem dX6_readFrom_17 : decode cX6_readFrom 17 = .ok (.bipush 10, 2) := by decide +kernel
theorem dX6_readFrom_19 : decode cX6_readFrom 19 = .ok (.aload_n 1, 1) := by decide +kernel
theorem dX6_readFrom_20 : decode cX6_readFrom 20 = .ok (.iconst 0, 1) := by decide +kernel
theorem dX6_readFrom_21 : decode cX6_readFrom 21 = .ok (.invokevirtual 36, 3) := by decide +kernel
theorem dX6_readFrom_24 : decode cX6_readFrom 24 = .ok (.imul, 1) := by decide +kernel
theorem dX6_readFrom_25 : decode cX6_readFrom 25 = .ok (.aload_n 1, 1) := by decide +kernel
theorem dX6_readFrom_26 : decode cX6_readFrom 26 = .ok (.iconst 1, 1) := by decide +kernel
theorem dX6_readFrom_27 : decode cX6_readFrom 27 = .ok (.invokevirtual 36, 3) := by decide +kernel
theorem dX6_readFrom_30 : decode cX6_readFrom 30 = .ok (.iadd, 1) := by decide +kernel
theorem dX6_readFrom_31 : decode cX6_readFrom 31 = .ok (.putfield 40, 3) := by decide +kernel
theorem dX6_readFrom_34 : decode cX6_readFrom 34 = .ok (.aload_n 0, 1) := by decide +kernel
theorem dX6_readFrom_35 : decode cX6_readFrom 35 = .ok (.iconst 0, 1) := by decide +kernel
theorem dX6_readFrom_36 : decode cX6_readFrom 36 = .ok (.putfield 43, 3) := by decide +kernel
theorem dX6_readFrom_39 : decode cX6_readFrom 39 = .ok (.iconst 0, 1) := by decide +kernel
theorem dX6_readFrom_40 : decode cX6_readFrom 40 = .ok (.istore_n 2, 1) := by decide +kernel
theorem dX6_readFrom_41 : decode cX6_readFrom 41 = .ok (.iload_n 2, 1) := by decide +kernel
theorem dX6_readFrom_42 : decode cX6_readFrom 42 = .ok (.aload_n 0, 1) := by decide +kernel
theorem dX6_readFrom_43 : decode cX6_readFrom 43 = .ok (.getfield 27, 3) := by decide +kernel
theorem dX6_readFrom_46 : decode cX6_readFrom 46 = .ok (.if_icmp .ge 76, 3) := by decide +kernel
theorem dX6_readFrom_49 : decode cX6_readFrom 49 = .ok (.iload_n 2, 1) := by decide +kernel
theorem dX6_readFrom_50 : decode cX6_readFrom 50 = .ok (.bipush 8, 2) := by decide +kernel
theorem dX6_readFrom_52 : decode cX6_readFrom 52 = .ok (.if_icmp .ge 70, 3) := by decide +kernel
theorem dX6_readFrom_55 : decode cX6_readFrom 55 = .ok (.iload_n 2, 1) := by decide +kernel
theorem dX6_readFrom_56 : decode cX6_readFrom 56 = .ok (.invokestatic 46, 3) := by decide +kernel
theorem dX6_readFrom_59 : decode cX6_readFrom 59 = .ok (.istore_n 3, 1) := by decide +kernel
theorem dX6_readFrom_60 : decode cX6_readFrom 60 = .ok (.aload_n 0, 1) := by decide +kernel
theorem dX6_readFrom_61 : decode cX6_readFrom 61 = .ok (.getfield 9, 3) := by decide +kernel
theorem dX6_readFrom_64 : decode cX6_readFrom 64 = .ok (.iload_n 2, 1) := by decide +kernel
theorem dX6_readFrom_65 : decode cX6_readFrom 65 = .ok (.aload_n 1, 1) := by decide +kernel
theorem dX6_readFrom_66 : decode cX6_readFrom 66 = .ok (.iload_n 3, 1) := by decide +kernel
theorem dX6_readFrom_67 : decode cX6_readFrom 67 = .ok (.invokevirtual 49, 3) := by decide +kernel
theorem dX6_readFrom_70 : decode cX6_readFrom 70 = .ok (.invokestatic 52, 3) := by decide +kernel
theorem dX6_readFrom_73 : decode cX6_readFrom 73 = .ok (.iastore, 1) := by decide +kernel
theorem dX6_readFrom_74 : decode cX6_readFrom 74 = .ok (.aload_n 0, 1) := by decide +kernel
theorem dX6_readFrom_75 : decode cX6_readFrom 75 = .ok (.getfield 15, 3) := by decide +kernel
theorem dX6_readFrom_78 : decode cX6_readFrom 78 = .ok (.iload_n 2, 1) := by decide +kernel
theorem dX6_readFrom_79 : decode cX6_readFrom 79 = .ok (.aload_n 1, 1) := by decide +kernel
theorem dX6_readFrom_80 : decode cX6_readFrom 80 = .ok (.iload_n 3, 1) := by decide +kernel
theorem dX6_readFrom_81 : decode cX6_readFrom 81 = .ok (.iconst 1, 1) := by decide +kernel
theorem dX6_readFrom_82 : decode cX6_readFrom 82 = .ok (.iadd, 1) := by decide +kernel
theorem dX6_readFrom_83 : decode cX6_readFrom 83 = .ok (.invokevirtual 36, 3) := by decide +kernel
theorem dX6_readFrom_86 : decode cX6_readFrom 86 = .ok (.iastore, 1) := by decide +kernel
theorem dX6_readFrom_87 : decode cX6_readFrom 87 = .ok (.aload_n 0, 1) := by decide +kernel
theorem dX6_readFrom_88 : decode cX6_readFrom 88 = .ok (.getfield 18, 3) := by decide +kernel
theorem dX6_readFrom_91 : decode cX6_readFrom 91 = .ok (.iload_n 2, 1) := by decide +kernel
theorem dX6_readFrom_92 : decode cX6_readFrom 92 = .ok (.aload_n 1, 1) := by decide +kernel
theorem dX6_readFrom_93 : decode cX6_readFrom 93 = .ok (.iload_n 3, 1) := by decide +kernel
theorem dX6_readFrom_94 : decode cX6_readFrom 94 = .ok (.iconst 2, 1) := by decide +kernel
theorem dX6_readFrom_95 : decode cX6_readFrom 95 = .ok (.iadd, 1) := by decide +kernel
theorem dX6_readFrom_96 : decode cX6_readFrom 96 = .ok (.invokevirtual 49, 3) := by decide +kernel
theorem dX6_readFrom_99 : decode cX6_readFrom 99 = .ok (.bipush 45, 2) := by decide +kernel
theorem dX6_readFrom_101 : decode cX6_readFrom 101 = .ok (.if_icmp .ne 7, 3) := by decide +kernel
theorem dX6_readFrom_104 : decode cX6_readFrom 104 = .ok (.iconst (-1), 1) := by decide +kernel
theorem dX6_readFrom_105 : decode cX6_readFrom 105 = .ok (.goto 10, 3) := by decide +kernel
theorem dX6_readFrom_108 : decode cX6_readFrom 108 = .ok (.aload_n 1, 1) := by decide +kernel
theorem dX6_readFrom_109 : decode cX6_readFrom 109 = .ok (.iload_n 3, 1) := by decide +kernel
theorem dX6_readFrom_110 : decode cX6_readFrom 110 = .ok (.iconst 2, 1) := by decide +kernel
theorem dX6_readFrom_111 : decode cX6_readFrom 111 = .ok (.iadd, 1) := by decide +kernel
theorem dX6_readFrom_112 : decode cX6_readFrom 112 = .ok (.invokevirtual 36, 3) := by decide +kernel
theorem dX6_readFrom_115 : decode cX6_readFrom 115 = .ok (.iastore, 1) := by decide +kernel
theorem dX6_readFrom_116 : decode cX6_readFrom 116 = .ok (.iinc 2 1, 3) := by decide +kernel
theorem dX6_readFrom_119 : decode cX6_readFrom 119 = .ok (.goto (-78), 3) := by decide +kernel
theorem dX6_readFrom_122 : decode cX6_readFrom 122 = .ok (.return_, 1) := by decide +kernel
theorem dX6_copyFrom_0 : decode cX6_copyFrom 0 = .ok (.aload_n 1, 1) := by decide +kernel
theorem dX6_copyFrom_1 : decode cX6_copyFrom 1 = .ok (.getfield 9, 3) := by decide +kernel
theorem dX6_copyFrom_4 : decode cX6_copyFrom 4 = .ok (.iconst 0, 1) := by decide +kernel
theorem dX6_copyFrom_5 : decode cX6_copyFrom 5 = .ok (.aload_n 0, 1) := by decide +kernel
theorem dX6_copyFrom_6 : decode cX6_copyFrom 6 = .ok (.getfield 9, 3) := by decide +kernel
theorem dX6_copyFrom_9 : decode cX6_copyFrom 9 = .ok (.iconst 0, 1) := by decide +kernel
theorem dX6_copyFrom_10 : decode cX6_copyFrom 10 = .ok (.bipush 8, 2) := by decide +kernel
theorem dX6_copyFrom_12 : decode cX6_copyFrom 12 = .ok (.invokestatic 57, 3) := by decide +kernel
theorem dX6_copyFrom_15 : decode cX6_copyFrom 15 = .ok (.aload_n 1, 1) := by decide +kernel
theorem dX6_copyFrom_16 : decode cX6_copyFrom 16 = .ok (.getfield 15, 3) := by decide +kernel
theorem dX6_copyFrom_19 : decode cX6_copyFrom 19 = .ok (.iconst 0, 1) := by decide +kernel
theorem dX6_copyFrom_20 : decode cX6_copyFrom 20 = .ok (.aload_n 0, 1) := by decide +kernel
theorem dX6_copyFrom_21 : decode cX6_copyFrom 21 = .ok (.getfield 15, 3) := by decide +kernel
theorem dX6_copyFrom_24 : decode cX6_copyFrom 24 = .ok (.iconst 0, 1) := by decide +kernel
theorem dX6_copyFrom_25 : decode cX6_copyFrom 25 = .ok (.bipush 8, 2) := by decide +kernel
theorem dX6_copyFrom_27 : decode cX6_copyFrom 27 = .ok (.invokestatic 57, 3) := by decide +kernel
theorem dX6_copyFrom_30 : decode cX6_copyFrom 30 = .ok (.aload_n 1, 1) := by decide +kernel
theorem dX6_copyFrom_31 : decode cX6_copyFrom 31 = .ok (.getfield 18, 3) := by decide +kernel
theorem dX6_copyFrom_34 : decode cX6_copyFrom 34 = .ok (.iconst 0, 1) := by decide +kernel
theorem dX6_copyFrom_35 : decode cX6_copyFrom 35 = .ok (.aload_n 0, 1) := by decide +kernel
theorem dX6_copyFrom_36 : decode cX6_copyFrom 36 = .ok (.getfield 18, 3) := by decide +kernel
theorem dX6_copyFrom_39 : decode cX6_copyFrom 39 = .ok (.iconst 0, 1) := by decide +kernel
theorem dX6_copyFrom_40 : decode cX6_copyFrom 40 = .ok (.bipush 8, 2) := by decide +kernel
theorem dX6_copyFrom_42 : decode cX6_copyFrom 42 = .ok (.invokestatic 57, 3) := by decide +kernel
theorem dX6_copyFrom_45 : decode cX6_copyFrom 45 = .ok (.aload_n 0, 1) := by decide +kernel
theorem dX6_copyFrom_46 : decode cX6_copyFrom 46 = .ok (.aload_n 1, 1) := by decide +kernel
theorem dX6_copyFrom_47 : decode cX6_copyFrom 47 = .ok (.getfield 27, 3) := by decide +kernel
theorem dX6_copyFrom_50 : decode cX6_copyFrom 50 = .ok (.putfield 27, 3) := by decide +kernel
theorem dX6_copyFrom_53 : decode cX6_copyFrom 53 = .ok (.aload_n 0, 1) := by decide +kernel
theorem dX6_copyFrom_54 : decode cX6_copyFrom 54 = .ok (.aload_n 1, 1) := by decide +kernel
theorem dX6_copyFrom_55 : decode cX6_copyFrom 55 = .ok (.getfield 33, 3) := by decide +kernel
theorem dX6_copyFrom_58 : decode cX6_copyFrom 58 = .ok (.putfield 33, 3) := by decide +kernel
theorem dX6_copyFrom_61 : decode cX6_copyFrom 61 = .ok (.aload_n 0, 1) := by decide +kernel
theorem dX6_copyFrom_62 : decode cX6_copyFrom 62 = .ok (.aload_n 1, 1) := by decide +kernel
theorem dX6_copyFrom_63 : decode cX6_copyFrom 63 = .ok (.getfield 40, 3) := by decide +kernel
theorem dX6_copyFrom_66 : decode cX6_copyFrom 66 = .ok (.putfield 40, 3) := by decide +kernel
theorem dX6_copyFrom_69 : decode cX6_copyFrom 69 = .ok (.aload_n 0, 1) := by decide +kernel
theorem dX6_copyFrom_70 : decode cX6_copyFrom 70 = .ok (.aload_n 1, 1) := by decide +kernel
theorem dX6_copyFrom_71 : decode cX6_copyFrom 71 = .ok (.getfield 43, 3) := by decide +kernel
theorem dX6_copyFrom_74 : decode cX6_copyFrom 74 = .ok (.putfield 43, 3) := by decide +kernel
theorem dX6_copyFrom_77 : decode cX6_copyFrom 77 = .ok (.return_, 1) := by decide +kernel
theorem dX6_hasGuest_0 : decode cX6_hasGuest 0 = .ok (.iload_n 1, 1) := by decide +kernel
theorem dX6_hasGuest_1 : decode cX6_hasGuest 1 = .ok (.ifCond .lt 21, 3) := by decide +kernel
theorem dX6_hasGuest_4 : decode cX6_hasGuest 4 = .ok (.iload_n 1, 1) := by decide +kernel
theorem dX6_hasGuest_5 : decode cX6_hasGuest 5 = .ok (.aload_n 0, 1) := by decide +kernel
theorem dX6_hasGuest_6 : decode cX6_hasGuest 6 = .ok (.getfield 27, 3) := by decide +kernel
theorem dX6_hasGuest_9 : decode cX6_hasGuest 9 = .ok (.if_icmp .ge 13, 3) := by decide +kernel
theorem dX6_hasGuest_12 : decode cX6_hasGuest 12 = .ok (.iload_n 1, 1) := by decide +kernel
theorem dX6_hasGuest_13 : decode cX6_hasGuest 13 = .ok (.bipush 8, 2) := by decide +kernel
theorem dX6_hasGuest_15 : decode cX6_hasGuest 15 = .ok (.if_icmp .ge 7, 3) := by decide +kernel
theorem dX6_hasGuest_18 : decode cX6_hasGuest 18 = .ok (.iconst 1, 1) := by decide +kernel
theorem dX6_hasGuest_19 : decode cX6_hasGuest 19 = .ok (.goto 4, 3) := by decide +kernel
theorem dX6_hasGuest_22 : decode cX6_hasGuest 22 = .ok (.iconst 0, 1) := by decide +kernel
theorem dX6_hasGuest_23 : decode cX6_hasGuest 23 = .ok (.ireturn, 1) := by decide +kernel
theorem dX6_isHere_0 : decode cX6_isHere 0 = .ok (.iload_n 1, 1) := by decide +kernel
theorem dX6_isHere_1 : decode cX6_isHere 1 = .ok (.aload_n 0, 1) := by decide +kernel
theorem dX6_isHere_2 : decode cX6_isHere 2 = .ok (.getfield 33, 3) := by decide +kernel
theorem dX6_isHere_5 : decode cX6_isHere 5 = .ok (.invokestatic 63, 3) := by decide +kernel
theorem dX6_isHere_8 : decode cX6_isHere 8 = .ok (.ireturn, 1) := by decide +kernel
theorem dX6_everyone_0 : decode cX6_everyone 0 = .ok (.iconst 1, 1) := by decide +kernel
theorem dX6_everyone_1 : decode cX6_everyone 1 = .ok (.aload_n 0, 1) := by decide +kernel
theorem dX6_everyone_2 : decode cX6_everyone 2 = .ok (.getfield 27, 3) := by decide +kernel
theorem dX6_everyone_5 : decode cX6_everyone 5 = .ok (.ishl, 1) := by decide +kernel
theorem dX6_everyone_6 : decode cX6_everyone 6 = .ok (.iconst 1, 1) := by decide +kernel
theorem dX6_everyone_7 : decode cX6_everyone 7 = .ok (.isub, 1) := by decide +kernel
theorem dX6_everyone_8 : decode cX6_everyone 8 = .ok (.ireturn, 1) := by decide +kernel
theorem dX6_gone_0 : decode cX6_gone 0 = .ok (.aload_n 0, 1) := by decide +kernel
theorem dX6_gone_1 : decode cX6_gone 1 = .ok (.invokevirtual 30, 3) := by decide +kernel
theorem dX6_gone_4 : decode cX6_gone 4 = .ok (.aload_n 0, 1) := by decide +kernel
theorem dX6_gone_5 : decode cX6_gone 5 = .ok (.getfield 33, 3) := by decide +kernel
theorem dX6_gone_8 : decode cX6_gone 8 = .ok (.iconst (-1), 1) := by decide +kernel
theorem dX6_gone_9 : decode cX6_gone 9 = .ok (.ixor, 1) := by decide +kernel
theorem dX6_gone_10 : decode cX6_gone 10 = .ok (.iand, 1) := by decide +kernel
theorem dX6_gone_11 : decode cX6_gone 11 = .ok (.ireturn, 1) := by decide +kernel
theorem dX6_needsOf_0 : decode cX6_needsOf 0 = .ok (.aload_n 0, 1) := by decide +kernel
theorem dX6_needsOf_1 : decode cX6_needsOf 1 = .ok (.getfield 9, 3) := by decide +kernel
theorem dX6_needsOf_4 : decode cX6_needsOf 4 = .ok (.iload_n 1, 1) := by decide +kernel
theorem dX6_needsOf_5 : decode cX6_needsOf 5 = .ok (.iaload, 1) := by decide +kernel
theorem dX6_needsOf_6 : decode cX6_needsOf 6 = .ok (.aload_n 0, 1) := by decide +kernel
theorem dX6_needsOf_7 : decode cX6_needsOf 7 = .ok (.getfield 15, 3) := by decide +kernel
theorem dX6_needsOf_10 : decode cX6_needsOf 10 = .ok (.iload_n 1, 1) := by decide +kernel
theorem dX6_needsOf_11 : decode cX6_needsOf 11 = .ok (.iaload, 1) := by decide +kernel
theorem dX6_needsOf_12 : decode cX6_needsOf 12 = .ok (.invokestatic 67, 3) := by decide +kernel
theorem dX6_needsOf_15 : decode cX6_needsOf 15 = .ok (.ireturn, 1) := by decide +kernel
theorem dX6_countTogether_0 : decode cX6_countTogether 0 = .ok (.iconst 0, 1) := by decide +kernel
theorem dX6_countTogether_1 : decode cX6_countTogether 1 = .ok (.istore_n 2, 1) := by decide +kernel
theorem dX6_countTogether_2 : decode cX6_countTogether 2 = .ok (.iconst 0, 1) := by decide +kernel
theorem dX6_countTogether_3 : decode cX6_countTogether 3 = .ok (.istore_n 3, 1) := by decide +kernel
theorem dX6_countTogether_4 : decode cX6_countTogether 4 = .ok (.iload_n 3, 1) := by decide +kernel
theorem dX6_countTogether_5 : decode cX6_countTogether 5 = .ok (.bipush 8, 2) := by decide +kernel
theorem dX6_countTogether_7 : decode cX6_countTogether 7 = .ok (.if_icmp .ge 29, 3) := by decide +kernel
theorem dX6_countTogether_10 : decode cX6_countTogether 10 = .ok (.iload_n 3, 1) := by decide +kernel
theorem dX6_countTogether_11 : decode cX6_countTogether 11 = .ok (.iload_n 1, 1) := by decide +kernel
theorem dX6_countTogether_12 : decode cX6_countTogether 12 = .ok (.invokestatic 63, 3) := by decide +kernel
theorem dX6_countTogether_15 : decode cX6_countTogether 15 = .ok (.ifCond .eq 15, 3) := by decide +kernel
theorem dX6_countTogether_18 : decode cX6_countTogether 18 = .ok (.iload_n 2, 1) := by decide +kernel
theorem dX6_countTogether_19 : decode cX6_countTogether 19 = .ok (.aload_n 0, 1) := by decide +kernel
theorem dX6_countTogether_20 : decode cX6_countTogether 20 = .ok (.getfield 9, 3) := by decide +kernel
theorem dX6_countTogether_23 : decode cX6_countTogether 23 = .ok (.iload_n 3, 1) := by decide +kernel
theorem dX6_countTogether_24 : decode cX6_countTogether 24 = .ok (.iaload, 1) := by decide +kernel
theorem dX6_countTogether_25 : decode cX6_countTogether 25 = .ok (.invokestatic 71, 3) := by decide +kernel
theorem dX6_countTogether_28 : decode cX6_countTogether 28 = .ok (.iadd, 1) := by decide +kernel
theorem dX6_countTogether_29 : decode cX6_countTogether 29 = .ok (.istore_n 2, 1) := by decide +kernel
theorem dX6_countTogether_30 : decode cX6_countTogether 30 = .ok (.iinc 3 1, 3) := by decide +kernel
theorem dX6_countTogether_33 : decode cX6_countTogether 33 = .ok (.goto (-29), 3) := by decide +kernel
theorem dX6_countTogether_36 : decode cX6_countTogether 36 = .ok (.iload_n 2, 1) := by decide +kernel
theorem dX6_countTogether_37 : decode cX6_countTogether 37 = .ok (.ireturn, 1) := by decide +kernel
theorem dX6_shyTogether_0 : decode cX6_shyTogether 0 = .ok (.iconst 0, 1) := by decide +kernel
theorem dX6_shyTogether_1 : decode cX6_shyTogether 1 = .ok (.istore_n 2, 1) := by decide +kernel
theorem dX6_shyTogether_2 : decode cX6_shyTogether 2 = .ok (.iconst 0, 1) := by decide +kernel
theorem dX6_shyTogether_3 : decode cX6_shyTogether 3 = .ok (.istore_n 3, 1) := by decide +kernel
theorem dX6_shyTogether_4 : decode cX6_shyTogether 4 = .ok (.iload_n 3, 1) := by decide +kernel
theorem dX6_shyTogether_5 : decode cX6_shyTogether 5 = .ok (.bipush 8, 2) := by decide +kernel
theorem dX6_shyTogether_7 : decode cX6_shyTogether 7 = .ok (.if_icmp .ge 26, 3) := by decide +kernel
theorem dX6_shyTogether_10 : decode cX6_shyTogether 10 = .ok (.iload_n 3, 1) := by decide +kernel
theorem dX6_shyTogether_11 : decode cX6_shyTogether 11 = .ok (.iload_n 1, 1) := by decide +kernel
theorem dX6_shyTogether_12 : decode cX6_shyTogether 12 = .ok (.invokestatic 63, 3) := by decide +kernel
theorem dX6_shyTogether_15 : decode cX6_shyTogether 15 = .ok (.ifCond .eq 12, 3) := by decide +kernel
theorem dX6_shyTogether_18 : decode cX6_shyTogether 18 = .ok (.iload_n 2, 1) := by decide +kernel
theorem dX6_shyTogether_19 : decode cX6_shyTogether 19 = .ok (.aload_n 0, 1) := by decide +kernel
theorem dX6_shyTogether_20 : decode cX6_shyTogether 20 = .ok (.getfield 15, 3) := by decide +kernel
theorem dX6_shyTogether_23 : decode cX6_shyTogether 23 = .ok (.iload_n 3, 1) := by decide +kernel
theorem dX6_shyTogether_24 : decode cX6_shyTogether 24 = .ok (.iaload, 1) := by decide +kernel
theorem dX6_shyTogether_25 : decode cX6_shyTogether 25 = .ok (.iadd, 1) := by decide +kernel
theorem dX6_shyTogether_26 : decode cX6_shyTogether 26 = .ok (.istore_n 2, 1) := by decide +kernel
theorem dX6_shyTogether_27 : decode cX6_shyTogether 27 = .ok (.iinc 3 1, 3) := by decide +kernel
theorem dX6_shyTogether_30 : decode cX6_shyTogether 30 = .ok (.goto (-26), 3) := by decide +kernel
theorem dX6_shyTogether_33 : decode cX6_shyTogether 33 = .ok (.iload_n 2, 1) := by decide +kernel
theorem dX6_shyTogether_34 : decode cX6_shyTogether 34 = .ok (.ireturn, 1) := by decide +kernel
theorem dX6_hasFriendAmong_0 : decode cX6_hasFriendAmong 0 = .ok (.aload_n 0, 1) := by decide +kernel
theorem dX6_hasFriendAmong_1 : decode cX6_hasFriendAmong 1 = .ok (.getfield 18, 3) := by decide +kernel
theorem dX6_hasFriendAmong_4 : decode cX6_hasFriendAmong 4 = .ok (.iload_n 1, 1) := by decide +kernel
theorem dX6_hasFriendAmong_5 : decode cX6_hasFriendAmong 5 = .ok (.iaload, 1) := by decide +kernel
theorem dX6_hasFriendAmong_6 : decode cX6_hasFriendAmong 6 = .ok (.iconst (-1), 1) := by decide +kernel
theorem dX6_hasFriendAmong_7 : decode cX6_hasFriendAmong 7 = .ok (.if_icmp .eq 16, 3) := by decide +kernel
theorem dX6_hasFriendAmong_10 : decode cX6_hasFriendAmong 10 = .ok (.aload_n 0, 1) := by decide +kernel
theorem dX6_hasFriendAmong_11 : decode cX6_hasFriendAmong 11 = .ok (.getfield 18, 3) := by decide +kernel
theorem dX6_hasFriendAmong_14 : decode cX6_hasFriendAmong 14 = .ok (.iload_n 1, 1) := by decide +kernel
theorem dX6_hasFriendAmong_15 : decode cX6_hasFriendAmong 15 = .ok (.iaload, 1) := by decide +kernel
theorem dX6_hasFriendAmong_16 : decode cX6_hasFriendAmong 16 = .ok (.iload_n 2, 1) := by decide +kernel
theorem dX6_hasFriendAmong_17 : decode cX6_hasFriendAmong 17 = .ok (.invokestatic 63, 3) := by decide +kernel
theorem dX6_hasFriendAmong_20 : decode cX6_hasFriendAmong 20 = .ok (.ifCond .eq 7, 3) := by decide +kernel
theorem dX6_hasFriendAmong_23 : decode cX6_hasFriendAmong 23 = .ok (.iconst 1, 1) := by decide +kernel
theorem dX6_hasFriendAmong_24 : decode cX6_hasFriendAmong 24 = .ok (.goto 4, 3) := by decide +kernel
theorem dX6_hasFriendAmong_27 : decode cX6_hasFriendAmong 27 = .ok (.iconst 0, 1) := by decide +kernel
theorem dX6_hasFriendAmong_28 : decode cX6_hasFriendAmong 28 = .ok (.ireturn, 1) := by decide +kernel
theorem dX6_whoCanGo_0 : decode cX6_whoCanGo 0 = .ok (.iload_n 1, 1) := by decide +kernel
theorem dX6_whoCanGo_1 : decode cX6_whoCanGo 1 = .ok (.aload_n 0, 1) := by decide +kernel
theorem dX6_whoCanGo_2 : decode cX6_whoCanGo 2 = .ok (.invokevirtual 74, 3) := by decide +kernel
theorem dX6_whoCanGo_5 : decode cX6_whoCanGo 5 = .ok (.ior, 1) := by decide +kernel
theorem dX6_whoCanGo_6 : decode cX6_whoCanGo 6 = .ok (.istore_n 2, 1) := by decide +kernel
theorem dX6_whoCanGo_7 : decode cX6_whoCanGo 7 = .ok (.aload_n 0, 1) := by decide +kernel
theorem dX6_whoCanGo_8 : decode cX6_whoCanGo 8 = .ok (.iload_n 2, 1) := by decide +kernel
theorem dX6_whoCanGo_9 : decode cX6_whoCanGo 9 = .ok (.invokevirtual 77, 3) := by decide +kernel
theorem dX6_whoCanGo_12 : decode cX6_whoCanGo 12 = .ok (.istore_n 3, 1) := by decide +kernel
theorem dX6_whoCanGo_13 : decode cX6_whoCanGo 13 = .ok (.iconst 0, 1) := by decide +kernel
theorem dX6_whoCanGo_14 : decode cX6_whoCanGo 14 = .ok (.istore 4, 2) := by decide +kernel
theorem dX6_whoCanGo_16 : decode cX6_whoCanGo 16 = .ok (.iconst 0, 1) := by decide +kernel
theorem dX6_whoCanGo_17 : decode cX6_whoCanGo 17 = .ok (.istore 5, 2) := by decide +kernel
theorem dX6_whoCanGo_19 : decode cX6_whoCanGo 19 = .ok (.iload 5, 2) := by decide +kernel
theorem dX6_whoCanGo_21 : decode cX6_whoCanGo 21 = .ok (.bipush 8, 2) := by decide +kernel
theorem dX6_whoCanGo_23 : decode cX6_whoCanGo 23 = .ok (.if_icmp .ge 58, 3) := by decide +kernel
theorem dX6_whoCanGo_26 : decode cX6_whoCanGo 26 = .ok (.iload 5, 2) := by decide +kernel
theorem dX6_whoCanGo_28 : decode cX6_whoCanGo 28 = .ok (.iload_n 1, 1) := by decide +kernel
theorem dX6_whoCanGo_29 : decode cX6_whoCanGo 29 = .ok (.invokestatic 63, 3) := by decide +kernel
theorem dX6_whoCanGo_32 : decode cX6_whoCanGo 32 = .ok (.ifCond .eq 43, 3) := by decide +kernel
theorem dX6_whoCanGo_35 : decode cX6_whoCanGo 35 = .ok (.aload_n 0, 1) := by decide +kernel
theorem dX6_whoCanGo_36 : decode cX6_whoCanGo 36 = .ok (.iload 5, 2) := by decide +kernel
theorem dX6_whoCanGo_38 : decode cX6_whoCanGo 38 = .ok (.iload_n 2, 1) := by decide +kernel
theorem dX6_whoCanGo_39 : decode cX6_whoCanGo 39 = .ok (.invokevirtual 80, 3) := by decide +kernel
theorem dX6_whoCanGo_42 : decode cX6_whoCanGo 42 = .ok (.ifCond .eq 33, 3) := by decide +kernel
theorem dX6_whoCanGo_45 : decode cX6_whoCanGo 45 = .ok (.iload_n 3, 1) := by decide +kernel
theorem dX6_whoCanGo_46 : decode cX6_whoCanGo 46 = .ok (.aload_n 0, 1) := by decide +kernel
theorem dX6_whoCanGo_47 : decode cX6_whoCanGo 47 = .ok (.getfield 9, 3) := by decide +kernel
theorem dX6_whoCanGo_50 : decode cX6_whoCanGo 50 = .ok (.iload 5, 2) := by decide +kernel
theorem dX6_whoCanGo_52 : decode cX6_whoCanGo 52 = .ok (.iaload, 1) := by decide +kernel
theorem dX6_whoCanGo_53 : decode cX6_whoCanGo 53 = .ok (.invokestatic 71, 3) := by decide +kernel
theorem dX6_whoCanGo_56 : decode cX6_whoCanGo 56 = .ok (.isub, 1) := by decide +kernel
theorem dX6_whoCanGo_57 : decode cX6_whoCanGo 57 = .ok (.aload_n 0, 1) := by decide +kernel
theorem dX6_whoCanGo_58 : decode cX6_whoCanGo 58 = .ok (.iload 5, 2) := by decide +kernel
theorem dX6_whoCanGo_60 : decode cX6_whoCanGo 60 = .ok (.invokevirtual 83, 3) := by decide +kernel
theorem dX6_whoCanGo_63 : decode cX6_whoCanGo 63 = .ok (.if_icmp .lt 12, 3) := by decide +kernel
theorem dX6_whoCanGo_66 : decode cX6_whoCanGo 66 = .ok (.iload 4, 2) := by decide +kernel
theorem dX6_whoCanGo_68 : decode cX6_whoCanGo 68 = .ok (.iconst 1, 1) := by decide +kernel
theorem dX6_whoCanGo_69 : decode cX6_whoCanGo 69 = .ok (.iload 5, 2) := by decide +kernel
theorem dX6_whoCanGo_71 : decode cX6_whoCanGo 71 = .ok (.ishl, 1) := by decide +kernel
theorem dX6_whoCanGo_72 : decode cX6_whoCanGo 72 = .ok (.ior, 1) := by decide +kernel
theorem dX6_whoCanGo_73 : decode cX6_whoCanGo 73 = .ok (.istore 4, 2) := by decide +kernel
theorem dX6_whoCanGo_75 : decode cX6_whoCanGo 75 = .ok (.iinc 5 1, 3) := by decide +kernel
theorem dX6_whoCanGo_78 : decode cX6_whoCanGo 78 = .ok (.goto (-59), 3) := by decide +kernel
theorem dX6_whoCanGo_81 : decode cX6_whoCanGo 81 = .ok (.iload 4, 2) := by decide +kernel
theorem dX6_whoCanGo_83 : decode cX6_whoCanGo 83 = .ok (.ireturn, 1) := by decide +kernel
theorem dX6_mostWhoRise_0 : decode cX6_mostWhoRise 0 = .ok (.aload_n 0, 1) := by decide +kernel
theorem dX6_mostWhoRise_1 : decode cX6_mostWhoRise 1 = .ok (.getfield 33, 3) := by decide +kernel
theorem dX6_mostWhoRise_4 : decode cX6_mostWhoRise 4 = .ok (.istore_n 1, 1) := by decide +kernel
theorem dX6_mostWhoRise_5 : decode cX6_mostWhoRise 5 = .ok (.iconst 0, 1) := by decide +kernel
theorem dX6_mostWhoRise_6 : decode cX6_mostWhoRise 6 = .ok (.istore_n 2, 1) := by decide +kernel
theorem dX6_mostWhoRise_7 : decode cX6_mostWhoRise 7 = .ok (.iload_n 2, 1) := by decide +kernel
theorem dX6_mostWhoRise_8 : decode cX6_mostWhoRise 8 = .ok (.bipush 8, 2) := by decide +kernel
theorem dX6_mostWhoRise_10 : decode cX6_mostWhoRise 10 = .ok (.if_icmp .ge 15, 3) := by decide +kernel
theorem dX6_mostWhoRise_13 : decode cX6_mostWhoRise 13 = .ok (.aload_n 0, 1) := by decide +kernel
theorem dX6_mostWhoRise_14 : decode cX6_mostWhoRise 14 = .ok (.iload_n 1, 1) := by decide +kernel
theorem dX6_mostWhoRise_15 : decode cX6_mostWhoRise 15 = .ok (.invokevirtual 86, 3) := by decide +kernel
theorem dX6_mostWhoRise_18 : decode cX6_mostWhoRise 18 = .ok (.istore_n 1, 1) := by decide +kernel
theorem dX6_mostWhoRise_19 : decode cX6_mostWhoRise 19 = .ok (.iinc 2 1, 3) := by decide +kernel
theorem dX6_mostWhoRise_22 : decode cX6_mostWhoRise 22 = .ok (.goto (-15), 3) := by decide +kernel
theorem dX6_mostWhoRise_25 : decode cX6_mostWhoRise 25 = .ok (.iload_n 1, 1) := by decide +kernel
theorem dX6_mostWhoRise_26 : decode cX6_mostWhoRise 26 = .ok (.ireturn, 1) := by decide +kernel
theorem dX6_whoCanGoAlone_0 : decode cX6_whoCanGoAlone 0 = .ok (.aload_n 0, 1) := by decide +kernel
theorem dX6_whoCanGoAlone_1 : decode cX6_whoCanGoAlone 1 = .ok (.invokevirtual 74, 3) := by decide +kernel
theorem dX6_whoCanGoAlone_4 : decode cX6_whoCanGoAlone 4 = .ok (.istore_n 1, 1) := by decide +kernel
theorem dX6_whoCanGoAlone_5 : decode cX6_whoCanGoAlone 5 = .ok (.aload_n 0, 1) := by decide +kernel
theorem dX6_whoCanGoAlone_6 : decode cX6_whoCanGoAlone 6 = .ok (.iload_n 1, 1) := by decide +kernel
theorem dX6_whoCanGoAlone_7 : decode cX6_whoCanGoAlone 7 = .ok (.invokevirtual 77, 3) := by decide +kernel
theorem dX6_whoCanGoAlone_10 : decode cX6_whoCanGoAlone 10 = .ok (.istore_n 2, 1) := by decide +kernel
theorem dX6_whoCanGoAlone_11 : decode cX6_whoCanGoAlone 11 = .ok (.iconst 0, 1) := by decide +kernel
theorem dX6_whoCanGoAlone_12 : decode cX6_whoCanGoAlone 12 = .ok (.istore_n 3, 1) := by decide +kernel
theorem dX6_whoCanGoAlone_13 : decode cX6_whoCanGoAlone 13 = .ok (.iconst 0, 1) := by decide +kernel
theorem dX6_whoCanGoAlone_14 : decode cX6_whoCanGoAlone 14 = .ok (.istore 4, 2) := by decide +kernel
theorem dX6_whoCanGoAlone_16 : decode cX6_whoCanGoAlone 16 = .ok (.iload 4, 2) := by decide +kernel
theorem dX6_whoCanGoAlone_18 : decode cX6_whoCanGoAlone 18 = .ok (.bipush 8, 2) := by decide +kernel
theorem dX6_whoCanGoAlone_20 : decode cX6_whoCanGoAlone 20 = .ok (.if_icmp .ge 45, 3) := by decide +kernel
theorem dX6_whoCanGoAlone_23 : decode cX6_whoCanGoAlone 23 = .ok (.aload_n 0, 1) := by decide +kernel
theorem dX6_whoCanGoAlone_24 : decode cX6_whoCanGoAlone 24 = .ok (.iload 4, 2) := by decide +kernel
theorem dX6_whoCanGoAlone_26 : decode cX6_whoCanGoAlone 26 = .ok (.invokevirtual 89, 3) := by decide +kernel
theorem dX6_whoCanGoAlone_29 : decode cX6_whoCanGoAlone 29 = .ok (.ifCond .eq 30, 3) := by decide +kernel
theorem dX6_whoCanGoAlone_32 : decode cX6_whoCanGoAlone 32 = .ok (.aload_n 0, 1) := by decide +kernel
theorem dX6_whoCanGoAlone_33 : decode cX6_whoCanGoAlone 33 = .ok (.iload 4, 2) := by decide +kernel
theorem dX6_whoCanGoAlone_35 : decode cX6_whoCanGoAlone 35 = .ok (.iload_n 1, 1) := by decide +kernel
theorem dX6_whoCanGoAlone_36 : decode cX6_whoCanGoAlone 36 = .ok (.invokevirtual 80, 3) := by decide +kernel
theorem dX6_whoCanGoAlone_39 : decode cX6_whoCanGoAlone 39 = .ok (.ifCond .eq 20, 3) := by decide +kernel
theorem dX6_whoCanGoAlone_42 : decode cX6_whoCanGoAlone 42 = .ok (.iload_n 2, 1) := by decide +kernel
theorem dX6_whoCanGoAlone_43 : decode cX6_whoCanGoAlone 43 = .ok (.aload_n 0, 1) := by decide +kernel
theorem dX6_whoCanGoAlone_44 : decode cX6_whoCanGoAlone 44 = .ok (.iload 4, 2) := by decide +kernel
theorem dX6_whoCanGoAlone_46 : decode cX6_whoCanGoAlone 46 = .ok (.invokevirtual 83, 3) := by decide +kernel
theorem dX6_whoCanGoAlone_49 : decode cX6_whoCanGoAlone 49 = .ok (.if_icmp .lt 10, 3) := by decide +kernel
theorem dX6_whoCanGoAlone_52 : decode cX6_whoCanGoAlone 52 = .ok (.iload_n 3, 1) := by decide +kernel
theorem dX6_whoCanGoAlone_53 : decode cX6_whoCanGoAlone 53 = .ok (.iconst 1, 1) := by decide +kernel
theorem dX6_whoCanGoAlone_54 : decode cX6_whoCanGoAlone 54 = .ok (.iload 4, 2) := by decide +kernel
theorem dX6_whoCanGoAlone_56 : decode cX6_whoCanGoAlone 56 = .ok (.ishl, 1) := by decide +kernel
theorem dX6_whoCanGoAlone_57 : decode cX6_whoCanGoAlone 57 = .ok (.ior, 1) := by decide +kernel
theorem dX6_whoCanGoAlone_58 : decode cX6_whoCanGoAlone 58 = .ok (.istore_n 3, 1) := by decide +kernel
theorem dX6_whoCanGoAlone_59 : decode cX6_whoCanGoAlone 59 = .ok (.iinc 4 1, 3) := by decide +kernel
theorem dX6_whoCanGoAlone_62 : decode cX6_whoCanGoAlone 62 = .ok (.goto (-46), 3) := by decide +kernel
theorem dX6_whoCanGoAlone_65 : decode cX6_whoCanGoAlone 65 = .ok (.iload_n 3, 1) := by decide +kernel
theorem dX6_whoCanGoAlone_66 : decode cX6_whoCanGoAlone 66 = .ok (.ireturn, 1) := by decide +kernel
theorem dX6_letHourPass_0 : decode cX6_letHourPass 0 = .ok (.aload_n 0, 1) := by decide +kernel
theorem dX6_letHourPass_1 : decode cX6_letHourPass 1 = .ok (.getfield 33, 3) := by decide +kernel
theorem dX6_letHourPass_4 : decode cX6_letHourPass 4 = .ok (.invokestatic 93, 3) := by decide +kernel
theorem dX6_letHourPass_7 : decode cX6_letHourPass 7 = .ok (.istore_n 1, 1) := by decide +kernel
theorem dX6_letHourPass_8 : decode cX6_letHourPass 8 = .ok (.aload_n 0, 1) := by decide +kernel
theorem dX6_letHourPass_9 : decode cX6_letHourPass 9 = .ok (.dup, 1) := by decide +kernel
theorem dX6_letHourPass_10 : decode cX6_letHourPass 10 = .ok (.getfield 43, 3) := by decide +kernel
theorem dX6_letHourPass_13 : decode cX6_letHourPass 13 = .ok (.iconst 1, 1) := by decide +kernel
theorem dX6_letHourPass_14 : decode cX6_letHourPass 14 = .ok (.iadd, 1) := by decide +kernel
theorem dX6_letHourPass_15 : decode cX6_letHourPass 15 = .ok (.putfield 43, 3) := by decide +kernel
theorem dX6_letHourPass_18 : decode cX6_letHourPass 18 = .ok (.aload_n 0, 1) := by decide +kernel
theorem dX6_letHourPass_19 : decode cX6_letHourPass 19 = .ok (.iconst 0, 1) := by decide +kernel
theorem dX6_letHourPass_20 : decode cX6_letHourPass 20 = .ok (.aload_n 0, 1) := by decide +kernel
theorem dX6_letHourPass_21 : decode cX6_letHourPass 21 = .ok (.getfield 40, 3) := by decide +kernel
theorem dX6_letHourPass_24 : decode cX6_letHourPass 24 = .ok (.iload_n 1, 1) := by decide +kernel
theorem dX6_letHourPass_25 : decode cX6_letHourPass 25 = .ok (.isub, 1) := by decide +kernel
theorem dX6_letHourPass_26 : decode cX6_letHourPass 26 = .ok (.invokestatic 98, 3) := by decide +kernel
theorem dX6_letHourPass_29 : decode cX6_letHourPass 29 = .ok (.putfield 40, 3) := by decide +kernel
theorem dX6_letHourPass_32 : decode cX6_letHourPass 32 = .ok (.aload_n 0, 1) := by decide +kernel
theorem dX6_letHourPass_33 : decode cX6_letHourPass 33 = .ok (.getfield 40, 3) := by decide +kernel
theorem dX6_letHourPass_36 : decode cX6_letHourPass 36 = .ok (.ifCond .ne 7, 3) := by decide +kernel
theorem dX6_letHourPass_39 : decode cX6_letHourPass 39 = .ok (.aload_n 0, 1) := by decide +kernel
theorem dX6_letHourPass_40 : decode cX6_letHourPass 40 = .ok (.invokevirtual 103, 3) := by decide +kernel
theorem dX6_letHourPass_43 : decode cX6_letHourPass 43 = .ok (.aload_n 0, 1) := by decide +kernel
theorem dX6_letHourPass_44 : decode cX6_letHourPass 44 = .ok (.invokevirtual 106, 3) := by decide +kernel
theorem dX6_letHourPass_47 : decode cX6_letHourPass 47 = .ok (.iload_n 1, 1) := by decide +kernel
theorem dX6_letHourPass_48 : decode cX6_letHourPass 48 = .ok (.aload_n 0, 1) := by decide +kernel
theorem dX6_letHourPass_49 : decode cX6_letHourPass 49 = .ok (.getfield 33, 3) := by decide +kernel
theorem dX6_letHourPass_52 : decode cX6_letHourPass 52 = .ok (.invokestatic 93, 3) := by decide +kernel
theorem dX6_letHourPass_55 : decode cX6_letHourPass 55 = .ok (.isub, 1) := by decide +kernel
theorem dX6_letHourPass_56 : decode cX6_letHourPass 56 = .ok (.ireturn, 1) := by decide +kernel
theorem dX6_makeLessShy_0 : decode cX6_makeLessShy 0 = .ok (.aload_n 0, 1) := by decide +kernel
theorem dX6_makeLessShy_1 : decode cX6_makeLessShy 1 = .ok (.getfield 15, 3) := by decide +kernel
theorem dX6_makeLessShy_4 : decode cX6_makeLessShy 4 = .ok (.iload_n 1, 1) := by decide +kernel
theorem dX6_makeLessShy_5 : decode cX6_makeLessShy 5 = .ok (.iconst 0, 1) := by decide +kernel
theorem dX6_makeLessShy_6 : decode cX6_makeLessShy 6 = .ok (.aload_n 0, 1) := by decide +kernel
theorem dX6_makeLessShy_7 : decode cX6_makeLessShy 7 = .ok (.getfield 15, 3) := by decide +kernel
theorem dX6_makeLessShy_10 : decode cX6_makeLessShy 10 = .ok (.iload_n 1, 1) := by decide +kernel
theorem dX6_makeLessShy_11 : decode cX6_makeLessShy 11 = .ok (.iaload, 1) := by decide +kernel
theorem dX6_makeLessShy_12 : decode cX6_makeLessShy 12 = .ok (.iconst 1, 1) := by decide +kernel
theorem dX6_makeLessShy_13 : decode cX6_makeLessShy 13 = .ok (.isub, 1) := by decide +kernel
theorem dX6_makeLessShy_14 : decode cX6_makeLessShy 14 = .ok (.invokestatic 98, 3) := by decide +kernel
theorem dX6_makeLessShy_17 : decode cX6_makeLessShy 17 = .ok (.iastore, 1) := by decide +kernel
theorem dX6_makeLessShy_18 : decode cX6_makeLessShy 18 = .ok (.return_, 1) := by decide +kernel
theorem dX6_makeAllLessShy_0 : decode cX6_makeAllLessShy 0 = .ok (.iconst 0, 1) := by decide +kernel
theorem dX6_makeAllLessShy_1 : decode cX6_makeAllLessShy 1 = .ok (.istore_n 1, 1) := by decide +kernel
theorem dX6_makeAllLessShy_2 : decode cX6_makeAllLessShy 2 = .ok (.iload_n 1, 1) := by decide +kernel
theorem dX6_makeAllLessShy_3 : decode cX6_makeAllLessShy 3 = .ok (.bipush 8, 2) := by decide +kernel
theorem dX6_makeAllLessShy_5 : decode cX6_makeAllLessShy 5 = .ok (.if_icmp .ge 22, 3) := by decide +kernel
theorem dX6_makeAllLessShy_8 : decode cX6_makeAllLessShy 8 = .ok (.aload_n 0, 1) := by decide +kernel
theorem dX6_makeAllLessShy_9 : decode cX6_makeAllLessShy 9 = .ok (.iload_n 1, 1) := by decide +kernel
theorem dX6_makeAllLessShy_10 : decode cX6_makeAllLessShy 10 = .ok (.invokevirtual 89, 3) := by decide +kernel
theorem dX6_makeAllLessShy_13 : decode cX6_makeAllLessShy 13 = .ok (.ifCond .eq 8, 3) := by decide +kernel
theorem dX6_makeAllLessShy_16 : decode cX6_makeAllLessShy 16 = .ok (.aload_n 0, 1) := by decide +kernel
theorem dX6_makeAllLessShy_17 : decode cX6_makeAllLessShy 17 = .ok (.iload_n 1, 1) := by decide +kernel
theorem dX6_makeAllLessShy_18 : decode cX6_makeAllLessShy 18 = .ok (.invokevirtual 109, 3) := by decide +kernel
theorem dX6_makeAllLessShy_21 : decode cX6_makeAllLessShy 21 = .ok (.iinc 1 1, 3) := by decide +kernel
theorem dX6_makeAllLessShy_24 : decode cX6_makeAllLessShy 24 = .ok (.goto (-22), 3) := by decide +kernel
theorem dX6_makeAllLessShy_27 : decode cX6_makeAllLessShy 27 = .ok (.return_, 1) := by decide +kernel
theorem dX6_goOneByOne_0 : decode cX6_goOneByOne 0 = .ok (.aload_n 0, 1) := by decide +kernel
theorem dX6_goOneByOne_1 : decode cX6_goOneByOne 1 = .ok (.invokevirtual 113, 3) := by decide +kernel
theorem dX6_goOneByOne_4 : decode cX6_goOneByOne 4 = .ok (.istore_n 1, 1) := by decide +kernel
theorem dX6_goOneByOne_5 : decode cX6_goOneByOne 5 = .ok (.iconst 0, 1) := by decide +kernel
theorem dX6_goOneByOne_6 : decode cX6_goOneByOne 6 = .ok (.istore_n 2, 1) := by decide +kernel
theorem dX6_goOneByOne_7 : decode cX6_goOneByOne 7 = .ok (.iload_n 2, 1) := by decide +kernel
theorem dX6_goOneByOne_8 : decode cX6_goOneByOne 8 = .ok (.bipush 8, 2) := by decide +kernel
theorem dX6_goOneByOne_10 : decode cX6_goOneByOne 10 = .ok (.if_icmp .ge 35, 3) := by decide +kernel
theorem dX6_goOneByOne_13 : decode cX6_goOneByOne 13 = .ok (.iload_n 1, 1) := by decide +kernel
theorem dX6_goOneByOne_14 : decode cX6_goOneByOne 14 = .ok (.ifCond .eq 31, 3) := by decide +kernel
theorem dX6_goOneByOne_17 : decode cX6_goOneByOne 17 = .ok (.iload_n 1, 1) := by decide +kernel
theorem dX6_goOneByOne_18 : decode cX6_goOneByOne 18 = .ok (.iload_n 1, 1) := by decide +kernel
theorem dX6_goOneByOne_19 : decode cX6_goOneByOne 19 = .ok (.ineg, 1) := by decide +kernel
theorem dX6_goOneByOne_20 : decode cX6_goOneByOne 20 = .ok (.iand, 1) := by decide +kernel
theorem dX6_goOneByOne_21 : decode cX6_goOneByOne 21 = .ok (.istore_n 3, 1) := by decide +kernel
theorem dX6_goOneByOne_22 : decode cX6_goOneByOne 22 = .ok (.aload_n 0, 1) := by decide +kernel
theorem dX6_goOneByOne_23 : decode cX6_goOneByOne 23 = .ok (.dup, 1) := by decide +kernel
theorem dX6_goOneByOne_24 : decode cX6_goOneByOne 24 = .ok (.getfield 33, 3) := by decide +kernel
theorem dX6_goOneByOne_27 : decode cX6_goOneByOne 27 = .ok (.iload_n 3, 1) := by decide +kernel
theorem dX6_goOneByOne_28 : decode cX6_goOneByOne 28 = .ok (.iconst (-1), 1) := by decide +kernel
theorem dX6_goOneByOne_29 : decode cX6_goOneByOne 29 = .ok (.ixor, 1) := by decide +kernel
theorem dX6_goOneByOne_30 : decode cX6_goOneByOne 30 = .ok (.iand, 1) := by decide +kernel
theorem dX6_goOneByOne_31 : decode cX6_goOneByOne 31 = .ok (.putfield 33, 3) := by decide +kernel
theorem dX6_goOneByOne_34 : decode cX6_goOneByOne 34 = .ok (.aload_n 0, 1) := by decide +kernel
theorem dX6_goOneByOne_35 : decode cX6_goOneByOne 35 = .ok (.invokevirtual 113, 3) := by decide +kernel
theorem dX6_goOneByOne_38 : decode cX6_goOneByOne 38 = .ok (.istore_n 1, 1) := by decide +kernel
theorem dX6_goOneByOne_39 : decode cX6_goOneByOne 39 = .ok (.iinc 2 1, 3) := by decide +kernel
theorem dX6_goOneByOne_42 : decode cX6_goOneByOne 42 = .ok (.goto (-35), 3) := by decide +kernel
theorem dX6_goOneByOne_45 : decode cX6_goOneByOne 45 = .ok (.return_, 1) := by decide +kernel
theorem dX7_init_0 : decode cX7_init 0 = .ok (.aload_n 0, 1) := by decide +kernel
theorem dX7_init_1 : decode cX7_init 1 = .ok (.invokespecial 3, 3) := by decide +kernel
theorem dX7_init_4 : decode cX7_init 4 = .ok (.aload_n 0, 1) := by decide +kernel
theorem dX7_init_5 : decode cX7_init 5 = .ok (.bipush 6, 2) := by decide +kernel
theorem dX7_init_7 : decode cX7_init 7 = .ok (.newarray .int, 2) := by decide +kernel
theorem dX7_init_9 : decode cX7_init 9 = .ok (.putfield 9, 3) := by decide +kernel
theorem dX7_init_12 : decode cX7_init 12 = .ok (.aload_n 0, 1) := by decide +kernel
theorem dX7_init_13 : decode cX7_init 13 = .ok (.bipush 6, 2) := by decide +kernel
theorem dX7_init_15 : decode cX7_init 15 = .ok (.newarray .int, 2) := by decide +kernel
theorem dX7_init_17 : decode cX7_init 17 = .ok (.putfield 15, 3) := by decide +kernel
theorem dX7_init_20 : decode cX7_init 20 = .ok (.aload_n 0, 1) := by decide +kernel
theorem dX7_init_21 : decode cX7_init 21 = .ok (.bipush 6, 2) := by decide +kernel
theorem dX7_init_23 : decode cX7_init 23 = .ok (.newarray .boolean, 2) := by decide +kernel
theorem dX7_init_25 : decode cX7_init 25 = .ok (.putfield 18, 3) := by decide +kernel
theorem dX7_init_28 : decode cX7_init 28 = .ok (.return_, 1) := by decide +kernel
theorem dX7_add_0 : decode cX7_add 0 = .ok (.aload_n 0, 1) := by decide +kernel
theorem dX7_add_1 : decode cX7_add 1 = .ok (.getfield 22, 3) := by decide +kernel
theorem dX7_add_4 : decode cX7_add 4 = .ok (.bipush 6, 2) := by decide +kernel
theorem dX7_add_6 : decode cX7_add 6 = .ok (.if_icmp .ge 43, 3) := by decide +kernel
theorem dX7_add_9 : decode cX7_add 9 = .ok (.aload_n 0, 1) := by decide +kernel
theorem dX7_add_10 : decode cX7_add 10 = .ok (.getfield 9, 3) := by decide +kernel
theorem dX7_add_13 : decode cX7_add 13 = .ok (.aload_n 0, 1) := by decide +kernel
theorem dX7_add_14 : decode cX7_add 14 = .ok (.getfield 22, 3) := by decide +kernel
theorem dX7_add_17 : decode cX7_add 17 = .ok (.iload_n 1, 1) := by decide +kernel
theorem dX7_add_18 : decode cX7_add 18 = .ok (.iastore, 1) := by decide +kernel
theorem dX7_add_19 : decode cX7_add 19 = .ok (.aload_n 0, 1) := by decide +kernel
theorem dX7_add_20 : decode cX7_add 20 = .ok (.getfield 15, 3) := by decide +kernel
theorem dX7_add_23 : decode cX7_add 23 = .ok (.aload_n 0, 1) := by decide +kernel
theorem dX7_add_24 : decode cX7_add 24 = .ok (.getfield 22, 3) := by decide +kernel
theorem dX7_add_27 : decode cX7_add 27 = .ok (.iload_n 2, 1) := by decide +kernel
theorem dX7_add_28 : decode cX7_add 28 = .ok (.iastore, 1) := by decide +kernel
theorem dX7_add_29 : decode cX7_add 29 = .ok (.aload_n 0, 1) := by decide +kernel
theorem dX7_add_30 : decode cX7_add 30 = .ok (.getfield 18, 3) := by decide +kernel
theorem dX7_add_33 : decode cX7_add 33 = .ok (.aload_n 0, 1) := by decide +kernel
theorem dX7_add_34 : decode cX7_add 34 = .ok (.getfield 22, 3) := by decide +kernel
theorem dX7_add_37 : decode cX7_add 37 = .ok (.iload_n 3, 1) := by decide +kernel
theorem dX7_add_38 : decode cX7_add 38 = .ok (.bastore, 1) := by decide +kernel
theorem dX7_add_39 : decode cX7_add 39 = .ok (.aload_n 0, 1) := by decide +kernel
theorem dX7_add_40 : decode cX7_add 40 = .ok (.dup, 1) := by decide +kernel
theorem dX7_add_41 : decode cX7_add 41 = .ok (.getfield 22, 3) := by decide +kernel
theorem dX7_add_44 : decode cX7_add 44 = .ok (.iconst 1, 1) := by decide +kernel
theorem dX7_add_45 : decode cX7_add 45 = .ok (.iadd, 1) := by decide +kernel
theorem dX7_add_46 : decode cX7_add 46 = .ok (.putfield 22, 3) := by decide +kernel
theorem dX7_add_49 : decode cX7_add 49 = .ok (.aload_n 0, 1) := by decide +kernel
theorem dX7_add_50 : decode cX7_add 50 = .ok (.getfield 22, 3) := by decide +kernel
theorem dX7_add_53 : decode cX7_add 53 = .ok (.ireturn, 1) := by decide +kernel
theorem dX7_clear_0 : decode cX7_clear 0 = .ok (.aload_n 0, 1) := by decide +kernel
theorem dX7_clear_1 : decode cX7_clear 1 = .ok (.getfield 22, 3) := by decide +kernel
theorem dX7_clear_4 : decode cX7_clear 4 = .ok (.istore_n 1, 1) := by decide +kernel
theorem dX7_clear_5 : decode cX7_clear 5 = .ok (.aload_n 0, 1) := by decide +kernel
theorem dX7_clear_6 : decode cX7_clear 6 = .ok (.iconst 0, 1) := by decide +kernel
theorem dX7_clear_7 : decode cX7_clear 7 = .ok (.putfield 22, 3) := by decide +kernel
theorem dX7_clear_10 : decode cX7_clear 10 = .ok (.iload_n 1, 1) := by decide +kernel
theorem dX7_clear_11 : decode cX7_clear 11 = .ok (.ireturn, 1) := by decide +kernel
theorem dX7_copyFrom_0 : decode cX7_copyFrom 0 = .ok (.aload_n 0, 1) := by decide +kernel
theorem dX7_copyFrom_1 : decode cX7_copyFrom 1 = .ok (.aload_n 1, 1) := by decide +kernel
theorem dX7_copyFrom_2 : decode cX7_copyFrom 2 = .ok (.getfield 22, 3) := by decide +kernel
theorem dX7_copyFrom_5 : decode cX7_copyFrom 5 = .ok (.putfield 22, 3) := by decide +kernel
theorem dX7_copyFrom_8 : decode cX7_copyFrom 8 = .ok (.iconst 0, 1) := by decide +kernel
theorem dX7_copyFrom_9 : decode cX7_copyFrom 9 = .ok (.istore_n 2, 1) := by decide +kernel
theorem dX7_copyFrom_10 : decode cX7_copyFrom 10 = .ok (.iload_n 2, 1) := by decide +kernel
theorem dX7_copyFrom_11 : decode cX7_copyFrom 11 = .ok (.bipush 6, 2) := by decide +kernel
theorem dX7_copyFrom_13 : decode cX7_copyFrom 13 = .ok (.if_icmp .ge 45, 3) := by decide +kernel
theorem dX7_copyFrom_16 : decode cX7_copyFrom 16 = .ok (.aload_n 0, 1) := by decide +kernel
theorem dX7_copyFrom_17 : decode cX7_copyFrom 17 = .ok (.getfield 9, 3) := by decide +kernel
theorem dX7_copyFrom_20 : decode cX7_copyFrom 20 = .ok (.iload_n 2, 1) := by decide +kernel
theorem dX7_copyFrom_21 : decode cX7_copyFrom 21 = .ok (.aload_n 1, 1) := by decide +kernel
theorem dX7_copyFrom_22 : decode cX7_copyFrom 22 = .ok (.getfield 9, 3) := by decide +kernel
theorem dX7_copyFrom_25 : decode cX7_copyFrom 25 = .ok (.iload_n 2, 1) := by decide +kernel
theorem dX7_copyFrom_26 : decode cX7_copyFrom 26 = .ok (.iaload, 1) := by decide +kernel
theorem dX7_copyFrom_27 : decode cX7_copyFrom 27 = .ok (.iastore, 1) := by decide +kernel
theorem dX7_copyFrom_28 : decode cX7_copyFrom 28 = .ok (.aload_n 0, 1) := by decide +kernel
theorem dX7_copyFrom_29 : decode cX7_copyFrom 29 = .ok (.getfield 15, 3) := by decide +kernel
theorem dX7_copyFrom_32 : decode cX7_copyFrom 32 = .ok (.iload_n 2, 1) := by decide +kernel
theorem dX7_copyFrom_33 : decode cX7_copyFrom 33 = .ok (.aload_n 1, 1) := by decide +kernel
theorem dX7_copyFrom_34 : decode cX7_copyFrom 34 = .ok (.getfield 15, 3) := by decide +kernel
theorem dX7_copyFrom_37 : decode cX7_copyFrom 37 = .ok (.iload_n 2, 1) := by decide +kernel
theorem dX7_copyFrom_38 : decode cX7_copyFrom 38 = .ok (.iaload, 1) := by decide +kernel
theorem dX7_copyFrom_39 : decode cX7_copyFrom 39 = .ok (.iastore, 1) := by decide +kernel
theorem dX7_copyFrom_40 : decode cX7_copyFrom 40 = .ok (.aload_n 0, 1) := by decide +kernel
theorem dX7_copyFrom_41 : decode cX7_copyFrom 41 = .ok (.getfield 18, 3) := by decide +kernel
theorem dX7_copyFrom_44 : decode cX7_copyFrom 44 = .ok (.iload_n 2, 1) := by decide +kernel
theorem dX7_copyFrom_45 : decode cX7_copyFrom 45 = .ok (.aload_n 1, 1) := by decide +kernel
theorem dX7_copyFrom_46 : decode cX7_copyFrom 46 = .ok (.getfield 18, 3) := by decide +kernel
theorem dX7_copyFrom_49 : decode cX7_copyFrom 49 = .ok (.iload_n 2, 1) := by decide +kernel
theorem dX7_copyFrom_50 : decode cX7_copyFrom 50 = .ok (.baload, 1) := by decide +kernel
theorem dX7_copyFrom_51 : decode cX7_copyFrom 51 = .ok (.bastore, 1) := by decide +kernel
theorem dX7_copyFrom_52 : decode cX7_copyFrom 52 = .ok (.iinc 2 1, 3) := by decide +kernel
theorem dX7_copyFrom_55 : decode cX7_copyFrom 55 = .ok (.goto (-45), 3) := by decide +kernel
theorem dX7_copyFrom_58 : decode cX7_copyFrom 58 = .ok (.return_, 1) := by decide +kernel
theorem dX7_shynessOf_0 : decode cX7_shynessOf 0 = .ok (.sipush 1023, 3) := by decide +kernel
theorem dX7_shynessOf_3 : decode cX7_shynessOf 3 = .ok (.istore_n 3, 1) := by decide +kernel
theorem dX7_shynessOf_4 : decode cX7_shynessOf 4 = .ok (.iconst 0, 1) := by decide +kernel
theorem dX7_shynessOf_5 : decode cX7_shynessOf 5 = .ok (.istore 4, 2) := by decide +kernel
theorem dX7_shynessOf_7 : decode cX7_shynessOf 7 = .ok (.iload 4, 2) := by decide +kernel
theorem dX7_shynessOf_9 : decode cX7_shynessOf 9 = .ok (.aload_n 0, 1) := by decide +kernel
theorem dX7_shynessOf_10 : decode cX7_shynessOf 10 = .ok (.getfield 22, 3) := by decide +kernel
theorem dX7_shynessOf_13 : decode cX7_shynessOf 13 = .ok (.if_icmp .ge 62, 3) := by decide +kernel
theorem dX7_shynessOf_16 : decode cX7_shynessOf 16 = .ok (.iload 4, 2) := by decide +kernel
theorem dX7_shynessOf_18 : decode cX7_shynessOf 18 = .ok (.bipush 6, 2) := by decide +kernel
theorem dX7_shynessOf_20 : decode cX7_shynessOf 20 = .ok (.if_icmp .ge 55, 3) := by decide +kernel
theorem dX7_shynessOf_23 : decode cX7_shynessOf 23 = .ok (.aload_n 0, 1) := by decide +kernel
theorem dX7_shynessOf_24 : decode cX7_shynessOf 24 = .ok (.getfield 9, 3) := by decide +kernel
theorem dX7_shynessOf_27 : decode cX7_shynessOf 27 = .ok (.iload 4, 2) := by decide +kernel
theorem dX7_shynessOf_29 : decode cX7_shynessOf 29 = .ok (.iaload, 1) := by decide +kernel
theorem dX7_shynessOf_30 : decode cX7_shynessOf 30 = .ok (.iload_n 1, 1) := by decide +kernel
theorem dX7_shynessOf_31 : decode cX7_shynessOf 31 = .ok (.if_icmp .ne 38, 3) := by decide +kernel
theorem dX7_shynessOf_34 : decode cX7_shynessOf 34 = .ok (.iload_n 2, 1) := by decide +kernel
theorem dX7_shynessOf_35 : decode cX7_shynessOf 35 = .ok (.aload_n 0, 1) := by decide +kernel
theorem dX7_shynessOf_36 : decode cX7_shynessOf 36 = .ok (.getfield 15, 3) := by decide +kernel
theorem dX7_shynessOf_39 : decode cX7_shynessOf 39 = .ok (.iload 4, 2) := by decide +kernel
theorem dX7_shynessOf_41 : decode cX7_shynessOf 41 = .ok (.iaload, 1) := by decide +kernel
theorem dX7_shynessOf_42 : decode cX7_shynessOf 42 = .ok (.invokestatic 26, 3) := by decide +kernel
theorem dX7_shynessOf_45 : decode cX7_shynessOf 45 = .ok (.istore 5, 2) := by decide +kernel
theorem dX7_shynessOf_47 : decode cX7_shynessOf 47 = .ok (.iload_n 3, 1) := by decide +kernel
theorem dX7_shynessOf_48 : decode cX7_shynessOf 48 = .ok (.aload_n 0, 1) := by decide +kernel
theorem dX7_shynessOf_49 : decode cX7_shynessOf 49 = .ok (.getfield 18, 3) := by decide +kernel
theorem dX7_shynessOf_52 : decode cX7_shynessOf 52 = .ok (.iload 4, 2) := by decide +kernel
theorem dX7_shynessOf_54 : decode cX7_shynessOf 54 = .ok (.baload, 1) := by decide +kernel
theorem dX7_shynessOf_55 : decode cX7_shynessOf 55 = .ok (.ifCond .eq 8, 3) := by decide +kernel
theorem dX7_shynessOf_58 : decode cX7_shynessOf 58 = .ok (.iload 5, 2) := by decide +kernel
theorem dX7_shynessOf_60 : decode cX7_shynessOf 60 = .ok (.goto 7, 3) := by decide +kernel
theorem dX7_shynessOf_63 : decode cX7_shynessOf 63 = .ok (.iload 5, 2) := by decide +kernel
theorem dX7_shynessOf_65 : decode cX7_shynessOf 65 = .ok (.iconst (-1), 1) := by decide +kernel
theorem dX7_shynessOf_66 : decode cX7_shynessOf 66 = .ok (.ixor, 1) := by decide +kernel
theorem dX7_shynessOf_67 : decode cX7_shynessOf 67 = .ok (.iand, 1) := by decide +kernel
theorem dX7_shynessOf_68 : decode cX7_shynessOf 68 = .ok (.istore_n 3, 1) := by decide +kernel
theorem dX7_shynessOf_69 : decode cX7_shynessOf 69 = .ok (.iinc 4 1, 3) := by decide +kernel
theorem dX7_shynessOf_72 : decode cX7_shynessOf 72 = .ok (.goto (-65), 3) := by decide +kernel
theorem dX7_shynessOf_75 : decode cX7_shynessOf 75 = .ok (.iload_n 3, 1) := by decide +kernel
theorem dX7_shynessOf_76 : decode cX7_shynessOf 76 = .ok (.ireturn, 1) := by decide +kernel
theorem dX7_whatToAsk_0 : decode cX7_whatToAsk 0 = .ok (.iload_n 1, 1) := by decide +kernel
theorem dX7_whatToAsk_1 : decode cX7_whatToAsk 1 = .ok (.ifCond .ne 5, 3) := by decide +kernel
theorem dX7_whatToAsk_4 : decode cX7_whatToAsk 4 = .ok (.iconst (-1), 1) := by decide +kernel
theorem dX7_whatToAsk_5 : decode cX7_whatToAsk 5 = .ok (.ireturn, 1) := by decide +kernel
theorem dX7_whatToAsk_6 : decode cX7_whatToAsk 6 = .ok (.iconst (-1), 1) := by decide +kernel
theorem dX7_whatToAsk_7 : decode cX7_whatToAsk 7 = .ok (.istore_n 2, 1) := by decide +kernel
theorem dX7_whatToAsk_8 : decode cX7_whatToAsk 8 = .ok (.bipush 11, 2) := by decide +kernel
theorem dX7_whatToAsk_10 : decode cX7_whatToAsk 10 = .ok (.istore_n 3, 1) := by decide +kernel
theorem dX7_whatToAsk_11 : decode cX7_whatToAsk 11 = .ok (.iconst 0, 1) := by decide +kernel
theorem dX7_whatToAsk_12 : decode cX7_whatToAsk 12 = .ok (.istore 4, 2) := by decide +kernel
theorem dX7_whatToAsk_14 : decode cX7_whatToAsk 14 = .ok (.iload 4, 2) := by decide +kernel
theorem dX7_whatToAsk_16 : decode cX7_whatToAsk 16 = .ok (.bipush 16, 2) := by decide +kernel
theorem dX7_whatToAsk_18 : decode cX7_whatToAsk 18 = .ok (.if_icmp .gt 50, 3) := by decide +kernel
theorem dX7_whatToAsk_21 : decode cX7_whatToAsk 21 = .ok (.iload_n 1, 1) := by decide +kernel
theorem dX7_whatToAsk_22 : decode cX7_whatToAsk 22 = .ok (.iload_n 0, 1) := by decide +kernel
theorem dX7_whatToAsk_23 : decode cX7_whatToAsk 23 = .ok (.iload 4, 2) := by decide +kernel
theorem dX7_whatToAsk_25 : decode cX7_whatToAsk 25 = .ok (.invokestatic 26, 3) := by decide +kernel
theorem dX7_whatToAsk_28 : decode cX7_whatToAsk 28 = .ok (.iand, 1) := by decide +kernel
theorem dX7_whatToAsk_29 : decode cX7_whatToAsk 29 = .ok (.istore 5, 2) := by decide +kernel
theorem dX7_whatToAsk_31 : decode cX7_whatToAsk 31 = .ok (.iload 5, 2) := by decide +kernel
theorem dX7_whatToAsk_33 : decode cX7_whatToAsk 33 = .ok (.invokestatic 30, 3) := by decide +kernel
theorem dX7_whatToAsk_36 : decode cX7_whatToAsk 36 = .ok (.iload_n 1, 1) := by decide +kernel
theorem dX7_whatToAsk_37 : decode cX7_whatToAsk 37 = .ok (.iload 5, 2) := by decide +kernel
theorem dX7_whatToAsk_39 : decode cX7_whatToAsk 39 = .ok (.iconst (-1), 1) := by decide +kernel
theorem dX7_whatToAsk_40 : decode cX7_whatToAsk 40 = .ok (.ixor, 1) := by decide +kernel
theorem dX7_whatToAsk_41 : decode cX7_whatToAsk 41 = .ok (.iand, 1) := by decide +kernel
theorem dX7_whatToAsk_42 : decode cX7_whatToAsk 42 = .ok (.invokestatic 30, 3) := by decide +kernel
theorem dX7_whatToAsk_45 : decode cX7_whatToAsk 45 = .ok (.invokestatic 36, 3) := by decide +kernel
theorem dX7_whatToAsk_48 : decode cX7_whatToAsk 48 = .ok (.istore 6, 2) := by decide +kernel
theorem dX7_whatToAsk_50 : decode cX7_whatToAsk 50 = .ok (.iload 6, 2) := by decide +kernel
theorem dX7_whatToAsk_52 : decode cX7_whatToAsk 52 = .ok (.iload_n 3, 1) := by decide +kernel
theorem dX7_whatToAsk_53 : decode cX7_whatToAsk 53 = .ok (.if_icmp .ge 9, 3) := by decide +kernel
theorem dX7_whatToAsk_56 : decode cX7_whatToAsk 56 = .ok (.iload 4, 2) := by decide +kernel
theorem dX7_whatToAsk_58 : decode cX7_whatToAsk 58 = .ok (.istore_n 2, 1) := by decide +kernel
theorem dX7_whatToAsk_59 : decode cX7_whatToAsk 59 = .ok (.iload 6, 2) := by decide +kernel
theorem dX7_whatToAsk_61 : decode cX7_whatToAsk 61 = .ok (.istore_n 3, 1) := by decide +kernel
theorem dX7_whatToAsk_62 : decode cX7_whatToAsk 62 = .ok (.iinc 4 1, 3) := by decide +kernel
theorem dX7_whatToAsk_65 : decode cX7_whatToAsk 65 = .ok (.goto (-51), 3) := by decide +kernel
theorem dX7_whatToAsk_68 : decode cX7_whatToAsk 68 = .ok (.iload_n 2, 1) := by decide +kernel
theorem dX7_whatToAsk_69 : decode cX7_whatToAsk 69 = .ok (.ireturn, 1) := by decide +kernel
theorem dX7_shynessThatGoes_0 : decode cX7_shynessThatGoes 0 = .ok (.iconst 0, 1) := by decide +kernel
theorem dX7_shynessThatGoes_1 : decode cX7_shynessThatGoes 1 = .ok (.istore_n 2, 1) := by decide +kernel
theorem dX7_shynessThatGoes_2 : decode cX7_shynessThatGoes 2 = .ok (.iconst 0, 1) := by decide +kernel
theorem dX7_shynessThatGoes_3 : decode cX7_shynessThatGoes 3 = .ok (.istore_n 3, 1) := by decide +kernel
theorem dX7_shynessThatGoes_4 : decode cX7_shynessThatGoes 4 = .ok (.iload_n 3, 1) := by decide +kernel
theorem dX7_shynessThatGoes_5 : decode cX7_shynessThatGoes 5 = .ok (.bipush 9, 2) := by decide +kernel
theorem dX7_shynessThatGoes_7 : decode cX7_shynessThatGoes 7 = .ok (.if_icmp .gt 24, 3) := by decide +kernel
theorem dX7_shynessThatGoes_10 : decode cX7_shynessThatGoes 10 = .ok (.iload_n 0, 1) := by decide +kernel
theorem dX7_shynessThatGoes_11 : decode cX7_shynessThatGoes 11 = .ok (.iload_n 3, 1) := by decide +kernel
theorem dX7_shynessThatGoes_12 : decode cX7_shynessThatGoes 12 = .ok (.invokestatic 41, 3) := by decide +kernel
theorem dX7_shynessThatGoes_15 : decode cX7_shynessThatGoes 15 = .ok (.iload_n 1, 1) := by decide +kernel
theorem dX7_shynessThatGoes_16 : decode cX7_shynessThatGoes 16 = .ok (.if_icmp .gt 9, 3) := by decide +kernel
theorem dX7_shynessThatGoes_19 : decode cX7_shynessThatGoes 19 = .ok (.iload_n 2, 1) := by decide +kernel
theorem dX7_shynessThatGoes_20 : decode cX7_shynessThatGoes 20 = .ok (.iconst 1, 1) := by decide +kernel
theorem dX7_shynessThatGoes_21 : decode cX7_shynessThatGoes 21 = .ok (.iload_n 3, 1) := by decide +kernel
theorem dX7_shynessThatGoes_22 : decode cX7_shynessThatGoes 22 = .ok (.ishl, 1) := by decide +kernel
theorem dX7_shynessThatGoes_23 : decode cX7_shynessThatGoes 23 = .ok (.ior, 1) := by decide +kernel
theorem dX7_shynessThatGoes_24 : decode cX7_shynessThatGoes 24 = .ok (.istore_n 2, 1) := by decide +kernel
theorem dX7_shynessThatGoes_25 : decode cX7_shynessThatGoes 25 = .ok (.iinc 3 1, 3) := by decide +kernel
theorem dX7_shynessThatGoes_28 : decode cX7_shynessThatGoes 28 = .ok (.goto (-24), 3) := by decide +kernel
theorem dX7_shynessThatGoes_31 : decode cX7_shynessThatGoes 31 = .ok (.iload_n 2, 1) := by decide +kernel
theorem dX7_shynessThatGoes_32 : decode cX7_shynessThatGoes 32 = .ok (.ireturn, 1) := by decide +kernel
