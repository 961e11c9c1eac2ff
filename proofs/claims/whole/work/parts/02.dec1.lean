theorem dX8_init_0 : decode cX8_init 0 = .ok (.aload_n 0, 1) := by decide +kernel
theorem dX8_init_1 : decode cX8_init 1 = .ok (.invokespecial 1, 3) := by decide +kernel
theorem dX8_init_4 : decode cX8_init 4 = .ok (.aload_n 0, 1) := by decide +kernel
theorem dX8_init_5 : decode cX8_init 5 = .ok (.new 7, 3) := by decide +kernel
theorem dX8_init_8 : decode cX8_init 8 = .ok (.dup, 1) := by decide +kernel
theorem dX8_init_9 : decode cX8_init 9 = .ok (.invokespecial 9, 3) := by decide +kernel
theorem dX8_init_12 : decode cX8_init 12 = .ok (.putfield 10, 3) := by decide +kernel
theorem dX8_init_15 : decode cX8_init 15 = .ok (.aload_n 0, 1) := by decide +kernel
theorem dX8_init_16 : decode cX8_init 16 = .ok (.new 16, 3) := by decide +kernel
theorem dX8_init_19 : decode cX8_init 19 = .ok (.dup, 1) := by decide +kernel
theorem dX8_init_20 : decode cX8_init 20 = .ok (.invokespecial 18, 3) := by decide +kernel
theorem dX8_init_23 : decode cX8_init 23 = .ok (.putfield 19, 3) := by decide +kernel
theorem dX8_init_26 : decode cX8_init 26 = .ok (.aload_n 0, 1) := by decide +kernel
theorem dX8_init_27 : decode cX8_init 27 = .ok (.new 23, 3) := by decide +kernel
theorem dX8_init_30 : decode cX8_init 30 = .ok (.dup, 1) := by decide +kernel
theorem dX8_init_31 : decode cX8_init 31 = .ok (.invokespecial 25, 3) := by decide +kernel
theorem dX8_init_34 : decode cX8_init 34 = .ok (.putfield 26, 3) := by decide +kernel
theorem dX8_init_37 : decode cX8_init 37 = .ok (.aload_n 0, 1) := by decide +kernel
theorem dX8_init_38 : decode cX8_init 38 = .ok (.new 16, 3) := by decide +kernel
theorem dX8_init_41 : decode cX8_init 41 = .ok (.dup, 1) := by decide +kernel
theorem dX8_init_42 : decode cX8_init 42 = .ok (.invokespecial 18, 3) := by decide +kernel
theorem dX8_init_45 : decode cX8_init 45 = .ok (.putfield 30, 3) := by decide +kernel
theorem dX8_init_48 : decode cX8_init 48 = .ok (.aload_n 0, 1) := by decide +kernel
theorem dX8_init_49 : decode cX8_init 49 = .ok (.new 23, 3) := by decide +kernel
theorem dX8_init_52 : decode cX8_init 52 = .ok (.dup, 1) := by decide +kernel
theorem dX8_init_53 : decode cX8_init 53 = .ok (.invokespecial 25, 3) := by decide +kernel
theorem dX8_init_56 : decode cX8_init 56 = .ok (.putfield 33, 3) := by decide +kernel
theorem dX8_init_59 : decode cX8_init 59 = .ok (.aload_n 0, 1) := by decide +kernel
theorem dX8_init_60 : decode cX8_init 60 = .ok (.new 16, 3) := by decide +kernel
theorem dX8_init_63 : decode cX8_init 63 = .ok (.dup, 1) := by decide +kernel
theorem dX8_init_64 : decode cX8_init 64 = .ok (.invokespecial 18, 3) := by decide +kernel
theorem dX8_init_67 : decode cX8_init 67 = .ok (.putfield 36, 3) := by decide +kernel
theorem dX8_init_70 : decode cX8_init 70 = .ok (.aload_n 0, 1) := by decide +kernel
theorem dX8_init_71 : decode cX8_init 71 = .ok (.new 39, 3) := by decide +kernel
theorem dX8_init_74 : decode cX8_init 74 = .ok (.dup, 1) := by decide +kernel
theorem dX8_init_75 : decode cX8_init 75 = .ok (.invokespecial 41, 3) := by decide +kernel
theorem dX8_init_78 : decode cX8_init 78 = .ok (.putfield 42, 3) := by decide +kernel
theorem dX8_init_81 : decode cX8_init 81 = .ok (.aload_n 0, 1) := by decide +kernel
theorem dX8_init_82 : decode cX8_init 82 = .ok (.new 46, 3) := by decide +kernel
theorem dX8_init_85 : decode cX8_init 85 = .ok (.dup, 1) := by decide +kernel
theorem dX8_init_86 : decode cX8_init 86 = .ok (.invokespecial 48, 3) := by decide +kernel
theorem dX8_init_89 : decode cX8_init 89 = .ok (.putfield 49, 3) := by decide +kernel
theorem dX8_init_92 : decode cX8_init 92 = .ok (.aload_n 0, 1) := by decide +kernel
theorem dX8_init_93 : decode cX8_init 93 = .ok (.new 53, 3) := by decide +kernel
theorem dX8_init_96 : decode cX8_init 96 = .ok (.dup, 1) := by decide +kernel
theorem dX8_init_97 : decode cX8_init 97 = .ok (.invokespecial 55, 3) := by decide +kernel
theorem dX8_init_100 : decode cX8_init 100 = .ok (.putfield 56, 3) := by decide +kernel
theorem dX8_init_103 : decode cX8_init 103 = .ok (.aload_n 0, 1) := by decide +kernel
theorem dX8_init_104 : decode cX8_init 104 = .ok (.new 60, 3) := by decide +kernel
theorem dX8_init_107 : decode cX8_init 107 = .ok (.dup, 1) := by decide +kernel
theorem dX8_init_108 : decode cX8_init 108 = .ok (.invokespecial 62, 3) := by decide +kernel
theorem dX8_init_111 : decode cX8_init 111 = .ok (.putfield 63, 3) := by decide +kernel
theorem dX8_init_114 : decode cX8_init 114 = .ok (.return_, 1) := by decide +kernel
theorem dX8_letter_0 : decode cX8_letter 0 = .ok (.iload_n 1, 1) := by decide +kernel
theorem dX8_letter_1 : decode cX8_letter 1 = .ok (.bipush 32, 2) := by decide +kernel
theorem dX8_letter_3 : decode cX8_letter 3 = .ok (.if_icmp .lt 9, 3) := by decide +kernel
theorem dX8_letter_6 : decode cX8_letter 6 = .ok (.iload_n 1, 1) := by decide +kernel
theorem dX8_letter_7 : decode cX8_letter 7 = .ok (.bipush 126, 2) := by decide +kernel
theorem dX8_letter_9 : decode cX8_letter 9 = .ok (.if_icmp .le 6, 3) := by decide +kernel
theorem dX8_letter_12 : decode cX8_letter 12 = .ok (.bipush (-102), 2) := by decide +kernel
theorem dX8_letter_14 : decode cX8_letter 14 = .ok (.ireturn, 1) := by decide +kernel
theorem dX8_letter_15 : decode cX8_letter 15 = .ok (.aload_n 0, 1) := by decide +kernel
theorem dX8_letter_16 : decode cX8_letter 16 = .ok (.getfield 10, 3) := by decide +kernel
theorem dX8_letter_19 : decode cX8_letter 19 = .ok (.getfield 67, 3) := by decide +kernel
theorem dX8_letter_22 : decode cX8_letter 22 = .ok (.bipush 36, 2) := by decide +kernel
theorem dX8_letter_24 : decode cX8_letter 24 = .ok (.if_icmp .lt 6, 3) := by decide +kernel
theorem dX8_letter_27 : decode cX8_letter 27 = .ok (.bipush (-104), 2) := by decide +kernel
theorem dX8_letter_29 : decode cX8_letter 29 = .ok (.ireturn, 1) := by decide +kernel
theorem dX8_letter_30 : decode cX8_letter 30 = .ok (.aload_n 0, 1) := by decide +kernel
theorem dX8_letter_31 : decode cX8_letter 31 = .ok (.getfield 10, 3) := by decide +kernel
theorem dX8_letter_34 : decode cX8_letter 34 = .ok (.iload_n 1, 1) := by decide +kernel
theorem dX8_letter_35 : decode cX8_letter 35 = .ok (.invokevirtual 71, 3) := by decide +kernel
theorem dX8_letter_38 : decode cX8_letter 38 = .ok (.ireturn, 1) := by decide +kernel
theorem dX8_blank_0 : decode cX8_blank 0 = .ok (.aload_n 0, 1) := by decide +kernel
theorem dX8_blank_1 : decode cX8_blank 1 = .ok (.getfield 10, 3) := by decide +kernel
theorem dX8_blank_4 : decode cX8_blank 4 = .ok (.invokevirtual 75, 3) := by decide +kernel
theorem dX8_blank_7 : decode cX8_blank 7 = .ok (.ireturn, 1) := by decide +kernel
theorem dX8_fault_0 : decode cX8_fault 0 = .ok (.aload_n 0, 1) := by decide +kernel
theorem dX8_fault_1 : decode cX8_fault 1 = .ok (.getfield 10, 3) := by decide +kernel
theorem dX8_fault_4 : decode cX8_fault 4 = .ok (.invokevirtual 79, 3) := by decide +kernel
theorem dX8_fault_7 : decode cX8_fault 7 = .ok (.ireturn, 1) := by decide +kernel
theorem dX8_party_0 : decode cX8_party 0 = .ok (.aload_n 0, 1) := by decide +kernel
theorem dX8_party_1 : decode cX8_party 1 = .ok (.getfield 10, 3) := by decide +kernel
theorem dX8_party_4 : decode cX8_party 4 = .ok (.invokevirtual 82, 3) := by decide +kernel
theorem dX8_party_7 : decode cX8_party 7 = .ok (.ifCond .ne 6, 3) := by decide +kernel
theorem dX8_party_10 : decode cX8_party 10 = .ok (.bipush (-103), 2) := by decide +kernel
theorem dX8_party_12 : decode cX8_party 12 = .ok (.ireturn, 1) := by decide +kernel
theorem dX8_party_13 : decode cX8_party 13 = .ok (.aload_n 0, 1) := by decide +kernel
theorem dX8_party_14 : decode cX8_party 14 = .ok (.getfield 19, 3) := by decide +kernel
theorem dX8_party_17 : decode cX8_party 17 = .ok (.aload_n 0, 1) := by decide +kernel
theorem dX8_party_18 : decode cX8_party 18 = .ok (.getfield 10, 3) := by decide +kernel
theorem dX8_party_21 : decode cX8_party 21 = .ok (.invokevirtual 86, 3) := by decide +kernel
theorem dX8_party_24 : decode cX8_party 24 = .ok (.aload_n 0, 1) := by decide +kernel
theorem dX8_party_25 : decode cX8_party 25 = .ok (.getfield 10, 3) := by decide +kernel
theorem dX8_party_28 : decode cX8_party 28 = .ok (.invokevirtual 75, 3) := by decide +kernel
theorem dX8_party_31 : decode cX8_party 31 = .ok (.pop, 1) := by decide +kernel
theorem dX8_party_32 : decode cX8_party 32 = .ok (.aload_n 0, 1) := by decide +kernel
theorem dX8_party_33 : decode cX8_party 33 = .ok (.getfield 26, 3) := by decide +kernel
theorem dX8_party_36 : decode cX8_party 36 = .ok (.invokevirtual 90, 3) := by decide +kernel
theorem dX8_party_39 : decode cX8_party 39 = .ok (.pop, 1) := by decide +kernel
theorem dX8_party_40 : decode cX8_party 40 = .ok (.aload_n 0, 1) := by decide +kernel
theorem dX8_party_41 : decode cX8_party 41 = .ok (.iconst 0, 1) := by decide +kernel
theorem dX8_party_42 : decode cX8_party 42 = .ok (.putfield 91, 3) := by decide +kernel
theorem dX8_party_45 : decode cX8_party 45 = .ok (.aload_n 0, 1) := by decide +kernel
theorem dX8_party_46 : decode cX8_party 46 = .ok (.dup, 1) := by decide +kernel
theorem dX8_party_47 : decode cX8_party 47 = .ok (.getfield 95, 3) := by decide +kernel
theorem dX8_party_50 : decode cX8_party 50 = .ok (.iconst 1, 1) := by decide +kernel
theorem dX8_party_51 : decode cX8_party 51 = .ok (.iadd, 1) := by decide +kernel
theorem dX8_party_52 : decode cX8_party 52 = .ok (.putfield 95, 3) := by decide +kernel
theorem dX8_party_55 : decode cX8_party 55 = .ok (.aload_n 0, 1) := by decide +kernel
theorem dX8_party_56 : decode cX8_party 56 = .ok (.getfield 19, 3) := by decide +kernel
theorem dX8_party_59 : decode cX8_party 59 = .ok (.getfield 98, 3) := by decide +kernel
theorem dX8_party_62 : decode cX8_party 62 = .ok (.ireturn, 1) := by decide +kernel
theorem dX8_guest_0 : decode cX8_guest 0 = .ok (.aload_n 0, 1) := by decide +kernel
theorem dX8_guest_1 : decode cX8_guest 1 = .ok (.getfield 19, 3) := by decide +kernel
theorem dX8_guest_4 : decode cX8_guest 4 = .ok (.iload_n 1, 1) := by decide +kernel
theorem dX8_guest_5 : decode cX8_guest 5 = .ok (.invokevirtual 101, 3) := by decide +kernel
theorem dX8_guest_8 : decode cX8_guest 8 = .ok (.ifCond .ne 6, 3) := by decide +kernel
theorem dX8_guest_11 : decode cX8_guest 11 = .ok (.bipush (-101), 2) := by decide +kernel
theorem dX8_guest_13 : decode cX8_guest 13 = .ok (.ireturn, 1) := by decide +kernel
theorem dX8_guest_14 : decode cX8_guest 14 = .ok (.iload_n 2, 1) := by decide +kernel
theorem dX8_guest_15 : decode cX8_guest 15 = .ok (.ifCond .lt 9, 3) := by decide +kernel
theorem dX8_guest_18 : decode cX8_guest 18 = .ok (.iload_n 2, 1) := by decide +kernel
theorem dX8_guest_19 : decode cX8_guest 19 = .ok (.bipush 8, 2) := by decide +kernel
theorem dX8_guest_21 : decode cX8_guest 21 = .ok (.if_icmp .le 6, 3) := by decide +kernel
theorem dX8_guest_24 : decode cX8_guest 24 = .ok (.bipush (-102), 2) := by decide +kernel
theorem dX8_guest_26 : decode cX8_guest 26 = .ok (.ireturn, 1) := by decide +kernel
theorem dX8_guest_27 : decode cX8_guest 27 = .ok (.iload_n 2, 1) := by decide +kernel
theorem dX8_guest_28 : decode cX8_guest 28 = .ok (.bipush 8, 2) := by decide +kernel
theorem dX8_guest_30 : decode cX8_guest 30 = .ok (.if_icmp .ne 14, 3) := by decide +kernel
theorem dX8_guest_33 : decode cX8_guest 33 = .ok (.aload_n 0, 1) := by decide +kernel
theorem dX8_guest_34 : decode cX8_guest 34 = .ok (.getfield 56, 3) := by decide +kernel
theorem dX8_guest_37 : decode cX8_guest 37 = .ok (.aload_n 0, 1) := by decide +kernel
theorem dX8_guest_38 : decode cX8_guest 38 = .ok (.getfield 19, 3) := by decide +kernel
theorem dX8_guest_41 : decode cX8_guest 41 = .ok (.invokevirtual 105, 3) := by decide +kernel
theorem dX8_guest_44 : decode cX8_guest 44 = .ok (.aload_n 0, 1) := by decide +kernel
theorem dX8_guest_45 : decode cX8_guest 45 = .ok (.iload_n 1, 1) := by decide +kernel
theorem dX8_guest_46 : decode cX8_guest 46 = .ok (.iload_n 2, 1) := by decide +kernel
theorem dX8_guest_47 : decode cX8_guest 47 = .ok (.invokevirtual 109, 3) := by decide +kernel
theorem dX8_guest_50 : decode cX8_guest 50 = .ok (.ireturn, 1) := by decide +kernel
theorem dX8_as_0 : decode cX8_as 0 = .ok (.aload_n 0, 1) := by decide +kernel
theorem dX8_as_1 : decode cX8_as 1 = .ok (.getfield 19, 3) := by decide +kernel
theorem dX8_as_4 : decode cX8_as 4 = .ok (.iload_n 1, 1) := by decide +kernel
theorem dX8_as_5 : decode cX8_as 5 = .ok (.invokevirtual 101, 3) := by decide +kernel
theorem dX8_as_8 : decode cX8_as 8 = .ok (.ifCond .ne 6, 3) := by decide +kernel
theorem dX8_as_11 : decode cX8_as 11 = .ok (.bipush (-101), 2) := by decide +kernel
theorem dX8_as_13 : decode cX8_as 13 = .ok (.ireturn, 1) := by decide +kernel
theorem dX8_as_14 : decode cX8_as 14 = .ok (.iload_n 2, 1) := by decide +kernel
theorem dX8_as_15 : decode cX8_as 15 = .ok (.invokestatic 113, 3) := by decide +kernel
theorem dX8_as_18 : decode cX8_as 18 = .ok (.ifCond .ne 6, 3) := by decide +kernel
theorem dX8_as_21 : decode cX8_as 21 = .ok (.bipush (-102), 2) := by decide +kernel
theorem dX8_as_23 : decode cX8_as 23 = .ok (.ireturn, 1) := by decide +kernel
theorem dX8_as_24 : decode cX8_as 24 = .ok (.aload_n 0, 1) := by decide +kernel
theorem dX8_as_25 : decode cX8_as 25 = .ok (.getfield 19, 3) := by decide +kernel
theorem dX8_as_28 : decode cX8_as 28 = .ok (.getfield 118, 3) := by decide +kernel
theorem dX8_as_31 : decode cX8_as 31 = .ok (.iload_n 1, 1) := by decide +kernel
theorem dX8_as_32 : decode cX8_as 32 = .ok (.iaload, 1) := by decide +kernel
theorem dX8_as_33 : decode cX8_as 33 = .ok (.iload_n 2, 1) := by decide +kernel
theorem dX8_as_34 : decode cX8_as 34 = .ok (.invokestatic 122, 3) := by decide +kernel
theorem dX8_as_37 : decode cX8_as 37 = .ok (.ifCond .eq 7, 3) := by decide +kernel
theorem dX8_as_40 : decode cX8_as 40 = .ok (.iload_n 1, 1) := by decide +kernel
theorem dX8_as_41 : decode cX8_as 41 = .ok (.goto 4, 3) := by decide +kernel
theorem dX8_as_44 : decode cX8_as 44 = .ok (.iconst (-1), 1) := by decide +kernel
theorem dX8_as_45 : decode cX8_as 45 = .ok (.ireturn, 1) := by decide +kernel
theorem dX8_rise_0 : decode cX8_rise 0 = .ok (.iload_n 1, 1) := by decide +kernel
theorem dX8_rise_1 : decode cX8_rise 1 = .ok (.ifCond .eq 17, 3) := by decide +kernel
theorem dX8_rise_4 : decode cX8_rise 4 = .ok (.iload_n 1, 1) := by decide +kernel
theorem dX8_rise_5 : decode cX8_rise 5 = .ok (.aload_n 0, 1) := by decide +kernel
theorem dX8_rise_6 : decode cX8_rise 6 = .ok (.getfield 19, 3) := by decide +kernel
theorem dX8_rise_9 : decode cX8_rise 9 = .ok (.invokevirtual 126, 3) := by decide +kernel
theorem dX8_rise_12 : decode cX8_rise 12 = .ok (.iconst (-1), 1) := by decide +kernel
theorem dX8_rise_13 : decode cX8_rise 13 = .ok (.ixor, 1) := by decide +kernel
theorem dX8_rise_14 : decode cX8_rise 14 = .ok (.iand, 1) := by decide +kernel
theorem dX8_rise_15 : decode cX8_rise 15 = .ok (.ifCond .eq 6, 3) := by decide +kernel
theorem dX8_rise_18 : decode cX8_rise 18 = .ok (.bipush (-101), 2) := by decide +kernel
theorem dX8_rise_20 : decode cX8_rise 20 = .ok (.ireturn, 1) := by decide +kernel
theorem dX8_rise_21 : decode cX8_rise 21 = .ok (.iload_n 1, 1) := by decide +kernel
theorem dX8_rise_22 : decode cX8_rise 22 = .ok (.aload_n 0, 1) := by decide +kernel
theorem dX8_rise_23 : decode cX8_rise 23 = .ok (.getfield 19, 3) := by decide +kernel
theorem dX8_rise_26 : decode cX8_rise 26 = .ok (.getfield 129, 3) := by decide +kernel
theorem dX8_rise_29 : decode cX8_rise 29 = .ok (.iconst (-1), 1) := by decide +kernel
theorem dX8_rise_30 : decode cX8_rise 30 = .ok (.ixor, 1) := by decide +kernel
theorem dX8_rise_31 : decode cX8_rise 31 = .ok (.iand, 1) := by decide +kernel
theorem dX8_rise_32 : decode cX8_rise 32 = .ok (.ifCond .ne 15, 3) := by decide +kernel
theorem dX8_rise_35 : decode cX8_rise 35 = .ok (.aload_n 0, 1) := by decide +kernel
theorem dX8_rise_36 : decode cX8_rise 36 = .ok (.getfield 19, 3) := by decide +kernel
theorem dX8_rise_39 : decode cX8_rise 39 = .ok (.iload_n 1, 1) := by decide +kernel
theorem dX8_rise_40 : decode cX8_rise 40 = .ok (.invokevirtual 132, 3) := by decide +kernel
theorem dX8_rise_43 : decode cX8_rise 43 = .ok (.iload_n 1, 1) := by decide +kernel
theorem dX8_rise_44 : decode cX8_rise 44 = .ok (.if_icmp .eq 6, 3) := by decide +kernel
theorem dX8_rise_47 : decode cX8_rise 47 = .ok (.bipush (-103), 2) := by decide +kernel
theorem dX8_rise_49 : decode cX8_rise 49 = .ok (.ireturn, 1) := by decide +kernel
theorem dX8_rise_50 : decode cX8_rise 50 = .ok (.aload_n 0, 1) := by decide +kernel
theorem dX8_rise_51 : decode cX8_rise 51 = .ok (.getfield 19, 3) := by decide +kernel
theorem dX8_rise_54 : decode cX8_rise 54 = .ok (.dup, 1) := by decide +kernel
theorem dX8_rise_55 : decode cX8_rise 55 = .ok (.getfield 129, 3) := by decide +kernel
theorem dX8_rise_58 : decode cX8_rise 58 = .ok (.iload_n 1, 1) := by decide +kernel
theorem dX8_rise_59 : decode cX8_rise 59 = .ok (.iconst (-1), 1) := by decide +kernel
theorem dX8_rise_60 : decode cX8_rise 60 = .ok (.ixor, 1) := by decide +kernel
theorem dX8_rise_61 : decode cX8_rise 61 = .ok (.iand, 1) := by decide +kernel
theorem dX8_rise_62 : decode cX8_rise 62 = .ok (.putfield 129, 3) := by decide +kernel
theorem dX8_rise_65 : decode cX8_rise 65 = .ok (.iload_n 1, 1) := by decide +kernel
theorem dX8_rise_66 : decode cX8_rise 66 = .ok (.invokestatic 135, 3) := by decide +kernel
theorem dX8_rise_69 : decode cX8_rise 69 = .ok (.ireturn, 1) := by decide +kernel
theorem dX8_hour_0 : decode cX8_hour 0 = .ok (.aload_n 0, 1) := by decide +kernel
theorem dX8_hour_1 : decode cX8_hour 1 = .ok (.invokevirtual 140, 3) := by decide +kernel
theorem dX8_hour_4 : decode cX8_hour 4 = .ok (.ifCond .ne 6, 3) := by decide +kernel
theorem dX8_hour_7 : decode cX8_hour 7 = .ok (.bipush (-103), 2) := by decide +kernel
theorem dX8_hour_9 : decode cX8_hour 9 = .ok (.ireturn, 1) := by decide +kernel
theorem dX8_hour_10 : decode cX8_hour 10 = .ok (.aload_n 0, 1) := by decide +kernel
theorem dX8_hour_11 : decode cX8_hour 11 = .ok (.getfield 19, 3) := by decide +kernel
theorem dX8_hour_14 : decode cX8_hour 14 = .ok (.getfield 143, 3) := by decide +kernel
theorem dX8_hour_17 : decode cX8_hour 17 = .ok (.sipush 999, 3) := by decide +kernel
theorem dX8_hour_20 : decode cX8_hour 20 = .ok (.if_icmp .lt 6, 3) := by decide +kernel
theorem dX8_hour_23 : decode cX8_hour 23 = .ok (.bipush (-104), 2) := by decide +kernel
theorem dX8_hour_25 : decode cX8_hour 25 = .ok (.ireturn, 1) := by decide +kernel
theorem dX8_hour_26 : decode cX8_hour 26 = .ok (.aload_n 0, 1) := by decide +kernel
theorem dX8_hour_27 : decode cX8_hour 27 = .ok (.getfield 19, 3) := by decide +kernel
theorem dX8_hour_30 : decode cX8_hour 30 = .ok (.invokevirtual 146, 3) := by decide +kernel
theorem dX8_hour_33 : decode cX8_hour 33 = .ok (.ireturn, 1) := by decide +kernel
theorem dX8_hint_0 : decode cX8_hint 0 = .ok (.aload_n 0, 1) := by decide +kernel
theorem dX8_hint_1 : decode cX8_hint 1 = .ok (.getfield 19, 3) := by decide +kernel
theorem dX8_hint_4 : decode cX8_hint 4 = .ok (.iload_n 1, 1) := by decide +kernel
theorem dX8_hint_5 : decode cX8_hint 5 = .ok (.invokevirtual 101, 3) := by decide +kernel
theorem dX8_hint_8 : decode cX8_hint 8 = .ok (.ifCond .ne 6, 3) := by decide +kernel
theorem dX8_hint_11 : decode cX8_hint 11 = .ok (.bipush (-101), 2) := by decide +kernel
theorem dX8_hint_13 : decode cX8_hint 13 = .ok (.ireturn, 1) := by decide +kernel
theorem dX8_hint_14 : decode cX8_hint 14 = .ok (.aload_n 0, 1) := by decide +kernel
theorem dX8_hint_15 : decode cX8_hint 15 = .ok (.getfield 19, 3) := by decide +kernel
theorem dX8_hint_18 : decode cX8_hint 18 = .ok (.iload_n 1, 1) := by decide +kernel
theorem dX8_hint_19 : decode cX8_hint 19 = .ok (.invokevirtual 149, 3) := by decide +kernel
theorem dX8_hint_22 : decode cX8_hint 22 = .ok (.ifCond .ne 6, 3) := by decide +kernel
theorem dX8_hint_25 : decode cX8_hint 25 = .ok (.bipush (-103), 2) := by decide +kernel
theorem dX8_hint_27 : decode cX8_hint 27 = .ok (.ireturn, 1) := by decide +kernel
theorem dX8_hint_28 : decode cX8_hint 28 = .ok (.aload_n 0, 1) := by decide +kernel
theorem dX8_hint_29 : decode cX8_hint 29 = .ok (.getfield 19, 3) := by decide +kernel
theorem dX8_hint_32 : decode cX8_hint 32 = .ok (.iload_n 1, 1) := by decide +kernel
theorem dX8_hint_33 : decode cX8_hint 33 = .ok (.invokevirtual 152, 3) := by decide +kernel
theorem dX8_hint_36 : decode cX8_hint 36 = .ok (.aload_n 0, 1) := by decide +kernel
theorem dX8_hint_37 : decode cX8_hint 37 = .ok (.getfield 19, 3) := by decide +kernel
theorem dX8_hint_40 : decode cX8_hint 40 = .ok (.getfield 156, 3) := by decide +kernel
theorem dX8_hint_43 : decode cX8_hint 43 = .ok (.iload_n 1, 1) := by decide +kernel
theorem dX8_hint_44 : decode cX8_hint 44 = .ok (.iaload, 1) := by decide +kernel
theorem dX8_hint_45 : decode cX8_hint 45 = .ok (.ireturn, 1) := by decide +kernel
theorem dX8_back_0 : decode cX8_back 0 = .ok (.aload_n 0, 1) := by decide +kernel
theorem dX8_back_1 : decode cX8_back 1 = .ok (.getfield 19, 3) := by decide +kernel
theorem dX8_back_4 : decode cX8_back 4 = .ok (.iload_n 1, 1) := by decide +kernel
theorem dX8_back_5 : decode cX8_back 5 = .ok (.invokevirtual 101, 3) := by decide +kernel
theorem dX8_back_8 : decode cX8_back 8 = .ok (.ifCond .ne 6, 3) := by decide +kernel
theorem dX8_back_11 : decode cX8_back 11 = .ok (.bipush (-101), 2) := by decide +kernel
theorem dX8_back_13 : decode cX8_back 13 = .ok (.ireturn, 1) := by decide +kernel
theorem dX8_back_14 : decode cX8_back 14 = .ok (.aload_n 0, 1) := by decide +kernel
theorem dX8_back_15 : decode cX8_back 15 = .ok (.getfield 19, 3) := by decide +kernel
theorem dX8_back_18 : decode cX8_back 18 = .ok (.iload_n 1, 1) := by decide +kernel
theorem dX8_back_19 : decode cX8_back 19 = .ok (.invokevirtual 149, 3) := by decide +kernel
theorem dX8_back_22 : decode cX8_back 22 = .ok (.ifCond .eq 6, 3) := by decide +kernel
theorem dX8_back_25 : decode cX8_back 25 = .ok (.bipush (-103), 2) := by decide +kernel
theorem dX8_back_27 : decode cX8_back 27 = .ok (.ireturn, 1) := by decide +kernel
theorem dX8_back_28 : decode cX8_back 28 = .ok (.aload_n 0, 1) := by decide +kernel
theorem dX8_back_29 : decode cX8_back 29 = .ok (.getfield 19, 3) := by decide +kernel
theorem dX8_back_32 : decode cX8_back 32 = .ok (.dup, 1) := by decide +kernel
theorem dX8_back_33 : decode cX8_back 33 = .ok (.getfield 129, 3) := by decide +kernel
theorem dX8_back_36 : decode cX8_back 36 = .ok (.iconst 1, 1) := by decide +kernel
theorem dX8_back_37 : decode cX8_back 37 = .ok (.iload_n 1, 1) := by decide +kernel
theorem dX8_back_38 : decode cX8_back 38 = .ok (.ishl, 1) := by decide +kernel
theorem dX8_back_39 : decode cX8_back 39 = .ok (.ior, 1) := by decide +kernel
theorem dX8_back_40 : decode cX8_back 40 = .ok (.putfield 129, 3) := by decide +kernel
theorem dX8_back_43 : decode cX8_back 43 = .ok (.aload_n 0, 1) := by decide +kernel
theorem dX8_back_44 : decode cX8_back 44 = .ok (.getfield 19, 3) := by decide +kernel
theorem dX8_back_47 : decode cX8_back 47 = .ok (.getfield 129, 3) := by decide +kernel
theorem dX8_back_50 : decode cX8_back 50 = .ok (.invokestatic 135, 3) := by decide +kernel
theorem dX8_back_53 : decode cX8_back 53 = .ok (.ireturn, 1) := by decide +kernel
theorem dX8_feed_0 : decode cX8_feed 0 = .ok (.iload_n 1, 1) := by decide +kernel
theorem dX8_feed_1 : decode cX8_feed 1 = .ok (.iconst 1, 1) := by decide +kernel
theorem dX8_feed_2 : decode cX8_feed 2 = .ok (.if_icmp .lt 9, 3) := by decide +kernel
theorem dX8_feed_5 : decode cX8_feed 5 = .ok (.iload_n 1, 1) := by decide +kernel
theorem dX8_feed_6 : decode cX8_feed 6 = .ok (.bipush 50, 2) := by decide +kernel
theorem dX8_feed_8 : decode cX8_feed 8 = .ok (.if_icmp .le 6, 3) := by decide +kernel
theorem dX8_feed_11 : decode cX8_feed 11 = .ok (.bipush (-102), 2) := by decide +kernel
theorem dX8_feed_13 : decode cX8_feed 13 = .ok (.ireturn, 1) := by decide +kernel
theorem dX8_feed_14 : decode cX8_feed 14 = .ok (.aload_n 0, 1) := by decide +kernel
theorem dX8_feed_15 : decode cX8_feed 15 = .ok (.invokevirtual 140, 3) := by decide +kernel
theorem dX8_feed_18 : decode cX8_feed 18 = .ok (.ifCond .ne 6, 3) := by decide +kernel
theorem dX8_feed_21 : decode cX8_feed 21 = .ok (.bipush (-103), 2) := by decide +kernel
theorem dX8_feed_23 : decode cX8_feed 23 = .ok (.ireturn, 1) := by decide +kernel
theorem dX8_feed_24 : decode cX8_feed 24 = .ok (.aload_n 0, 1) := by decide +kernel
theorem dX8_feed_25 : decode cX8_feed 25 = .ok (.getfield 19, 3) := by decide +kernel
theorem dX8_feed_28 : decode cX8_feed 28 = .ok (.getfield 159, 3) := by decide +kernel
theorem dX8_feed_31 : decode cX8_feed 31 = .ok (.iload_n 1, 1) := by decide +kernel
theorem dX8_feed_32 : decode cX8_feed 32 = .ok (.iadd, 1) := by decide +kernel
theorem dX8_feed_33 : decode cX8_feed 33 = .ok (.bipush 99, 2) := by decide +kernel
theorem dX8_feed_35 : decode cX8_feed 35 = .ok (.if_icmp .le 6, 3) := by decide +kernel
theorem dX8_feed_38 : decode cX8_feed 38 = .ok (.bipush (-104), 2) := by decide +kernel
theorem dX8_feed_40 : decode cX8_feed 40 = .ok (.ireturn, 1) := by decide +kernel
theorem dX8_feed_41 : decode cX8_feed 41 = .ok (.aload_n 0, 1) := by decide +kernel
theorem dX8_feed_42 : decode cX8_feed 42 = .ok (.getfield 19, 3) := by decide +kernel
theorem dX8_feed_45 : decode cX8_feed 45 = .ok (.dup, 1) := by decide +kernel
theorem dX8_feed_46 : decode cX8_feed 46 = .ok (.getfield 159, 3) := by decide +kernel
theorem dX8_feed_49 : decode cX8_feed 49 = .ok (.iload_n 1, 1) := by decide +kernel
theorem dX8_feed_50 : decode cX8_feed 50 = .ok (.iadd, 1) := by decide +kernel
theorem dX8_feed_51 : decode cX8_feed 51 = .ok (.putfield 159, 3) := by decide +kernel
theorem dX8_feed_54 : decode cX8_feed 54 = .ok (.aload_n 0, 1) := by decide +kernel
theorem dX8_feed_55 : decode cX8_feed 55 = .ok (.getfield 19, 3) := by decide +kernel
theorem dX8_feed_58 : decode cX8_feed 58 = .ok (.getfield 159, 3) := by decide +kernel
theorem dX8_feed_61 : decode cX8_feed 61 = .ok (.ireturn, 1) := by decide +kernel
theorem dX8_turn_0 : decode cX8_turn 0 = .ok (.aload_n 0, 1) := by decide +kernel
theorem dX8_turn_1 : decode cX8_turn 1 = .ok (.getfield 19, 3) := by decide +kernel
theorem dX8_turn_4 : decode cX8_turn 4 = .ok (.iload_n 1, 1) := by decide +kernel
theorem dX8_turn_5 : decode cX8_turn 5 = .ok (.invokevirtual 101, 3) := by decide +kernel
theorem dX8_turn_8 : decode cX8_turn 8 = .ok (.ifCond .ne 6, 3) := by decide +kernel
theorem dX8_turn_11 : decode cX8_turn 11 = .ok (.bipush (-101), 2) := by decide +kernel
theorem dX8_turn_13 : decode cX8_turn 13 = .ok (.ireturn, 1) := by decide +kernel
theorem dX8_turn_14 : decode cX8_turn 14 = .ok (.iload_n 2, 1) := by decide +kernel
theorem dX8_turn_15 : decode cX8_turn 15 = .ok (.invokestatic 113, 3) := by decide +kernel
theorem dX8_turn_18 : decode cX8_turn 18 = .ok (.ifCond .eq 13, 3) := by decide +kernel
theorem dX8_turn_21 : decode cX8_turn 21 = .ok (.iload_n 3, 1) := by decide +kernel
theorem dX8_turn_22 : decode cX8_turn 22 = .ok (.ifCond .lt 9, 3) := by decide +kernel
theorem dX8_turn_25 : decode cX8_turn 25 = .ok (.iload_n 3, 1) := by decide +kernel
theorem dX8_turn_26 : decode cX8_turn 26 = .ok (.bipush 9, 2) := by decide +kernel
theorem dX8_turn_28 : decode cX8_turn 28 = .ok (.if_icmp .le 6, 3) := by decide +kernel
theorem dX8_turn_31 : decode cX8_turn 31 = .ok (.bipush (-102), 2) := by decide +kernel
theorem dX8_turn_33 : decode cX8_turn 33 = .ok (.ireturn, 1) := by decide +kernel
theorem dX8_turn_34 : decode cX8_turn 34 = .ok (.aload_n 0, 1) := by decide +kernel
theorem dX8_turn_35 : decode cX8_turn 35 = .ok (.getfield 19, 3) := by decide +kernel
theorem dX8_turn_38 : decode cX8_turn 38 = .ok (.getfield 118, 3) := by decide +kernel
theorem dX8_turn_41 : decode cX8_turn 41 = .ok (.iload_n 1, 1) := by decide +kernel
theorem dX8_turn_42 : decode cX8_turn 42 = .ok (.iaload, 1) := by decide +kernel
theorem dX8_turn_43 : decode cX8_turn 43 = .ok (.istore 4, 2) := by decide +kernel
theorem dX8_turn_45 : decode cX8_turn 45 = .ok (.aload_n 0, 1) := by decide +kernel
theorem dX8_turn_46 : decode cX8_turn 46 = .ok (.getfield 19, 3) := by decide +kernel
theorem dX8_turn_49 : decode cX8_turn 49 = .ok (.getfield 118, 3) := by decide +kernel
theorem dX8_turn_52 : decode cX8_turn 52 = .ok (.iload_n 1, 1) := by decide +kernel
theorem dX8_turn_53 : decode cX8_turn 53 = .ok (.iload_n 2, 1) := by decide +kernel
theorem dX8_turn_54 : decode cX8_turn 54 = .ok (.iastore, 1) := by decide +kernel
theorem dX8_turn_55 : decode cX8_turn 55 = .ok (.aload_n 0, 1) := by decide +kernel
theorem dX8_turn_56 : decode cX8_turn 56 = .ok (.getfield 19, 3) := by decide +kernel
theorem dX8_turn_59 : decode cX8_turn 59 = .ok (.getfield 156, 3) := by decide +kernel
theorem dX8_turn_62 : decode cX8_turn 62 = .ok (.iload_n 1, 1) := by decide +kernel
theorem dX8_turn_63 : decode cX8_turn 63 = .ok (.iload_n 3, 1) := by decide +kernel
theorem dX8_turn_64 : decode cX8_turn 64 = .ok (.iastore, 1) := by decide +kernel
theorem dX8_turn_65 : decode cX8_turn 65 = .ok (.iload 4, 2) := by decide +kernel
theorem dX8_turn_67 : decode cX8_turn 67 = .ok (.ireturn, 1) := by decide +kernel
theorem dX8_most_0 : decode cX8_most 0 = .ok (.aload_n 0, 1) := by decide +kernel
theorem dX8_most_1 : decode cX8_most 1 = .ok (.invokevirtual 140, 3) := by decide +kernel
theorem dX8_most_4 : decode cX8_most 4 = .ok (.ifCond .ne 6, 3) := by decide +kernel
theorem dX8_most_7 : decode cX8_most 7 = .ok (.bipush (-103), 2) := by decide +kernel
theorem dX8_most_9 : decode cX8_most 9 = .ok (.ireturn, 1) := by decide +kernel
theorem dX8_most_10 : decode cX8_most 10 = .ok (.aload_n 0, 1) := by decide +kernel
theorem dX8_most_11 : decode cX8_most 11 = .ok (.getfield 19, 3) := by decide +kernel
theorem dX8_most_14 : decode cX8_most 14 = .ok (.invokevirtual 162, 3) := by decide +kernel
theorem dX8_most_17 : decode cX8_most 17 = .ok (.ireturn, 1) := by decide +kernel
theorem dX8_least_0 : decode cX8_least 0 = .ok (.aload_n 0, 1) := by decide +kernel
theorem dX8_least_1 : decode cX8_least 1 = .ok (.invokevirtual 140, 3) := by decide +kernel
theorem dX8_least_4 : decode cX8_least 4 = .ok (.ifCond .ne 6, 3) := by decide +kernel
theorem dX8_least_7 : decode cX8_least 7 = .ok (.bipush (-103), 2) := by decide +kernel
theorem dX8_least_9 : decode cX8_least 9 = .ok (.ireturn, 1) := by decide +kernel
theorem dX8_least_10 : decode cX8_least 10 = .ok (.aload_n 0, 1) := by decide +kernel
theorem dX8_least_11 : decode cX8_least 11 = .ok (.getfield 42, 3) := by decide +kernel
theorem dX8_least_14 : decode cX8_least 14 = .ok (.aload_n 0, 1) := by decide +kernel
theorem dX8_least_15 : decode cX8_least 15 = .ok (.getfield 19, 3) := by decide +kernel
theorem dX8_least_18 : decode cX8_least 18 = .ok (.invokevirtual 165, 3) := by decide +kernel
theorem dX8_least_21 : decode cX8_least 21 = .ok (.aload_n 0, 1) := by decide +kernel
theorem dX8_least_22 : decode cX8_least 22 = .ok (.getfield 42, 3) := by decide +kernel
theorem dX8_least_25 : decode cX8_least 25 = .ok (.invokevirtual 166, 3) := by decide +kernel
theorem dX8_least_28 : decode cX8_least 28 = .ok (.ireturn, 1) := by decide +kernel
theorem dX8_hire_0 : decode cX8_hire 0 = .ok (.iload_n 1, 1) := by decide +kernel
theorem dX8_hire_1 : decode cX8_hire 1 = .ok (.ifCond .lt 8, 3) := by decide +kernel
theorem dX8_hire_4 : decode cX8_hire 4 = .ok (.iload_n 1, 1) := by decide +kernel
theorem dX8_hire_5 : decode cX8_hire 5 = .ok (.iconst 1, 1) := by decide +kernel
theorem dX8_hire_6 : decode cX8_hire 6 = .ok (.if_icmp .le 6, 3) := by decide +kernel
theorem dX8_hire_9 : decode cX8_hire 9 = .ok (.bipush (-102), 2) := by decide +kernel
theorem dX8_hire_11 : decode cX8_hire 11 = .ok (.ireturn, 1) := by decide +kernel
theorem dX8_hire_12 : decode cX8_hire 12 = .ok (.aload_n 0, 1) := by decide +kernel
theorem dX8_hire_13 : decode cX8_hire 13 = .ok (.invokevirtual 140, 3) := by decide +kernel
theorem dX8_hire_16 : decode cX8_hire 16 = .ok (.ifCond .ne 6, 3) := by decide +kernel
theorem dX8_hire_19 : decode cX8_hire 19 = .ok (.bipush (-103), 2) := by decide +kernel
theorem dX8_hire_21 : decode cX8_hire 21 = .ok (.ireturn, 1) := by decide +kernel
theorem dX8_hire_22 : decode cX8_hire 22 = .ok (.iload_n 1, 1) := by decide +kernel
theorem dX8_hire_23 : decode cX8_hire 23 = .ok (.ifCond .ne 13, 3) := by decide +kernel
theorem dX8_hire_26 : decode cX8_hire 26 = .ok (.aload_n 0, 1) := by decide +kernel
theorem dX8_hire_27 : decode cX8_hire 27 = .ok (.invokevirtual 169, 3) := by decide +kernel
theorem dX8_hire_30 : decode cX8_hire 30 = .ok (.invokestatic 135, 3) := by decide +kernel
theorem dX8_hire_33 : decode cX8_hire 33 = .ok (.goto 7, 3) := by decide +kernel
theorem dX8_hire_36 : decode cX8_hire 36 = .ok (.aload_n 0, 1) := by decide +kernel
theorem dX8_hire_37 : decode cX8_hire 37 = .ok (.invokevirtual 169, 3) := by decide +kernel
theorem dX8_hire_40 : decode cX8_hire 40 = .ok (.ireturn, 1) := by decide +kernel
theorem dX8_ends_0 : decode cX8_ends 0 = .ok (.aload_n 0, 1) := by decide +kernel
theorem dX8_ends_1 : decode cX8_ends 1 = .ok (.invokevirtual 140, 3) := by decide +kernel
theorem dX8_ends_4 : decode cX8_ends 4 = .ok (.ifCond .ne 6, 3) := by decide +kernel
theorem dX8_ends_7 : decode cX8_ends 7 = .ok (.bipush (-103), 2) := by decide +kernel
theorem dX8_ends_9 : decode cX8_ends 9 = .ok (.ireturn, 1) := by decide +kernel
theorem dX8_ends_10 : decode cX8_ends 10 = .ok (.aload_n 0, 1) := by decide +kernel
theorem dX8_ends_11 : decode cX8_ends 11 = .ok (.getfield 36, 3) := by decide +kernel
theorem dX8_ends_14 : decode cX8_ends 14 = .ok (.aload_n 0, 1) := by decide +kernel
theorem dX8_ends_15 : decode cX8_ends 15 = .ok (.getfield 19, 3) := by decide +kernel
theorem dX8_ends_18 : decode cX8_ends 18 = .ok (.invokevirtual 172, 3) := by decide +kernel
theorem dX8_ends_21 : decode cX8_ends 21 = .ok (.iconst 0, 1) := by decide +kernel
theorem dX8_ends_22 : decode cX8_ends 22 = .ok (.istore_n 1, 1) := by decide +kernel
theorem dX8_ends_23 : decode cX8_ends 23 = .ok (.iload_n 1, 1) := by decide +kernel
theorem dX8_ends_24 : decode cX8_ends 24 = .ok (.bipush 60, 2) := by decide +kernel
theorem dX8_ends_26 : decode cX8_ends 26 = .ok (.if_icmp .gt 29, 3) := by decide +kernel
theorem dX8_ends_29 : decode cX8_ends 29 = .ok (.aload_n 0, 1) := by decide +kernel
theorem dX8_ends_30 : decode cX8_ends 30 = .ok (.getfield 36, 3) := by decide +kernel
theorem dX8_ends_33 : decode cX8_ends 33 = .ok (.getfield 129, 3) := by decide +kernel
theorem dX8_ends_36 : decode cX8_ends 36 = .ok (.ifCond .ne 5, 3) := by decide +kernel
theorem dX8_ends_39 : decode cX8_ends 39 = .ok (.iload_n 1, 1) := by decide +kernel
theorem dX8_ends_40 : decode cX8_ends 40 = .ok (.ireturn, 1) := by decide +kernel
theorem dX8_ends_41 : decode cX8_ends 41 = .ok (.aload_n 0, 1) := by decide +kernel
theorem dX8_ends_42 : decode cX8_ends 42 = .ok (.getfield 36, 3) := by decide +kernel
theorem dX8_ends_45 : decode cX8_ends 45 = .ok (.invokevirtual 146, 3) := by decide +kernel
theorem dX8_ends_48 : decode cX8_ends 48 = .ok (.pop, 1) := by decide +kernel
theorem dX8_ends_49 : decode cX8_ends 49 = .ok (.iinc 1 1, 3) := by decide +kernel
theorem dX8_ends_52 : decode cX8_ends 52 = .ok (.goto (-29), 3) := by decide +kernel
theorem dX8_ends_55 : decode cX8_ends 55 = .ok (.iconst (-1), 1) := by decide +kernel
theorem dX8_ends_56 : decode cX8_ends 56 = .ok (.ireturn, 1) := by decide +kernel
theorem dX8_odds_0 : decode cX8_odds 0 = .ok (.aload_n 0, 1) := by decide +kernel
theorem dX8_odds_1 : decode cX8_odds 1 = .ok (.getfield 19, 3) := by decide +kernel
theorem dX8_odds_4 : decode cX8_odds 4 = .ok (.iload_n 1, 1) := by decide +kernel
theorem dX8_odds_5 : decode cX8_odds 5 = .ok (.invokevirtual 101, 3) := by decide +kernel
theorem dX8_odds_8 : decode cX8_odds 8 = .ok (.ifCond .ne 6, 3) := by decide +kernel
theorem dX8_odds_11 : decode cX8_odds 11 = .ok (.bipush (-101), 2) := by decide +kernel
theorem dX8_odds_13 : decode cX8_odds 13 = .ok (.ireturn, 1) := by decide +kernel
theorem dX8_odds_14 : decode cX8_odds 14 = .ok (.iload_n 2, 1) := by decide +kernel
theorem dX8_odds_15 : decode cX8_odds 15 = .ok (.ifCond .lt 18, 3) := by decide +kernel
theorem dX8_odds_18 : decode cX8_odds 18 = .ok (.iload_n 2, 1) := by decide +kernel
theorem dX8_odds_19 : decode cX8_odds 19 = .ok (.bipush 10, 2) := by decide +kernel
theorem dX8_odds_21 : decode cX8_odds 21 = .ok (.if_icmp .gt 12, 3) := by decide +kernel
theorem dX8_odds_24 : decode cX8_odds 24 = .ok (.iload_n 3, 1) := by decide +kernel
theorem dX8_odds_25 : decode cX8_odds 25 = .ok (.ifCond .lt 8, 3) := by decide +kernel
theorem dX8_odds_28 : decode cX8_odds 28 = .ok (.iload_n 3, 1) := by decide +kernel
theorem dX8_odds_29 : decode cX8_odds 29 = .ok (.iconst 1, 1) := by decide +kernel
theorem dX8_odds_30 : decode cX8_odds 30 = .ok (.if_icmp .le 6, 3) := by decide +kernel
theorem dX8_odds_33 : decode cX8_odds 33 = .ok (.bipush (-102), 2) := by decide +kernel
theorem dX8_odds_35 : decode cX8_odds 35 = .ok (.ireturn, 1) := by decide +kernel
theorem dX8_odds_36 : decode cX8_odds 36 = .ok (.aload_n 0, 1) := by decide +kernel
theorem dX8_odds_37 : decode cX8_odds 37 = .ok (.getfield 19, 3) := by decide +kernel
theorem dX8_odds_40 : decode cX8_odds 40 = .ok (.iload_n 1, 1) := by decide +kernel
theorem dX8_odds_41 : decode cX8_odds 41 = .ok (.invokevirtual 149, 3) := by decide +kernel
theorem dX8_odds_44 : decode cX8_odds 44 = .ok (.ifCond .ne 6, 3) := by decide +kernel
theorem dX8_odds_47 : decode cX8_odds 47 = .ok (.bipush (-103), 2) := by decide +kernel
theorem dX8_odds_49 : decode cX8_odds 49 = .ok (.ireturn, 1) := by decide +kernel
theorem dX8_odds_50 : decode cX8_odds 50 = .ok (.aload_n 0, 1) := by decide +kernel
theorem dX8_odds_51 : decode cX8_odds 51 = .ok (.getfield 42, 3) := by decide +kernel
theorem dX8_odds_54 : decode cX8_odds 54 = .ok (.aload_n 0, 1) := by decide +kernel
theorem dX8_odds_55 : decode cX8_odds 55 = .ok (.getfield 19, 3) := by decide +kernel
theorem dX8_odds_58 : decode cX8_odds 58 = .ok (.invokevirtual 165, 3) := by decide +kernel
theorem dX8_odds_61 : decode cX8_odds 61 = .ok (.aload_n 0, 1) := by decide +kernel
theorem dX8_odds_62 : decode cX8_odds 62 = .ok (.getfield 49, 3) := by decide +kernel
theorem dX8_odds_65 : decode cX8_odds 65 = .ok (.aload_n 0, 1) := by decide +kernel
theorem dX8_odds_66 : decode cX8_odds 66 = .ok (.getfield 42, 3) := by decide +kernel
theorem dX8_odds_69 : decode cX8_odds 69 = .ok (.iload_n 1, 1) := by decide +kernel
theorem dX8_odds_70 : decode cX8_odds 70 = .ok (.iload_n 2, 1) := by decide +kernel
theorem dX8_odds_71 : decode cX8_odds 71 = .ok (.invokevirtual 175, 3) := by decide +kernel
theorem dX8_odds_74 : decode cX8_odds 74 = .ok (.iload_n 3, 1) := by decide +kernel
theorem dX8_odds_75 : decode cX8_odds 75 = .ok (.ifCond .ne 13, 3) := by decide +kernel
theorem dX8_odds_78 : decode cX8_odds 78 = .ok (.aload_n 0, 1) := by decide +kernel
theorem dX8_odds_79 : decode cX8_odds 79 = .ok (.getfield 49, 3) := by decide +kernel
theorem dX8_odds_82 : decode cX8_odds 82 = .ok (.getfield 178, 3) := by decide +kernel
theorem dX8_odds_85 : decode cX8_odds 85 = .ok (.goto 10, 3) := by decide +kernel
theorem dX8_odds_88 : decode cX8_odds 88 = .ok (.aload_n 0, 1) := by decide +kernel
theorem dX8_odds_89 : decode cX8_odds 89 = .ok (.getfield 49, 3) := by decide +kernel
theorem dX8_odds_92 : decode cX8_odds 92 = .ok (.getfield 181, 3) := by decide +kernel
theorem dX8_odds_95 : decode cX8_odds 95 = .ok (.ireturn, 1) := by decide +kernel
theorem dX8_see_0 : decode cX8_see 0 = .ok (.aload_n 0, 1) := by decide +kernel
theorem dX8_see_1 : decode cX8_see 1 = .ok (.getfield 19, 3) := by decide +kernel
theorem dX8_see_4 : decode cX8_see 4 = .ok (.iload_n 1, 1) := by decide +kernel
theorem dX8_see_5 : decode cX8_see 5 = .ok (.invokevirtual 101, 3) := by decide +kernel
theorem dX8_see_8 : decode cX8_see 8 = .ok (.ifCond .ne 6, 3) := by decide +kernel
theorem dX8_see_11 : decode cX8_see 11 = .ok (.bipush (-101), 2) := by decide +kernel
theorem dX8_see_13 : decode cX8_see 13 = .ok (.ireturn, 1) := by decide +kernel
theorem dX8_see_14 : decode cX8_see 14 = .ok (.iload_n 2, 1) := by decide +kernel
theorem dX8_see_15 : decode cX8_see 15 = .ok (.ifCond .lt 9, 3) := by decide +kernel
theorem dX8_see_18 : decode cX8_see 18 = .ok (.iload_n 2, 1) := by decide +kernel
theorem dX8_see_19 : decode cX8_see 19 = .ok (.bipush 16, 2) := by decide +kernel
theorem dX8_see_21 : decode cX8_see 21 = .ok (.if_icmp .le 6, 3) := by decide +kernel
theorem dX8_see_24 : decode cX8_see 24 = .ok (.bipush (-102), 2) := by decide +kernel
theorem dX8_see_26 : decode cX8_see 26 = .ok (.ireturn, 1) := by decide +kernel
theorem dX8_see_27 : decode cX8_see 27 = .ok (.aload_n 0, 1) := by decide +kernel
theorem dX8_see_28 : decode cX8_see 28 = .ok (.getfield 26, 3) := by decide +kernel
theorem dX8_see_31 : decode cX8_see 31 = .ok (.getfield 184, 3) := by decide +kernel
theorem dX8_see_34 : decode cX8_see 34 = .ok (.bipush 6, 2) := by decide +kernel
theorem dX8_see_36 : decode cX8_see 36 = .ok (.if_icmp .lt 6, 3) := by decide +kernel
theorem dX8_see_39 : decode cX8_see 39 = .ok (.bipush (-104), 2) := by decide +kernel
theorem dX8_see_41 : decode cX8_see 41 = .ok (.ireturn, 1) := by decide +kernel
theorem dX8_see_42 : decode cX8_see 42 = .ok (.aload_n 0, 1) := by decide +kernel
theorem dX8_see_43 : decode cX8_see 43 = .ok (.getfield 26, 3) := by decide +kernel
theorem dX8_see_46 : decode cX8_see 46 = .ok (.iload_n 1, 1) := by decide +kernel
theorem dX8_see_47 : decode cX8_see 47 = .ok (.iload_n 2, 1) := by decide +kernel
theorem dX8_see_48 : decode cX8_see 48 = .ok (.iload_n 3, 1) := by decide +kernel
theorem dX8_see_49 : decode cX8_see 49 = .ok (.invokevirtual 187, 3) := by decide +kernel
theorem dX8_see_52 : decode cX8_see 52 = .ok (.ireturn, 1) := by decide +kernel
theorem dX8_forget_0 : decode cX8_forget 0 = .ok (.aload_n 0, 1) := by decide +kernel
theorem dX8_forget_1 : decode cX8_forget 1 = .ok (.getfield 26, 3) := by decide +kernel
theorem dX8_forget_4 : decode cX8_forget 4 = .ok (.invokevirtual 90, 3) := by decide +kernel
theorem dX8_forget_7 : decode cX8_forget 7 = .ok (.ireturn, 1) := by decide +kernel
theorem dX8_nights_0 : decode cX8_nights 0 = .ok (.iload_n 1, 1) := by decide +kernel
theorem dX8_nights_1 : decode cX8_nights 1 = .ok (.iconst 1, 1) := by decide +kernel
theorem dX8_nights_2 : decode cX8_nights 2 = .ok (.if_icmp .lt 22, 3) := by decide +kernel
theorem dX8_nights_5 : decode cX8_nights 5 = .ok (.iload_n 1, 1) := by decide +kernel
theorem dX8_nights_6 : decode cX8_nights 6 = .ok (.bipush 60, 2) := by decide +kernel
theorem dX8_nights_8 : decode cX8_nights 8 = .ok (.if_icmp .gt 16, 3) := by decide +kernel
theorem dX8_nights_11 : decode cX8_nights 11 = .ok (.iload_n 2, 1) := by decide +kernel
theorem dX8_nights_12 : decode cX8_nights 12 = .ok (.ifCond .lt 12, 3) := by decide +kernel
theorem dX8_nights_15 : decode cX8_nights 15 = .ok (.iload_n 3, 1) := by decide +kernel
theorem dX8_nights_16 : decode cX8_nights 16 = .ok (.ifCond .lt 8, 3) := by decide +kernel
theorem dX8_nights_19 : decode cX8_nights 19 = .ok (.iload_n 3, 1) := by decide +kernel
theorem dX8_nights_20 : decode cX8_nights 20 = .ok (.iconst 2, 1) := by decide +kernel
theorem dX8_nights_21 : decode cX8_nights 21 = .ok (.if_icmp .le 6, 3) := by decide +kernel
theorem dX8_nights_24 : decode cX8_nights 24 = .ok (.bipush (-102), 2) := by decide +kernel
theorem dX8_nights_26 : decode cX8_nights 26 = .ok (.ireturn, 1) := by decide +kernel
theorem dX8_nights_27 : decode cX8_nights 27 = .ok (.aload_n 0, 1) := by decide +kernel
theorem dX8_nights_28 : decode cX8_nights 28 = .ok (.invokevirtual 140, 3) := by decide +kernel
theorem dX8_nights_31 : decode cX8_nights 31 = .ok (.ifCond .ne 6, 3) := by decide +kernel
theorem dX8_nights_34 : decode cX8_nights 34 = .ok (.bipush (-103), 2) := by decide +kernel
theorem dX8_nights_36 : decode cX8_nights 36 = .ok (.ireturn, 1) := by decide +kernel
theorem dX8_nights_37 : decode cX8_nights 37 = .ok (.aload_n 0, 1) := by decide +kernel
theorem dX8_nights_38 : decode cX8_nights 38 = .ok (.iload_n 1, 1) := by decide +kernel
theorem dX8_nights_39 : decode cX8_nights 39 = .ok (.iload_n 2, 1) := by decide +kernel
theorem dX8_nights_40 : decode cX8_nights 40 = .ok (.invokevirtual 191, 3) := by decide +kernel
theorem dX8_nights_43 : decode cX8_nights 43 = .ok (.iload_n 3, 1) := by decide +kernel
theorem dX8_nights_44 : decode cX8_nights 44 = .ok (.ifCond .ne 14, 3) := by decide +kernel
theorem dX8_nights_47 : decode cX8_nights 47 = .ok (.aload_n 0, 1) := by decide +kernel
theorem dX8_nights_48 : decode cX8_nights 48 = .ok (.getfield 36, 3) := by decide +kernel
theorem dX8_nights_51 : decode cX8_nights 51 = .ok (.invokevirtual 195, 3) := by decide +kernel
theorem dX8_nights_54 : decode cX8_nights 54 = .ok (.invokestatic 135, 3) := by decide +kernel
theorem dX8_nights_57 : decode cX8_nights 57 = .ok (.ireturn, 1) := by decide +kernel
theorem dX8_nights_58 : decode cX8_nights 58 = .ok (.iload_n 3, 1) := by decide +kernel
theorem dX8_nights_59 : decode cX8_nights 59 = .ok (.iconst 1, 1) := by decide +kernel
theorem dX8_nights_60 : decode cX8_nights 60 = .ok (.if_icmp .ne 13, 3) := by decide +kernel
theorem dX8_nights_63 : decode cX8_nights 63 = .ok (.aload_n 0, 1) := by decide +kernel
theorem dX8_nights_64 : decode cX8_nights 64 = .ok (.getfield 36, 3) := by decide +kernel
theorem dX8_nights_67 : decode cX8_nights 67 = .ok (.getfield 159, 3) := by decide +kernel
theorem dX8_nights_70 : decode cX8_nights 70 = .ok (.goto 10, 3) := by decide +kernel
theorem dX8_nights_73 : decode cX8_nights 73 = .ok (.aload_n 0, 1) := by decide +kernel
theorem dX8_nights_74 : decode cX8_nights 74 = .ok (.getfield 63, 3) := by decide +kernel
theorem dX8_nights_77 : decode cX8_nights 77 = .ok (.getfield 198, 3) := by decide +kernel
theorem dX8_nights_80 : decode cX8_nights 80 = .ok (.ireturn, 1) := by decide +kernel
theorem dX8_image_0 : decode cX8_image 0 = .ok (.aload_n 0, 1) := by decide +kernel
theorem dX8_image_1 : decode cX8_image 1 = .ok (.invokevirtual 140, 3) := by decide +kernel
theorem dX8_image_4 : decode cX8_image 4 = .ok (.ifCond .ne 6, 3) := by decide +kernel
theorem dX8_image_7 : decode cX8_image 7 = .ok (.bipush (-103), 2) := by decide +kernel
theorem dX8_image_9 : decode cX8_image 9 = .ok (.ireturn, 1) := by decide +kernel
theorem dX8_image_10 : decode cX8_image 10 = .ok (.aload_n 0, 1) := by decide +kernel
theorem dX8_image_11 : decode cX8_image 11 = .ok (.getfield 30, 3) := by decide +kernel
theorem dX8_image_14 : decode cX8_image 14 = .ok (.aload_n 0, 1) := by decide +kernel
theorem dX8_image_15 : decode cX8_image 15 = .ok (.getfield 19, 3) := by decide +kernel
theorem dX8_image_18 : decode cX8_image 18 = .ok (.invokevirtual 172, 3) := by decide +kernel
theorem dX8_image_21 : decode cX8_image 21 = .ok (.aload_n 0, 1) := by decide +kernel
theorem dX8_image_22 : decode cX8_image 22 = .ok (.getfield 33, 3) := by decide +kernel
theorem dX8_image_25 : decode cX8_image 25 = .ok (.aload_n 0, 1) := by decide +kernel
theorem dX8_image_26 : decode cX8_image 26 = .ok (.getfield 26, 3) := by decide +kernel
theorem dX8_image_29 : decode cX8_image 29 = .ok (.invokevirtual 201, 3) := by decide +kernel
theorem dX8_image_32 : decode cX8_image 32 = .ok (.aload_n 0, 1) := by decide +kernel
theorem dX8_image_33 : decode cX8_image 33 = .ok (.iconst 1, 1) := by decide +kernel
theorem dX8_image_34 : decode cX8_image 34 = .ok (.putfield 91, 3) := by decide +kernel
theorem dX8_image_37 : decode cX8_image 37 = .ok (.aload_n 0, 1) := by decide +kernel
theorem dX8_image_38 : decode cX8_image 38 = .ok (.getfield 19, 3) := by decide +kernel
theorem dX8_image_41 : decode cX8_image 41 = .ok (.getfield 143, 3) := by decide +kernel
theorem dX8_image_44 : decode cX8_image 44 = .ok (.ireturn, 1) := by decide +kernel
theorem dX8_restore_0 : decode cX8_restore 0 = .ok (.aload_n 0, 1) := by decide +kernel
theorem dX8_restore_1 : decode cX8_restore 1 = .ok (.getfield 91, 3) := by decide +kernel
theorem dX8_restore_4 : decode cX8_restore 4 = .ok (.ifCond .ne 6, 3) := by decide +kernel
theorem dX8_restore_7 : decode cX8_restore 7 = .ok (.bipush (-103), 2) := by decide +kernel
theorem dX8_restore_9 : decode cX8_restore 9 = .ok (.ireturn, 1) := by decide +kernel
theorem dX8_restore_10 : decode cX8_restore 10 = .ok (.aload_n 0, 1) := by decide +kernel
theorem dX8_restore_11 : decode cX8_restore 11 = .ok (.getfield 19, 3) := by decide +kernel
theorem dX8_restore_14 : decode cX8_restore 14 = .ok (.aload_n 0, 1) := by decide +kernel
theorem dX8_restore_15 : decode cX8_restore 15 = .ok (.getfield 30, 3) := by decide +kernel
theorem dX8_restore_18 : decode cX8_restore 18 = .ok (.invokevirtual 172, 3) := by decide +kernel
theorem dX8_restore_21 : decode cX8_restore 21 = .ok (.aload_n 0, 1) := by decide +kernel
theorem dX8_restore_22 : decode cX8_restore 22 = .ok (.getfield 26, 3) := by decide +kernel
theorem dX8_restore_25 : decode cX8_restore 25 = .ok (.aload_n 0, 1) := by decide +kernel
theorem dX8_restore_26 : decode cX8_restore 26 = .ok (.getfield 33, 3) := by decide +kernel
theorem dX8_restore_29 : decode cX8_restore 29 = .ok (.invokevirtual 201, 3) := by decide +kernel
theorem dX8_restore_32 : decode cX8_restore 32 = .ok (.aload_n 0, 1) := by decide +kernel
theorem dX8_restore_33 : decode cX8_restore 33 = .ok (.getfield 19, 3) := by decide +kernel
theorem dX8_restore_36 : decode cX8_restore 36 = .ok (.getfield 143, 3) := by decide +kernel
theorem dX8_restore_39 : decode cX8_restore 39 = .ok (.ireturn, 1) := by decide +kernel
theorem dX8_count_0 : decode cX8_count 0 = .ok (.iload_n 1, 1) := by decide +kernel
theorem dX8_count_1 : decode cX8_count 1 = .ok (.tableswitch 152 0 9 #[55, 63, 74, 82, 90, 105, 120, 131, 139, 147], 55) := by decide +kernel
theorem dX8_count_56 : decode cX8_count 56 = .ok (.aload_n 0, 1) := by decide +kernel
theorem dX8_count_57 : decode cX8_count 57 = .ok (.getfield 19, 3) := by decide +kernel
theorem dX8_count_60 : decode cX8_count 60 = .ok (.getfield 98, 3) := by decide +kernel
theorem dX8_count_63 : decode cX8_count 63 = .ok (.ireturn, 1) := by decide +kernel
theorem dX8_count_64 : decode cX8_count 64 = .ok (.aload_n 0, 1) := by decide +kernel
theorem dX8_count_65 : decode cX8_count 65 = .ok (.getfield 19, 3) := by decide +kernel
theorem dX8_count_68 : decode cX8_count 68 = .ok (.getfield 129, 3) := by decide +kernel
theorem dX8_count_71 : decode cX8_count 71 = .ok (.invokestatic 135, 3) := by decide +kernel
theorem dX8_count_74 : decode cX8_count 74 = .ok (.ireturn, 1) := by decide +kernel
theorem dX8_count_75 : decode cX8_count 75 = .ok (.aload_n 0, 1) := by decide +kernel
theorem dX8_count_76 : decode cX8_count 76 = .ok (.getfield 19, 3) := by decide +kernel
theorem dX8_count_79 : decode cX8_count 79 = .ok (.getfield 159, 3) := by decide +kernel
theorem dX8_count_82 : decode cX8_count 82 = .ok (.ireturn, 1) := by decide +kernel
theorem dX8_count_83 : decode cX8_count 83 = .ok (.aload_n 0, 1) := by decide +kernel
theorem dX8_count_84 : decode cX8_count 84 = .ok (.getfield 19, 3) := by decide +kernel
theorem dX8_count_87 : decode cX8_count 87 = .ok (.getfield 143, 3) := by decide +kernel
theorem dX8_count_90 : decode cX8_count 90 = .ok (.ireturn, 1) := by decide +kernel
theorem dX8_count_91 : decode cX8_count 91 = .ok (.aload_n 0, 1) := by decide +kernel
theorem dX8_count_92 : decode cX8_count 92 = .ok (.getfield 19, 3) := by decide +kernel
theorem dX8_count_95 : decode cX8_count 95 = .ok (.aload_n 0, 1) := by decide +kernel
theorem dX8_count_96 : decode cX8_count 96 = .ok (.getfield 19, 3) := by decide +kernel
theorem dX8_count_99 : decode cX8_count 99 = .ok (.getfield 129, 3) := by decide +kernel
theorem dX8_count_102 : decode cX8_count 102 = .ok (.invokevirtual 204, 3) := by decide +kernel
theorem dX8_count_105 : decode cX8_count 105 = .ok (.ireturn, 1) := by decide +kernel
theorem dX8_count_106 : decode cX8_count 106 = .ok (.aload_n 0, 1) := by decide +kernel
theorem dX8_count_107 : decode cX8_count 107 = .ok (.getfield 19, 3) := by decide +kernel
theorem dX8_count_110 : decode cX8_count 110 = .ok (.aload_n 0, 1) := by decide +kernel
theorem dX8_count_111 : decode cX8_count 111 = .ok (.getfield 19, 3) := by decide +kernel
theorem dX8_count_114 : decode cX8_count 114 = .ok (.invokevirtual 195, 3) := by decide +kernel
theorem dX8_count_117 : decode cX8_count 117 = .ok (.invokevirtual 207, 3) := by decide +kernel
theorem dX8_count_120 : decode cX8_count 120 = .ok (.ireturn, 1) := by decide +kernel
theorem dX8_count_121 : decode cX8_count 121 = .ok (.aload_n 0, 1) := by decide +kernel
theorem dX8_count_122 : decode cX8_count 122 = .ok (.getfield 19, 3) := by decide +kernel
theorem dX8_count_125 : decode cX8_count 125 = .ok (.invokevirtual 210, 3) := by decide +kernel
theorem dX8_count_128 : decode cX8_count 128 = .ok (.invokestatic 135, 3) := by decide +kernel
theorem dX8_count_131 : decode cX8_count 131 = .ok (.ireturn, 1) := by decide +kernel
theorem dX8_count_132 : decode cX8_count 132 = .ok (.aload_n 0, 1) := by decide +kernel
theorem dX8_count_133 : decode cX8_count 133 = .ok (.getfield 26, 3) := by decide +kernel
theorem dX8_count_136 : decode cX8_count 136 = .ok (.getfield 184, 3) := by decide +kernel
theorem dX8_count_139 : decode cX8_count 139 = .ok (.ireturn, 1) := by decide +kernel
theorem dX8_count_140 : decode cX8_count 140 = .ok (.aload_n 0, 1) := by decide +kernel
theorem dX8_count_141 : decode cX8_count 141 = .ok (.getfield 10, 3) := by decide +kernel
theorem dX8_count_144 : decode cX8_count 144 = .ok (.getfield 67, 3) := by decide +kernel
theorem dX8_count_147 : decode cX8_count 147 = .ok (.ireturn, 1) := by decide +kernel
theorem dX8_count_148 : decode cX8_count 148 = .ok (.aload_n 0, 1) := by decide +kernel
theorem dX8_count_149 : decode cX8_count 149 = .ok (.getfield 95, 3) := by decide +kernel
theorem dX8_count_152 : decode cX8_count 152 = .ok (.ireturn, 1) := by decide +kernel
theorem dX8_count_153 : decode cX8_count 153 = .ok (.bipush (-102), 2) := by decide +kernel
theorem dX8_count_155 : decode cX8_count 155 = .ok (.ireturn, 1) := by decide +kernel
theorem dX8_digest_0 : decode cX8_digest 0 = .ok (.ldc2_w 213, 3) := by decide +kernel
theorem dX8_digest_3 : decode cX8_digest 3 = .ok (.lstore_n 1, 1) := by decide +kernel
theorem dX8_digest_4 : decode cX8_digest 4 = .ok (.aload_n 0, 1) := by decide +kernel
theorem dX8_digest_5 : decode cX8_digest 5 = .ok (.invokevirtual 140, 3) := by decide +kernel
theorem dX8_digest_8 : decode cX8_digest 8 = .ok (.ifCond .eq 92, 3) := by decide +kernel
theorem dX8_digest_11 : decode cX8_digest 11 = .ok (.aload_n 0, 1) := by decide +kernel
theorem dX8_digest_12 : decode cX8_digest 12 = .ok (.getfield 56, 3) := by decide +kernel
theorem dX8_digest_15 : decode cX8_digest 15 = .ok (.aload_n 0, 1) := by decide +kernel
theorem dX8_digest_16 : decode cX8_digest 16 = .ok (.getfield 19, 3) := by decide +kernel
theorem dX8_digest_19 : decode cX8_digest 19 = .ok (.invokevirtual 105, 3) := by decide +kernel
theorem dX8_digest_22 : decode cX8_digest 22 = .ok (.aload_n 0, 1) := by decide +kernel
theorem dX8_digest_23 : decode cX8_digest 23 = .ok (.getfield 42, 3) := by decide +kernel
theorem dX8_digest_26 : decode cX8_digest 26 = .ok (.aload_n 0, 1) := by decide +kernel
theorem dX8_digest_27 : decode cX8_digest 27 = .ok (.getfield 19, 3) := by decide +kernel
theorem dX8_digest_30 : decode cX8_digest 30 = .ok (.invokevirtual 165, 3) := by decide +kernel
theorem dX8_digest_33 : decode cX8_digest 33 = .ok (.aload_n 0, 1) := by decide +kernel
theorem dX8_digest_34 : decode cX8_digest 34 = .ok (.lload_n 1, 1) := by decide +kernel
theorem dX8_digest_35 : decode cX8_digest 35 = .ok (.invokevirtual 215, 3) := by decide +kernel
theorem dX8_digest_38 : decode cX8_digest 38 = .ok (.lstore_n 1, 1) := by decide +kernel
theorem dX8_digest_39 : decode cX8_digest 39 = .ok (.lload_n 1, 1) := by decide +kernel
theorem dX8_digest_40 : decode cX8_digest 40 = .ok (.aload_n 0, 1) := by decide +kernel
theorem dX8_digest_41 : decode cX8_digest 41 = .ok (.invokevirtual 219, 3) := by decide +kernel
theorem dX8_digest_44 : decode cX8_digest 44 = .ok (.i2l, 1) := by decide +kernel
theorem dX8_digest_45 : decode cX8_digest 45 = .ok (.invokestatic 222, 3) := by decide +kernel
theorem dX8_digest_48 : decode cX8_digest 48 = .ok (.lstore_n 1, 1) := by decide +kernel
theorem dX8_digest_49 : decode cX8_digest 49 = .ok (.lload_n 1, 1) := by decide +kernel
theorem dX8_digest_50 : decode cX8_digest 50 = .ok (.aload_n 0, 1) := by decide +kernel
theorem dX8_digest_51 : decode cX8_digest 51 = .ok (.getfield 42, 3) := by decide +kernel
theorem dX8_digest_54 : decode cX8_digest 54 = .ok (.invokevirtual 166, 3) := by decide +kernel
theorem dX8_digest_57 : decode cX8_digest 57 = .ok (.i2l, 1) := by decide +kernel
theorem dX8_digest_58 : decode cX8_digest 58 = .ok (.invokestatic 222, 3) := by decide +kernel
theorem dX8_digest_61 : decode cX8_digest 61 = .ok (.lstore_n 1, 1) := by decide +kernel
theorem dX8_digest_62 : decode cX8_digest 62 = .ok (.lload_n 1, 1) := by decide +kernel
theorem dX8_digest_63 : decode cX8_digest 63 = .ok (.aload_n 0, 1) := by decide +kernel
theorem dX8_digest_64 : decode cX8_digest 64 = .ok (.iconst 0, 1) := by decide +kernel
theorem dX8_digest_65 : decode cX8_digest 65 = .ok (.invokevirtual 226, 3) := by decide +kernel
theorem dX8_digest_68 : decode cX8_digest 68 = .ok (.i2l, 1) := by decide +kernel
theorem dX8_digest_69 : decode cX8_digest 69 = .ok (.invokestatic 222, 3) := by decide +kernel
theorem dX8_digest_72 : decode cX8_digest 72 = .ok (.lstore_n 1, 1) := by decide +kernel
theorem dX8_digest_73 : decode cX8_digest 73 = .ok (.lload_n 1, 1) := by decide +kernel
theorem dX8_digest_74 : decode cX8_digest 74 = .ok (.aload_n 0, 1) := by decide +kernel
theorem dX8_digest_75 : decode cX8_digest 75 = .ok (.iconst 1, 1) := by decide +kernel
theorem dX8_digest_76 : decode cX8_digest 76 = .ok (.invokevirtual 226, 3) := by decide +kernel
theorem dX8_digest_79 : decode cX8_digest 79 = .ok (.i2l, 1) := by decide +kernel
theorem dX8_digest_80 : decode cX8_digest 80 = .ok (.invokestatic 222, 3) := by decide +kernel
theorem dX8_digest_83 : decode cX8_digest 83 = .ok (.lstore_n 1, 1) := by decide +kernel
theorem dX8_digest_84 : decode cX8_digest 84 = .ok (.lload_n 1, 1) := by decide +kernel
theorem dX8_digest_85 : decode cX8_digest 85 = .ok (.aload_n 0, 1) := by decide +kernel
theorem dX8_digest_86 : decode cX8_digest 86 = .ok (.invokevirtual 229, 3) := by decide +kernel
theorem dX8_digest_89 : decode cX8_digest 89 = .ok (.i2l, 1) := by decide +kernel
theorem dX8_digest_90 : decode cX8_digest 90 = .ok (.invokestatic 222, 3) := by decide +kernel
theorem dX8_digest_93 : decode cX8_digest 93 = .ok (.lstore_n 1, 1) := by decide +kernel
theorem dX8_digest_94 : decode cX8_digest 94 = .ok (.aload_n 0, 1) := by decide +kernel
theorem dX8_digest_95 : decode cX8_digest 95 = .ok (.lload_n 1, 1) := by decide +kernel
theorem dX8_digest_96 : decode cX8_digest 96 = .ok (.invokevirtual 232, 3) := by decide +kernel
theorem dX8_digest_99 : decode cX8_digest 99 = .ok (.lstore_n 1, 1) := by decide +kernel
theorem dX8_digest_100 : decode cX8_digest 100 = .ok (.iconst 0, 1) := by decide +kernel
theorem dX8_digest_101 : decode cX8_digest 101 = .ok (.istore_n 3, 1) := by decide +kernel
theorem dX8_digest_102 : decode cX8_digest 102 = .ok (.iload_n 3, 1) := by decide +kernel
theorem dX8_digest_103 : decode cX8_digest 103 = .ok (.aload_n 0, 1) := by decide +kernel
theorem dX8_digest_104 : decode cX8_digest 104 = .ok (.getfield 10, 3) := by decide +kernel
theorem dX8_digest_107 : decode cX8_digest 107 = .ok (.getfield 67, 3) := by decide +kernel
theorem dX8_digest_110 : decode cX8_digest 110 = .ok (.if_icmp .ge 23, 3) := by decide +kernel
theorem dX8_digest_113 : decode cX8_digest 113 = .ok (.lload_n 1, 1) := by decide +kernel
theorem dX8_digest_114 : decode cX8_digest 114 = .ok (.aload_n 0, 1) := by decide +kernel
theorem dX8_digest_115 : decode cX8_digest 115 = .ok (.getfield 10, 3) := by decide +kernel
theorem dX8_digest_118 : decode cX8_digest 118 = .ok (.iload_n 3, 1) := by decide +kernel
theorem dX8_digest_119 : decode cX8_digest 119 = .ok (.invokevirtual 235, 3) := by decide +kernel
theorem dX8_digest_122 : decode cX8_digest 122 = .ok (.i2l, 1) := by decide +kernel
theorem dX8_digest_123 : decode cX8_digest 123 = .ok (.invokestatic 222, 3) := by decide +kernel
theorem dX8_digest_126 : decode cX8_digest 126 = .ok (.lstore_n 1, 1) := by decide +kernel
theorem dX8_digest_127 : decode cX8_digest 127 = .ok (.iinc 3 1, 3) := by decide +kernel
theorem dX8_digest_130 : decode cX8_digest 130 = .ok (.goto (-28), 3) := by decide +kernel
theorem dX8_digest_133 : decode cX8_digest 133 = .ok (.iconst 0, 1) := by decide +kernel
theorem dX8_digest_134 : decode cX8_digest 134 = .ok (.istore_n 3, 1) := by decide +kernel
theorem dX8_digest_135 : decode cX8_digest 135 = .ok (.iload_n 3, 1) := by decide +kernel
theorem dX8_digest_136 : decode cX8_digest 136 = .ok (.bipush 9, 2) := by decide +kernel
theorem dX8_digest_138 : decode cX8_digest 138 = .ok (.if_icmp .gt 20, 3) := by decide +kernel
theorem dX8_digest_141 : decode cX8_digest 141 = .ok (.lload_n 1, 1) := by decide +kernel
theorem dX8_digest_142 : decode cX8_digest 142 = .ok (.aload_n 0, 1) := by decide +kernel
theorem dX8_digest_143 : decode cX8_digest 143 = .ok (.iload_n 3, 1) := by decide +kernel
theorem dX8_digest_144 : decode cX8_digest 144 = .ok (.invokevirtual 238, 3) := by decide +kernel
theorem dX8_digest_147 : decode cX8_digest 147 = .ok (.i2l, 1) := by decide +kernel
theorem dX8_digest_148 : decode cX8_digest 148 = .ok (.invokestatic 222, 3) := by decide +kernel
theorem dX8_digest_151 : decode cX8_digest 151 = .ok (.lstore_n 1, 1) := by decide +kernel
theorem dX8_digest_152 : decode cX8_digest 152 = .ok (.iinc 3 1, 3) := by decide +kernel
theorem dX8_digest_155 : decode cX8_digest 155 = .ok (.goto (-20), 3) := by decide +kernel
theorem dX8_digest_158 : decode cX8_digest 158 = .ok (.lload_n 1, 1) := by decide +kernel
theorem dX8_digest_159 : decode cX8_digest 159 = .ok (.lreturn, 1) := by decide +kernel
theorem dX8_hasParty_0 : decode cX8_hasParty 0 = .ok (.aload_n 0, 1) := by decide +kernel
theorem dX8_hasParty_1 : decode cX8_hasParty 1 = .ok (.getfield 19, 3) := by decide +kernel
theorem dX8_hasParty_4 : decode cX8_hasParty 4 = .ok (.getfield 98, 3) := by decide +kernel
theorem dX8_hasParty_7 : decode cX8_hasParty 7 = .ok (.ifCond .le 7, 3) := by decide +kernel
theorem dX8_hasParty_10 : decode cX8_hasParty 10 = .ok (.iconst 1, 1) := by decide +kernel
theorem dX8_hasParty_11 : decode cX8_hasParty 11 = .ok (.goto 4, 3) := by decide +kernel
theorem dX8_hasParty_14 : decode cX8_hasParty 14 = .ok (.iconst 0, 1) := by decide +kernel
theorem dX8_hasParty_15 : decode cX8_hasParty 15 = .ok (.ireturn, 1) := by decide +kernel
theorem dX8_tellOfGuest_0 : decode cX8_tellOfGuest 0 = .ok (.iload_n 2, 1) := by decide +kernel
theorem dX8_tellOfGuest_1 : decode cX8_tellOfGuest 1 = .ok (.tableswitch 164 0 7 #[47, 57, 67, 77, 94, 103, 116, 134], 47) := by decide +kernel
theorem dX8_tellOfGuest_48 : decode cX8_tellOfGuest 48 = .ok (.aload_n 0, 1) := by decide +kernel
theorem dX8_tellOfGuest_49 : decode cX8_tellOfGuest 49 = .ok (.getfield 19, 3) := by decide +kernel
theorem dX8_tellOfGuest_52 : decode cX8_tellOfGuest 52 = .ok (.getfield 118, 3) := by decide +kernel
theorem dX8_tellOfGuest_55 : decode cX8_tellOfGuest 55 = .ok (.iload_n 1, 1) := by decide +kernel
theorem dX8_tellOfGuest_56 : decode cX8_tellOfGuest 56 = .ok (.iaload, 1) := by decide +kernel
theorem dX8_tellOfGuest_57 : decode cX8_tellOfGuest 57 = .ok (.ireturn, 1) := by decide +kernel
theorem dX8_tellOfGuest_58 : decode cX8_tellOfGuest 58 = .ok (.aload_n 0, 1) := by decide +kernel
theorem dX8_tellOfGuest_59 : decode cX8_tellOfGuest 59 = .ok (.getfield 19, 3) := by decide +kernel
theorem dX8_tellOfGuest_62 : decode cX8_tellOfGuest 62 = .ok (.getfield 156, 3) := by decide +kernel
theorem dX8_tellOfGuest_65 : decode cX8_tellOfGuest 65 = .ok (.iload_n 1, 1) := by decide +kernel
theorem dX8_tellOfGuest_66 : decode cX8_tellOfGuest 66 = .ok (.iaload, 1) := by decide +kernel
theorem dX8_tellOfGuest_67 : decode cX8_tellOfGuest 67 = .ok (.ireturn, 1) := by decide +kernel
theorem dX8_tellOfGuest_68 : decode cX8_tellOfGuest 68 = .ok (.aload_n 0, 1) := by decide +kernel
theorem dX8_tellOfGuest_69 : decode cX8_tellOfGuest 69 = .ok (.getfield 19, 3) := by decide +kernel
theorem dX8_tellOfGuest_72 : decode cX8_tellOfGuest 72 = .ok (.getfield 241, 3) := by decide +kernel
theorem dX8_tellOfGuest_75 : decode cX8_tellOfGuest 75 = .ok (.iload_n 1, 1) := by decide +kernel
theorem dX8_tellOfGuest_76 : decode cX8_tellOfGuest 76 = .ok (.iaload, 1) := by decide +kernel
theorem dX8_tellOfGuest_77 : decode cX8_tellOfGuest 77 = .ok (.ireturn, 1) := by decide +kernel
theorem dX8_tellOfGuest_78 : decode cX8_tellOfGuest 78 = .ok (.aload_n 0, 1) := by decide +kernel
theorem dX8_tellOfGuest_79 : decode cX8_tellOfGuest 79 = .ok (.getfield 19, 3) := by decide +kernel
theorem dX8_tellOfGuest_82 : decode cX8_tellOfGuest 82 = .ok (.iload_n 1, 1) := by decide +kernel
theorem dX8_tellOfGuest_83 : decode cX8_tellOfGuest 83 = .ok (.invokevirtual 149, 3) := by decide +kernel
theorem dX8_tellOfGuest_86 : decode cX8_tellOfGuest 86 = .ok (.ifCond .eq 7, 3) := by decide +kernel
theorem dX8_tellOfGuest_89 : decode cX8_tellOfGuest 89 = .ok (.iconst 1, 1) := by decide +kernel
theorem dX8_tellOfGuest_90 : decode cX8_tellOfGuest 90 = .ok (.goto 4, 3) := by decide +kernel
theorem dX8_tellOfGuest_93 : decode cX8_tellOfGuest 93 = .ok (.iconst 0, 1) := by decide +kernel
theorem dX8_tellOfGuest_94 : decode cX8_tellOfGuest 94 = .ok (.ireturn, 1) := by decide +kernel
theorem dX8_tellOfGuest_95 : decode cX8_tellOfGuest 95 = .ok (.aload_n 0, 1) := by decide +kernel
theorem dX8_tellOfGuest_96 : decode cX8_tellOfGuest 96 = .ok (.getfield 19, 3) := by decide +kernel
theorem dX8_tellOfGuest_99 : decode cX8_tellOfGuest 99 = .ok (.iload_n 1, 1) := by decide +kernel
theorem dX8_tellOfGuest_100 : decode cX8_tellOfGuest 100 = .ok (.invokevirtual 244, 3) := by decide +kernel
theorem dX8_tellOfGuest_103 : decode cX8_tellOfGuest 103 = .ok (.ireturn, 1) := by decide +kernel
theorem dX8_tellOfGuest_104 : decode cX8_tellOfGuest 104 = .ok (.aload_n 0, 1) := by decide +kernel
theorem dX8_tellOfGuest_105 : decode cX8_tellOfGuest 105 = .ok (.getfield 19, 3) := by decide +kernel
theorem dX8_tellOfGuest_108 : decode cX8_tellOfGuest 108 = .ok (.getfield 118, 3) := by decide +kernel
theorem dX8_tellOfGuest_111 : decode cX8_tellOfGuest 111 = .ok (.iload_n 1, 1) := by decide +kernel
theorem dX8_tellOfGuest_112 : decode cX8_tellOfGuest 112 = .ok (.iaload, 1) := by decide +kernel
theorem dX8_tellOfGuest_113 : decode cX8_tellOfGuest 113 = .ok (.invokestatic 247, 3) := by decide +kernel
theorem dX8_tellOfGuest_116 : decode cX8_tellOfGuest 116 = .ok (.ireturn, 1) := by decide +kernel
theorem dX8_tellOfGuest_117 : decode cX8_tellOfGuest 117 = .ok (.aload_n 0, 1) := by decide +kernel
theorem dX8_tellOfGuest_118 : decode cX8_tellOfGuest 118 = .ok (.getfield 26, 3) := by decide +kernel
theorem dX8_tellOfGuest_121 : decode cX8_tellOfGuest 121 = .ok (.iload_n 1, 1) := by decide +kernel
theorem dX8_tellOfGuest_122 : decode cX8_tellOfGuest 122 = .ok (.aload_n 0, 1) := by decide +kernel
theorem dX8_tellOfGuest_123 : decode cX8_tellOfGuest 123 = .ok (.getfield 19, 3) := by decide +kernel
theorem dX8_tellOfGuest_126 : decode cX8_tellOfGuest 126 = .ok (.getfield 118, 3) := by decide +kernel
theorem dX8_tellOfGuest_129 : decode cX8_tellOfGuest 129 = .ok (.iload_n 1, 1) := by decide +kernel
theorem dX8_tellOfGuest_130 : decode cX8_tellOfGuest 130 = .ok (.iaload, 1) := by decide +kernel
theorem dX8_tellOfGuest_131 : decode cX8_tellOfGuest 131 = .ok (.invokevirtual 250, 3) := by decide +kernel
theorem dX8_tellOfGuest_134 : decode cX8_tellOfGuest 134 = .ok (.ireturn, 1) := by decide +kernel
theorem dX8_tellOfGuest_135 : decode cX8_tellOfGuest 135 = .ok (.aload_n 0, 1) := by decide +kernel
theorem dX8_tellOfGuest_136 : decode cX8_tellOfGuest 136 = .ok (.getfield 19, 3) := by decide +kernel
theorem dX8_tellOfGuest_139 : decode cX8_tellOfGuest 139 = .ok (.getfield 118, 3) := by decide +kernel
theorem dX8_tellOfGuest_142 : decode cX8_tellOfGuest 142 = .ok (.iload_n 1, 1) := by decide +kernel
theorem dX8_tellOfGuest_143 : decode cX8_tellOfGuest 143 = .ok (.iaload, 1) := by decide +kernel
theorem dX8_tellOfGuest_144 : decode cX8_tellOfGuest 144 = .ok (.aload_n 0, 1) := by decide +kernel
theorem dX8_tellOfGuest_145 : decode cX8_tellOfGuest 145 = .ok (.getfield 26, 3) := by decide +kernel
theorem dX8_tellOfGuest_148 : decode cX8_tellOfGuest 148 = .ok (.iload_n 1, 1) := by decide +kernel
theorem dX8_tellOfGuest_149 : decode cX8_tellOfGuest 149 = .ok (.aload_n 0, 1) := by decide +kernel
theorem dX8_tellOfGuest_150 : decode cX8_tellOfGuest 150 = .ok (.getfield 19, 3) := by decide +kernel
theorem dX8_tellOfGuest_153 : decode cX8_tellOfGuest 153 = .ok (.getfield 118, 3) := by decide +kernel
theorem dX8_tellOfGuest_156 : decode cX8_tellOfGuest 156 = .ok (.iload_n 1, 1) := by decide +kernel
theorem dX8_tellOfGuest_157 : decode cX8_tellOfGuest 157 = .ok (.iaload, 1) := by decide +kernel
theorem dX8_tellOfGuest_158 : decode cX8_tellOfGuest 158 = .ok (.invokevirtual 250, 3) := by decide +kernel
theorem dX8_tellOfGuest_161 : decode cX8_tellOfGuest 161 = .ok (.invokestatic 253, 3) := by decide +kernel
theorem dX8_tellOfGuest_164 : decode cX8_tellOfGuest 164 = .ok (.ireturn, 1) := by decide +kernel
theorem dX8_tellOfGuest_165 : decode cX8_tellOfGuest 165 = .ok (.aload_n 0, 1) := by decide +kernel
theorem dX8_tellOfGuest_166 : decode cX8_tellOfGuest 166 = .ok (.getfield 56, 3) := by decide +kernel
theorem dX8_tellOfGuest_169 : decode cX8_tellOfGuest 169 = .ok (.getfield 256, 3) := by decide +kernel
theorem dX8_tellOfGuest_172 : decode cX8_tellOfGuest 172 = .ok (.iload_n 1, 1) := by decide +kernel
theorem dX8_tellOfGuest_173 : decode cX8_tellOfGuest 173 = .ok (.iaload, 1) := by decide +kernel
theorem dX8_tellOfGuest_174 : decode cX8_tellOfGuest 174 = .ok (.ireturn, 1) := by decide +kernel
theorem dX8_whoShouldBePale_0 : decode cX8_whoShouldBePale 0 = .ok (.aload_n 0, 1) := by decide +kernel
theorem dX8_whoShouldBePale_1 : decode cX8_whoShouldBePale 1 = .ok (.getfield 19, 3) := by decide +kernel
theorem dX8_whoShouldBePale_4 : decode cX8_whoShouldBePale 4 = .ok (.getfield 129, 3) := by decide +kernel
theorem dX8_whoShouldBePale_7 : decode cX8_whoShouldBePale 7 = .ok (.aload_n 0, 1) := by decide +kernel
theorem dX8_whoShouldBePale_8 : decode cX8_whoShouldBePale 8 = .ok (.getfield 19, 3) := by decide +kernel
theorem dX8_whoShouldBePale_11 : decode cX8_whoShouldBePale 11 = .ok (.aload_n 0, 1) := by decide +kernel
theorem dX8_whoShouldBePale_12 : decode cX8_whoShouldBePale 12 = .ok (.getfield 19, 3) := by decide +kernel
theorem dX8_whoShouldBePale_15 : decode cX8_whoShouldBePale 15 = .ok (.getfield 129, 3) := by decide +kernel
theorem dX8_whoShouldBePale_18 : decode cX8_whoShouldBePale 18 = .ok (.invokevirtual 132, 3) := by decide +kernel
theorem dX8_whoShouldBePale_21 : decode cX8_whoShouldBePale 21 = .ok (.iconst (-1), 1) := by decide +kernel
theorem dX8_whoShouldBePale_22 : decode cX8_whoShouldBePale 22 = .ok (.ixor, 1) := by decide +kernel
theorem dX8_whoShouldBePale_23 : decode cX8_whoShouldBePale 23 = .ok (.iand, 1) := by decide +kernel
theorem dX8_whoShouldBePale_24 : decode cX8_whoShouldBePale 24 = .ok (.ireturn, 1) := by decide +kernel
theorem dX8_tryNights_0 : decode cX8_tryNights 0 = .ok (.aload_n 0, 1) := by decide +kernel
theorem dX8_tryNights_1 : decode cX8_tryNights 1 = .ok (.getfield 36, 3) := by decide +kernel
theorem dX8_tryNights_4 : decode cX8_tryNights 4 = .ok (.aload_n 0, 1) := by decide +kernel
theorem dX8_tryNights_5 : decode cX8_tryNights 5 = .ok (.getfield 19, 3) := by decide +kernel
theorem dX8_tryNights_8 : decode cX8_tryNights 8 = .ok (.invokevirtual 172, 3) := by decide +kernel
theorem dX8_tryNights_11 : decode cX8_tryNights 11 = .ok (.aload_n 0, 1) := by decide +kernel
theorem dX8_tryNights_12 : decode cX8_tryNights 12 = .ok (.getfield 63, 3) := by decide +kernel
theorem dX8_tryNights_15 : decode cX8_tryNights 15 = .ok (.iload_n 2, 1) := by decide +kernel
theorem dX8_tryNights_16 : decode cX8_tryNights 16 = .ok (.putfield 198, 3) := by decide +kernel
theorem dX8_tryNights_19 : decode cX8_tryNights 19 = .ok (.iconst 0, 1) := by decide +kernel
theorem dX8_tryNights_20 : decode cX8_tryNights 20 = .ok (.istore_n 3, 1) := by decide +kernel
theorem dX8_tryNights_21 : decode cX8_tryNights 21 = .ok (.iload_n 3, 1) := by decide +kernel
theorem dX8_tryNights_22 : decode cX8_tryNights 22 = .ok (.iload_n 1, 1) := by decide +kernel
theorem dX8_tryNights_23 : decode cX8_tryNights 23 = .ok (.if_icmp .ge 68, 3) := by decide +kernel
theorem dX8_tryNights_26 : decode cX8_tryNights 26 = .ok (.aload_n 0, 1) := by decide +kernel
theorem dX8_tryNights_27 : decode cX8_tryNights 27 = .ok (.getfield 63, 3) := by decide +kernel
theorem dX8_tryNights_30 : decode cX8_tryNights 30 = .ok (.iconst 3, 1) := by decide +kernel
theorem dX8_tryNights_31 : decode cX8_tryNights 31 = .ok (.invokevirtual 259, 3) := by decide +kernel
theorem dX8_tryNights_34 : decode cX8_tryNights 34 = .ok (.ifCond .ne 43, 3) := by decide +kernel
theorem dX8_tryNights_37 : decode cX8_tryNights 37 = .ok (.aload_n 0, 1) := by decide +kernel
theorem dX8_tryNights_38 : decode cX8_tryNights 38 = .ok (.getfield 63, 3) := by decide +kernel
theorem dX8_tryNights_41 : decode cX8_tryNights 41 = .ok (.aload_n 0, 1) := by decide +kernel
theorem dX8_tryNights_42 : decode cX8_tryNights 42 = .ok (.getfield 36, 3) := by decide +kernel
theorem dX8_tryNights_45 : decode cX8_tryNights 45 = .ok (.getfield 98, 3) := by decide +kernel
theorem dX8_tryNights_48 : decode cX8_tryNights 48 = .ok (.invokevirtual 259, 3) := by decide +kernel
theorem dX8_tryNights_51 : decode cX8_tryNights 51 = .ok (.istore 4, 2) := by decide +kernel
theorem dX8_tryNights_53 : decode cX8_tryNights 53 = .ok (.aload_n 0, 1) := by decide +kernel
theorem dX8_tryNights_54 : decode cX8_tryNights 54 = .ok (.getfield 36, 3) := by decide +kernel
theorem dX8_tryNights_57 : decode cX8_tryNights 57 = .ok (.iload 4, 2) := by decide +kernel
theorem dX8_tryNights_59 : decode cX8_tryNights 59 = .ok (.invokevirtual 149, 3) := by decide +kernel
theorem dX8_tryNights_62 : decode cX8_tryNights 62 = .ok (.ifCond .eq 12, 3) := by decide +kernel
theorem dX8_tryNights_65 : decode cX8_tryNights 65 = .ok (.aload_n 0, 1) := by decide +kernel
theorem dX8_tryNights_66 : decode cX8_tryNights 66 = .ok (.getfield 36, 3) := by decide +kernel
theorem dX8_tryNights_69 : decode cX8_tryNights 69 = .ok (.iload 4, 2) := by decide +kernel
theorem dX8_tryNights_71 : decode cX8_tryNights 71 = .ok (.invokevirtual 152, 3) := by decide +kernel
theorem dX8_tryNights_74 : decode cX8_tryNights 74 = .ok (.goto 11, 3) := by decide +kernel
theorem dX8_tryNights_77 : decode cX8_tryNights 77 = .ok (.aload_n 0, 1) := by decide +kernel
theorem dX8_tryNights_78 : decode cX8_tryNights 78 = .ok (.getfield 36, 3) := by decide +kernel
theorem dX8_tryNights_81 : decode cX8_tryNights 81 = .ok (.invokevirtual 146, 3) := by decide +kernel
theorem dX8_tryNights_84 : decode cX8_tryNights 84 = .ok (.pop, 1) := by decide +kernel
theorem dX8_tryNights_85 : decode cX8_tryNights 85 = .ok (.iinc 3 1, 3) := by decide +kernel
theorem dX8_tryNights_88 : decode cX8_tryNights 88 = .ok (.goto (-67), 3) := by decide +kernel
theorem dX8_tryNights_91 : decode cX8_tryNights 91 = .ok (.return_, 1) := by decide +kernel
theorem dX8_mixGuests_0 : decode cX8_mixGuests 0 = .ok (.lload_n 1, 1) := by decide +kernel
theorem dX8_mixGuests_1 : decode cX8_mixGuests 1 = .ok (.lstore_n 3, 1) := by decide +kernel
theorem dX8_mixGuests_2 : decode cX8_mixGuests 2 = .ok (.iconst 0, 1) := by decide +kernel
theorem dX8_mixGuests_3 : decode cX8_mixGuests 3 = .ok (.istore 5, 2) := by decide +kernel
theorem dX8_mixGuests_5 : decode cX8_mixGuests 5 = .ok (.iload 5, 2) := by decide +kernel
theorem dX8_mixGuests_7 : decode cX8_mixGuests 7 = .ok (.aload_n 0, 1) := by decide +kernel
theorem dX8_mixGuests_8 : decode cX8_mixGuests 8 = .ok (.getfield 19, 3) := by decide +kernel
theorem dX8_mixGuests_11 : decode cX8_mixGuests 11 = .ok (.getfield 98, 3) := by decide +kernel
theorem dX8_mixGuests_14 : decode cX8_mixGuests 14 = .ok (.if_icmp .ge 46, 3) := by decide +kernel
theorem dX8_mixGuests_17 : decode cX8_mixGuests 17 = .ok (.iload 5, 2) := by decide +kernel
theorem dX8_mixGuests_19 : decode cX8_mixGuests 19 = .ok (.bipush 8, 2) := by decide +kernel
theorem dX8_mixGuests_21 : decode cX8_mixGuests 21 = .ok (.if_icmp .ge 39, 3) := by decide +kernel
theorem dX8_mixGuests_24 : decode cX8_mixGuests 24 = .ok (.iconst 0, 1) := by decide +kernel
theorem dX8_mixGuests_25 : decode cX8_mixGuests 25 = .ok (.istore 6, 2) := by decide +kernel
theorem dX8_mixGuests_27 : decode cX8_mixGuests 27 = .ok (.iload 6, 2) := by decide +kernel
theorem dX8_mixGuests_29 : decode cX8_mixGuests 29 = .ok (.bipush 8, 2) := by decide +kernel
theorem dX8_mixGuests_31 : decode cX8_mixGuests 31 = .ok (.if_icmp .gt 23, 3) := by decide +kernel
theorem dX8_mixGuests_34 : decode cX8_mixGuests 34 = .ok (.lload_n 3, 1) := by decide +kernel
theorem dX8_mixGuests_35 : decode cX8_mixGuests 35 = .ok (.aload_n 0, 1) := by decide +kernel
theorem dX8_mixGuests_36 : decode cX8_mixGuests 36 = .ok (.iload 5, 2) := by decide +kernel
theorem dX8_mixGuests_38 : decode cX8_mixGuests 38 = .ok (.iload 6, 2) := by decide +kernel
theorem dX8_mixGuests_40 : decode cX8_mixGuests 40 = .ok (.invokevirtual 109, 3) := by decide +kernel
theorem dX8_mixGuests_43 : decode cX8_mixGuests 43 = .ok (.i2l, 1) := by decide +kernel
theorem dX8_mixGuests_44 : decode cX8_mixGuests 44 = .ok (.invokestatic 222, 3) := by decide +kernel
theorem dX8_mixGuests_47 : decode cX8_mixGuests 47 = .ok (.lstore_n 3, 1) := by decide +kernel
theorem dX8_mixGuests_48 : decode cX8_mixGuests 48 = .ok (.iinc 6 1, 3) := by decide +kernel
theorem dX8_mixGuests_51 : decode cX8_mixGuests 51 = .ok (.goto (-24), 3) := by decide +kernel
theorem dX8_mixGuests_54 : decode cX8_mixGuests 54 = .ok (.iinc 5 1, 3) := by decide +kernel
theorem dX8_mixGuests_57 : decode cX8_mixGuests 57 = .ok (.goto (-52), 3) := by decide +kernel
theorem dX8_mixGuests_60 : decode cX8_mixGuests 60 = .ok (.lload_n 3, 1) := by decide +kernel
theorem dX8_mixGuests_61 : decode cX8_mixGuests 61 = .ok (.lreturn, 1) := by decide +kernel
theorem dX8_mixOdds_0 : decode cX8_mixOdds 0 = .ok (.lload_n 1, 1) := by decide +kernel
theorem dX8_mixOdds_1 : decode cX8_mixOdds 1 = .ok (.lstore_n 3, 1) := by decide +kernel
theorem dX8_mixOdds_2 : decode cX8_mixOdds 2 = .ok (.iconst 0, 1) := by decide +kernel
theorem dX8_mixOdds_3 : decode cX8_mixOdds 3 = .ok (.istore 5, 2) := by decide +kernel
theorem dX8_mixOdds_5 : decode cX8_mixOdds 5 = .ok (.iload 5, 2) := by decide +kernel
theorem dX8_mixOdds_7 : decode cX8_mixOdds 7 = .ok (.aload_n 0, 1) := by decide +kernel
theorem dX8_mixOdds_8 : decode cX8_mixOdds 8 = .ok (.getfield 19, 3) := by decide +kernel
theorem dX8_mixOdds_11 : decode cX8_mixOdds 11 = .ok (.getfield 98, 3) := by decide +kernel
theorem dX8_mixOdds_14 : decode cX8_mixOdds 14 = .ok (.if_icmp .ge 61, 3) := by decide +kernel
theorem dX8_mixOdds_17 : decode cX8_mixOdds 17 = .ok (.aload_n 0, 1) := by decide +kernel
theorem dX8_mixOdds_18 : decode cX8_mixOdds 18 = .ok (.getfield 19, 3) := by decide +kernel
theorem dX8_mixOdds_21 : decode cX8_mixOdds 21 = .ok (.iload 5, 2) := by decide +kernel
theorem dX8_mixOdds_23 : decode cX8_mixOdds 23 = .ok (.invokevirtual 149, 3) := by decide +kernel
theorem dX8_mixOdds_26 : decode cX8_mixOdds 26 = .ok (.ifCond .eq 43, 3) := by decide +kernel
theorem dX8_mixOdds_29 : decode cX8_mixOdds 29 = .ok (.aload_n 0, 1) := by decide +kernel
theorem dX8_mixOdds_30 : decode cX8_mixOdds 30 = .ok (.getfield 49, 3) := by decide +kernel
theorem dX8_mixOdds_33 : decode cX8_mixOdds 33 = .ok (.aload_n 0, 1) := by decide +kernel
theorem dX8_mixOdds_34 : decode cX8_mixOdds 34 = .ok (.getfield 42, 3) := by decide +kernel
theorem dX8_mixOdds_37 : decode cX8_mixOdds 37 = .ok (.iload 5, 2) := by decide +kernel
theorem dX8_mixOdds_39 : decode cX8_mixOdds 39 = .ok (.iconst 4, 1) := by decide +kernel
theorem dX8_mixOdds_40 : decode cX8_mixOdds 40 = .ok (.invokevirtual 175, 3) := by decide +kernel
theorem dX8_mixOdds_43 : decode cX8_mixOdds 43 = .ok (.lload_n 3, 1) := by decide +kernel
theorem dX8_mixOdds_44 : decode cX8_mixOdds 44 = .ok (.aload_n 0, 1) := by decide +kernel
theorem dX8_mixOdds_45 : decode cX8_mixOdds 45 = .ok (.getfield 49, 3) := by decide +kernel
theorem dX8_mixOdds_48 : decode cX8_mixOdds 48 = .ok (.getfield 178, 3) := by decide +kernel
theorem dX8_mixOdds_51 : decode cX8_mixOdds 51 = .ok (.i2l, 1) := by decide +kernel
theorem dX8_mixOdds_52 : decode cX8_mixOdds 52 = .ok (.invokestatic 222, 3) := by decide +kernel
theorem dX8_mixOdds_55 : decode cX8_mixOdds 55 = .ok (.lstore_n 3, 1) := by decide +kernel
theorem dX8_mixOdds_56 : decode cX8_mixOdds 56 = .ok (.lload_n 3, 1) := by decide +kernel
theorem dX8_mixOdds_57 : decode cX8_mixOdds 57 = .ok (.aload_n 0, 1) := by decide +kernel
theorem dX8_mixOdds_58 : decode cX8_mixOdds 58 = .ok (.getfield 49, 3) := by decide +kernel
theorem dX8_mixOdds_61 : decode cX8_mixOdds 61 = .ok (.getfield 181, 3) := by decide +kernel
theorem dX8_mixOdds_64 : decode cX8_mixOdds 64 = .ok (.i2l, 1) := by decide +kernel
theorem dX8_mixOdds_65 : decode cX8_mixOdds 65 = .ok (.invokestatic 222, 3) := by decide +kernel
theorem dX8_mixOdds_68 : decode cX8_mixOdds 68 = .ok (.lstore_n 3, 1) := by decide +kernel
theorem dX8_mixOdds_69 : decode cX8_mixOdds 69 = .ok (.iinc 5 1, 3) := by decide +kernel
theorem dX8_mixOdds_72 : decode cX8_mixOdds 72 = .ok (.goto (-67), 3) := by decide +kernel
theorem dX8_mixOdds_75 : decode cX8_mixOdds 75 = .ok (.lload_n 3, 1) := by decide +kernel
theorem dX8_mixOdds_76 : decode cX8_mixOdds 76 = .ok (.lreturn, 1) := by decide +kernel
theorem dX8_mix_0 : decode cX8_mix 0 = .ok (.ldc2_w 262, 3) := by decide +kernel
theorem dX8_mix_3 : decode cX8_mix 3 = .ok (.lload_n 0, 1) := by decide +kernel
theorem dX8_mix_4 : decode cX8_mix 4 = .ok (.lmul, 1) := by decide +kernel
theorem dX8_mix_5 : decode cX8_mix 5 = .ok (.lload_n 2, 1) := by decide +kernel
theorem dX8_mix_6 : decode cX8_mix 6 = .ok (.ladd, 1) := by decide +kernel
theorem dX8_mix_7 : decode cX8_mix 7 = .ok (.lreturn, 1) := by decide +kernel
theorem dX8_isAmong_0 : decode cX8_isAmong 0 = .ok (.iload_n 1, 1) := by decide +kernel
theorem dX8_isAmong_1 : decode cX8_isAmong 1 = .ok (.iload_n 0, 1) := by decide +kernel
theorem dX8_isAmong_2 : decode cX8_isAmong 2 = .ok (.ishr, 1) := by decide +kernel
theorem dX8_isAmong_3 : decode cX8_isAmong 3 = .ok (.iconst 1, 1) := by decide +kernel
theorem dX8_isAmong_4 : decode cX8_isAmong 4 = .ok (.iand, 1) := by decide +kernel
theorem dX8_isAmong_5 : decode cX8_isAmong 5 = .ok (.iconst 1, 1) := by decide +kernel
theorem dX8_isAmong_6 : decode cX8_isAmong 6 = .ok (.if_icmp .ne 7, 3) := by decide +kernel
theorem dX8_isAmong_9 : decode cX8_isAmong 9 = .ok (.iconst 1, 1) := by decide +kernel
theorem dX8_isAmong_10 : decode cX8_isAmong 10 = .ok (.goto 4, 3) := by decide +kernel
theorem dX8_isAmong_13 : decode cX8_isAmong 13 = .ok (.iconst 0, 1) := by decide +kernel
theorem dX8_isAmong_14 : decode cX8_isAmong 14 = .ok (.ireturn, 1) := by decide +kernel
