theorem dX7_isHour_6 : decode cX7_isHour 6 = .ok (.invokestatic 75, 3) := by decide +kernel
theorem dX7_isHour_9 : decode cX7_isHour 9 = .ok (.ireturn, 1) := by decide +kernel
theorem dX7_of_0 : decode cX7_of 0 = .ok (.aload_n 0, 1) := by decide +kernel
theorem dX7_of_1 : decode cX7_of 1 = .ok (.getfield 19, 3) := by decide +kernel
theorem dX7_of_4 : decode cX7_of 4 = .ok (.bipush 8, 2) := by decide +kernel
theorem dX7_of_6 : decode cX7_of 6 = .ok (.bipush 6, 2) := by decide +kernel
theorem dX7_of_8 : decode cX7_of 8 = .ok (.iload_n 1, 1) := by decide +kernel
theorem dX7_of_9 : decode cX7_of 9 = .ok (.imul, 1) := by decide +kernel
theorem dX7_of_10 : decode cX7_of 10 = .ok (.iadd, 1) := by decide +kernel
theorem dX7_of_11 : decode cX7_of 11 = .ok (.iload_n 2, 1) := by decide +kernel
theorem dX7_of_12 : decode cX7_of 12 = .ok (.iadd, 1) := by decide +kernel
theorem dX7_of_13 : decode cX7_of 13 = .ok (.iaload, 1) := by decide +kernel
theorem dX7_of_14 : decode cX7_of 14 = .ok (.ireturn, 1) := by decide +kernel
theorem dX7_tollFor_0 : decode cX7_tollFor 0 = .ok (.aload_n 0, 1) := by decide +kernel
theorem dX7_tollFor_1 : decode cX7_tollFor 1 = .ok (.getfield 19, 3) := by decide +kernel
theorem dX7_tollFor_4 : decode cX7_tollFor 4 = .ok (.iconst 2, 1) := by decide +kernel
theorem dX7_tollFor_5 : decode cX7_tollFor 5 = .ok (.iload_n 1, 1) := by decide +kernel
theorem dX7_tollFor_6 : decode cX7_tollFor 6 = .ok (.bipush 6, 2) := by decide +kernel
theorem dX7_tollFor_8 : decode cX7_tollFor 8 = .ok (.if_icmp .le 8, 3) := by decide +kernel
theorem dX7_tollFor_11 : decode cX7_tollFor 11 = .ok (.bipush 6, 2) := by decide +kernel
theorem dX7_tollFor_13 : decode cX7_tollFor 13 = .ok (.goto 4, 3) := by decide +kernel
theorem dX7_tollFor_16 : decode cX7_tollFor 16 = .ok (.iload_n 1, 1) := by decide +kernel
theorem dX7_tollFor_17 : decode cX7_tollFor 17 = .ok (.iadd, 1) := by decide +kernel
theorem dX7_tollFor_18 : decode cX7_tollFor 18 = .ok (.iconst 1, 1) := by decide +kernel
theorem dX7_tollFor_19 : decode cX7_tollFor 19 = .ok (.isub, 1) := by decide +kernel
theorem dX7_tollFor_20 : decode cX7_tollFor 20 = .ok (.iaload, 1) := by decide +kernel
theorem dX7_tollFor_21 : decode cX7_tollFor 21 = .ok (.ireturn, 1) := by decide +kernel
theorem dX7_layNow_0 : decode cX7_layNow 0 = .ok (.aload_n 0, 1) := by decide +kernel
theorem dX7_layNow_1 : decode cX7_layNow 1 = .ok (.aload_n 0, 1) := by decide +kernel
theorem dX7_layNow_2 : decode cX7_layNow 2 = .ok (.getfield 19, 3) := by decide +kernel
theorem dX7_layNow_5 : decode cX7_layNow 5 = .ok (.iconst 0, 1) := by decide +kernel
theorem dX7_layNow_6 : decode cX7_layNow 6 = .ok (.iaload, 1) := by decide +kernel
theorem dX7_layNow_7 : decode cX7_layNow 7 = .ok (.putfield 195, 3) := by decide +kernel
theorem dX7_layNow_10 : decode cX7_layNow 10 = .ok (.aload_n 0, 1) := by decide +kernel
theorem dX7_layNow_11 : decode cX7_layNow 11 = .ok (.iconst 0, 1) := by decide +kernel
theorem dX7_layNow_12 : decode cX7_layNow 12 = .ok (.putfield 198, 3) := by decide +kernel
theorem dX7_layNow_15 : decode cX7_layNow 15 = .ok (.iconst 0, 1) := by decide +kernel
theorem dX7_layNow_16 : decode cX7_layNow 16 = .ok (.istore_n 1, 1) := by decide +kernel
theorem dX7_layNow_17 : decode cX7_layNow 17 = .ok (.iload_n 1, 1) := by decide +kernel
theorem dX7_layNow_18 : decode cX7_layNow 18 = .ok (.aload_n 0, 1) := by decide +kernel
theorem dX7_layNow_19 : decode cX7_layNow 19 = .ok (.getfield 195, 3) := by decide +kernel
theorem dX7_layNow_22 : decode cX7_layNow 22 = .ok (.if_icmp .ge 81, 3) := by decide +kernel
theorem dX7_layNow_25 : decode cX7_layNow 25 = .ok (.aload_n 0, 1) := by decide +kernel
theorem dX7_layNow_26 : decode cX7_layNow 26 = .ok (.getfield 31, 3) := by decide +kernel
theorem dX7_layNow_29 : decode cX7_layNow 29 = .ok (.iload_n 1, 1) := by decide +kernel
theorem dX7_layNow_30 : decode cX7_layNow 30 = .ok (.aload_n 0, 1) := by decide +kernel
theorem dX7_layNow_31 : decode cX7_layNow 31 = .ok (.iload_n 1, 1) := by decide +kernel
theorem dX7_layNow_32 : decode cX7_layNow 32 = .ok (.iconst 0, 1) := by decide +kernel
theorem dX7_layNow_33 : decode cX7_layNow 33 = .ok (.invokevirtual 201, 3) := by decide +kernel
theorem dX7_layNow_36 : decode cX7_layNow 36 = .ok (.iastore, 1) := by decide +kernel
theorem dX7_layNow_37 : decode cX7_layNow 37 = .ok (.aload_n 0, 1) := by decide +kernel
theorem dX7_layNow_38 : decode cX7_layNow 38 = .ok (.getfield 34, 3) := by decide +kernel
theorem dX7_layNow_41 : decode cX7_layNow 41 = .ok (.iload_n 1, 1) := by decide +kernel
theorem dX7_layNow_42 : decode cX7_layNow 42 = .ok (.aload_n 0, 1) := by decide +kernel
theorem dX7_layNow_43 : decode cX7_layNow 43 = .ok (.iload_n 1, 1) := by decide +kernel
theorem dX7_layNow_44 : decode cX7_layNow 44 = .ok (.iconst 1, 1) := by decide +kernel
theorem dX7_layNow_45 : decode cX7_layNow 45 = .ok (.invokevirtual 201, 3) := by decide +kernel
theorem dX7_layNow_48 : decode cX7_layNow 48 = .ok (.iastore, 1) := by decide +kernel
theorem dX7_layNow_49 : decode cX7_layNow 49 = .ok (.aload_n 0, 1) := by decide +kernel
theorem dX7_layNow_50 : decode cX7_layNow 50 = .ok (.getfield 37, 3) := by decide +kernel
theorem dX7_layNow_53 : decode cX7_layNow 53 = .ok (.iload_n 1, 1) := by decide +kernel
theorem dX7_layNow_54 : decode cX7_layNow 54 = .ok (.aload_n 0, 1) := by decide +kernel
theorem dX7_layNow_55 : decode cX7_layNow 55 = .ok (.iload_n 1, 1) := by decide +kernel
theorem dX7_layNow_56 : decode cX7_layNow 56 = .ok (.iconst 2, 1) := by decide +kernel
theorem dX7_layNow_57 : decode cX7_layNow 57 = .ok (.invokevirtual 201, 3) := by decide +kernel
theorem dX7_layNow_60 : decode cX7_layNow 60 = .ok (.iastore, 1) := by decide +kernel
theorem dX7_layNow_61 : decode cX7_layNow 61 = .ok (.aload_n 0, 1) := by decide +kernel
theorem dX7_layNow_62 : decode cX7_layNow 62 = .ok (.getfield 40, 3) := by decide +kernel
theorem dX7_layNow_65 : decode cX7_layNow 65 = .ok (.iload_n 1, 1) := by decide +kernel
theorem dX7_layNow_66 : decode cX7_layNow 66 = .ok (.aload_n 0, 1) := by decide +kernel
theorem dX7_layNow_67 : decode cX7_layNow 67 = .ok (.iload_n 1, 1) := by decide +kernel
theorem dX7_layNow_68 : decode cX7_layNow 68 = .ok (.iconst 3, 1) := by decide +kernel
theorem dX7_layNow_69 : decode cX7_layNow 69 = .ok (.invokevirtual 201, 3) := by decide +kernel
theorem dX7_layNow_72 : decode cX7_layNow 72 = .ok (.iastore, 1) := by decide +kernel
theorem dX7_layNow_73 : decode cX7_layNow 73 = .ok (.aload_n 0, 1) := by decide +kernel
theorem dX7_layNow_74 : decode cX7_layNow 74 = .ok (.getfield 43, 3) := by decide +kernel
theorem dX7_layNow_77 : decode cX7_layNow 77 = .ok (.iload_n 1, 1) := by decide +kernel
theorem dX7_layNow_78 : decode cX7_layNow 78 = .ok (.aload_n 0, 1) := by decide +kernel
theorem dX7_layNow_79 : decode cX7_layNow 79 = .ok (.iload_n 1, 1) := by decide +kernel
theorem dX7_layNow_80 : decode cX7_layNow 80 = .ok (.iconst 4, 1) := by decide +kernel
theorem dX7_layNow_81 : decode cX7_layNow 81 = .ok (.invokevirtual 201, 3) := by decide +kernel
theorem dX7_layNow_84 : decode cX7_layNow 84 = .ok (.iastore, 1) := by decide +kernel
theorem dX7_layNow_85 : decode cX7_layNow 85 = .ok (.aload_n 0, 1) := by decide +kernel
theorem dX7_layNow_86 : decode cX7_layNow 86 = .ok (.getfield 46, 3) := by decide +kernel
theorem dX7_layNow_89 : decode cX7_layNow 89 = .ok (.iload_n 1, 1) := by decide +kernel
theorem dX7_layNow_90 : decode cX7_layNow 90 = .ok (.aload_n 0, 1) := by decide +kernel
theorem dX7_layNow_91 : decode cX7_layNow 91 = .ok (.iload_n 1, 1) := by decide +kernel
theorem dX7_layNow_92 : decode cX7_layNow 92 = .ok (.iconst 5, 1) := by decide +kernel
theorem dX7_layNow_93 : decode cX7_layNow 93 = .ok (.invokevirtual 201, 3) := by decide +kernel
theorem dX7_layNow_96 : decode cX7_layNow 96 = .ok (.iastore, 1) := by decide +kernel
theorem dX7_layNow_97 : decode cX7_layNow 97 = .ok (.iinc 1 1, 3) := by decide +kernel
theorem dX7_layNow_100 : decode cX7_layNow 100 = .ok (.goto (-83), 3) := by decide +kernel
theorem dX7_layNow_103 : decode cX7_layNow 103 = .ok (.return_, 1) := by decide +kernel
theorem dX7_stands_0 : decode cX7_stands 0 = .ok (.aload_n 0, 1) := by decide +kernel
theorem dX7_stands_1 : decode cX7_stands 1 = .ok (.getfield 34, 3) := by decide +kernel
theorem dX7_stands_4 : decode cX7_stands 4 = .ok (.iload_n 1, 1) := by decide +kernel
theorem dX7_stands_5 : decode cX7_stands 5 = .ok (.iaload, 1) := by decide +kernel
theorem dX7_stands_6 : decode cX7_stands 6 = .ok (.iload_n 2, 1) := by decide +kernel
theorem dX7_stands_7 : decode cX7_stands 7 = .ok (.if_icmp .gt 18, 3) := by decide +kernel
theorem dX7_stands_10 : decode cX7_stands 10 = .ok (.aload_n 0, 1) := by decide +kernel
theorem dX7_stands_11 : decode cX7_stands 11 = .ok (.getfield 43, 3) := by decide +kernel
theorem dX7_stands_14 : decode cX7_stands 14 = .ok (.iload_n 1, 1) := by decide +kernel
theorem dX7_stands_15 : decode cX7_stands 15 = .ok (.iaload, 1) := by decide +kernel
theorem dX7_stands_16 : decode cX7_stands 16 = .ok (.ldc 101, 2) := by decide +kernel
theorem dX7_stands_18 : decode cX7_stands 18 = .ok (.if_icmp .ne 7, 3) := by decide +kernel
theorem dX7_stands_21 : decode cX7_stands 21 = .ok (.iconst 1, 1) := by decide +kernel
theorem dX7_stands_22 : decode cX7_stands 22 = .ok (.goto 4, 3) := by decide +kernel
theorem dX7_stands_25 : decode cX7_stands 25 = .ok (.iconst 0, 1) := by decide +kernel
theorem dX7_stands_26 : decode cX7_stands 26 = .ok (.ireturn, 1) := by decide +kernel
theorem dX7_standing_0 : decode cX7_standing 0 = .ok (.iconst 0, 1) := by decide +kernel
theorem dX7_standing_1 : decode cX7_standing 1 = .ok (.istore_n 2, 1) := by decide +kernel
theorem dX7_standing_2 : decode cX7_standing 2 = .ok (.iconst 0, 1) := by decide +kernel
theorem dX7_standing_3 : decode cX7_standing 3 = .ok (.istore_n 3, 1) := by decide +kernel
theorem dX7_standing_4 : decode cX7_standing 4 = .ok (.iload_n 3, 1) := by decide +kernel
theorem dX7_standing_5 : decode cX7_standing 5 = .ok (.aload_n 0, 1) := by decide +kernel
theorem dX7_standing_6 : decode cX7_standing 6 = .ok (.getfield 195, 3) := by decide +kernel
theorem dX7_standing_9 : decode cX7_standing 9 = .ok (.if_icmp .ge 26, 3) := by decide +kernel
theorem dX7_standing_12 : decode cX7_standing 12 = .ok (.iload_n 2, 1) := by decide +kernel
theorem dX7_standing_13 : decode cX7_standing 13 = .ok (.aload_n 0, 1) := by decide +kernel
theorem dX7_standing_14 : decode cX7_standing 14 = .ok (.iload_n 3, 1) := by decide +kernel
theorem dX7_standing_15 : decode cX7_standing 15 = .ok (.iload_n 1, 1) := by decide +kernel
theorem dX7_standing_16 : decode cX7_standing 16 = .ok (.invokevirtual 204, 3) := by decide +kernel
theorem dX7_standing_19 : decode cX7_standing 19 = .ok (.ifCond .eq 7, 3) := by decide +kernel
theorem dX7_standing_22 : decode cX7_standing 22 = .ok (.iconst 1, 1) := by decide +kernel
theorem dX7_standing_23 : decode cX7_standing 23 = .ok (.goto 4, 3) := by decide +kernel
theorem dX7_standing_26 : decode cX7_standing 26 = .ok (.iconst 0, 1) := by decide +kernel
theorem dX7_standing_27 : decode cX7_standing 27 = .ok (.iadd, 1) := by decide +kernel
theorem dX7_standing_28 : decode cX7_standing 28 = .ok (.istore_n 2, 1) := by decide +kernel
theorem dX7_standing_29 : decode cX7_standing 29 = .ok (.iinc 3 1, 3) := by decide +kernel
theorem dX7_standing_32 : decode cX7_standing 32 = .ok (.goto (-28), 3) := by decide +kernel
theorem dX7_standing_35 : decode cX7_standing 35 = .ok (.iload_n 2, 1) := by decide +kernel
theorem dX7_standing_36 : decode cX7_standing 36 = .ok (.ireturn, 1) := by decide +kernel
theorem dX7_isReady_0 : decode cX7_isReady 0 = .ok (.aload_n 0, 1) := by decide +kernel
theorem dX7_isReady_1 : decode cX7_isReady 1 = .ok (.iload_n 1, 1) := by decide +kernel
theorem dX7_isReady_2 : decode cX7_isReady 2 = .ok (.iload_n 2, 1) := by decide +kernel
theorem dX7_isReady_3 : decode cX7_isReady 3 = .ok (.invokevirtual 204, 3) := by decide +kernel
theorem dX7_isReady_6 : decode cX7_isReady 6 = .ok (.ifCond .ne 5, 3) := by decide +kernel
theorem dX7_isReady_9 : decode cX7_isReady 9 = .ok (.iconst 0, 1) := by decide +kernel
theorem dX7_isReady_10 : decode cX7_isReady 10 = .ok (.ireturn, 1) := by decide +kernel
theorem dX7_isReady_11 : decode cX7_isReady 11 = .ok (.iload_n 2, 1) := by decide +kernel
theorem dX7_isReady_12 : decode cX7_isReady 12 = .ok (.aload_n 0, 1) := by decide +kernel
theorem dX7_isReady_13 : decode cX7_isReady 13 = .ok (.getfield 34, 3) := by decide +kernel
theorem dX7_isReady_16 : decode cX7_isReady 16 = .ok (.iload_n 1, 1) := by decide +kernel
theorem dX7_isReady_17 : decode cX7_isReady 17 = .ok (.iaload, 1) := by decide +kernel
theorem dX7_isReady_18 : decode cX7_isReady 18 = .ok (.aload_n 0, 1) := by decide +kernel
theorem dX7_isReady_19 : decode cX7_isReady 19 = .ok (.getfield 40, 3) := by decide +kernel
theorem dX7_isReady_22 : decode cX7_isReady 22 = .ok (.iload_n 1, 1) := by decide +kernel
theorem dX7_isReady_23 : decode cX7_isReady 23 = .ok (.iaload, 1) := by decide +kernel
theorem dX7_isReady_24 : decode cX7_isReady 24 = .ok (.iadd, 1) := by decide +kernel
theorem dX7_isReady_25 : decode cX7_isReady 25 = .ok (.if_icmp .lt 7, 3) := by decide +kernel
theorem dX7_isReady_28 : decode cX7_isReady 28 = .ok (.iconst 1, 1) := by decide +kernel
theorem dX7_isReady_29 : decode cX7_isReady 29 = .ok (.goto 4, 3) := by decide +kernel
theorem dX7_isReady_32 : decode cX7_isReady 32 = .ok (.iconst 0, 1) := by decide +kernel
theorem dX7_isReady_33 : decode cX7_isReady 33 = .ok (.istore_n 3, 1) := by decide +kernel
theorem dX7_isReady_34 : decode cX7_isReady 34 = .ok (.aload_n 0, 1) := by decide +kernel
theorem dX7_isReady_35 : decode cX7_isReady 35 = .ok (.getfield 31, 3) := by decide +kernel
theorem dX7_isReady_38 : decode cX7_isReady 38 = .ok (.iload_n 1, 1) := by decide +kernel
theorem dX7_isReady_39 : decode cX7_isReady 39 = .ok (.iaload, 1) := by decide +kernel
theorem dX7_isReady_40 : decode cX7_isReady 40 = .ok (.tableswitch 71 2 5 #[46, 34, 71, 32], 32) := by decide +kernel
theorem dX7_isReady_72 : decode cX7_isReady 72 = .ok (.iconst 1, 1) := by decide +kernel
theorem dX7_isReady_73 : decode cX7_isReady 73 = .ok (.ireturn, 1) := by decide +kernel
theorem dX7_isReady_74 : decode cX7_isReady 74 = .ok (.iload_n 2, 1) := by decide +kernel
theorem dX7_isReady_75 : decode cX7_isReady 75 = .ok (.bipush 11, 2) := by decide +kernel
theorem dX7_isReady_77 : decode cX7_isReady 77 = .ok (.if_icmp .ne 7, 3) := by decide +kernel
theorem dX7_isReady_80 : decode cX7_isReady 80 = .ok (.iconst 1, 1) := by decide +kernel
theorem dX7_isReady_81 : decode cX7_isReady 81 = .ok (.goto 4, 3) := by decide +kernel
theorem dX7_isReady_84 : decode cX7_isReady 84 = .ok (.iconst 0, 1) := by decide +kernel
theorem dX7_isReady_85 : decode cX7_isReady 85 = .ok (.ireturn, 1) := by decide +kernel
theorem dX7_isReady_86 : decode cX7_isReady 86 = .ok (.iload_n 2, 1) := by decide +kernel
theorem dX7_isReady_87 : decode cX7_isReady 87 = .ok (.bipush 11, 2) := by decide +kernel
theorem dX7_isReady_89 : decode cX7_isReady 89 = .ok (.if_icmp .eq 16, 3) := by decide +kernel
theorem dX7_isReady_92 : decode cX7_isReady 92 = .ok (.iload_n 3, 1) := by decide +kernel
theorem dX7_isReady_93 : decode cX7_isReady 93 = .ok (.ifCond .ne 12, 3) := by decide +kernel
theorem dX7_isReady_96 : decode cX7_isReady 96 = .ok (.aload_n 0, 1) := by decide +kernel
theorem dX7_isReady_97 : decode cX7_isReady 97 = .ok (.iload_n 2, 1) := by decide +kernel
theorem dX7_isReady_98 : decode cX7_isReady 98 = .ok (.invokevirtual 208, 3) := by decide +kernel
theorem dX7_isReady_101 : decode cX7_isReady 101 = .ok (.iconst 3, 1) := by decide +kernel
theorem dX7_isReady_102 : decode cX7_isReady 102 = .ok (.if_icmp .lt 7, 3) := by decide +kernel
theorem dX7_isReady_105 : decode cX7_isReady 105 = .ok (.iconst 1, 1) := by decide +kernel
theorem dX7_isReady_106 : decode cX7_isReady 106 = .ok (.goto 4, 3) := by decide +kernel
theorem dX7_isReady_109 : decode cX7_isReady 109 = .ok (.iconst 0, 1) := by decide +kernel
theorem dX7_isReady_110 : decode cX7_isReady 110 = .ok (.ireturn, 1) := by decide +kernel
theorem dX7_isReady_111 : decode cX7_isReady 111 = .ok (.iload_n 2, 1) := by decide +kernel
theorem dX7_isReady_112 : decode cX7_isReady 112 = .ok (.bipush 11, 2) := by decide +kernel
theorem dX7_isReady_114 : decode cX7_isReady 114 = .ok (.if_icmp .eq 7, 3) := by decide +kernel
theorem dX7_isReady_117 : decode cX7_isReady 117 = .ok (.iload_n 3, 1) := by decide +kernel
theorem dX7_isReady_118 : decode cX7_isReady 118 = .ok (.ifCond .eq 7, 3) := by decide +kernel
theorem dX7_isReady_121 : decode cX7_isReady 121 = .ok (.iconst 1, 1) := by decide +kernel
theorem dX7_isReady_122 : decode cX7_isReady 122 = .ok (.goto 4, 3) := by decide +kernel
theorem dX7_isReady_125 : decode cX7_isReady 125 = .ok (.iconst 0, 1) := by decide +kernel
theorem dX7_isReady_126 : decode cX7_isReady 126 = .ok (.ireturn, 1) := by decide +kernel
theorem dX7_isAhead_0 : decode cX7_isAhead 0 = .ok (.aload_n 0, 1) := by decide +kernel
theorem dX7_isAhead_1 : decode cX7_isAhead 1 = .ok (.getfield 31, 3) := by decide +kernel
theorem dX7_isAhead_4 : decode cX7_isAhead 4 = .ok (.iload_n 1, 1) := by decide +kernel
theorem dX7_isAhead_5 : decode cX7_isAhead 5 = .ok (.iaload, 1) := by decide +kernel
theorem dX7_isAhead_6 : decode cX7_isAhead 6 = .ok (.iconst 3, 1) := by decide +kernel
theorem dX7_isAhead_7 : decode cX7_isAhead 7 = .ok (.if_icmp .ne 7, 3) := by decide +kernel
theorem dX7_isAhead_10 : decode cX7_isAhead 10 = .ok (.iconst 1, 1) := by decide +kernel
theorem dX7_isAhead_11 : decode cX7_isAhead 11 = .ok (.goto 4, 3) := by decide +kernel
theorem dX7_isAhead_14 : decode cX7_isAhead 14 = .ok (.iconst 0, 1) := by decide +kernel
theorem dX7_isAhead_15 : decode cX7_isAhead 15 = .ok (.aload_n 0, 1) := by decide +kernel
theorem dX7_isAhead_16 : decode cX7_isAhead 16 = .ok (.getfield 31, 3) := by decide +kernel
theorem dX7_isAhead_19 : decode cX7_isAhead 19 = .ok (.iload_n 2, 1) := by decide +kernel
theorem dX7_isAhead_20 : decode cX7_isAhead 20 = .ok (.iaload, 1) := by decide +kernel
theorem dX7_isAhead_21 : decode cX7_isAhead 21 = .ok (.iconst 3, 1) := by decide +kernel
theorem dX7_isAhead_22 : decode cX7_isAhead 22 = .ok (.if_icmp .ne 7, 3) := by decide +kernel
theorem dX7_isAhead_25 : decode cX7_isAhead 25 = .ok (.iconst 1, 1) := by decide +kernel
theorem dX7_isAhead_26 : decode cX7_isAhead 26 = .ok (.goto 4, 3) := by decide +kernel
theorem dX7_isAhead_29 : decode cX7_isAhead 29 = .ok (.iconst 0, 1) := by decide +kernel
theorem dX7_isAhead_30 : decode cX7_isAhead 30 = .ok (.if_icmp .eq 19, 3) := by decide +kernel
theorem dX7_isAhead_33 : decode cX7_isAhead 33 = .ok (.aload_n 0, 1) := by decide +kernel
theorem dX7_isAhead_34 : decode cX7_isAhead 34 = .ok (.getfield 31, 3) := by decide +kernel
theorem dX7_isAhead_37 : decode cX7_isAhead 37 = .ok (.iload_n 2, 1) := by decide +kernel
theorem dX7_isAhead_38 : decode cX7_isAhead 38 = .ok (.iaload, 1) := by decide +kernel
theorem dX7_isAhead_39 : decode cX7_isAhead 39 = .ok (.iconst 3, 1) := by decide +kernel
theorem dX7_isAhead_40 : decode cX7_isAhead 40 = .ok (.if_icmp .ne 7, 3) := by decide +kernel
theorem dX7_isAhead_43 : decode cX7_isAhead 43 = .ok (.iconst 1, 1) := by decide +kernel
theorem dX7_isAhead_44 : decode cX7_isAhead 44 = .ok (.goto 4, 3) := by decide +kernel
theorem dX7_isAhead_47 : decode cX7_isAhead 47 = .ok (.iconst 0, 1) := by decide +kernel
theorem dX7_isAhead_48 : decode cX7_isAhead 48 = .ok (.ireturn, 1) := by decide +kernel
theorem dX7_isAhead_49 : decode cX7_isAhead 49 = .ok (.aload_n 0, 1) := by decide +kernel
theorem dX7_isAhead_50 : decode cX7_isAhead 50 = .ok (.getfield 198, 3) := by decide +kernel
theorem dX7_isAhead_53 : decode cX7_isAhead 53 = .ok (.ifCond .eq 39, 3) := by decide +kernel
theorem dX7_isAhead_56 : decode cX7_isAhead 56 = .ok (.aload_n 0, 1) := by decide +kernel
theorem dX7_isAhead_57 : decode cX7_isAhead 57 = .ok (.getfield 52, 3) := by decide +kernel
theorem dX7_isAhead_60 : decode cX7_isAhead 60 = .ok (.iload_n 1, 1) := by decide +kernel
theorem dX7_isAhead_61 : decode cX7_isAhead 61 = .ok (.iaload, 1) := by decide +kernel
theorem dX7_isAhead_62 : decode cX7_isAhead 62 = .ok (.aload_n 0, 1) := by decide +kernel
theorem dX7_isAhead_63 : decode cX7_isAhead 63 = .ok (.getfield 52, 3) := by decide +kernel
theorem dX7_isAhead_66 : decode cX7_isAhead 66 = .ok (.iload_n 2, 1) := by decide +kernel
theorem dX7_isAhead_67 : decode cX7_isAhead 67 = .ok (.iaload, 1) := by decide +kernel
theorem dX7_isAhead_68 : decode cX7_isAhead 68 = .ok (.if_icmp .eq 24, 3) := by decide +kernel
theorem dX7_isAhead_71 : decode cX7_isAhead 71 = .ok (.aload_n 0, 1) := by decide +kernel
theorem dX7_isAhead_72 : decode cX7_isAhead 72 = .ok (.getfield 52, 3) := by decide +kernel
theorem dX7_isAhead_75 : decode cX7_isAhead 75 = .ok (.iload_n 1, 1) := by decide +kernel
theorem dX7_isAhead_76 : decode cX7_isAhead 76 = .ok (.iaload, 1) := by decide +kernel
theorem dX7_isAhead_77 : decode cX7_isAhead 77 = .ok (.aload_n 0, 1) := by decide +kernel
theorem dX7_isAhead_78 : decode cX7_isAhead 78 = .ok (.getfield 52, 3) := by decide +kernel
theorem dX7_isAhead_81 : decode cX7_isAhead 81 = .ok (.iload_n 2, 1) := by decide +kernel
theorem dX7_isAhead_82 : decode cX7_isAhead 82 = .ok (.iaload, 1) := by decide +kernel
theorem dX7_isAhead_83 : decode cX7_isAhead 83 = .ok (.if_icmp .ge 7, 3) := by decide +kernel
theorem dX7_isAhead_86 : decode cX7_isAhead 86 = .ok (.iconst 1, 1) := by decide +kernel
theorem dX7_isAhead_87 : decode cX7_isAhead 87 = .ok (.goto 4, 3) := by decide +kernel
theorem dX7_isAhead_90 : decode cX7_isAhead 90 = .ok (.iconst 0, 1) := by decide +kernel
theorem dX7_isAhead_91 : decode cX7_isAhead 91 = .ok (.ireturn, 1) := by decide +kernel
theorem dX7_isAhead_92 : decode cX7_isAhead 92 = .ok (.aload_n 0, 1) := by decide +kernel
theorem dX7_isAhead_93 : decode cX7_isAhead 93 = .ok (.getfield 34, 3) := by decide +kernel
theorem dX7_isAhead_96 : decode cX7_isAhead 96 = .ok (.iload_n 1, 1) := by decide +kernel
theorem dX7_isAhead_97 : decode cX7_isAhead 97 = .ok (.iaload, 1) := by decide +kernel
theorem dX7_isAhead_98 : decode cX7_isAhead 98 = .ok (.aload_n 0, 1) := by decide +kernel
theorem dX7_isAhead_99 : decode cX7_isAhead 99 = .ok (.getfield 34, 3) := by decide +kernel
theorem dX7_isAhead_102 : decode cX7_isAhead 102 = .ok (.iload_n 2, 1) := by decide +kernel
theorem dX7_isAhead_103 : decode cX7_isAhead 103 = .ok (.iaload, 1) := by decide +kernel
theorem dX7_isAhead_104 : decode cX7_isAhead 104 = .ok (.if_icmp .ge 7, 3) := by decide +kernel
theorem dX7_isAhead_107 : decode cX7_isAhead 107 = .ok (.iconst 1, 1) := by decide +kernel
theorem dX7_isAhead_108 : decode cX7_isAhead 108 = .ok (.goto 4, 3) := by decide +kernel
theorem dX7_isAhead_111 : decode cX7_isAhead 111 = .ok (.iconst 0, 1) := by decide +kernel
theorem dX7_isAhead_112 : decode cX7_isAhead 112 = .ok (.ireturn, 1) := by decide +kernel
theorem dX7_goHour_0 : decode cX7_goHour 0 = .ok (.ldc 101, 2) := by decide +kernel
theorem dX7_goHour_2 : decode cX7_goHour 2 = .ok (.istore_n 2, 1) := by decide +kernel
theorem dX7_goHour_3 : decode cX7_goHour 3 = .ok (.iconst 0, 1) := by decide +kernel
theorem dX7_goHour_4 : decode cX7_goHour 4 = .ok (.istore_n 3, 1) := by decide +kernel
theorem dX7_goHour_5 : decode cX7_goHour 5 = .ok (.iconst 0, 1) := by decide +kernel
theorem dX7_goHour_6 : decode cX7_goHour 6 = .ok (.istore 4, 2) := by decide +kernel
theorem dX7_goHour_8 : decode cX7_goHour 8 = .ok (.iload 4, 2) := by decide +kernel
theorem dX7_goHour_10 : decode cX7_goHour 10 = .ok (.aload_n 0, 1) := by decide +kernel
theorem dX7_goHour_11 : decode cX7_goHour 11 = .ok (.getfield 195, 3) := by decide +kernel
theorem dX7_goHour_14 : decode cX7_goHour 14 = .ok (.if_icmp .ge 83, 3) := by decide +kernel
theorem dX7_goHour_17 : decode cX7_goHour 17 = .ok (.aload_n 0, 1) := by decide +kernel
theorem dX7_goHour_18 : decode cX7_goHour 18 = .ok (.iload 4, 2) := by decide +kernel
theorem dX7_goHour_20 : decode cX7_goHour 20 = .ok (.iload_n 1, 1) := by decide +kernel
theorem dX7_goHour_21 : decode cX7_goHour 21 = .ok (.invokevirtual 211, 3) := by decide +kernel
theorem dX7_goHour_24 : decode cX7_goHour 24 = .ok (.istore 5, 2) := by decide +kernel
theorem dX7_goHour_26 : decode cX7_goHour 26 = .ok (.iload 5, 2) := by decide +kernel
theorem dX7_goHour_28 : decode cX7_goHour 28 = .ok (.ifCond .eq 24, 3) := by decide +kernel
theorem dX7_goHour_31 : decode cX7_goHour 31 = .ok (.iload_n 2, 1) := by decide +kernel
theorem dX7_goHour_32 : decode cX7_goHour 32 = .ok (.ldc 101, 2) := by decide +kernel
theorem dX7_goHour_34 : decode cX7_goHour 34 = .ok (.if_icmp .eq 13, 3) := by decide +kernel
theorem dX7_goHour_37 : decode cX7_goHour 37 = .ok (.aload_n 0, 1) := by decide +kernel
theorem dX7_goHour_38 : decode cX7_goHour 38 = .ok (.iload 4, 2) := by decide +kernel
theorem dX7_goHour_40 : decode cX7_goHour 40 = .ok (.iload_n 2, 1) := by decide +kernel
theorem dX7_goHour_41 : decode cX7_goHour 41 = .ok (.invokevirtual 214, 3) := by decide +kernel
theorem dX7_goHour_44 : decode cX7_goHour 44 = .ok (.ifCond .eq 8, 3) := by decide +kernel
theorem dX7_goHour_47 : decode cX7_goHour 47 = .ok (.iload 4, 2) := by decide +kernel
theorem dX7_goHour_49 : decode cX7_goHour 49 = .ok (.goto 4, 3) := by decide +kernel
theorem dX7_goHour_52 : decode cX7_goHour 52 = .ok (.iload_n 2, 1) := by decide +kernel
theorem dX7_goHour_53 : decode cX7_goHour 53 = .ok (.istore_n 2, 1) := by decide +kernel
theorem dX7_goHour_54 : decode cX7_goHour 54 = .ok (.iload_n 3, 1) := by decide +kernel
theorem dX7_goHour_55 : decode cX7_goHour 55 = .ok (.iload 5, 2) := by decide +kernel
theorem dX7_goHour_57 : decode cX7_goHour 57 = .ok (.ifCond .ne 24, 3) := by decide +kernel
theorem dX7_goHour_60 : decode cX7_goHour 60 = .ok (.aload_n 0, 1) := by decide +kernel
theorem dX7_goHour_61 : decode cX7_goHour 61 = .ok (.iload 4, 2) := by decide +kernel
theorem dX7_goHour_63 : decode cX7_goHour 63 = .ok (.iload_n 1, 1) := by decide +kernel
theorem dX7_goHour_64 : decode cX7_goHour 64 = .ok (.invokevirtual 204, 3) := by decide +kernel
theorem dX7_goHour_67 : decode cX7_goHour 67 = .ok (.ifCond .eq 21, 3) := by decide +kernel
theorem dX7_goHour_70 : decode cX7_goHour 70 = .ok (.aload_n 0, 1) := by decide +kernel
theorem dX7_goHour_71 : decode cX7_goHour 71 = .ok (.getfield 31, 3) := by decide +kernel
theorem dX7_goHour_74 : decode cX7_goHour 74 = .ok (.iload 4, 2) := by decide +kernel
theorem dX7_goHour_76 : decode cX7_goHour 76 = .ok (.iaload, 1) := by decide +kernel
theorem dX7_goHour_77 : decode cX7_goHour 77 = .ok (.iconst 4, 1) := by decide +kernel
theorem dX7_goHour_78 : decode cX7_goHour 78 = .ok (.if_icmp .ge 10, 3) := by decide +kernel
theorem dX7_goHour_81 : decode cX7_goHour 81 = .ok (.iconst 1, 1) := by decide +kernel
theorem dX7_goHour_82 : decode cX7_goHour 82 = .ok (.iload 4, 2) := by decide +kernel
theorem dX7_goHour_84 : decode cX7_goHour 84 = .ok (.ishl, 1) := by decide +kernel
theorem dX7_goHour_85 : decode cX7_goHour 85 = .ok (.goto 4, 3) := by decide +kernel
theorem dX7_goHour_88 : decode cX7_goHour 88 = .ok (.iconst 0, 1) := by decide +kernel
theorem dX7_goHour_89 : decode cX7_goHour 89 = .ok (.ior, 1) := by decide +kernel
theorem dX7_goHour_90 : decode cX7_goHour 90 = .ok (.istore_n 3, 1) := by decide +kernel
theorem dX7_goHour_91 : decode cX7_goHour 91 = .ok (.iinc 4 1, 3) := by decide +kernel
theorem dX7_goHour_94 : decode cX7_goHour 94 = .ok (.goto (-86), 3) := by decide +kernel
theorem dX7_goHour_97 : decode cX7_goHour 97 = .ok (.aload_n 0, 1) := by decide +kernel
theorem dX7_goHour_98 : decode cX7_goHour 98 = .ok (.getfield 49, 3) := by decide +kernel
theorem dX7_goHour_101 : decode cX7_goHour 101 = .ok (.iload_n 1, 1) := by decide +kernel
theorem dX7_goHour_102 : decode cX7_goHour 102 = .ok (.iload_n 2, 1) := by decide +kernel
theorem dX7_goHour_103 : decode cX7_goHour 103 = .ok (.iastore, 1) := by decide +kernel
theorem dX7_goHour_104 : decode cX7_goHour 104 = .ok (.iload_n 2, 1) := by decide +kernel
theorem dX7_goHour_105 : decode cX7_goHour 105 = .ok (.ldc 101, 2) := by decide +kernel
theorem dX7_goHour_107 : decode cX7_goHour 107 = .ok (.if_icmp .ne 5, 3) := by decide +kernel
theorem dX7_goHour_110 : decode cX7_goHour 110 = .ok (.iconst 0, 1) := by decide +kernel
theorem dX7_goHour_111 : decode cX7_goHour 111 = .ok (.ireturn, 1) := by decide +kernel
theorem dX7_goHour_112 : decode cX7_goHour 112 = .ok (.iconst 0, 1) := by decide +kernel
theorem dX7_goHour_113 : decode cX7_goHour 113 = .ok (.istore 4, 2) := by decide +kernel
theorem dX7_goHour_115 : decode cX7_goHour 115 = .ok (.iconst 0, 1) := by decide +kernel
theorem dX7_goHour_116 : decode cX7_goHour 116 = .ok (.istore 5, 2) := by decide +kernel
theorem dX7_goHour_118 : decode cX7_goHour 118 = .ok (.iload 5, 2) := by decide +kernel
theorem dX7_goHour_120 : decode cX7_goHour 120 = .ok (.aload_n 0, 1) := by decide +kernel
theorem dX7_goHour_121 : decode cX7_goHour 121 = .ok (.getfield 195, 3) := by decide +kernel
theorem dX7_goHour_124 : decode cX7_goHour 124 = .ok (.if_icmp .ge 30, 3) := by decide +kernel
theorem dX7_goHour_127 : decode cX7_goHour 127 = .ok (.iload_n 3, 1) := by decide +kernel
theorem dX7_goHour_128 : decode cX7_goHour 128 = .ok (.iload 5, 2) := by decide +kernel
theorem dX7_goHour_130 : decode cX7_goHour 130 = .ok (.ishr, 1) := by decide +kernel
theorem dX7_goHour_131 : decode cX7_goHour 131 = .ok (.iconst 1, 1) := by decide +kernel
theorem dX7_goHour_132 : decode cX7_goHour 132 = .ok (.iand, 1) := by decide +kernel
theorem dX7_goHour_133 : decode cX7_goHour 133 = .ok (.iconst 1, 1) := by decide +kernel
theorem dX7_goHour_134 : decode cX7_goHour 134 = .ok (.if_icmp .ne 14, 3) := by decide +kernel
theorem dX7_goHour_137 : decode cX7_goHour 137 = .ok (.aload_n 0, 1) := by decide +kernel
theorem dX7_goHour_138 : decode cX7_goHour 138 = .ok (.getfield 43, 3) := by decide +kernel
theorem dX7_goHour_141 : decode cX7_goHour 141 = .ok (.iload 5, 2) := by decide +kernel
theorem dX7_goHour_143 : decode cX7_goHour 143 = .ok (.iload_n 1, 1) := by decide +kernel
theorem dX7_goHour_144 : decode cX7_goHour 144 = .ok (.iastore, 1) := by decide +kernel
theorem dX7_goHour_145 : decode cX7_goHour 145 = .ok (.iinc 4 1, 3) := by decide +kernel
theorem dX7_goHour_148 : decode cX7_goHour 148 = .ok (.iinc 5 1, 3) := by decide +kernel
theorem dX7_goHour_151 : decode cX7_goHour 151 = .ok (.goto (-33), 3) := by decide +kernel
theorem dX7_goHour_154 : decode cX7_goHour 154 = .ok (.aload_n 0, 1) := by decide +kernel
theorem dX7_goHour_155 : decode cX7_goHour 155 = .ok (.getfield 46, 3) := by decide +kernel
theorem dX7_goHour_158 : decode cX7_goHour 158 = .ok (.iload_n 2, 1) := by decide +kernel
theorem dX7_goHour_159 : decode cX7_goHour 159 = .ok (.aload_n 0, 1) := by decide +kernel
theorem dX7_goHour_160 : decode cX7_goHour 160 = .ok (.iload 4, 2) := by decide +kernel
theorem dX7_goHour_162 : decode cX7_goHour 162 = .ok (.invokevirtual 217, 3) := by decide +kernel
theorem dX7_goHour_165 : decode cX7_goHour 165 = .ok (.iastore, 1) := by decide +kernel
theorem dX7_goHour_166 : decode cX7_goHour 166 = .ok (.aload_n 0, 1) := by decide +kernel
theorem dX7_goHour_167 : decode cX7_goHour 167 = .ok (.getfield 52, 3) := by decide +kernel
theorem dX7_goHour_170 : decode cX7_goHour 170 = .ok (.iload_n 2, 1) := by decide +kernel
theorem dX7_goHour_171 : decode cX7_goHour 171 = .ok (.dup2, 1) := by decide +kernel
theorem dX7_goHour_172 : decode cX7_goHour 172 = .ok (.iaload, 1) := by decide +kernel
theorem dX7_goHour_173 : decode cX7_goHour 173 = .ok (.iconst 1, 1) := by decide +kernel
theorem dX7_goHour_174 : decode cX7_goHour 174 = .ok (.iadd, 1) := by decide +kernel
theorem dX7_goHour_175 : decode cX7_goHour 175 = .ok (.iastore, 1) := by decide +kernel
theorem dX7_goHour_176 : decode cX7_goHour 176 = .ok (.iload_n 3, 1) := by decide +kernel
theorem dX7_goHour_177 : decode cX7_goHour 177 = .ok (.ireturn, 1) := by decide +kernel
theorem dX7_goDay_0 : decode cX7_goDay 0 = .ok (.iconst 0, 1) := by decide +kernel
theorem dX7_goDay_1 : decode cX7_goDay 1 = .ok (.istore_n 1, 1) := by decide +kernel
theorem dX7_goDay_2 : decode cX7_goDay 2 = .ok (.iload_n 1, 1) := by decide +kernel
theorem dX7_goDay_3 : decode cX7_goDay 3 = .ok (.aload_n 0, 1) := by decide +kernel
theorem dX7_goDay_4 : decode cX7_goDay 4 = .ok (.getfield 195, 3) := by decide +kernel
theorem dX7_goDay_7 : decode cX7_goDay 7 = .ok (.if_icmp .ge 24, 3) := by decide +kernel
theorem dX7_goDay_10 : decode cX7_goDay 10 = .ok (.aload_n 0, 1) := by decide +kernel
theorem dX7_goDay_11 : decode cX7_goDay 11 = .ok (.getfield 43, 3) := by decide +kernel
theorem dX7_goDay_14 : decode cX7_goDay 14 = .ok (.iload_n 1, 1) := by decide +kernel
theorem dX7_goDay_15 : decode cX7_goDay 15 = .ok (.ldc 101, 2) := by decide +kernel
theorem dX7_goDay_17 : decode cX7_goDay 17 = .ok (.iastore, 1) := by decide +kernel
theorem dX7_goDay_18 : decode cX7_goDay 18 = .ok (.aload_n 0, 1) := by decide +kernel
theorem dX7_goDay_19 : decode cX7_goDay 19 = .ok (.getfield 46, 3) := by decide +kernel
theorem dX7_goDay_22 : decode cX7_goDay 22 = .ok (.iload_n 1, 1) := by decide +kernel
theorem dX7_goDay_23 : decode cX7_goDay 23 = .ok (.iconst 0, 1) := by decide +kernel
theorem dX7_goDay_24 : decode cX7_goDay 24 = .ok (.iastore, 1) := by decide +kernel
theorem dX7_goDay_25 : decode cX7_goDay 25 = .ok (.iinc 1 1, 3) := by decide +kernel
theorem dX7_goDay_28 : decode cX7_goDay 28 = .ok (.goto (-26), 3) := by decide +kernel
theorem dX7_goDay_31 : decode cX7_goDay 31 = .ok (.iconst 0, 1) := by decide +kernel
theorem dX7_goDay_32 : decode cX7_goDay 32 = .ok (.istore_n 1, 1) := by decide +kernel
theorem dX7_goDay_33 : decode cX7_goDay 33 = .ok (.iload_n 1, 1) := by decide +kernel
theorem dX7_goDay_34 : decode cX7_goDay 34 = .ok (.bipush 11, 2) := by decide +kernel
theorem dX7_goDay_36 : decode cX7_goDay 36 = .ok (.if_icmp .gt 15, 3) := by decide +kernel
theorem dX7_goDay_39 : decode cX7_goDay 39 = .ok (.aload_n 0, 1) := by decide +kernel
theorem dX7_goDay_40 : decode cX7_goDay 40 = .ok (.iload_n 1, 1) := by decide +kernel
theorem dX7_goDay_41 : decode cX7_goDay 41 = .ok (.invokevirtual 220, 3) := by decide +kernel
theorem dX7_goDay_44 : decode cX7_goDay 44 = .ok (.istore_n 2, 1) := by decide +kernel
theorem dX7_goDay_45 : decode cX7_goDay 45 = .ok (.iinc 1 1, 3) := by decide +kernel
theorem dX7_goDay_48 : decode cX7_goDay 48 = .ok (.goto (-15), 3) := by decide +kernel
theorem dX7_goDay_51 : decode cX7_goDay 51 = .ok (.return_, 1) := by decide +kernel
theorem dX7_costOf_0 : decode cX7_costOf 0 = .ok (.aload_n 0, 1) := by decide +kernel
theorem dX7_costOf_1 : decode cX7_costOf 1 = .ok (.getfield 37, 3) := by decide +kernel
theorem dX7_costOf_4 : decode cX7_costOf 4 = .ok (.iload_n 1, 1) := by decide +kernel
theorem dX7_costOf_5 : decode cX7_costOf 5 = .ok (.iaload, 1) := by decide +kernel
theorem dX7_costOf_6 : decode cX7_costOf 6 = .ok (.aload_n 0, 1) := by decide +kernel
theorem dX7_costOf_7 : decode cX7_costOf 7 = .ok (.getfield 43, 3) := by decide +kernel
theorem dX7_costOf_10 : decode cX7_costOf 10 = .ok (.iload_n 1, 1) := by decide +kernel
theorem dX7_costOf_11 : decode cX7_costOf 11 = .ok (.iaload, 1) := by decide +kernel
theorem dX7_costOf_12 : decode cX7_costOf 12 = .ok (.aload_n 0, 1) := by decide +kernel
theorem dX7_costOf_13 : decode cX7_costOf 13 = .ok (.getfield 34, 3) := by decide +kernel
theorem dX7_costOf_16 : decode cX7_costOf 16 = .ok (.iload_n 1, 1) := by decide +kernel
theorem dX7_costOf_17 : decode cX7_costOf 17 = .ok (.iaload, 1) := by decide +kernel
theorem dX7_costOf_18 : decode cX7_costOf 18 = .ok (.isub, 1) := by decide +kernel
theorem dX7_costOf_19 : decode cX7_costOf 19 = .ok (.imul, 1) := by decide +kernel
theorem dX7_costOf_20 : decode cX7_costOf 20 = .ok (.aload_n 0, 1) := by decide +kernel
theorem dX7_costOf_21 : decode cX7_costOf 21 = .ok (.getfield 46, 3) := by decide +kernel
theorem dX7_costOf_24 : decode cX7_costOf 24 = .ok (.iload_n 1, 1) := by decide +kernel
theorem dX7_costOf_25 : decode cX7_costOf 25 = .ok (.iaload, 1) := by decide +kernel
theorem dX7_costOf_26 : decode cX7_costOf 26 = .ok (.iadd, 1) := by decide +kernel
theorem dX7_costOf_27 : decode cX7_costOf 27 = .ok (.ireturn, 1) := by decide +kernel
theorem dX7_keep_0 : decode cX7_keep 0 = .ok (.aload_n 0, 1) := by decide +kernel
theorem dX7_keep_1 : decode cX7_keep 1 = .ok (.getfield 190, 3) := by decide +kernel
theorem dX7_keep_4 : decode cX7_keep 4 = .ok (.bipush 24, 2) := by decide +kernel
theorem dX7_keep_6 : decode cX7_keep 6 = .ok (.if_icmp .ne 43, 3) := by decide +kernel
theorem dX7_keep_9 : decode cX7_keep 9 = .ok (.iconst 0, 1) := by decide +kernel
theorem dX7_keep_10 : decode cX7_keep 10 = .ok (.istore_n 1, 1) := by decide +kernel
theorem dX7_keep_11 : decode cX7_keep 11 = .ok (.iload_n 1, 1) := by decide +kernel
theorem dX7_keep_12 : decode cX7_keep 12 = .ok (.sipush 1012, 3) := by decide +kernel
theorem dX7_keep_15 : decode cX7_keep 15 = .ok (.if_icmp .ge 24, 3) := by decide +kernel
theorem dX7_keep_18 : decode cX7_keep 18 = .ok (.aload_n 0, 1) := by decide +kernel
theorem dX7_keep_19 : decode cX7_keep 19 = .ok (.getfield 25, 3) := by decide +kernel
theorem dX7_keep_22 : decode cX7_keep 22 = .ok (.iload_n 1, 1) := by decide +kernel
theorem dX7_keep_23 : decode cX7_keep 23 = .ok (.aload_n 0, 1) := by decide +kernel
theorem dX7_keep_24 : decode cX7_keep 24 = .ok (.getfield 25, 3) := by decide +kernel
theorem dX7_keep_27 : decode cX7_keep 27 = .ok (.iload_n 1, 1) := by decide +kernel
theorem dX7_keep_28 : decode cX7_keep 28 = .ok (.bipush 44, 2) := by decide +kernel
theorem dX7_keep_30 : decode cX7_keep 30 = .ok (.iadd, 1) := by decide +kernel
theorem dX7_keep_31 : decode cX7_keep 31 = .ok (.iaload, 1) := by decide +kernel
theorem dX7_keep_32 : decode cX7_keep 32 = .ok (.iastore, 1) := by decide +kernel
theorem dX7_keep_33 : decode cX7_keep 33 = .ok (.iinc 1 1, 3) := by decide +kernel
theorem dX7_keep_36 : decode cX7_keep 36 = .ok (.goto (-25), 3) := by decide +kernel
theorem dX7_keep_39 : decode cX7_keep 39 = .ok (.aload_n 0, 1) := by decide +kernel
theorem dX7_keep_40 : decode cX7_keep 40 = .ok (.dup, 1) := by decide +kernel
theorem dX7_keep_41 : decode cX7_keep 41 = .ok (.getfield 190, 3) := by decide +kernel
theorem dX7_keep_44 : decode cX7_keep 44 = .ok (.iconst 1, 1) := by decide +kernel
theorem dX7_keep_45 : decode cX7_keep 45 = .ok (.isub, 1) := by decide +kernel
theorem dX7_keep_46 : decode cX7_keep 46 = .ok (.putfield 190, 3) := by decide +kernel
theorem dX7_keep_49 : decode cX7_keep 49 = .ok (.iconst 0, 1) := by decide +kernel
theorem dX7_keep_50 : decode cX7_keep 50 = .ok (.istore_n 1, 1) := by decide +kernel
theorem dX7_keep_51 : decode cX7_keep 51 = .ok (.iload_n 1, 1) := by decide +kernel
theorem dX7_keep_52 : decode cX7_keep 52 = .ok (.bipush 44, 2) := by decide +kernel
theorem dX7_keep_54 : decode cX7_keep 54 = .ok (.if_icmp .ge 29, 3) := by decide +kernel
theorem dX7_keep_57 : decode cX7_keep 57 = .ok (.aload_n 0, 1) := by decide +kernel
theorem dX7_keep_58 : decode cX7_keep 58 = .ok (.getfield 25, 3) := by decide +kernel
theorem dX7_keep_61 : decode cX7_keep 61 = .ok (.bipush 44, 2) := by decide +kernel
theorem dX7_keep_63 : decode cX7_keep 63 = .ok (.aload_n 0, 1) := by decide +kernel
theorem dX7_keep_64 : decode cX7_keep 64 = .ok (.getfield 190, 3) := by decide +kernel
theorem dX7_keep_67 : decode cX7_keep 67 = .ok (.imul, 1) := by decide +kernel
theorem dX7_keep_68 : decode cX7_keep 68 = .ok (.iload_n 1, 1) := by decide +kernel
theorem dX7_keep_69 : decode cX7_keep 69 = .ok (.iadd, 1) := by decide +kernel
theorem dX7_keep_70 : decode cX7_keep 70 = .ok (.aload_n 0, 1) := by decide +kernel
theorem dX7_keep_71 : decode cX7_keep 71 = .ok (.getfield 19, 3) := by decide +kernel
theorem dX7_keep_74 : decode cX7_keep 74 = .ok (.iload_n 1, 1) := by decide +kernel
theorem dX7_keep_75 : decode cX7_keep 75 = .ok (.iaload, 1) := by decide +kernel
theorem dX7_keep_76 : decode cX7_keep 76 = .ok (.iastore, 1) := by decide +kernel
theorem dX7_keep_77 : decode cX7_keep 77 = .ok (.iinc 1 1, 3) := by decide +kernel
theorem dX7_keep_80 : decode cX7_keep 80 = .ok (.goto (-29), 3) := by decide +kernel
theorem dX7_keep_83 : decode cX7_keep 83 = .ok (.aload_n 0, 1) := by decide +kernel
theorem dX7_keep_84 : decode cX7_keep 84 = .ok (.dup, 1) := by decide +kernel
theorem dX7_keep_85 : decode cX7_keep 85 = .ok (.getfield 190, 3) := by decide +kernel
theorem dX7_keep_88 : decode cX7_keep 88 = .ok (.iconst 1, 1) := by decide +kernel
theorem dX7_keep_89 : decode cX7_keep 89 = .ok (.iadd, 1) := by decide +kernel
theorem dX7_keep_90 : decode cX7_keep 90 = .ok (.putfield 190, 3) := by decide +kernel
theorem dX7_keep_93 : decode cX7_keep 93 = .ok (.return_, 1) := by decide +kernel
theorem dX7_hour_0 : decode cX7_hour 0 = .ok (.aload_n 0, 1) := by decide +kernel
theorem dX7_hour_1 : decode cX7_hour 1 = .ok (.iconst 0, 1) := by decide +kernel
theorem dX7_hour_2 : decode cX7_hour 2 = .ok (.putfield 65, 3) := by decide +kernel
theorem dX7_hour_5 : decode cX7_hour 5 = .ok (.aload_n 0, 1) := by decide +kernel
theorem dX7_hour_6 : decode cX7_hour 6 = .ok (.getfield 186, 3) := by decide +kernel
theorem dX7_hour_9 : decode cX7_hour 9 = .ok (.ifCond .ne 6, 3) := by decide +kernel
theorem dX7_hour_12 : decode cX7_hour 12 = .ok (.ldc 223, 2) := by decide +kernel
theorem dX7_hour_14 : decode cX7_hour 14 = .ok (.ireturn, 1) := by decide +kernel
theorem dX7_hour_15 : decode cX7_hour 15 = .ok (.aload_n 0, 1) := by decide +kernel
theorem dX7_hour_16 : decode cX7_hour 16 = .ok (.getfield 19, 3) := by decide +kernel
theorem dX7_hour_19 : decode cX7_hour 19 = .ok (.iconst 1, 1) := by decide +kernel
theorem dX7_hour_20 : decode cX7_hour 20 = .ok (.iaload, 1) := by decide +kernel
theorem dX7_hour_21 : decode cX7_hour 21 = .ok (.bipush 11, 2) := by decide +kernel
theorem dX7_hour_23 : decode cX7_hour 23 = .ok (.if_icmp .le 6, 3) := by decide +kernel
theorem dX7_hour_26 : decode cX7_hour 26 = .ok (.ldc 95, 2) := by decide +kernel
theorem dX7_hour_28 : decode cX7_hour 28 = .ok (.ireturn, 1) := by decide +kernel
theorem dX7_hour_29 : decode cX7_hour 29 = .ok (.aload_n 0, 1) := by decide +kernel
theorem dX7_hour_30 : decode cX7_hour 30 = .ok (.invokevirtual 224, 3) := by decide +kernel
theorem dX7_hour_33 : decode cX7_hour 33 = .ok (.aload_n 0, 1) := by decide +kernel
theorem dX7_hour_34 : decode cX7_hour 34 = .ok (.invokevirtual 227, 3) := by decide +kernel
theorem dX7_hour_37 : decode cX7_hour 37 = .ok (.aload_n 0, 1) := by decide +kernel
theorem dX7_hour_38 : decode cX7_hour 38 = .ok (.aload_n 0, 1) := by decide +kernel
theorem dX7_hour_39 : decode cX7_hour 39 = .ok (.getfield 19, 3) := by decide +kernel
theorem dX7_hour_42 : decode cX7_hour 42 = .ok (.iconst 1, 1) := by decide +kernel
theorem dX7_hour_43 : decode cX7_hour 43 = .ok (.iaload, 1) := by decide +kernel
theorem dX7_hour_44 : decode cX7_hour 44 = .ok (.invokevirtual 220, 3) := by decide +kernel
theorem dX7_hour_47 : decode cX7_hour 47 = .ok (.istore_n 1, 1) := by decide +kernel
theorem dX7_hour_48 : decode cX7_hour 48 = .ok (.iconst 0, 1) := by decide +kernel
theorem dX7_hour_49 : decode cX7_hour 49 = .ok (.istore_n 2, 1) := by decide +kernel
theorem dX7_hour_50 : decode cX7_hour 50 = .ok (.iload_n 2, 1) := by decide +kernel
theorem dX7_hour_51 : decode cX7_hour 51 = .ok (.aload_n 0, 1) := by decide +kernel
theorem dX7_hour_52 : decode cX7_hour 52 = .ok (.getfield 19, 3) := by decide +kernel
theorem dX7_hour_55 : decode cX7_hour 55 = .ok (.iconst 0, 1) := by decide +kernel
theorem dX7_hour_56 : decode cX7_hour 56 = .ok (.iaload, 1) := by decide +kernel
theorem dX7_hour_57 : decode cX7_hour 57 = .ok (.if_icmp .ge 49, 3) := by decide +kernel
theorem dX7_hour_60 : decode cX7_hour 60 = .ok (.aload_n 0, 1) := by decide +kernel
theorem dX7_hour_61 : decode cX7_hour 61 = .ok (.getfield 19, 3) := by decide +kernel
theorem dX7_hour_64 : decode cX7_hour 64 = .ok (.bipush 8, 2) := by decide +kernel
theorem dX7_hour_66 : decode cX7_hour 66 = .ok (.bipush 6, 2) := by decide +kernel
theorem dX7_hour_68 : decode cX7_hour 68 = .ok (.iload_n 2, 1) := by decide +kernel
theorem dX7_hour_69 : decode cX7_hour 69 = .ok (.imul, 1) := by decide +kernel
theorem dX7_hour_70 : decode cX7_hour 70 = .ok (.iadd, 1) := by decide +kernel
theorem dX7_hour_71 : decode cX7_hour 71 = .ok (.iconst 4, 1) := by decide +kernel
theorem dX7_hour_72 : decode cX7_hour 72 = .ok (.iadd, 1) := by decide +kernel
theorem dX7_hour_73 : decode cX7_hour 73 = .ok (.aload_n 0, 1) := by decide +kernel
theorem dX7_hour_74 : decode cX7_hour 74 = .ok (.getfield 43, 3) := by decide +kernel
theorem dX7_hour_77 : decode cX7_hour 77 = .ok (.iload_n 2, 1) := by decide +kernel
theorem dX7_hour_78 : decode cX7_hour 78 = .ok (.iaload, 1) := by decide +kernel
theorem dX7_hour_79 : decode cX7_hour 79 = .ok (.iastore, 1) := by decide +kernel
theorem dX7_hour_80 : decode cX7_hour 80 = .ok (.aload_n 0, 1) := by decide +kernel
theorem dX7_hour_81 : decode cX7_hour 81 = .ok (.getfield 19, 3) := by decide +kernel
theorem dX7_hour_84 : decode cX7_hour 84 = .ok (.bipush 8, 2) := by decide +kernel
theorem dX7_hour_86 : decode cX7_hour 86 = .ok (.bipush 6, 2) := by decide +kernel
theorem dX7_hour_88 : decode cX7_hour 88 = .ok (.iload_n 2, 1) := by decide +kernel
theorem dX7_hour_89 : decode cX7_hour 89 = .ok (.imul, 1) := by decide +kernel
theorem dX7_hour_90 : decode cX7_hour 90 = .ok (.iadd, 1) := by decide +kernel
theorem dX7_hour_91 : decode cX7_hour 91 = .ok (.iconst 5, 1) := by decide +kernel
theorem dX7_hour_92 : decode cX7_hour 92 = .ok (.iadd, 1) := by decide +kernel
theorem dX7_hour_93 : decode cX7_hour 93 = .ok (.aload_n 0, 1) := by decide +kernel
theorem dX7_hour_94 : decode cX7_hour 94 = .ok (.getfield 46, 3) := by decide +kernel
theorem dX7_hour_97 : decode cX7_hour 97 = .ok (.iload_n 2, 1) := by decide +kernel
theorem dX7_hour_98 : decode cX7_hour 98 = .ok (.iaload, 1) := by decide +kernel
theorem dX7_hour_99 : decode cX7_hour 99 = .ok (.iastore, 1) := by decide +kernel
theorem dX7_hour_100 : decode cX7_hour 100 = .ok (.iinc 2 1, 3) := by decide +kernel
theorem dX7_hour_103 : decode cX7_hour 103 = .ok (.goto (-53), 3) := by decide +kernel
theorem dX7_hour_106 : decode cX7_hour 106 = .ok (.aload_n 0, 1) := by decide +kernel
theorem dX7_hour_107 : decode cX7_hour 107 = .ok (.getfield 19, 3) := by decide +kernel
theorem dX7_hour_110 : decode cX7_hour 110 = .ok (.iconst 1, 1) := by decide +kernel
theorem dX7_hour_111 : decode cX7_hour 111 = .ok (.dup2, 1) := by decide +kernel
theorem dX7_hour_112 : decode cX7_hour 112 = .ok (.iaload, 1) := by decide +kernel
theorem dX7_hour_113 : decode cX7_hour 113 = .ok (.iconst 1, 1) := by decide +kernel
theorem dX7_hour_114 : decode cX7_hour 114 = .ok (.iadd, 1) := by decide +kernel
theorem dX7_hour_115 : decode cX7_hour 115 = .ok (.iastore, 1) := by decide +kernel
theorem dX7_hour_116 : decode cX7_hour 116 = .ok (.iload_n 1, 1) := by decide +kernel
theorem dX7_hour_117 : decode cX7_hour 117 = .ok (.ireturn, 1) := by decide +kernel
theorem dX7_waits_0 : decode cX7_waits 0 = .ok (.aload_n 0, 1) := by decide +kernel
theorem dX7_waits_1 : decode cX7_waits 1 = .ok (.iconst 0, 1) := by decide +kernel
theorem dX7_waits_2 : decode cX7_waits 2 = .ok (.putfield 65, 3) := by decide +kernel
theorem dX7_waits_5 : decode cX7_waits 5 = .ok (.aload_n 0, 1) := by decide +kernel
theorem dX7_waits_6 : decode cX7_waits 6 = .ok (.iload_n 1, 1) := by decide +kernel
theorem dX7_waits_7 : decode cX7_waits 7 = .ok (.invokevirtual 230, 3) := by decide +kernel
theorem dX7_waits_10 : decode cX7_waits 10 = .ok (.ifCond .eq 15, 3) := by decide +kernel
theorem dX7_waits_13 : decode cX7_waits 13 = .ok (.iload_n 2, 1) := by decide +kernel
theorem dX7_waits_14 : decode cX7_waits 14 = .ok (.i2l, 1) := by decide +kernel
theorem dX7_waits_15 : decode cX7_waits 15 = .ok (.lconst 0, 1) := by decide +kernel
theorem dX7_waits_16 : decode cX7_waits 16 = .ok (.ldc2_w 193, 3) := by decide +kernel
theorem dX7_waits_19 : decode cX7_waits 19 = .ok (.invokestatic 75, 3) := by decide +kernel
theorem dX7_waits_22 : decode cX7_waits 22 = .ok (.ifCond .ne 6, 3) := by decide +kernel
theorem dX7_waits_25 : decode cX7_waits 25 = .ok (.ldc 85, 2) := by decide +kernel
theorem dX7_waits_27 : decode cX7_waits 27 = .ok (.ireturn, 1) := by decide +kernel
theorem dX7_waits_28 : decode cX7_waits 28 = .ok (.aload_n 0, 1) := by decide +kernel
theorem dX7_waits_29 : decode cX7_waits 29 = .ok (.iload_n 1, 1) := by decide +kernel
theorem dX7_waits_30 : decode cX7_waits 30 = .ok (.iconst 4, 1) := by decide +kernel
theorem dX7_waits_31 : decode cX7_waits 31 = .ok (.invokevirtual 201, 3) := by decide +kernel
theorem dX7_waits_34 : decode cX7_waits 34 = .ok (.ldc 101, 2) := by decide +kernel
theorem dX7_waits_36 : decode cX7_waits 36 = .ok (.if_icmp .eq 6, 3) := by decide +kernel
theorem dX7_waits_39 : decode cX7_waits 39 = .ok (.ldc 223, 2) := by decide +kernel
theorem dX7_waits_41 : decode cX7_waits 41 = .ok (.ireturn, 1) := by decide +kernel
theorem dX7_waits_42 : decode cX7_waits 42 = .ok (.aload_n 0, 1) := by decide +kernel
theorem dX7_waits_43 : decode cX7_waits 43 = .ok (.invokevirtual 224, 3) := by decide +kernel
theorem dX7_waits_46 : decode cX7_waits 46 = .ok (.aload_n 0, 1) := by decide +kernel
theorem dX7_waits_47 : decode cX7_waits 47 = .ok (.iload_n 1, 1) := by decide +kernel
theorem dX7_waits_48 : decode cX7_waits 48 = .ok (.iconst 3, 1) := by decide +kernel
theorem dX7_waits_49 : decode cX7_waits 49 = .ok (.invokevirtual 201, 3) := by decide +kernel
theorem dX7_waits_52 : decode cX7_waits 52 = .ok (.istore_n 3, 1) := by decide +kernel
theorem dX7_waits_53 : decode cX7_waits 53 = .ok (.aload_n 0, 1) := by decide +kernel
theorem dX7_waits_54 : decode cX7_waits 54 = .ok (.getfield 19, 3) := by decide +kernel
theorem dX7_waits_57 : decode cX7_waits 57 = .ok (.bipush 8, 2) := by decide +kernel
theorem dX7_waits_59 : decode cX7_waits 59 = .ok (.bipush 6, 2) := by decide +kernel
theorem dX7_waits_61 : decode cX7_waits 61 = .ok (.iload_n 1, 1) := by decide +kernel
theorem dX7_waits_62 : decode cX7_waits 62 = .ok (.imul, 1) := by decide +kernel
theorem dX7_waits_63 : decode cX7_waits 63 = .ok (.iadd, 1) := by decide +kernel
theorem dX7_waits_64 : decode cX7_waits 64 = .ok (.iconst 3, 1) := by decide +kernel
theorem dX7_waits_65 : decode cX7_waits 65 = .ok (.iadd, 1) := by decide +kernel
theorem dX7_waits_66 : decode cX7_waits 66 = .ok (.iload_n 2, 1) := by decide +kernel
theorem dX7_waits_67 : decode cX7_waits 67 = .ok (.iastore, 1) := by decide +kernel
theorem dX7_waits_68 : decode cX7_waits 68 = .ok (.iload_n 3, 1) := by decide +kernel
theorem dX7_waits_69 : decode cX7_waits 69 = .ok (.ireturn, 1) := by decide +kernel
theorem dX7_undo_0 : decode cX7_undo 0 = .ok (.aload_n 0, 1) := by decide +kernel
theorem dX7_undo_1 : decode cX7_undo 1 = .ok (.iconst 0, 1) := by decide +kernel
theorem dX7_undo_2 : decode cX7_undo 2 = .ok (.putfield 65, 3) := by decide +kernel
theorem dX7_undo_5 : decode cX7_undo 5 = .ok (.aload_n 0, 1) := by decide +kernel
theorem dX7_undo_6 : decode cX7_undo 6 = .ok (.getfield 190, 3) := by decide +kernel
theorem dX7_undo_9 : decode cX7_undo 9 = .ok (.ifCond .ne 6, 3) := by decide +kernel
theorem dX7_undo_12 : decode cX7_undo 12 = .ok (.ldc 223, 2) := by decide +kernel
theorem dX7_undo_14 : decode cX7_undo 14 = .ok (.ireturn, 1) := by decide +kernel
theorem dX7_undo_15 : decode cX7_undo 15 = .ok (.aload_n 0, 1) := by decide +kernel
theorem dX7_undo_16 : decode cX7_undo 16 = .ok (.dup, 1) := by decide +kernel
theorem dX7_undo_17 : decode cX7_undo 17 = .ok (.getfield 190, 3) := by decide +kernel
theorem dX7_undo_20 : decode cX7_undo 20 = .ok (.iconst 1, 1) := by decide +kernel
theorem dX7_undo_21 : decode cX7_undo 21 = .ok (.isub, 1) := by decide +kernel
theorem dX7_undo_22 : decode cX7_undo 22 = .ok (.putfield 190, 3) := by decide +kernel
theorem dX7_undo_25 : decode cX7_undo 25 = .ok (.iconst 0, 1) := by decide +kernel
theorem dX7_undo_26 : decode cX7_undo 26 = .ok (.istore_n 1, 1) := by decide +kernel
theorem dX7_undo_27 : decode cX7_undo 27 = .ok (.iload_n 1, 1) := by decide +kernel
theorem dX7_undo_28 : decode cX7_undo 28 = .ok (.bipush 44, 2) := by decide +kernel
theorem dX7_undo_30 : decode cX7_undo 30 = .ok (.if_icmp .ge 29, 3) := by decide +kernel
theorem dX7_undo_33 : decode cX7_undo 33 = .ok (.aload_n 0, 1) := by decide +kernel
theorem dX7_undo_34 : decode cX7_undo 34 = .ok (.getfield 19, 3) := by decide +kernel
theorem dX7_undo_37 : decode cX7_undo 37 = .ok (.iload_n 1, 1) := by decide +kernel
theorem dX7_undo_38 : decode cX7_undo 38 = .ok (.aload_n 0, 1) := by decide +kernel
theorem dX7_undo_39 : decode cX7_undo 39 = .ok (.getfield 25, 3) := by decide +kernel
theorem dX7_undo_42 : decode cX7_undo 42 = .ok (.bipush 44, 2) := by decide +kernel
theorem dX7_undo_44 : decode cX7_undo 44 = .ok (.aload_n 0, 1) := by decide +kernel
theorem dX7_undo_45 : decode cX7_undo 45 = .ok (.getfield 190, 3) := by decide +kernel
theorem dX7_undo_48 : decode cX7_undo 48 = .ok (.imul, 1) := by decide +kernel
theorem dX7_undo_49 : decode cX7_undo 49 = .ok (.iload_n 1, 1) := by decide +kernel
theorem dX7_undo_50 : decode cX7_undo 50 = .ok (.iadd, 1) := by decide +kernel
theorem dX7_undo_51 : decode cX7_undo 51 = .ok (.iaload, 1) := by decide +kernel
theorem dX7_undo_52 : decode cX7_undo 52 = .ok (.iastore, 1) := by decide +kernel
theorem dX7_undo_53 : decode cX7_undo 53 = .ok (.iinc 1 1, 3) := by decide +kernel
theorem dX7_undo_56 : decode cX7_undo 56 = .ok (.goto (-29), 3) := by decide +kernel
theorem dX7_undo_59 : decode cX7_undo 59 = .ok (.aload_n 0, 1) := by decide +kernel
theorem dX7_undo_60 : decode cX7_undo 60 = .ok (.getfield 190, 3) := by decide +kernel
theorem dX7_undo_63 : decode cX7_undo 63 = .ok (.ireturn, 1) := by decide +kernel
theorem dX7_cart_0 : decode cX7_cart 0 = .ok (.aload_n 0, 1) := by decide +kernel
theorem dX7_cart_1 : decode cX7_cart 1 = .ok (.iconst 0, 1) := by decide +kernel
theorem dX7_cart_2 : decode cX7_cart 2 = .ok (.putfield 65, 3) := by decide +kernel
theorem dX7_cart_5 : decode cX7_cart 5 = .ok (.aload_n 0, 1) := by decide +kernel
theorem dX7_cart_6 : decode cX7_cart 6 = .ok (.iload_n 1, 1) := by decide +kernel
theorem dX7_cart_7 : decode cX7_cart 7 = .ok (.invokevirtual 230, 3) := by decide +kernel
theorem dX7_cart_10 : decode cX7_cart 10 = .ok (.ifCond .eq 15, 3) := by decide +kernel
theorem dX7_cart_13 : decode cX7_cart 13 = .ok (.iload_n 2, 1) := by decide +kernel
theorem dX7_cart_14 : decode cX7_cart 14 = .ok (.i2l, 1) := by decide +kernel
theorem dX7_cart_15 : decode cX7_cart 15 = .ok (.lconst 0, 1) := by decide +kernel
theorem dX7_cart_16 : decode cX7_cart 16 = .ok (.ldc2_w 233, 3) := by decide +kernel
theorem dX7_cart_19 : decode cX7_cart 19 = .ok (.invokestatic 75, 3) := by decide +kernel
theorem dX7_cart_22 : decode cX7_cart 22 = .ok (.ifCond .ne 6, 3) := by decide +kernel
theorem dX7_cart_25 : decode cX7_cart 25 = .ok (.ldc 85, 2) := by decide +kernel
theorem dX7_cart_27 : decode cX7_cart 27 = .ok (.ireturn, 1) := by decide +kernel
theorem dX7_cart_28 : decode cX7_cart 28 = .ok (.aload_n 0, 1) := by decide +kernel
theorem dX7_cart_29 : decode cX7_cart 29 = .ok (.invokevirtual 227, 3) := by decide +kernel
theorem dX7_cart_32 : decode cX7_cart 32 = .ok (.iload_n 2, 1) := by decide +kernel
theorem dX7_cart_33 : decode cX7_cart 33 = .ok (.iconst 5, 1) := by decide +kernel
theorem dX7_cart_34 : decode cX7_cart 34 = .ok (.if_icmp .ge 14, 3) := by decide +kernel
theorem dX7_cart_37 : decode cX7_cart 37 = .ok (.aload_n 0, 1) := by decide +kernel
theorem dX7_cart_38 : decode cX7_cart 38 = .ok (.iload_n 1, 1) := by decide +kernel
theorem dX7_cart_39 : decode cX7_cart 39 = .ok (.iconst 1, 1) := by decide +kernel
theorem dX7_cart_40 : decode cX7_cart 40 = .ok (.iload_n 2, 1) := by decide +kernel
theorem dX7_cart_41 : decode cX7_cart 41 = .ok (.iadd, 1) := by decide +kernel
theorem dX7_cart_42 : decode cX7_cart 42 = .ok (.invokevirtual 201, 3) := by decide +kernel
theorem dX7_cart_45 : decode cX7_cart 45 = .ok (.goto 24, 3) := by decide +kernel
theorem dX7_cart_48 : decode cX7_cart 48 = .ok (.aload_n 0, 1) := by decide +kernel
theorem dX7_cart_49 : decode cX7_cart 49 = .ok (.getfield 43, 3) := by decide +kernel
theorem dX7_cart_52 : decode cX7_cart 52 = .ok (.iload_n 1, 1) := by decide +kernel
theorem dX7_cart_53 : decode cX7_cart 53 = .ok (.iaload, 1) := by decide +kernel
theorem dX7_cart_54 : decode cX7_cart 54 = .ok (.ldc 101, 2) := by decide +kernel
theorem dX7_cart_56 : decode cX7_cart 56 = .ok (.if_icmp .ne 8, 3) := by decide +kernel
theorem dX7_cart_59 : decode cX7_cart 59 = .ok (.ldc 101, 2) := by decide +kernel
theorem dX7_cart_61 : decode cX7_cart 61 = .ok (.goto 8, 3) := by decide +kernel
theorem dX7_cart_64 : decode cX7_cart 64 = .ok (.aload_n 0, 1) := by decide +kernel
theorem dX7_cart_65 : decode cX7_cart 65 = .ok (.iload_n 1, 1) := by decide +kernel
theorem dX7_cart_66 : decode cX7_cart 66 = .ok (.invokevirtual 235, 3) := by decide +kernel
theorem dX7_cart_69 : decode cX7_cart 69 = .ok (.ireturn, 1) := by decide +kernel
theorem dX7_day_0 : decode cX7_day 0 = .ok (.aload_n 0, 1) := by decide +kernel
theorem dX7_day_1 : decode cX7_day 1 = .ok (.iconst 0, 1) := by decide +kernel
theorem dX7_day_2 : decode cX7_day 2 = .ok (.putfield 65, 3) := by decide +kernel
theorem dX7_day_5 : decode cX7_day 5 = .ok (.aload_n 0, 1) := by decide +kernel
theorem dX7_day_6 : decode cX7_day 6 = .ok (.iload_n 1, 1) := by decide +kernel
theorem dX7_day_7 : decode cX7_day 7 = .ok (.invokevirtual 230, 3) := by decide +kernel
theorem dX7_day_10 : decode cX7_day 10 = .ok (.ifCond .eq 15, 3) := by decide +kernel
theorem dX7_day_13 : decode cX7_day 13 = .ok (.iload_n 2, 1) := by decide +kernel
theorem dX7_day_14 : decode cX7_day 14 = .ok (.i2l, 1) := by decide +kernel
theorem dX7_day_15 : decode cX7_day 15 = .ok (.lconst 0, 1) := by decide +kernel
theorem dX7_day_16 : decode cX7_day 16 = .ok (.ldc2_w 83, 3) := by decide +kernel
theorem dX7_day_19 : decode cX7_day 19 = .ok (.invokestatic 75, 3) := by decide +kernel
theorem dX7_day_22 : decode cX7_day 22 = .ok (.ifCond .ne 6, 3) := by decide +kernel
theorem dX7_day_25 : decode cX7_day 25 = .ok (.ldc 85, 2) := by decide +kernel
theorem dX7_day_27 : decode cX7_day 27 = .ok (.ireturn, 1) := by decide +kernel
theorem dX7_day_28 : decode cX7_day 28 = .ok (.aload_n 0, 1) := by decide +kernel
theorem dX7_day_29 : decode cX7_day 29 = .ok (.invokevirtual 227, 3) := by decide +kernel
theorem dX7_day_32 : decode cX7_day 32 = .ok (.aload_n 0, 1) := by decide +kernel
theorem dX7_day_33 : decode cX7_day 33 = .ok (.invokevirtual 238, 3) := by decide +kernel
theorem dX7_day_36 : decode cX7_day 36 = .ok (.iload_n 2, 1) := by decide +kernel
theorem dX7_day_37 : decode cX7_day 37 = .ok (.ifCond .ne 12, 3) := by decide +kernel
theorem dX7_day_40 : decode cX7_day 40 = .ok (.aload_n 0, 1) := by decide +kernel
theorem dX7_day_41 : decode cX7_day 41 = .ok (.getfield 43, 3) := by decide +kernel
theorem dX7_day_44 : decode cX7_day 44 = .ok (.iload_n 1, 1) := by decide +kernel
theorem dX7_day_45 : decode cX7_day 45 = .ok (.iaload, 1) := by decide +kernel
theorem dX7_day_46 : decode cX7_day 46 = .ok (.goto 22, 3) := by decide +kernel
theorem dX7_day_49 : decode cX7_day 49 = .ok (.iload_n 2, 1) := by decide +kernel
theorem dX7_day_50 : decode cX7_day 50 = .ok (.iconst 1, 1) := by decide +kernel
theorem dX7_day_51 : decode cX7_day 51 = .ok (.if_icmp .ne 11, 3) := by decide +kernel
theorem dX7_day_54 : decode cX7_day 54 = .ok (.aload_n 0, 1) := by decide +kernel
theorem dX7_day_55 : decode cX7_day 55 = .ok (.iload_n 1, 1) := by decide +kernel
theorem dX7_day_56 : decode cX7_day 56 = .ok (.invokevirtual 235, 3) := by decide +kernel
theorem dX7_day_59 : decode cX7_day 59 = .ok (.goto 9, 3) := by decide +kernel
theorem dX7_day_62 : decode cX7_day 62 = .ok (.aload_n 0, 1) := by decide +kernel
theorem dX7_day_63 : decode cX7_day 63 = .ok (.getfield 46, 3) := by decide +kernel
theorem dX7_day_66 : decode cX7_day 66 = .ok (.iload_n 1, 1) := by decide +kernel
theorem dX7_day_67 : decode cX7_day 67 = .ok (.iaload, 1) := by decide +kernel
theorem dX7_day_68 : decode cX7_day 68 = .ok (.ireturn, 1) := by decide +kernel
theorem dX7_judge_0 : decode cX7_judge 0 = .ok (.aload_n 0, 1) := by decide +kernel
theorem dX7_judge_1 : decode cX7_judge 1 = .ok (.iconst 0, 1) := by decide +kernel
theorem dX7_judge_2 : decode cX7_judge 2 = .ok (.putfield 65, 3) := by decide +kernel
theorem dX7_judge_5 : decode cX7_judge 5 = .ok (.aload_n 0, 1) := by decide +kernel
theorem dX7_judge_6 : decode cX7_judge 6 = .ok (.getfield 186, 3) := by decide +kernel
theorem dX7_judge_9 : decode cX7_judge 9 = .ok (.ifCond .ne 6, 3) := by decide +kernel
theorem dX7_judge_12 : decode cX7_judge 12 = .ok (.ldc 223, 2) := by decide +kernel
theorem dX7_judge_14 : decode cX7_judge 14 = .ok (.ireturn, 1) := by decide +kernel
theorem dX7_judge_15 : decode cX7_judge 15 = .ok (.iload_n 1, 1) := by decide +kernel
theorem dX7_judge_16 : decode cX7_judge 16 = .ok (.invokestatic 79, 3) := by decide +kernel
theorem dX7_judge_19 : decode cX7_judge 19 = .ok (.ifCond .ne 6, 3) := by decide +kernel
theorem dX7_judge_22 : decode cX7_judge 22 = .ok (.ldc 85, 2) := by decide +kernel
theorem dX7_judge_24 : decode cX7_judge 24 = .ok (.ireturn, 1) := by decide +kernel
theorem dX7_judge_25 : decode cX7_judge 25 = .ok (.aload_n 0, 1) := by decide +kernel
theorem dX7_judge_26 : decode cX7_judge 26 = .ok (.getfield 7, 3) := by decide +kernel
theorem dX7_judge_29 : decode cX7_judge 29 = .ok (.iload_n 1, 1) := by decide +kernel
theorem dX7_judge_30 : decode cX7_judge 30 = .ok (.iaload, 1) := by decide +kernel
theorem dX7_judge_31 : decode cX7_judge 31 = .ok (.ifCond .ge 9, 3) := by decide +kernel
theorem dX7_judge_34 : decode cX7_judge 34 = .ok (.aload_n 0, 1) := by decide +kernel
theorem dX7_judge_35 : decode cX7_judge 35 = .ok (.iconst 1, 1) := by decide +kernel
theorem dX7_judge_36 : decode cX7_judge 36 = .ok (.invokevirtual 86, 3) := by decide +kernel
theorem dX7_judge_39 : decode cX7_judge 39 = .ok (.ireturn, 1) := by decide +kernel
theorem dX7_judge_40 : decode cX7_judge 40 = .ok (.iload_n 2, 1) := by decide +kernel
theorem dX7_judge_41 : decode cX7_judge 41 = .ok (.ifCond .lt 20, 3) := by decide +kernel
theorem dX7_judge_44 : decode cX7_judge 44 = .ok (.iload_n 2, 1) := by decide +kernel
theorem dX7_judge_45 : decode cX7_judge 45 = .ok (.i2l, 1) := by decide +kernel
theorem dX7_judge_46 : decode cX7_judge 46 = .ok (.ldc2_w 241, 3) := by decide +kernel
theorem dX7_judge_49 : decode cX7_judge 49 = .ok (.ladd, 1) := by decide +kernel
theorem dX7_judge_50 : decode cX7_judge 50 = .ok (.aload_n 0, 1) := by decide +kernel
theorem dX7_judge_51 : decode cX7_judge 51 = .ok (.getfield 13, 3) := by decide +kernel
theorem dX7_judge_54 : decode cX7_judge 54 = .ok (.iload_n 1, 1) := by decide +kernel
theorem dX7_judge_55 : decode cX7_judge 55 = .ok (.iaload, 1) := by decide +kernel
theorem dX7_judge_56 : decode cX7_judge 56 = .ok (.i2l, 1) := by decide +kernel
theorem dX7_judge_57 : decode cX7_judge 57 = .ok (.lcmp, 1) := by decide +kernel
theorem dX7_judge_58 : decode cX7_judge 58 = .ok (.ifCond .le 9, 3) := by decide +kernel
theorem dX7_judge_61 : decode cX7_judge 61 = .ok (.aload_n 0, 1) := by decide +kernel
theorem dX7_judge_62 : decode cX7_judge 62 = .ok (.iconst 2, 1) := by decide +kernel
theorem dX7_judge_63 : decode cX7_judge 63 = .ok (.invokevirtual 86, 3) := by decide +kernel
theorem dX7_judge_66 : decode cX7_judge 66 = .ok (.ireturn, 1) := by decide +kernel
theorem dX7_judge_67 : decode cX7_judge 67 = .ok (.iconst 0, 1) := by decide +kernel
theorem dX7_judge_68 : decode cX7_judge 68 = .ok (.istore_n 3, 1) := by decide +kernel
theorem dX7_judge_69 : decode cX7_judge 69 = .ok (.iload_n 3, 1) := by decide +kernel
theorem dX7_judge_70 : decode cX7_judge 70 = .ok (.bipush 11, 2) := by decide +kernel
theorem dX7_judge_72 : decode cX7_judge 72 = .ok (.if_icmp .gt 44, 3) := by decide +kernel
theorem dX7_judge_75 : decode cX7_judge 75 = .ok (.aload_n 0, 1) := by decide +kernel
theorem dX7_judge_76 : decode cX7_judge 76 = .ok (.getfield 16, 3) := by decide +kernel
theorem dX7_judge_79 : decode cX7_judge 79 = .ok (.bipush 40, 2) := by decide +kernel
theorem dX7_judge_81 : decode cX7_judge 81 = .ok (.iload_n 1, 1) := by decide +kernel
theorem dX7_judge_82 : decode cX7_judge 82 = .ok (.imul, 1) := by decide +kernel
theorem dX7_judge_83 : decode cX7_judge 83 = .ok (.iload_n 2, 1) := by decide +kernel
theorem dX7_judge_84 : decode cX7_judge 84 = .ok (.iadd, 1) := by decide +kernel
theorem dX7_judge_85 : decode cX7_judge 85 = .ok (.iload_n 3, 1) := by decide +kernel
theorem dX7_judge_86 : decode cX7_judge 86 = .ok (.iadd, 1) := by decide +kernel
theorem dX7_judge_87 : decode cX7_judge 87 = .ok (.iaload, 1) := by decide +kernel
theorem dX7_judge_88 : decode cX7_judge 88 = .ok (.i2l, 1) := by decide +kernel
theorem dX7_judge_89 : decode cX7_judge 89 = .ok (.ldc2_w 243, 3) := by decide +kernel
theorem dX7_judge_92 : decode cX7_judge 92 = .ok (.aload_n 0, 1) := by decide +kernel
theorem dX7_judge_93 : decode cX7_judge 93 = .ok (.getfield 19, 3) := by decide +kernel
theorem dX7_judge_96 : decode cX7_judge 96 = .ok (.iconst 0, 1) := by decide +kernel
theorem dX7_judge_97 : decode cX7_judge 97 = .ok (.iaload, 1) := by decide +kernel
theorem dX7_judge_98 : decode cX7_judge 98 = .ok (.iconst 1, 1) := by decide +kernel
theorem dX7_judge_99 : decode cX7_judge 99 = .ok (.isub, 1) := by decide +kernel
theorem dX7_judge_100 : decode cX7_judge 100 = .ok (.i2l, 1) := by decide +kernel
theorem dX7_judge_101 : decode cX7_judge 101 = .ok (.invokestatic 75, 3) := by decide +kernel
theorem dX7_judge_104 : decode cX7_judge 104 = .ok (.ifCond .ne 6, 3) := by decide +kernel
theorem dX7_judge_107 : decode cX7_judge 107 = .ok (.ldc 85, 2) := by decide +kernel
theorem dX7_judge_109 : decode cX7_judge 109 = .ok (.ireturn, 1) := by decide +kernel
theorem dX7_judge_110 : decode cX7_judge 110 = .ok (.iinc 3 1, 3) := by decide +kernel
theorem dX7_judge_113 : decode cX7_judge 113 = .ok (.goto (-44), 3) := by decide +kernel
theorem dX7_judge_116 : decode cX7_judge 116 = .ok (.aload_n 0, 1) := by decide +kernel
theorem dX7_judge_117 : decode cX7_judge 117 = .ok (.iconst 0, 1) := by decide +kernel
theorem dX7_judge_118 : decode cX7_judge 118 = .ok (.putfield 69, 3) := by decide +kernel
theorem dX7_judge_121 : decode cX7_judge 121 = .ok (.aload_n 0, 1) := by decide +kernel
theorem dX7_judge_122 : decode cX7_judge 122 = .ok (.invokevirtual 227, 3) := by decide +kernel
theorem dX7_judge_125 : decode cX7_judge 125 = .ok (.aload_n 0, 1) := by decide +kernel
theorem dX7_judge_126 : decode cX7_judge 126 = .ok (.invokevirtual 238, 3) := by decide +kernel
theorem dX7_judge_129 : decode cX7_judge 129 = .ok (.iconst 0, 1) := by decide +kernel
theorem dX7_judge_130 : decode cX7_judge 130 = .ok (.istore_n 3, 1) := by decide +kernel
theorem dX7_judge_131 : decode cX7_judge 131 = .ok (.iload_n 3, 1) := by decide +kernel
theorem dX7_judge_132 : decode cX7_judge 132 = .ok (.bipush 11, 2) := by decide +kernel
theorem dX7_judge_134 : decode cX7_judge 134 = .ok (.if_icmp .gt 56, 3) := by decide +kernel
theorem dX7_judge_137 : decode cX7_judge 137 = .ok (.aload_n 0, 1) := by decide +kernel
theorem dX7_judge_138 : decode cX7_judge 138 = .ok (.getfield 16, 3) := by decide +kernel
theorem dX7_judge_141 : decode cX7_judge 141 = .ok (.bipush 40, 2) := by decide +kernel
theorem dX7_judge_143 : decode cX7_judge 143 = .ok (.iload_n 1, 1) := by decide +kernel
theorem dX7_judge_144 : decode cX7_judge 144 = .ok (.imul, 1) := by decide +kernel
theorem dX7_judge_145 : decode cX7_judge 145 = .ok (.iload_n 2, 1) := by decide +kernel
theorem dX7_judge_146 : decode cX7_judge 146 = .ok (.iadd, 1) := by decide +kernel
theorem dX7_judge_147 : decode cX7_judge 147 = .ok (.iload_n 3, 1) := by decide +kernel
theorem dX7_judge_148 : decode cX7_judge 148 = .ok (.iadd, 1) := by decide +kernel
theorem dX7_judge_149 : decode cX7_judge 149 = .ok (.iaload, 1) := by decide +kernel
theorem dX7_judge_150 : decode cX7_judge 150 = .ok (.istore 4, 2) := by decide +kernel
theorem dX7_judge_152 : decode cX7_judge 152 = .ok (.iload 4, 2) := by decide +kernel
theorem dX7_judge_154 : decode cX7_judge 154 = .ok (.ifCond .ge 17, 3) := by decide +kernel
theorem dX7_judge_157 : decode cX7_judge 157 = .ok (.aload_n 0, 1) := by decide +kernel
theorem dX7_judge_158 : decode cX7_judge 158 = .ok (.getfield 49, 3) := by decide +kernel
theorem dX7_judge_161 : decode cX7_judge 161 = .ok (.iload_n 3, 1) := by decide +kernel
theorem dX7_judge_162 : decode cX7_judge 162 = .ok (.iaload, 1) := by decide +kernel
theorem dX7_judge_163 : decode cX7_judge 163 = .ok (.ldc 101, 2) := by decide +kernel
theorem dX7_judge_165 : decode cX7_judge 165 = .ok (.if_icmp .eq 19, 3) := by decide +kernel
theorem dX7_judge_168 : decode cX7_judge 168 = .ok (.goto 14, 3) := by decide +kernel
theorem dX7_judge_171 : decode cX7_judge 171 = .ok (.aload_n 0, 1) := by decide +kernel
theorem dX7_judge_172 : decode cX7_judge 172 = .ok (.getfield 49, 3) := by decide +kernel
theorem dX7_judge_175 : decode cX7_judge 175 = .ok (.iload_n 3, 1) := by decide +kernel
theorem dX7_judge_176 : decode cX7_judge 176 = .ok (.iaload, 1) := by decide +kernel
theorem dX7_judge_177 : decode cX7_judge 177 = .ok (.iload 4, 2) := by decide +kernel
theorem dX7_judge_179 : decode cX7_judge 179 = .ok (.if_icmp .eq 5, 3) := by decide +kernel
theorem dX7_judge_182 : decode cX7_judge 182 = .ok (.iload_n 3, 1) := by decide +kernel
theorem dX7_judge_183 : decode cX7_judge 183 = .ok (.ireturn, 1) := by decide +kernel
theorem dX7_judge_184 : decode cX7_judge 184 = .ok (.iinc 3 1, 3) := by decide +kernel
theorem dX7_judge_187 : decode cX7_judge 187 = .ok (.goto (-56), 3) := by decide +kernel
theorem dX7_judge_190 : decode cX7_judge 190 = .ok (.ldc 101, 2) := by decide +kernel
theorem dX7_judge_192 : decode cX7_judge 192 = .ok (.ireturn, 1) := by decide +kernel
theorem dX7_bestOf_0 : decode cX7_bestOf 0 = .ok (.aload_n 0, 1) := by decide +kernel
theorem dX7_bestOf_1 : decode cX7_bestOf 1 = .ok (.getfield 40, 3) := by decide +kernel
theorem dX7_bestOf_4 : decode cX7_bestOf 4 = .ok (.iload_n 1, 1) := by decide +kernel
theorem dX7_bestOf_5 : decode cX7_bestOf 5 = .ok (.iaload, 1) := by decide +kernel
theorem dX7_bestOf_6 : decode cX7_bestOf 6 = .ok (.istore_n 2, 1) := by decide +kernel
theorem dX7_bestOf_7 : decode cX7_bestOf 7 = .ok (.iconst 0, 1) := by decide +kernel
theorem dX7_bestOf_8 : decode cX7_bestOf 8 = .ok (.istore_n 3, 1) := by decide +kernel
theorem dX7_bestOf_9 : decode cX7_bestOf 9 = .ok (.iconst 0, 1) := by decide +kernel
theorem dX7_bestOf_10 : decode cX7_bestOf 10 = .ok (.istore 4, 2) := by decide +kernel
theorem dX7_bestOf_12 : decode cX7_bestOf 12 = .ok (.iload 4, 2) := by decide +kernel
theorem dX7_bestOf_14 : decode cX7_bestOf 14 = .ok (.bipush 11, 2) := by decide +kernel
theorem dX7_bestOf_16 : decode cX7_bestOf 16 = .ok (.if_icmp .gt 76, 3) := by decide +kernel
theorem dX7_bestOf_19 : decode cX7_bestOf 19 = .ok (.aload_n 0, 1) := by decide +kernel
theorem dX7_bestOf_20 : decode cX7_bestOf 20 = .ok (.getfield 40, 3) := by decide +kernel
theorem dX7_bestOf_23 : decode cX7_bestOf 23 = .ok (.iload_n 1, 1) := by decide +kernel
theorem dX7_bestOf_24 : decode cX7_bestOf 24 = .ok (.iload 4, 2) := by decide +kernel
theorem dX7_bestOf_26 : decode cX7_bestOf 26 = .ok (.iastore, 1) := by decide +kernel
theorem dX7_bestOf_27 : decode cX7_bestOf 27 = .ok (.aload_n 0, 1) := by decide +kernel
theorem dX7_bestOf_28 : decode cX7_bestOf 28 = .ok (.invokevirtual 238, 3) := by decide +kernel
theorem dX7_bestOf_31 : decode cX7_bestOf 31 = .ok (.aload_n 0, 1) := by decide +kernel
theorem dX7_bestOf_32 : decode cX7_bestOf 32 = .ok (.iload_n 1, 1) := by decide +kernel
theorem dX7_bestOf_33 : decode cX7_bestOf 33 = .ok (.invokevirtual 235, 3) := by decide +kernel
theorem dX7_bestOf_36 : decode cX7_bestOf 36 = .ok (.istore 5, 2) := by decide +kernel
theorem dX7_bestOf_38 : decode cX7_bestOf 38 = .ok (.iload 4, 2) := by decide +kernel
theorem dX7_bestOf_40 : decode cX7_bestOf 40 = .ok (.ifCond .eq 12, 3) := by decide +kernel
theorem dX7_bestOf_43 : decode cX7_bestOf 43 = .ok (.iload 5, 2) := by decide +kernel
theorem dX7_bestOf_45 : decode cX7_bestOf 45 = .ok (.aload_n 0, 1) := by decide +kernel
theorem dX7_bestOf_46 : decode cX7_bestOf 46 = .ok (.getfield 245, 3) := by decide +kernel
theorem dX7_bestOf_49 : decode cX7_bestOf 49 = .ok (.if_icmp .ge 8, 3) := by decide +kernel
theorem dX7_bestOf_52 : decode cX7_bestOf 52 = .ok (.iload 4, 2) := by decide +kernel
theorem dX7_bestOf_54 : decode cX7_bestOf 54 = .ok (.goto 4, 3) := by decide +kernel
theorem dX7_bestOf_57 : decode cX7_bestOf 57 = .ok (.iload_n 3, 1) := by decide +kernel
theorem dX7_bestOf_58 : decode cX7_bestOf 58 = .ok (.istore_n 3, 1) := by decide +kernel
theorem dX7_bestOf_59 : decode cX7_bestOf 59 = .ok (.aload_n 0, 1) := by decide +kernel
theorem dX7_bestOf_60 : decode cX7_bestOf 60 = .ok (.iload 4, 2) := by decide +kernel
theorem dX7_bestOf_62 : decode cX7_bestOf 62 = .ok (.ifCond .eq 12, 3) := by decide +kernel
theorem dX7_bestOf_65 : decode cX7_bestOf 65 = .ok (.iload 5, 2) := by decide +kernel
theorem dX7_bestOf_67 : decode cX7_bestOf 67 = .ok (.aload_n 0, 1) := by decide +kernel
theorem dX7_bestOf_68 : decode cX7_bestOf 68 = .ok (.getfield 245, 3) := by decide +kernel
theorem dX7_bestOf_71 : decode cX7_bestOf 71 = .ok (.if_icmp .ge 8, 3) := by decide +kernel
theorem dX7_bestOf_74 : decode cX7_bestOf 74 = .ok (.iload 5, 2) := by decide +kernel
theorem dX7_bestOf_76 : decode cX7_bestOf 76 = .ok (.goto 7, 3) := by decide +kernel
theorem dX7_bestOf_79 : decode cX7_bestOf 79 = .ok (.aload_n 0, 1) := by decide +kernel
theorem dX7_bestOf_80 : decode cX7_bestOf 80 = .ok (.getfield 245, 3) := by decide +kernel
theorem dX7_bestOf_83 : decode cX7_bestOf 83 = .ok (.putfield 245, 3) := by decide +kernel
theorem dX7_bestOf_86 : decode cX7_bestOf 86 = .ok (.iinc 4 1, 3) := by decide +kernel
theorem dX7_bestOf_89 : decode cX7_bestOf 89 = .ok (.goto (-77), 3) := by decide +kernel
theorem dX7_bestOf_92 : decode cX7_bestOf 92 = .ok (.aload_n 0, 1) := by decide +kernel
theorem dX7_bestOf_93 : decode cX7_bestOf 93 = .ok (.getfield 40, 3) := by decide +kernel
theorem dX7_bestOf_96 : decode cX7_bestOf 96 = .ok (.iload_n 1, 1) := by decide +kernel
theorem dX7_bestOf_97 : decode cX7_bestOf 97 = .ok (.iload_n 2, 1) := by decide +kernel
theorem dX7_bestOf_98 : decode cX7_bestOf 98 = .ok (.iastore, 1) := by decide +kernel
theorem dX7_bestOf_99 : decode cX7_bestOf 99 = .ok (.iload_n 3, 1) := by decide +kernel
theorem dX7_bestOf_100 : decode cX7_bestOf 100 = .ok (.ireturn, 1) := by decide +kernel
theorem dX7_best_0 : decode cX7_best 0 = .ok (.aload_n 0, 1) := by decide +kernel
theorem dX7_best_1 : decode cX7_best 1 = .ok (.iconst 0, 1) := by decide +kernel
theorem dX7_best_2 : decode cX7_best 2 = .ok (.putfield 65, 3) := by decide +kernel
theorem dX7_best_5 : decode cX7_best 5 = .ok (.aload_n 0, 1) := by decide +kernel
theorem dX7_best_6 : decode cX7_best 6 = .ok (.iload_n 1, 1) := by decide +kernel
theorem dX7_best_7 : decode cX7_best 7 = .ok (.invokevirtual 230, 3) := by decide +kernel
theorem dX7_best_10 : decode cX7_best 10 = .ok (.ifCond .eq 13, 3) := by decide +kernel
theorem dX7_best_13 : decode cX7_best 13 = .ok (.iload_n 2, 1) := by decide +kernel
theorem dX7_best_14 : decode cX7_best 14 = .ok (.i2l, 1) := by decide +kernel
theorem dX7_best_15 : decode cX7_best 15 = .ok (.lconst 0, 1) := by decide +kernel
theorem dX7_best_16 : decode cX7_best 16 = .ok (.lconst 1, 1) := by decide +kernel
theorem dX7_best_17 : decode cX7_best 17 = .ok (.invokestatic 75, 3) := by decide +kernel
theorem dX7_best_20 : decode cX7_best 20 = .ok (.ifCond .ne 6, 3) := by decide +kernel
theorem dX7_best_23 : decode cX7_best 23 = .ok (.ldc 85, 2) := by decide +kernel
theorem dX7_best_25 : decode cX7_best 25 = .ok (.ireturn, 1) := by decide +kernel
theorem dX7_best_26 : decode cX7_best 26 = .ok (.aload_n 0, 1) := by decide +kernel
theorem dX7_best_27 : decode cX7_best 27 = .ok (.invokevirtual 227, 3) := by decide +kernel
theorem dX7_best_30 : decode cX7_best 30 = .ok (.aload_n 0, 1) := by decide +kernel
theorem dX7_best_31 : decode cX7_best 31 = .ok (.iload_n 1, 1) := by decide +kernel
theorem dX7_best_32 : decode cX7_best 32 = .ok (.invokevirtual 248, 3) := by decide +kernel
theorem dX7_best_35 : decode cX7_best 35 = .ok (.istore_n 3, 1) := by decide +kernel
theorem dX7_best_36 : decode cX7_best 36 = .ok (.iload_n 2, 1) := by decide +kernel
theorem dX7_best_37 : decode cX7_best 37 = .ok (.ifCond .ne 7, 3) := by decide +kernel
theorem dX7_best_40 : decode cX7_best 40 = .ok (.iload_n 3, 1) := by decide +kernel
theorem dX7_best_41 : decode cX7_best 41 = .ok (.goto 7, 3) := by decide +kernel
theorem dX7_best_44 : decode cX7_best 44 = .ok (.aload_n 0, 1) := by decide +kernel
theorem dX7_best_45 : decode cX7_best 45 = .ok (.getfield 245, 3) := by decide +kernel
theorem dX7_best_48 : decode cX7_best 48 = .ok (.ireturn, 1) := by decide +kernel
theorem dX7_rest_0 : decode cX7_rest 0 = .ok (.aload_n 0, 1) := by decide +kernel
theorem dX7_rest_1 : decode cX7_rest 1 = .ok (.iconst 0, 1) := by decide +kernel
theorem dX7_rest_2 : decode cX7_rest 2 = .ok (.putfield 65, 3) := by decide +kernel
theorem dX7_rest_5 : decode cX7_rest 5 = .ok (.aload_n 0, 1) := by decide +kernel
theorem dX7_rest_6 : decode cX7_rest 6 = .ok (.getfield 186, 3) := by decide +kernel
theorem dX7_rest_9 : decode cX7_rest 9 = .ok (.ifCond .ne 6, 3) := by decide +kernel
theorem dX7_rest_12 : decode cX7_rest 12 = .ok (.ldc 223, 2) := by decide +kernel
theorem dX7_rest_14 : decode cX7_rest 14 = .ok (.ireturn, 1) := by decide +kernel
theorem dX7_rest_15 : decode cX7_rest 15 = .ok (.iload_n 1, 1) := by decide +kernel
theorem dX7_rest_16 : decode cX7_rest 16 = .ok (.i2l, 1) := by decide +kernel
theorem dX7_rest_17 : decode cX7_rest 17 = .ok (.ldc2_w 243, 3) := by decide +kernel
theorem dX7_rest_20 : decode cX7_rest 20 = .ok (.aload_n 0, 1) := by decide +kernel
theorem dX7_rest_21 : decode cX7_rest 21 = .ok (.getfield 19, 3) := by decide +kernel
theorem dX7_rest_24 : decode cX7_rest 24 = .ok (.iconst 0, 1) := by decide +kernel
theorem dX7_rest_25 : decode cX7_rest 25 = .ok (.iaload, 1) := by decide +kernel
theorem dX7_rest_26 : decode cX7_rest 26 = .ok (.iconst 1, 1) := by decide +kernel
theorem dX7_rest_27 : decode cX7_rest 27 = .ok (.isub, 1) := by decide +kernel
theorem dX7_rest_28 : decode cX7_rest 28 = .ok (.i2l, 1) := by decide +kernel
theorem dX7_rest_29 : decode cX7_rest 29 = .ok (.invokestatic 75, 3) := by decide +kernel
theorem dX7_rest_32 : decode cX7_rest 32 = .ok (.ifCond .ne 6, 3) := by decide +kernel
theorem dX7_rest_35 : decode cX7_rest 35 = .ok (.ldc 85, 2) := by decide +kernel
theorem dX7_rest_37 : decode cX7_rest 37 = .ok (.ireturn, 1) := by decide +kernel
theorem dX7_rest_38 : decode cX7_rest 38 = .ok (.aload_n 0, 1) := by decide +kernel
theorem dX7_rest_39 : decode cX7_rest 39 = .ok (.invokevirtual 227, 3) := by decide +kernel
theorem dX7_rest_42 : decode cX7_rest 42 = .ok (.ldc 101, 2) := by decide +kernel
theorem dX7_rest_44 : decode cX7_rest 44 = .ok (.istore_n 2, 1) := by decide +kernel
theorem dX7_rest_45 : decode cX7_rest 45 = .ok (.iconst 1, 1) := by decide +kernel
theorem dX7_rest_46 : decode cX7_rest 46 = .ok (.istore_n 3, 1) := by decide +kernel
theorem dX7_rest_47 : decode cX7_rest 47 = .ok (.iload_n 3, 1) := by decide +kernel
theorem dX7_rest_48 : decode cX7_rest 48 = .ok (.bipush 20, 2) := by decide +kernel
theorem dX7_rest_50 : decode cX7_rest 50 = .ok (.if_icmp .gt 89, 3) := by decide +kernel
theorem dX7_rest_53 : decode cX7_rest 53 = .ok (.iload_n 2, 1) := by decide +kernel
theorem dX7_rest_54 : decode cX7_rest 54 = .ok (.ldc 101, 2) := by decide +kernel
theorem dX7_rest_56 : decode cX7_rest 56 = .ok (.if_icmp .ne 83, 3) := by decide +kernel
theorem dX7_rest_59 : decode cX7_rest 59 = .ok (.iconst 1, 1) := by decide +kernel
theorem dX7_rest_60 : decode cX7_rest 60 = .ok (.istore 4, 2) := by decide +kernel
theorem dX7_rest_62 : decode cX7_rest 62 = .ok (.iconst 0, 1) := by decide +kernel
theorem dX7_rest_63 : decode cX7_rest 63 = .ok (.istore 5, 2) := by decide +kernel
theorem dX7_rest_65 : decode cX7_rest 65 = .ok (.iload 5, 2) := by decide +kernel
theorem dX7_rest_67 : decode cX7_rest 67 = .ok (.aload_n 0, 1) := by decide +kernel
theorem dX7_rest_68 : decode cX7_rest 68 = .ok (.getfield 195, 3) := by decide +kernel
theorem dX7_rest_71 : decode cX7_rest 71 = .ok (.if_icmp .ge 50, 3) := by decide +kernel
theorem dX7_rest_74 : decode cX7_rest 74 = .ok (.aload_n 0, 1) := by decide +kernel
theorem dX7_rest_75 : decode cX7_rest 75 = .ok (.iload 5, 2) := by decide +kernel
theorem dX7_rest_77 : decode cX7_rest 77 = .ok (.invokevirtual 248, 3) := by decide +kernel
theorem dX7_rest_80 : decode cX7_rest 80 = .ok (.istore 6, 2) := by decide +kernel
theorem dX7_rest_82 : decode cX7_rest 82 = .ok (.iload 4, 2) := by decide +kernel
theorem dX7_rest_84 : decode cX7_rest 84 = .ok (.ifCond .eq 19, 3) := by decide +kernel
theorem dX7_rest_87 : decode cX7_rest 87 = .ok (.iload 6, 2) := by decide +kernel
theorem dX7_rest_89 : decode cX7_rest 89 = .ok (.aload_n 0, 1) := by decide +kernel
theorem dX7_rest_90 : decode cX7_rest 90 = .ok (.getfield 40, 3) := by decide +kernel
theorem dX7_rest_93 : decode cX7_rest 93 = .ok (.iload 5, 2) := by decide +kernel
theorem dX7_rest_95 : decode cX7_rest 95 = .ok (.iaload, 1) := by decide +kernel
theorem dX7_rest_96 : decode cX7_rest 96 = .ok (.if_icmp .ne 7, 3) := by decide +kernel
theorem dX7_rest_99 : decode cX7_rest 99 = .ok (.iconst 1, 1) := by decide +kernel
theorem dX7_rest_100 : decode cX7_rest 100 = .ok (.goto 4, 3) := by decide +kernel
theorem dX7_rest_103 : decode cX7_rest 103 = .ok (.iconst 0, 1) := by decide +kernel
theorem dX7_rest_104 : decode cX7_rest 104 = .ok (.istore 4, 2) := by decide +kernel
theorem dX7_rest_106 : decode cX7_rest 106 = .ok (.aload_n 0, 1) := by decide +kernel
theorem dX7_rest_107 : decode cX7_rest 107 = .ok (.getfield 40, 3) := by decide +kernel
theorem dX7_rest_110 : decode cX7_rest 110 = .ok (.iload 5, 2) := by decide +kernel
theorem dX7_rest_112 : decode cX7_rest 112 = .ok (.iload 6, 2) := by decide +kernel
theorem dX7_rest_114 : decode cX7_rest 114 = .ok (.iastore, 1) := by decide +kernel
theorem dX7_rest_115 : decode cX7_rest 115 = .ok (.iinc 5 1, 3) := by decide +kernel
theorem dX7_rest_118 : decode cX7_rest 118 = .ok (.goto (-53), 3) := by decide +kernel
theorem dX7_rest_121 : decode cX7_rest 121 = .ok (.iload 4, 2) := by decide +kernel
theorem dX7_rest_123 : decode cX7_rest 123 = .ok (.ifCond .eq 7, 3) := by decide +kernel
theorem dX7_rest_126 : decode cX7_rest 126 = .ok (.iload_n 3, 1) := by decide +kernel
theorem dX7_rest_127 : decode cX7_rest 127 = .ok (.goto 5, 3) := by decide +kernel
theorem dX7_rest_130 : decode cX7_rest 130 = .ok (.ldc 101, 2) := by decide +kernel
theorem dX7_rest_132 : decode cX7_rest 132 = .ok (.istore_n 2, 1) := by decide +kernel
theorem dX7_rest_133 : decode cX7_rest 133 = .ok (.iinc 3 1, 3) := by decide +kernel
theorem dX7_rest_136 : decode cX7_rest 136 = .ok (.goto (-89), 3) := by decide +kernel
theorem dX7_rest_139 : decode cX7_rest 139 = .ok (.iload_n 1, 1) := by decide +kernel
theorem dX7_rest_140 : decode cX7_rest 140 = .ok (.ifCond .ge 7, 3) := by decide +kernel
theorem dX7_rest_143 : decode cX7_rest 143 = .ok (.iload_n 2, 1) := by decide +kernel
theorem dX7_rest_144 : decode cX7_rest 144 = .ok (.goto 9, 3) := by decide +kernel
theorem dX7_rest_147 : decode cX7_rest 147 = .ok (.aload_n 0, 1) := by decide +kernel
theorem dX7_rest_148 : decode cX7_rest 148 = .ok (.getfield 40, 3) := by decide +kernel
theorem dX7_rest_151 : decode cX7_rest 151 = .ok (.iload_n 1, 1) := by decide +kernel
theorem dX7_rest_152 : decode cX7_rest 152 = .ok (.iaload, 1) := by decide +kernel
theorem dX7_rest_153 : decode cX7_rest 153 = .ok (.ireturn, 1) := by decide +kernel
theorem dX7_thought_0 : decode cX7_thought 0 = .ok (.aload_n 0, 1) := by decide +kernel
theorem dX7_thought_1 : decode cX7_thought 1 = .ok (.iconst 0, 1) := by decide +kernel
theorem dX7_thought_2 : decode cX7_thought 2 = .ok (.putfield 65, 3) := by decide +kernel
theorem dX7_thought_5 : decode cX7_thought 5 = .ok (.aload_n 0, 1) := by decide +kernel
theorem dX7_thought_6 : decode cX7_thought 6 = .ok (.iload_n 1, 1) := by decide +kernel
theorem dX7_thought_7 : decode cX7_thought 7 = .ok (.invokevirtual 230, 3) := by decide +kernel
theorem dX7_thought_10 : decode cX7_thought 10 = .ok (.ifCond .eq 10, 3) := by decide +kernel
theorem dX7_thought_13 : decode cX7_thought 13 = .ok (.iload_n 2, 1) := by decide +kernel
theorem dX7_thought_14 : decode cX7_thought 14 = .ok (.invokestatic 251, 3) := by decide +kernel
theorem dX7_thought_17 : decode cX7_thought 17 = .ok (.ifCond .ne 6, 3) := by decide +kernel
theorem dX7_thought_20 : decode cX7_thought 20 = .ok (.ldc 85, 2) := by decide +kernel
theorem dX7_thought_22 : decode cX7_thought 22 = .ok (.ireturn, 1) := by decide +kernel
theorem dX7_thought_23 : decode cX7_thought 23 = .ok (.aload_n 0, 1) := by decide +kernel
theorem dX7_thought_24 : decode cX7_thought 24 = .ok (.invokevirtual 227, 3) := by decide +kernel
theorem dX7_thought_27 : decode cX7_thought 27 = .ok (.iconst 0, 1) := by decide +kernel
theorem dX7_thought_28 : decode cX7_thought 28 = .ok (.istore_n 3, 1) := by decide +kernel
theorem dX7_thought_29 : decode cX7_thought 29 = .ok (.iconst 0, 1) := by decide +kernel
theorem dX7_thought_30 : decode cX7_thought 30 = .ok (.istore 4, 2) := by decide +kernel
theorem dX7_thought_32 : decode cX7_thought 32 = .ok (.iload 4, 2) := by decide +kernel
theorem dX7_thought_34 : decode cX7_thought 34 = .ok (.bipush 11, 2) := by decide +kernel
theorem dX7_thought_36 : decode cX7_thought 36 = .ok (.if_icmp .gt 42, 3) := by decide +kernel
theorem dX7_thought_39 : decode cX7_thought 39 = .ok (.aload_n 0, 1) := by decide +kernel
theorem dX7_thought_40 : decode cX7_thought 40 = .ok (.getfield 40, 3) := by decide +kernel
theorem dX7_thought_43 : decode cX7_thought 43 = .ok (.iload_n 1, 1) := by decide +kernel
theorem dX7_thought_44 : decode cX7_thought 44 = .ok (.iload 4, 2) := by decide +kernel
theorem dX7_thought_46 : decode cX7_thought 46 = .ok (.iastore, 1) := by decide +kernel
theorem dX7_thought_47 : decode cX7_thought 47 = .ok (.aload_n 0, 1) := by decide +kernel
