theorem dX7_init_0 : decode cX7_init 0 = .ok (.aload_n 0, 1) := by decide +kernel
theorem dX7_init_1 : decode cX7_init 1 = .ok (.invokespecial 1, 3) := by decide +kernel
theorem dX7_init_4 : decode cX7_init 4 = .ok (.aload_n 0, 1) := by decide +kernel
theorem dX7_init_5 : decode cX7_init 5 = .ok (.bipush 8, 2) := by decide +kernel
theorem dX7_init_7 : decode cX7_init 7 = .ok (.newarray .int, 2) := by decide +kernel
theorem dX7_init_9 : decode cX7_init 9 = .ok (.dup, 1) := by decide +kernel
theorem dX7_init_10 : decode cX7_init 10 = .ok (.iconst 0, 1) := by decide +kernel
theorem dX7_init_11 : decode cX7_init 11 = .ok (.iconst (-1), 1) := by decide +kernel
theorem dX7_init_12 : decode cX7_init 12 = .ok (.iastore, 1) := by decide +kernel
theorem dX7_init_13 : decode cX7_init 13 = .ok (.dup, 1) := by decide +kernel
theorem dX7_init_14 : decode cX7_init 14 = .ok (.iconst 1, 1) := by decide +kernel
theorem dX7_init_15 : decode cX7_init 15 = .ok (.iconst (-1), 1) := by decide +kernel
theorem dX7_init_16 : decode cX7_init 16 = .ok (.iastore, 1) := by decide +kernel
theorem dX7_init_17 : decode cX7_init 17 = .ok (.dup, 1) := by decide +kernel
theorem dX7_init_18 : decode cX7_init 18 = .ok (.iconst 2, 1) := by decide +kernel
theorem dX7_init_19 : decode cX7_init 19 = .ok (.iconst (-1), 1) := by decide +kernel
theorem dX7_init_20 : decode cX7_init 20 = .ok (.iastore, 1) := by decide +kernel
theorem dX7_init_21 : decode cX7_init 21 = .ok (.dup, 1) := by decide +kernel
theorem dX7_init_22 : decode cX7_init 22 = .ok (.iconst 3, 1) := by decide +kernel
theorem dX7_init_23 : decode cX7_init 23 = .ok (.iconst (-1), 1) := by decide +kernel
theorem dX7_init_24 : decode cX7_init 24 = .ok (.iastore, 1) := by decide +kernel
theorem dX7_init_25 : decode cX7_init 25 = .ok (.dup, 1) := by decide +kernel
theorem dX7_init_26 : decode cX7_init 26 = .ok (.iconst 4, 1) := by decide +kernel
theorem dX7_init_27 : decode cX7_init 27 = .ok (.iconst (-1), 1) := by decide +kernel
theorem dX7_init_28 : decode cX7_init 28 = .ok (.iastore, 1) := by decide +kernel
theorem dX7_init_29 : decode cX7_init 29 = .ok (.dup, 1) := by decide +kernel
theorem dX7_init_30 : decode cX7_init 30 = .ok (.iconst 5, 1) := by decide +kernel
theorem dX7_init_31 : decode cX7_init 31 = .ok (.iconst (-1), 1) := by decide +kernel
theorem dX7_init_32 : decode cX7_init 32 = .ok (.iastore, 1) := by decide +kernel
theorem dX7_init_33 : decode cX7_init 33 = .ok (.dup, 1) := by decide +kernel
theorem dX7_init_34 : decode cX7_init 34 = .ok (.bipush 6, 2) := by decide +kernel
theorem dX7_init_36 : decode cX7_init 36 = .ok (.iconst (-1), 1) := by decide +kernel
theorem dX7_init_37 : decode cX7_init 37 = .ok (.iastore, 1) := by decide +kernel
theorem dX7_init_38 : decode cX7_init 38 = .ok (.dup, 1) := by decide +kernel
theorem dX7_init_39 : decode cX7_init 39 = .ok (.bipush 7, 2) := by decide +kernel
theorem dX7_init_41 : decode cX7_init 41 = .ok (.iconst (-1), 1) := by decide +kernel
theorem dX7_init_42 : decode cX7_init 42 = .ok (.iastore, 1) := by decide +kernel
theorem dX7_init_43 : decode cX7_init 43 = .ok (.putfield 7, 3) := by decide +kernel
theorem dX7_init_46 : decode cX7_init 46 = .ok (.aload_n 0, 1) := by decide +kernel
theorem dX7_init_47 : decode cX7_init 47 = .ok (.bipush 8, 2) := by decide +kernel
theorem dX7_init_49 : decode cX7_init 49 = .ok (.newarray .int, 2) := by decide +kernel
theorem dX7_init_51 : decode cX7_init 51 = .ok (.putfield 13, 3) := by decide +kernel
theorem dX7_init_54 : decode cX7_init 54 = .ok (.aload_n 0, 1) := by decide +kernel
theorem dX7_init_55 : decode cX7_init 55 = .ok (.sipush 320, 3) := by decide +kernel
theorem dX7_init_58 : decode cX7_init 58 = .ok (.newarray .int, 2) := by decide +kernel
theorem dX7_init_60 : decode cX7_init 60 = .ok (.putfield 16, 3) := by decide +kernel
theorem dX7_init_63 : decode cX7_init 63 = .ok (.aload_n 0, 1) := by decide +kernel
theorem dX7_init_64 : decode cX7_init 64 = .ok (.bipush 44, 2) := by decide +kernel
theorem dX7_init_66 : decode cX7_init 66 = .ok (.newarray .int, 2) := by decide +kernel
theorem dX7_init_68 : decode cX7_init 68 = .ok (.putfield 19, 3) := by decide +kernel
theorem dX7_init_71 : decode cX7_init 71 = .ok (.aload_n 0, 1) := by decide +kernel
theorem dX7_init_72 : decode cX7_init 72 = .ok (.bipush 44, 2) := by decide +kernel
theorem dX7_init_74 : decode cX7_init 74 = .ok (.newarray .int, 2) := by decide +kernel
theorem dX7_init_76 : decode cX7_init 76 = .ok (.putfield 22, 3) := by decide +kernel
theorem dX7_init_79 : decode cX7_init 79 = .ok (.aload_n 0, 1) := by decide +kernel
theorem dX7_init_80 : decode cX7_init 80 = .ok (.sipush 1056, 3) := by decide +kernel
theorem dX7_init_83 : decode cX7_init 83 = .ok (.newarray .int, 2) := by decide +kernel
theorem dX7_init_85 : decode cX7_init 85 = .ok (.putfield 25, 3) := by decide +kernel
theorem dX7_init_88 : decode cX7_init 88 = .ok (.aload_n 0, 1) := by decide +kernel
theorem dX7_init_89 : decode cX7_init 89 = .ok (.sipush 400, 3) := by decide +kernel
theorem dX7_init_92 : decode cX7_init 92 = .ok (.newarray .int, 2) := by decide +kernel
theorem dX7_init_94 : decode cX7_init 94 = .ok (.putfield 28, 3) := by decide +kernel
theorem dX7_init_97 : decode cX7_init 97 = .ok (.aload_n 0, 1) := by decide +kernel
theorem dX7_init_98 : decode cX7_init 98 = .ok (.bipush 7, 2) := by decide +kernel
theorem dX7_init_100 : decode cX7_init 100 = .ok (.newarray .int, 2) := by decide +kernel
theorem dX7_init_102 : decode cX7_init 102 = .ok (.putfield 31, 3) := by decide +kernel
theorem dX7_init_105 : decode cX7_init 105 = .ok (.aload_n 0, 1) := by decide +kernel
theorem dX7_init_106 : decode cX7_init 106 = .ok (.bipush 7, 2) := by decide +kernel
theorem dX7_init_108 : decode cX7_init 108 = .ok (.newarray .int, 2) := by decide +kernel
theorem dX7_init_110 : decode cX7_init 110 = .ok (.putfield 34, 3) := by decide +kernel
theorem dX7_init_113 : decode cX7_init 113 = .ok (.aload_n 0, 1) := by decide +kernel
theorem dX7_init_114 : decode cX7_init 114 = .ok (.bipush 7, 2) := by decide +kernel
theorem dX7_init_116 : decode cX7_init 116 = .ok (.newarray .int, 2) := by decide +kernel
theorem dX7_init_118 : decode cX7_init 118 = .ok (.putfield 37, 3) := by decide +kernel
theorem dX7_init_121 : decode cX7_init 121 = .ok (.aload_n 0, 1) := by decide +kernel
theorem dX7_init_122 : decode cX7_init 122 = .ok (.bipush 7, 2) := by decide +kernel
theorem dX7_init_124 : decode cX7_init 124 = .ok (.newarray .int, 2) := by decide +kernel
theorem dX7_init_126 : decode cX7_init 126 = .ok (.putfield 40, 3) := by decide +kernel
theorem dX7_init_129 : decode cX7_init 129 = .ok (.aload_n 0, 1) := by decide +kernel
theorem dX7_init_130 : decode cX7_init 130 = .ok (.bipush 7, 2) := by decide +kernel
theorem dX7_init_132 : decode cX7_init 132 = .ok (.newarray .int, 2) := by decide +kernel
theorem dX7_init_134 : decode cX7_init 134 = .ok (.putfield 43, 3) := by decide +kernel
theorem dX7_init_137 : decode cX7_init 137 = .ok (.aload_n 0, 1) := by decide +kernel
theorem dX7_init_138 : decode cX7_init 138 = .ok (.bipush 7, 2) := by decide +kernel
theorem dX7_init_140 : decode cX7_init 140 = .ok (.newarray .int, 2) := by decide +kernel
theorem dX7_init_142 : decode cX7_init 142 = .ok (.putfield 46, 3) := by decide +kernel
theorem dX7_init_145 : decode cX7_init 145 = .ok (.aload_n 0, 1) := by decide +kernel
theorem dX7_init_146 : decode cX7_init 146 = .ok (.bipush 12, 2) := by decide +kernel
theorem dX7_init_148 : decode cX7_init 148 = .ok (.newarray .int, 2) := by decide +kernel
theorem dX7_init_150 : decode cX7_init 150 = .ok (.putfield 49, 3) := by decide +kernel
theorem dX7_init_153 : decode cX7_init 153 = .ok (.aload_n 0, 1) := by decide +kernel
theorem dX7_init_154 : decode cX7_init 154 = .ok (.bipush 7, 2) := by decide +kernel
theorem dX7_init_156 : decode cX7_init 156 = .ok (.newarray .int, 2) := by decide +kernel
theorem dX7_init_158 : decode cX7_init 158 = .ok (.putfield 52, 3) := by decide +kernel
theorem dX7_init_161 : decode cX7_init 161 = .ok (.aload_n 0, 1) := by decide +kernel
theorem dX7_init_162 : decode cX7_init 162 = .ok (.iconst 2, 1) := by decide +kernel
theorem dX7_init_163 : decode cX7_init 163 = .ok (.newarray .boolean, 2) := by decide +kernel
theorem dX7_init_165 : decode cX7_init 165 = .ok (.putfield 55, 3) := by decide +kernel
theorem dX7_init_168 : decode cX7_init 168 = .ok (.aload_n 0, 1) := by decide +kernel
theorem dX7_init_169 : decode cX7_init 169 = .ok (.bipush 88, 2) := by decide +kernel
theorem dX7_init_171 : decode cX7_init 171 = .ok (.newarray .int, 2) := by decide +kernel
theorem dX7_init_173 : decode cX7_init 173 = .ok (.putfield 59, 3) := by decide +kernel
theorem dX7_init_176 : decode cX7_init 176 = .ok (.aload_n 0, 1) := by decide +kernel
theorem dX7_init_177 : decode cX7_init 177 = .ok (.bipush 16, 2) := by decide +kernel
theorem dX7_init_179 : decode cX7_init 179 = .ok (.newarray .int, 2) := by decide +kernel
theorem dX7_init_181 : decode cX7_init 181 = .ok (.putfield 62, 3) := by decide +kernel
theorem dX7_init_184 : decode cX7_init 184 = .ok (.return_, 1) := by decide +kernel
theorem dX7_in_0 : decode cX7_in 0 = .ok (.lload_n 0, 1) := by decide +kernel
theorem dX7_in_1 : decode cX7_in 1 = .ok (.lload_n 2, 1) := by decide +kernel
theorem dX7_in_2 : decode cX7_in 2 = .ok (.lcmp, 1) := by decide +kernel
theorem dX7_in_3 : decode cX7_in 3 = .ok (.ifCond .lt 14, 3) := by decide +kernel
theorem dX7_in_6 : decode cX7_in 6 = .ok (.lload_n 0, 1) := by decide +kernel
theorem dX7_in_7 : decode cX7_in 7 = .ok (.lload 4, 2) := by decide +kernel
theorem dX7_in_9 : decode cX7_in 9 = .ok (.lcmp, 1) := by decide +kernel
theorem dX7_in_10 : decode cX7_in 10 = .ok (.ifCond .gt 7, 3) := by decide +kernel
theorem dX7_in_13 : decode cX7_in 13 = .ok (.iconst 1, 1) := by decide +kernel
theorem dX7_in_14 : decode cX7_in 14 = .ok (.goto 4, 3) := by decide +kernel
theorem dX7_in_17 : decode cX7_in 17 = .ok (.iconst 0, 1) := by decide +kernel
theorem dX7_in_18 : decode cX7_in 18 = .ok (.ireturn, 1) := by decide +kernel
theorem dX7_finding_0 : decode cX7_finding 0 = .ok (.aload_n 0, 1) := by decide +kernel
theorem dX7_finding_1 : decode cX7_finding 1 = .ok (.iload_n 1, 1) := by decide +kernel
theorem dX7_finding_2 : decode cX7_finding 2 = .ok (.putfield 69, 3) := by decide +kernel
theorem dX7_finding_5 : decode cX7_finding 5 = .ok (.ldc 72, 2) := by decide +kernel
theorem dX7_finding_7 : decode cX7_finding 7 = .ok (.iload_n 1, 1) := by decide +kernel
theorem dX7_finding_8 : decode cX7_finding 8 = .ok (.isub, 1) := by decide +kernel
theorem dX7_finding_9 : decode cX7_finding 9 = .ok (.ireturn, 1) := by decide +kernel
theorem dX7_isRow_0 : decode cX7_isRow 0 = .ok (.iload_n 0, 1) := by decide +kernel
theorem dX7_isRow_1 : decode cX7_isRow 1 = .ok (.i2l, 1) := by decide +kernel
theorem dX7_isRow_2 : decode cX7_isRow 2 = .ok (.lconst 0, 1) := by decide +kernel
theorem dX7_isRow_3 : decode cX7_isRow 3 = .ok (.ldc2_w 73, 3) := by decide +kernel
theorem dX7_isRow_6 : decode cX7_isRow 6 = .ok (.invokestatic 75, 3) := by decide +kernel
theorem dX7_isRow_9 : decode cX7_isRow 9 = .ok (.ireturn, 1) := by decide +kernel
theorem dX7_row_0 : decode cX7_row 0 = .ok (.aload_n 0, 1) := by decide +kernel
theorem dX7_row_1 : decode cX7_row 1 = .ok (.iconst 0, 1) := by decide +kernel
theorem dX7_row_2 : decode cX7_row 2 = .ok (.putfield 65, 3) := by decide +kernel
theorem dX7_row_5 : decode cX7_row 5 = .ok (.iload_n 1, 1) := by decide +kernel
theorem dX7_row_6 : decode cX7_row 6 = .ok (.invokestatic 79, 3) := by decide +kernel
theorem dX7_row_9 : decode cX7_row 9 = .ok (.ifCond .eq 21, 3) := by decide +kernel
theorem dX7_row_12 : decode cX7_row 12 = .ok (.iload_n 2, 1) := by decide +kernel
theorem dX7_row_13 : decode cX7_row 13 = .ok (.i2l, 1) := by decide +kernel
theorem dX7_row_14 : decode cX7_row 14 = .ok (.lconst 0, 1) := by decide +kernel
theorem dX7_row_15 : decode cX7_row 15 = .ok (.ldc2_w 83, 3) := by decide +kernel
theorem dX7_row_18 : decode cX7_row 18 = .ok (.invokestatic 75, 3) := by decide +kernel
theorem dX7_row_21 : decode cX7_row 21 = .ok (.ifCond .eq 9, 3) := by decide +kernel
theorem dX7_row_24 : decode cX7_row 24 = .ok (.iload_n 3, 1) := by decide +kernel
theorem dX7_row_25 : decode cX7_row 25 = .ok (.bipush 40, 2) := by decide +kernel
theorem dX7_row_27 : decode cX7_row 27 = .ok (.if_icmp .le 6, 3) := by decide +kernel
theorem dX7_row_30 : decode cX7_row 30 = .ok (.ldc 85, 2) := by decide +kernel
theorem dX7_row_32 : decode cX7_row 32 = .ok (.ireturn, 1) := by decide +kernel
theorem dX7_row_33 : decode cX7_row 33 = .ok (.aload_n 0, 1) := by decide +kernel
theorem dX7_row_34 : decode cX7_row 34 = .ok (.iconst 0, 1) := by decide +kernel
theorem dX7_row_35 : decode cX7_row 35 = .ok (.putfield 69, 3) := by decide +kernel
theorem dX7_row_38 : decode cX7_row 38 = .ok (.iload_n 3, 1) := by decide +kernel
theorem dX7_row_39 : decode cX7_row 39 = .ok (.ifCond .ge 9, 3) := by decide +kernel
theorem dX7_row_42 : decode cX7_row 42 = .ok (.aload_n 0, 1) := by decide +kernel
theorem dX7_row_43 : decode cX7_row 43 = .ok (.iconst 4, 1) := by decide +kernel
theorem dX7_row_44 : decode cX7_row 44 = .ok (.invokevirtual 86, 3) := by decide +kernel
theorem dX7_row_47 : decode cX7_row 47 = .ok (.ireturn, 1) := by decide +kernel
theorem dX7_row_48 : decode cX7_row 48 = .ok (.aload_n 0, 1) := by decide +kernel
theorem dX7_row_49 : decode cX7_row 49 = .ok (.getfield 7, 3) := by decide +kernel
theorem dX7_row_52 : decode cX7_row 52 = .ok (.iload_n 1, 1) := by decide +kernel
theorem dX7_row_53 : decode cX7_row 53 = .ok (.iload_n 2, 1) := by decide +kernel
theorem dX7_row_54 : decode cX7_row 54 = .ok (.iastore, 1) := by decide +kernel
theorem dX7_row_55 : decode cX7_row 55 = .ok (.aload_n 0, 1) := by decide +kernel
theorem dX7_row_56 : decode cX7_row 56 = .ok (.getfield 13, 3) := by decide +kernel
theorem dX7_row_59 : decode cX7_row 59 = .ok (.iload_n 1, 1) := by decide +kernel
theorem dX7_row_60 : decode cX7_row 60 = .ok (.iload_n 3, 1) := by decide +kernel
theorem dX7_row_61 : decode cX7_row 61 = .ok (.iastore, 1) := by decide +kernel
theorem dX7_row_62 : decode cX7_row 62 = .ok (.iconst 0, 1) := by decide +kernel
theorem dX7_row_63 : decode cX7_row 63 = .ok (.istore 4, 2) := by decide +kernel
theorem dX7_row_65 : decode cX7_row 65 = .ok (.iload 4, 2) := by decide +kernel
theorem dX7_row_67 : decode cX7_row 67 = .ok (.bipush 40, 2) := by decide +kernel
theorem dX7_row_69 : decode cX7_row 69 = .ok (.if_icmp .ge 22, 3) := by decide +kernel
theorem dX7_row_72 : decode cX7_row 72 = .ok (.aload_n 0, 1) := by decide +kernel
theorem dX7_row_73 : decode cX7_row 73 = .ok (.getfield 16, 3) := by decide +kernel
theorem dX7_row_76 : decode cX7_row 76 = .ok (.bipush 40, 2) := by decide +kernel
theorem dX7_row_78 : decode cX7_row 78 = .ok (.iload_n 1, 1) := by decide +kernel
theorem dX7_row_79 : decode cX7_row 79 = .ok (.imul, 1) := by decide +kernel
theorem dX7_row_80 : decode cX7_row 80 = .ok (.iload 4, 2) := by decide +kernel
theorem dX7_row_82 : decode cX7_row 82 = .ok (.iadd, 1) := by decide +kernel
theorem dX7_row_83 : decode cX7_row 83 = .ok (.iconst 0, 1) := by decide +kernel
theorem dX7_row_84 : decode cX7_row 84 = .ok (.iastore, 1) := by decide +kernel
theorem dX7_row_85 : decode cX7_row 85 = .ok (.iinc 4 1, 3) := by decide +kernel
theorem dX7_row_88 : decode cX7_row 88 = .ok (.goto (-23), 3) := by decide +kernel
theorem dX7_row_91 : decode cX7_row 91 = .ok (.iload_n 3, 1) := by decide +kernel
theorem dX7_row_92 : decode cX7_row 92 = .ok (.ireturn, 1) := by decide +kernel
theorem dX7_set_0 : decode cX7_set 0 = .ok (.aload_n 0, 1) := by decide +kernel
theorem dX7_set_1 : decode cX7_set 1 = .ok (.iconst 0, 1) := by decide +kernel
theorem dX7_set_2 : decode cX7_set 2 = .ok (.putfield 65, 3) := by decide +kernel
theorem dX7_set_5 : decode cX7_set 5 = .ok (.iload_n 1, 1) := by decide +kernel
theorem dX7_set_6 : decode cX7_set 6 = .ok (.invokestatic 79, 3) := by decide +kernel
theorem dX7_set_9 : decode cX7_set 9 = .ok (.ifCond .ne 6, 3) := by decide +kernel
theorem dX7_set_12 : decode cX7_set 12 = .ok (.ldc 85, 2) := by decide +kernel
theorem dX7_set_14 : decode cX7_set 14 = .ok (.ireturn, 1) := by decide +kernel
theorem dX7_set_15 : decode cX7_set 15 = .ok (.aload_n 0, 1) := by decide +kernel
theorem dX7_set_16 : decode cX7_set 16 = .ok (.iconst 0, 1) := by decide +kernel
theorem dX7_set_17 : decode cX7_set 17 = .ok (.putfield 69, 3) := by decide +kernel
theorem dX7_set_20 : decode cX7_set 20 = .ok (.aload_n 0, 1) := by decide +kernel
theorem dX7_set_21 : decode cX7_set 21 = .ok (.getfield 7, 3) := by decide +kernel
theorem dX7_set_24 : decode cX7_set 24 = .ok (.iload_n 1, 1) := by decide +kernel
theorem dX7_set_25 : decode cX7_set 25 = .ok (.iaload, 1) := by decide +kernel
theorem dX7_set_26 : decode cX7_set 26 = .ok (.ifCond .ge 9, 3) := by decide +kernel
theorem dX7_set_29 : decode cX7_set 29 = .ok (.aload_n 0, 1) := by decide +kernel
theorem dX7_set_30 : decode cX7_set 30 = .ok (.iconst 1, 1) := by decide +kernel
theorem dX7_set_31 : decode cX7_set 31 = .ok (.invokevirtual 86, 3) := by decide +kernel
theorem dX7_set_34 : decode cX7_set 34 = .ok (.ireturn, 1) := by decide +kernel
theorem dX7_set_35 : decode cX7_set 35 = .ok (.iload_n 2, 1) := by decide +kernel
theorem dX7_set_36 : decode cX7_set 36 = .ok (.i2l, 1) := by decide +kernel
theorem dX7_set_37 : decode cX7_set 37 = .ok (.lconst 0, 1) := by decide +kernel
theorem dX7_set_38 : decode cX7_set 38 = .ok (.aload_n 0, 1) := by decide +kernel
theorem dX7_set_39 : decode cX7_set 39 = .ok (.getfield 13, 3) := by decide +kernel
theorem dX7_set_42 : decode cX7_set 42 = .ok (.iload_n 1, 1) := by decide +kernel
theorem dX7_set_43 : decode cX7_set 43 = .ok (.iaload, 1) := by decide +kernel
theorem dX7_set_44 : decode cX7_set 44 = .ok (.iconst 1, 1) := by decide +kernel
theorem dX7_set_45 : decode cX7_set 45 = .ok (.isub, 1) := by decide +kernel
theorem dX7_set_46 : decode cX7_set 46 = .ok (.i2l, 1) := by decide +kernel
theorem dX7_set_47 : decode cX7_set 47 = .ok (.invokestatic 75, 3) := by decide +kernel
theorem dX7_set_50 : decode cX7_set 50 = .ok (.ifCond .ne 9, 3) := by decide +kernel
theorem dX7_set_53 : decode cX7_set 53 = .ok (.aload_n 0, 1) := by decide +kernel
theorem dX7_set_54 : decode cX7_set 54 = .ok (.iconst 2, 1) := by decide +kernel
theorem dX7_set_55 : decode cX7_set 55 = .ok (.invokevirtual 86, 3) := by decide +kernel
theorem dX7_set_58 : decode cX7_set 58 = .ok (.ireturn, 1) := by decide +kernel
theorem dX7_set_59 : decode cX7_set 59 = .ok (.aload_n 0, 1) := by decide +kernel
theorem dX7_set_60 : decode cX7_set 60 = .ok (.getfield 16, 3) := by decide +kernel
theorem dX7_set_63 : decode cX7_set 63 = .ok (.bipush 40, 2) := by decide +kernel
theorem dX7_set_65 : decode cX7_set 65 = .ok (.iload_n 1, 1) := by decide +kernel
theorem dX7_set_66 : decode cX7_set 66 = .ok (.imul, 1) := by decide +kernel
theorem dX7_set_67 : decode cX7_set 67 = .ok (.iload_n 2, 1) := by decide +kernel
theorem dX7_set_68 : decode cX7_set 68 = .ok (.iadd, 1) := by decide +kernel
theorem dX7_set_69 : decode cX7_set 69 = .ok (.aload_n 0, 1) := by decide +kernel
theorem dX7_set_70 : decode cX7_set 70 = .ok (.getfield 7, 3) := by decide +kernel
theorem dX7_set_73 : decode cX7_set 73 = .ok (.iload_n 1, 1) := by decide +kernel
theorem dX7_set_74 : decode cX7_set 74 = .ok (.iaload, 1) := by decide +kernel
theorem dX7_set_75 : decode cX7_set 75 = .ok (.ifCond .ne 8, 3) := by decide +kernel
theorem dX7_set_78 : decode cX7_set 78 = .ok (.iload_n 3, 1) := by decide +kernel
theorem dX7_set_79 : decode cX7_set 79 = .ok (.i2b, 1) := by decide +kernel
theorem dX7_set_80 : decode cX7_set 80 = .ok (.goto 19, 3) := by decide +kernel
theorem dX7_set_83 : decode cX7_set 83 = .ok (.aload_n 0, 1) := by decide +kernel
theorem dX7_set_84 : decode cX7_set 84 = .ok (.getfield 7, 3) := by decide +kernel
theorem dX7_set_87 : decode cX7_set 87 = .ok (.iload_n 1, 1) := by decide +kernel
theorem dX7_set_88 : decode cX7_set 88 = .ok (.iaload, 1) := by decide +kernel
theorem dX7_set_89 : decode cX7_set 89 = .ok (.iconst 1, 1) := by decide +kernel
theorem dX7_set_90 : decode cX7_set 90 = .ok (.if_icmp .ne 8, 3) := by decide +kernel
theorem dX7_set_93 : decode cX7_set 93 = .ok (.iload_n 3, 1) := by decide +kernel
theorem dX7_set_94 : decode cX7_set 94 = .ok (.i2s, 1) := by decide +kernel
theorem dX7_set_95 : decode cX7_set 95 = .ok (.goto 4, 3) := by decide +kernel
theorem dX7_set_98 : decode cX7_set 98 = .ok (.iload_n 3, 1) := by decide +kernel
theorem dX7_set_99 : decode cX7_set 99 = .ok (.iastore, 1) := by decide +kernel
theorem dX7_set_100 : decode cX7_set 100 = .ok (.aload_n 0, 1) := by decide +kernel
theorem dX7_set_101 : decode cX7_set 101 = .ok (.getfield 16, 3) := by decide +kernel
theorem dX7_set_104 : decode cX7_set 104 = .ok (.bipush 40, 2) := by decide +kernel
theorem dX7_set_106 : decode cX7_set 106 = .ok (.iload_n 1, 1) := by decide +kernel
theorem dX7_set_107 : decode cX7_set 107 = .ok (.imul, 1) := by decide +kernel
theorem dX7_set_108 : decode cX7_set 108 = .ok (.iload_n 2, 1) := by decide +kernel
theorem dX7_set_109 : decode cX7_set 109 = .ok (.iadd, 1) := by decide +kernel
theorem dX7_set_110 : decode cX7_set 110 = .ok (.iaload, 1) := by decide +kernel
theorem dX7_set_111 : decode cX7_set 111 = .ok (.ireturn, 1) := by decide +kernel
theorem dX7_copy_0 : decode cX7_copy 0 = .ok (.aload_n 0, 1) := by decide +kernel
theorem dX7_copy_1 : decode cX7_copy 1 = .ok (.iconst 0, 1) := by decide +kernel
theorem dX7_copy_2 : decode cX7_copy 2 = .ok (.putfield 65, 3) := by decide +kernel
theorem dX7_copy_5 : decode cX7_copy 5 = .ok (.iload_n 1, 1) := by decide +kernel
theorem dX7_copy_6 : decode cX7_copy 6 = .ok (.invokestatic 79, 3) := by decide +kernel
theorem dX7_copy_9 : decode cX7_copy 9 = .ok (.ifCond .eq 10, 3) := by decide +kernel
theorem dX7_copy_12 : decode cX7_copy 12 = .ok (.iload_n 3, 1) := by decide +kernel
theorem dX7_copy_13 : decode cX7_copy 13 = .ok (.invokestatic 79, 3) := by decide +kernel
theorem dX7_copy_16 : decode cX7_copy 16 = .ok (.ifCond .ne 6, 3) := by decide +kernel
theorem dX7_copy_19 : decode cX7_copy 19 = .ok (.ldc 85, 2) := by decide +kernel
theorem dX7_copy_21 : decode cX7_copy 21 = .ok (.ireturn, 1) := by decide +kernel
theorem dX7_copy_22 : decode cX7_copy 22 = .ok (.aload_n 0, 1) := by decide +kernel
theorem dX7_copy_23 : decode cX7_copy 23 = .ok (.iconst 0, 1) := by decide +kernel
theorem dX7_copy_24 : decode cX7_copy 24 = .ok (.putfield 69, 3) := by decide +kernel
theorem dX7_copy_27 : decode cX7_copy 27 = .ok (.aload_n 0, 1) := by decide +kernel
theorem dX7_copy_28 : decode cX7_copy 28 = .ok (.getfield 7, 3) := by decide +kernel
theorem dX7_copy_31 : decode cX7_copy 31 = .ok (.iload_n 1, 1) := by decide +kernel
theorem dX7_copy_32 : decode cX7_copy 32 = .ok (.iaload, 1) := by decide +kernel
theorem dX7_copy_33 : decode cX7_copy 33 = .ok (.ifCond .lt 12, 3) := by decide +kernel
theorem dX7_copy_36 : decode cX7_copy 36 = .ok (.aload_n 0, 1) := by decide +kernel
theorem dX7_copy_37 : decode cX7_copy 37 = .ok (.getfield 7, 3) := by decide +kernel
theorem dX7_copy_40 : decode cX7_copy 40 = .ok (.iload_n 3, 1) := by decide +kernel
theorem dX7_copy_41 : decode cX7_copy 41 = .ok (.iaload, 1) := by decide +kernel
theorem dX7_copy_42 : decode cX7_copy 42 = .ok (.ifCond .ge 9, 3) := by decide +kernel
theorem dX7_copy_45 : decode cX7_copy 45 = .ok (.aload_n 0, 1) := by decide +kernel
theorem dX7_copy_46 : decode cX7_copy 46 = .ok (.iconst 1, 1) := by decide +kernel
theorem dX7_copy_47 : decode cX7_copy 47 = .ok (.invokevirtual 86, 3) := by decide +kernel
theorem dX7_copy_50 : decode cX7_copy 50 = .ok (.ireturn, 1) := by decide +kernel
theorem dX7_copy_51 : decode cX7_copy 51 = .ok (.aload_n 0, 1) := by decide +kernel
theorem dX7_copy_52 : decode cX7_copy 52 = .ok (.getfield 7, 3) := by decide +kernel
theorem dX7_copy_55 : decode cX7_copy 55 = .ok (.iload_n 1, 1) := by decide +kernel
theorem dX7_copy_56 : decode cX7_copy 56 = .ok (.iaload, 1) := by decide +kernel
theorem dX7_copy_57 : decode cX7_copy 57 = .ok (.aload_n 0, 1) := by decide +kernel
theorem dX7_copy_58 : decode cX7_copy 58 = .ok (.getfield 7, 3) := by decide +kernel
theorem dX7_copy_61 : decode cX7_copy 61 = .ok (.iload_n 3, 1) := by decide +kernel
theorem dX7_copy_62 : decode cX7_copy 62 = .ok (.iaload, 1) := by decide +kernel
theorem dX7_copy_63 : decode cX7_copy 63 = .ok (.if_icmp .eq 9, 3) := by decide +kernel
theorem dX7_copy_66 : decode cX7_copy 66 = .ok (.aload_n 0, 1) := by decide +kernel
theorem dX7_copy_67 : decode cX7_copy 67 = .ok (.iconst 5, 1) := by decide +kernel
theorem dX7_copy_68 : decode cX7_copy 68 = .ok (.invokevirtual 86, 3) := by decide +kernel
theorem dX7_copy_71 : decode cX7_copy 71 = .ok (.ireturn, 1) := by decide +kernel
theorem dX7_copy_72 : decode cX7_copy 72 = .ok (.iload_n 2, 1) := by decide +kernel
theorem dX7_copy_73 : decode cX7_copy 73 = .ok (.ifCond .lt 48, 3) := by decide +kernel
theorem dX7_copy_76 : decode cX7_copy 76 = .ok (.iload 4, 2) := by decide +kernel
theorem dX7_copy_78 : decode cX7_copy 78 = .ok (.ifCond .lt 43, 3) := by decide +kernel
theorem dX7_copy_81 : decode cX7_copy 81 = .ok (.iload 5, 2) := by decide +kernel
theorem dX7_copy_83 : decode cX7_copy 83 = .ok (.ifCond .lt 38, 3) := by decide +kernel
theorem dX7_copy_86 : decode cX7_copy 86 = .ok (.iload_n 2, 1) := by decide +kernel
theorem dX7_copy_87 : decode cX7_copy 87 = .ok (.i2l, 1) := by decide +kernel
theorem dX7_copy_88 : decode cX7_copy 88 = .ok (.iload 5, 2) := by decide +kernel
theorem dX7_copy_90 : decode cX7_copy 90 = .ok (.i2l, 1) := by decide +kernel
theorem dX7_copy_91 : decode cX7_copy 91 = .ok (.ladd, 1) := by decide +kernel
theorem dX7_copy_92 : decode cX7_copy 92 = .ok (.aload_n 0, 1) := by decide +kernel
theorem dX7_copy_93 : decode cX7_copy 93 = .ok (.getfield 13, 3) := by decide +kernel
theorem dX7_copy_96 : decode cX7_copy 96 = .ok (.iload_n 1, 1) := by decide +kernel
theorem dX7_copy_97 : decode cX7_copy 97 = .ok (.iaload, 1) := by decide +kernel
theorem dX7_copy_98 : decode cX7_copy 98 = .ok (.i2l, 1) := by decide +kernel
theorem dX7_copy_99 : decode cX7_copy 99 = .ok (.lcmp, 1) := by decide +kernel
theorem dX7_copy_100 : decode cX7_copy 100 = .ok (.ifCond .gt 21, 3) := by decide +kernel
theorem dX7_copy_103 : decode cX7_copy 103 = .ok (.iload 4, 2) := by decide +kernel
theorem dX7_copy_105 : decode cX7_copy 105 = .ok (.i2l, 1) := by decide +kernel
theorem dX7_copy_106 : decode cX7_copy 106 = .ok (.iload 5, 2) := by decide +kernel
theorem dX7_copy_108 : decode cX7_copy 108 = .ok (.i2l, 1) := by decide +kernel
theorem dX7_copy_109 : decode cX7_copy 109 = .ok (.ladd, 1) := by decide +kernel
theorem dX7_copy_110 : decode cX7_copy 110 = .ok (.aload_n 0, 1) := by decide +kernel
theorem dX7_copy_111 : decode cX7_copy 111 = .ok (.getfield 13, 3) := by decide +kernel
theorem dX7_copy_114 : decode cX7_copy 114 = .ok (.iload_n 3, 1) := by decide +kernel
theorem dX7_copy_115 : decode cX7_copy 115 = .ok (.iaload, 1) := by decide +kernel
theorem dX7_copy_116 : decode cX7_copy 116 = .ok (.i2l, 1) := by decide +kernel
theorem dX7_copy_117 : decode cX7_copy 117 = .ok (.lcmp, 1) := by decide +kernel
theorem dX7_copy_118 : decode cX7_copy 118 = .ok (.ifCond .le 9, 3) := by decide +kernel
theorem dX7_copy_121 : decode cX7_copy 121 = .ok (.aload_n 0, 1) := by decide +kernel
theorem dX7_copy_122 : decode cX7_copy 122 = .ok (.iconst 2, 1) := by decide +kernel
theorem dX7_copy_123 : decode cX7_copy 123 = .ok (.invokevirtual 86, 3) := by decide +kernel
theorem dX7_copy_126 : decode cX7_copy 126 = .ok (.ireturn, 1) := by decide +kernel
theorem dX7_copy_127 : decode cX7_copy 127 = .ok (.iload_n 2, 1) := by decide +kernel
theorem dX7_copy_128 : decode cX7_copy 128 = .ok (.iload 4, 2) := by decide +kernel
theorem dX7_copy_130 : decode cX7_copy 130 = .ok (.if_icmp .lt 7, 3) := by decide +kernel
theorem dX7_copy_133 : decode cX7_copy 133 = .ok (.iconst 1, 1) := by decide +kernel
theorem dX7_copy_134 : decode cX7_copy 134 = .ok (.goto 4, 3) := by decide +kernel
theorem dX7_copy_137 : decode cX7_copy 137 = .ok (.iconst 0, 1) := by decide +kernel
theorem dX7_copy_138 : decode cX7_copy 138 = .ok (.istore 6, 2) := by decide +kernel
theorem dX7_copy_140 : decode cX7_copy 140 = .ok (.iconst 0, 1) := by decide +kernel
theorem dX7_copy_141 : decode cX7_copy 141 = .ok (.istore 7, 2) := by decide +kernel
theorem dX7_copy_143 : decode cX7_copy 143 = .ok (.iload 7, 2) := by decide +kernel
theorem dX7_copy_145 : decode cX7_copy 145 = .ok (.iload 5, 2) := by decide +kernel
theorem dX7_copy_147 : decode cX7_copy 147 = .ok (.if_icmp .ge 57, 3) := by decide +kernel
theorem dX7_copy_150 : decode cX7_copy 150 = .ok (.iload 6, 2) := by decide +kernel
theorem dX7_copy_152 : decode cX7_copy 152 = .ok (.ifCond .eq 8, 3) := by decide +kernel
theorem dX7_copy_155 : decode cX7_copy 155 = .ok (.iload 7, 2) := by decide +kernel
theorem dX7_copy_157 : decode cX7_copy 157 = .ok (.goto 10, 3) := by decide +kernel
theorem dX7_copy_160 : decode cX7_copy 160 = .ok (.iload 5, 2) := by decide +kernel
theorem dX7_copy_162 : decode cX7_copy 162 = .ok (.iconst 1, 1) := by decide +kernel
theorem dX7_copy_163 : decode cX7_copy 163 = .ok (.isub, 1) := by decide +kernel
theorem dX7_copy_164 : decode cX7_copy 164 = .ok (.iload 7, 2) := by decide +kernel
theorem dX7_copy_166 : decode cX7_copy 166 = .ok (.isub, 1) := by decide +kernel
theorem dX7_copy_167 : decode cX7_copy 167 = .ok (.istore 8, 2) := by decide +kernel
theorem dX7_copy_169 : decode cX7_copy 169 = .ok (.aload_n 0, 1) := by decide +kernel
theorem dX7_copy_170 : decode cX7_copy 170 = .ok (.getfield 16, 3) := by decide +kernel
theorem dX7_copy_173 : decode cX7_copy 173 = .ok (.bipush 40, 2) := by decide +kernel
theorem dX7_copy_175 : decode cX7_copy 175 = .ok (.iload_n 3, 1) := by decide +kernel
theorem dX7_copy_176 : decode cX7_copy 176 = .ok (.imul, 1) := by decide +kernel
theorem dX7_copy_177 : decode cX7_copy 177 = .ok (.iload 4, 2) := by decide +kernel
theorem dX7_copy_179 : decode cX7_copy 179 = .ok (.iadd, 1) := by decide +kernel
theorem dX7_copy_180 : decode cX7_copy 180 = .ok (.iload 8, 2) := by decide +kernel
theorem dX7_copy_182 : decode cX7_copy 182 = .ok (.iadd, 1) := by decide +kernel
theorem dX7_copy_183 : decode cX7_copy 183 = .ok (.aload_n 0, 1) := by decide +kernel
theorem dX7_copy_184 : decode cX7_copy 184 = .ok (.getfield 16, 3) := by decide +kernel
theorem dX7_copy_187 : decode cX7_copy 187 = .ok (.bipush 40, 2) := by decide +kernel
theorem dX7_copy_189 : decode cX7_copy 189 = .ok (.iload_n 1, 1) := by decide +kernel
theorem dX7_copy_190 : decode cX7_copy 190 = .ok (.imul, 1) := by decide +kernel
theorem dX7_copy_191 : decode cX7_copy 191 = .ok (.iload_n 2, 1) := by decide +kernel
theorem dX7_copy_192 : decode cX7_copy 192 = .ok (.iadd, 1) := by decide +kernel
theorem dX7_copy_193 : decode cX7_copy 193 = .ok (.iload 8, 2) := by decide +kernel
theorem dX7_copy_195 : decode cX7_copy 195 = .ok (.iadd, 1) := by decide +kernel
theorem dX7_copy_196 : decode cX7_copy 196 = .ok (.iaload, 1) := by decide +kernel
theorem dX7_copy_197 : decode cX7_copy 197 = .ok (.iastore, 1) := by decide +kernel
theorem dX7_copy_198 : decode cX7_copy 198 = .ok (.iinc 7 1, 3) := by decide +kernel
theorem dX7_copy_201 : decode cX7_copy 201 = .ok (.goto (-58), 3) := by decide +kernel
theorem dX7_copy_204 : decode cX7_copy 204 = .ok (.iload 5, 2) := by decide +kernel
theorem dX7_copy_206 : decode cX7_copy 206 = .ok (.ireturn, 1) := by decide +kernel
theorem dX7_drop_0 : decode cX7_drop 0 = .ok (.aload_n 0, 1) := by decide +kernel
theorem dX7_drop_1 : decode cX7_drop 1 = .ok (.iconst 0, 1) := by decide +kernel
theorem dX7_drop_2 : decode cX7_drop 2 = .ok (.putfield 65, 3) := by decide +kernel
theorem dX7_drop_5 : decode cX7_drop 5 = .ok (.iload_n 1, 1) := by decide +kernel
theorem dX7_drop_6 : decode cX7_drop 6 = .ok (.invokestatic 79, 3) := by decide +kernel
theorem dX7_drop_9 : decode cX7_drop 9 = .ok (.ifCond .ne 6, 3) := by decide +kernel
theorem dX7_drop_12 : decode cX7_drop 12 = .ok (.ldc 85, 2) := by decide +kernel
theorem dX7_drop_14 : decode cX7_drop 14 = .ok (.ireturn, 1) := by decide +kernel
theorem dX7_drop_15 : decode cX7_drop 15 = .ok (.aload_n 0, 1) := by decide +kernel
theorem dX7_drop_16 : decode cX7_drop 16 = .ok (.iconst 0, 1) := by decide +kernel
theorem dX7_drop_17 : decode cX7_drop 17 = .ok (.putfield 69, 3) := by decide +kernel
theorem dX7_drop_20 : decode cX7_drop 20 = .ok (.aload_n 0, 1) := by decide +kernel
theorem dX7_drop_21 : decode cX7_drop 21 = .ok (.getfield 7, 3) := by decide +kernel
theorem dX7_drop_24 : decode cX7_drop 24 = .ok (.iload_n 1, 1) := by decide +kernel
theorem dX7_drop_25 : decode cX7_drop 25 = .ok (.iaload, 1) := by decide +kernel
theorem dX7_drop_26 : decode cX7_drop 26 = .ok (.ifCond .ge 9, 3) := by decide +kernel
theorem dX7_drop_29 : decode cX7_drop 29 = .ok (.aload_n 0, 1) := by decide +kernel
theorem dX7_drop_30 : decode cX7_drop 30 = .ok (.iconst 1, 1) := by decide +kernel
theorem dX7_drop_31 : decode cX7_drop 31 = .ok (.invokevirtual 86, 3) := by decide +kernel
theorem dX7_drop_34 : decode cX7_drop 34 = .ok (.ireturn, 1) := by decide +kernel
theorem dX7_drop_35 : decode cX7_drop 35 = .ok (.aload_n 0, 1) := by decide +kernel
theorem dX7_drop_36 : decode cX7_drop 36 = .ok (.getfield 7, 3) := by decide +kernel
theorem dX7_drop_39 : decode cX7_drop 39 = .ok (.iload_n 1, 1) := by decide +kernel
theorem dX7_drop_40 : decode cX7_drop 40 = .ok (.iconst (-1), 1) := by decide +kernel
theorem dX7_drop_41 : decode cX7_drop 41 = .ok (.iastore, 1) := by decide +kernel
theorem dX7_drop_42 : decode cX7_drop 42 = .ok (.aload_n 0, 1) := by decide +kernel
theorem dX7_drop_43 : decode cX7_drop 43 = .ok (.getfield 13, 3) := by decide +kernel
theorem dX7_drop_46 : decode cX7_drop 46 = .ok (.iload_n 1, 1) := by decide +kernel
theorem dX7_drop_47 : decode cX7_drop 47 = .ok (.iaload, 1) := by decide +kernel
theorem dX7_drop_48 : decode cX7_drop 48 = .ok (.ireturn, 1) := by decide +kernel
theorem dX7_feed_0 : decode cX7_feed 0 = .ok (.aload_n 0, 1) := by decide +kernel
theorem dX7_feed_1 : decode cX7_feed 1 = .ok (.iconst 0, 1) := by decide +kernel
theorem dX7_feed_2 : decode cX7_feed 2 = .ok (.putfield 65, 3) := by decide +kernel
theorem dX7_feed_5 : decode cX7_feed 5 = .ok (.iload_n 3, 1) := by decide +kernel
theorem dX7_feed_6 : decode cX7_feed 6 = .ok (.i2l, 1) := by decide +kernel
theorem dX7_feed_7 : decode cX7_feed 7 = .ok (.lconst 1, 1) := by decide +kernel
theorem dX7_feed_8 : decode cX7_feed 8 = .ok (.ldc2_w 90, 3) := by decide +kernel
theorem dX7_feed_11 : decode cX7_feed 11 = .ok (.invokestatic 75, 3) := by decide +kernel
theorem dX7_feed_14 : decode cX7_feed 14 = .ok (.ifCond .ne 6, 3) := by decide +kernel
theorem dX7_feed_17 : decode cX7_feed 17 = .ok (.ldc 85, 2) := by decide +kernel
theorem dX7_feed_19 : decode cX7_feed 19 = .ok (.ireturn, 1) := by decide +kernel
theorem dX7_feed_20 : decode cX7_feed 20 = .ok (.aload_n 0, 1) := by decide +kernel
theorem dX7_feed_21 : decode cX7_feed 21 = .ok (.getfield 92, 3) := by decide +kernel
theorem dX7_feed_24 : decode cX7_feed 24 = .ok (.iload_n 3, 1) := by decide +kernel
theorem dX7_feed_25 : decode cX7_feed 25 = .ok (.iadd, 1) := by decide +kernel
theorem dX7_feed_26 : decode cX7_feed 26 = .ok (.sipush 400, 3) := by decide +kernel
theorem dX7_feed_29 : decode cX7_feed 29 = .ok (.if_icmp .le 6, 3) := by decide +kernel
theorem dX7_feed_32 : decode cX7_feed 32 = .ok (.ldc 95, 2) := by decide +kernel
theorem dX7_feed_34 : decode cX7_feed 34 = .ok (.ireturn, 1) := by decide +kernel
theorem dX7_feed_35 : decode cX7_feed 35 = .ok (.iload_n 3, 1) := by decide +kernel
theorem dX7_feed_36 : decode cX7_feed 36 = .ok (.iconst 1, 1) := by decide +kernel
theorem dX7_feed_37 : decode cX7_feed 37 = .ok (.isub, 1) := by decide +kernel
theorem dX7_feed_38 : decode cX7_feed 38 = .ok (.istore 4, 2) := by decide +kernel
theorem dX7_feed_40 : decode cX7_feed 40 = .ok (.iload 4, 2) := by decide +kernel
theorem dX7_feed_42 : decode cX7_feed 42 = .ok (.ifCond .lt 40, 3) := by decide +kernel
theorem dX7_feed_45 : decode cX7_feed 45 = .ok (.aload_n 0, 1) := by decide +kernel
theorem dX7_feed_46 : decode cX7_feed 46 = .ok (.getfield 28, 3) := by decide +kernel
theorem dX7_feed_49 : decode cX7_feed 49 = .ok (.aload_n 0, 1) := by decide +kernel
theorem dX7_feed_50 : decode cX7_feed 50 = .ok (.getfield 92, 3) := by decide +kernel
theorem dX7_feed_53 : decode cX7_feed 53 = .ok (.lload_n 1, 1) := by decide +kernel
theorem dX7_feed_54 : decode cX7_feed 54 = .ok (.bipush 8, 2) := by decide +kernel
theorem dX7_feed_56 : decode cX7_feed 56 = .ok (.iload 4, 2) := by decide +kernel
theorem dX7_feed_58 : decode cX7_feed 58 = .ok (.imul, 1) := by decide +kernel
theorem dX7_feed_59 : decode cX7_feed 59 = .ok (.lshr, 1) := by decide +kernel
theorem dX7_feed_60 : decode cX7_feed 60 = .ok (.ldc2_w 96, 3) := by decide +kernel
theorem dX7_feed_63 : decode cX7_feed 63 = .ok (.land, 1) := by decide +kernel
theorem dX7_feed_64 : decode cX7_feed 64 = .ok (.l2i, 1) := by decide +kernel
theorem dX7_feed_65 : decode cX7_feed 65 = .ok (.iastore, 1) := by decide +kernel
theorem dX7_feed_66 : decode cX7_feed 66 = .ok (.aload_n 0, 1) := by decide +kernel
theorem dX7_feed_67 : decode cX7_feed 67 = .ok (.dup, 1) := by decide +kernel
theorem dX7_feed_68 : decode cX7_feed 68 = .ok (.getfield 92, 3) := by decide +kernel
theorem dX7_feed_71 : decode cX7_feed 71 = .ok (.iconst 1, 1) := by decide +kernel
theorem dX7_feed_72 : decode cX7_feed 72 = .ok (.iadd, 1) := by decide +kernel
theorem dX7_feed_73 : decode cX7_feed 73 = .ok (.putfield 92, 3) := by decide +kernel
theorem dX7_feed_76 : decode cX7_feed 76 = .ok (.iinc 4 (-1), 3) := by decide +kernel
theorem dX7_feed_79 : decode cX7_feed 79 = .ok (.goto (-39), 3) := by decide +kernel
theorem dX7_feed_82 : decode cX7_feed 82 = .ok (.aload_n 0, 1) := by decide +kernel
theorem dX7_feed_83 : decode cX7_feed 83 = .ok (.getfield 92, 3) := by decide +kernel
theorem dX7_feed_86 : decode cX7_feed 86 = .ok (.ireturn, 1) := by decide +kernel
theorem dX7_byteAt_0 : decode cX7_byteAt 0 = .ok (.iload_n 1, 1) := by decide +kernel
theorem dX7_byteAt_1 : decode cX7_byteAt 1 = .ok (.aload_n 0, 1) := by decide +kernel
theorem dX7_byteAt_2 : decode cX7_byteAt 2 = .ok (.getfield 98, 3) := by decide +kernel
theorem dX7_byteAt_5 : decode cX7_byteAt 5 = .ok (.if_icmp .ge 12, 3) := by decide +kernel
theorem dX7_byteAt_8 : decode cX7_byteAt 8 = .ok (.aload_n 0, 1) := by decide +kernel
theorem dX7_byteAt_9 : decode cX7_byteAt 9 = .ok (.getfield 28, 3) := by decide +kernel
theorem dX7_byteAt_12 : decode cX7_byteAt 12 = .ok (.iload_n 1, 1) := by decide +kernel
theorem dX7_byteAt_13 : decode cX7_byteAt 13 = .ok (.iaload, 1) := by decide +kernel
theorem dX7_byteAt_14 : decode cX7_byteAt 14 = .ok (.goto 5, 3) := by decide +kernel
theorem dX7_byteAt_17 : decode cX7_byteAt 17 = .ok (.ldc 101, 2) := by decide +kernel
theorem dX7_byteAt_19 : decode cX7_byteAt 19 = .ok (.ireturn, 1) := by decide +kernel
theorem dX7_isLetter_0 : decode cX7_isLetter 0 = .ok (.iload_n 0, 1) := by decide +kernel
theorem dX7_isLetter_1 : decode cX7_isLetter 1 = .ok (.bipush 97, 2) := by decide +kernel
theorem dX7_isLetter_3 : decode cX7_isLetter 3 = .ok (.if_icmp .lt 13, 3) := by decide +kernel
theorem dX7_isLetter_6 : decode cX7_isLetter 6 = .ok (.iload_n 0, 1) := by decide +kernel
theorem dX7_isLetter_7 : decode cX7_isLetter 7 = .ok (.bipush 122, 2) := by decide +kernel
theorem dX7_isLetter_9 : decode cX7_isLetter 9 = .ok (.if_icmp .gt 7, 3) := by decide +kernel
theorem dX7_isLetter_12 : decode cX7_isLetter 12 = .ok (.iconst 1, 1) := by decide +kernel
theorem dX7_isLetter_13 : decode cX7_isLetter 13 = .ok (.goto 4, 3) := by decide +kernel
theorem dX7_isLetter_16 : decode cX7_isLetter 16 = .ok (.iconst 0, 1) := by decide +kernel
theorem dX7_isLetter_17 : decode cX7_isLetter 17 = .ok (.ireturn, 1) := by decide +kernel
theorem dX7_isFigure_0 : decode cX7_isFigure 0 = .ok (.iload_n 0, 1) := by decide +kernel
theorem dX7_isFigure_1 : decode cX7_isFigure 1 = .ok (.bipush 48, 2) := by decide +kernel
theorem dX7_isFigure_3 : decode cX7_isFigure 3 = .ok (.if_icmp .lt 13, 3) := by decide +kernel
theorem dX7_isFigure_6 : decode cX7_isFigure 6 = .ok (.iload_n 0, 1) := by decide +kernel
theorem dX7_isFigure_7 : decode cX7_isFigure 7 = .ok (.bipush 57, 2) := by decide +kernel
theorem dX7_isFigure_9 : decode cX7_isFigure 9 = .ok (.if_icmp .gt 7, 3) := by decide +kernel
theorem dX7_isFigure_12 : decode cX7_isFigure 12 = .ok (.iconst 1, 1) := by decide +kernel
theorem dX7_isFigure_13 : decode cX7_isFigure 13 = .ok (.goto 4, 3) := by decide +kernel
theorem dX7_isFigure_16 : decode cX7_isFigure 16 = .ok (.iconst 0, 1) := by decide +kernel
theorem dX7_isFigure_17 : decode cX7_isFigure 17 = .ok (.ireturn, 1) := by decide +kernel
theorem dX7_next_0 : decode cX7_next 0 = .ok (.aload_n 0, 1) := by decide +kernel
theorem dX7_next_1 : decode cX7_next 1 = .ok (.aload_n 0, 1) := by decide +kernel
theorem dX7_next_2 : decode cX7_next 2 = .ok (.getfield 102, 3) := by decide +kernel
theorem dX7_next_5 : decode cX7_next 5 = .ok (.invokevirtual 105, 3) := by decide +kernel
theorem dX7_next_8 : decode cX7_next 8 = .ok (.bipush 32, 2) := by decide +kernel
theorem dX7_next_10 : decode cX7_next 10 = .ok (.if_icmp .eq 16, 3) := by decide +kernel
theorem dX7_next_13 : decode cX7_next 13 = .ok (.aload_n 0, 1) := by decide +kernel
theorem dX7_next_14 : decode cX7_next 14 = .ok (.aload_n 0, 1) := by decide +kernel
theorem dX7_next_15 : decode cX7_next 15 = .ok (.getfield 102, 3) := by decide +kernel
theorem dX7_next_18 : decode cX7_next 18 = .ok (.invokevirtual 105, 3) := by decide +kernel
theorem dX7_next_21 : decode cX7_next 21 = .ok (.bipush 10, 2) := by decide +kernel
theorem dX7_next_23 : decode cX7_next 23 = .ok (.if_icmp .ne 16, 3) := by decide +kernel
theorem dX7_next_26 : decode cX7_next 26 = .ok (.aload_n 0, 1) := by decide +kernel
theorem dX7_next_27 : decode cX7_next 27 = .ok (.dup, 1) := by decide +kernel
theorem dX7_next_28 : decode cX7_next 28 = .ok (.getfield 102, 3) := by decide +kernel
theorem dX7_next_31 : decode cX7_next 31 = .ok (.iconst 1, 1) := by decide +kernel
theorem dX7_next_32 : decode cX7_next 32 = .ok (.iadd, 1) := by decide +kernel
theorem dX7_next_33 : decode cX7_next 33 = .ok (.putfield 102, 3) := by decide +kernel
theorem dX7_next_36 : decode cX7_next 36 = .ok (.goto (-36), 3) := by decide +kernel
theorem dX7_next_39 : decode cX7_next 39 = .ok (.aload_n 0, 1) := by decide +kernel
theorem dX7_next_40 : decode cX7_next 40 = .ok (.aload_n 0, 1) := by decide +kernel
theorem dX7_next_41 : decode cX7_next 41 = .ok (.getfield 102, 3) := by decide +kernel
theorem dX7_next_44 : decode cX7_next 44 = .ok (.putfield 108, 3) := by decide +kernel
theorem dX7_next_47 : decode cX7_next 47 = .ok (.aload_n 0, 1) := by decide +kernel
theorem dX7_next_48 : decode cX7_next 48 = .ok (.aload_n 0, 1) := by decide +kernel
theorem dX7_next_49 : decode cX7_next 49 = .ok (.getfield 102, 3) := by decide +kernel
theorem dX7_next_52 : decode cX7_next 52 = .ok (.invokevirtual 105, 3) := by decide +kernel
theorem dX7_next_55 : decode cX7_next 55 = .ok (.istore_n 1, 1) := by decide +kernel
theorem dX7_next_56 : decode cX7_next 56 = .ok (.iload_n 1, 1) := by decide +kernel
theorem dX7_next_57 : decode cX7_next 57 = .ok (.ldc 101, 2) := by decide +kernel
theorem dX7_next_59 : decode cX7_next 59 = .ok (.if_icmp .ne 11, 3) := by decide +kernel
theorem dX7_next_62 : decode cX7_next 62 = .ok (.aload_n 0, 1) := by decide +kernel
theorem dX7_next_63 : decode cX7_next 63 = .ok (.iconst 1, 1) := by decide +kernel
theorem dX7_next_64 : decode cX7_next 64 = .ok (.putfield 111, 3) := by decide +kernel
theorem dX7_next_67 : decode cX7_next 67 = .ok (.goto 129, 3) := by decide +kernel
theorem dX7_next_70 : decode cX7_next 70 = .ok (.iload_n 1, 1) := by decide +kernel
theorem dX7_next_71 : decode cX7_next 71 = .ok (.invokestatic 114, 3) := by decide +kernel
theorem dX7_next_74 : decode cX7_next 74 = .ok (.ifCond .eq 38, 3) := by decide +kernel
theorem dX7_next_77 : decode cX7_next 77 = .ok (.aload_n 0, 1) := by decide +kernel
theorem dX7_next_78 : decode cX7_next 78 = .ok (.aload_n 0, 1) := by decide +kernel
theorem dX7_next_79 : decode cX7_next 79 = .ok (.getfield 102, 3) := by decide +kernel
theorem dX7_next_82 : decode cX7_next 82 = .ok (.invokevirtual 105, 3) := by decide +kernel
theorem dX7_next_85 : decode cX7_next 85 = .ok (.invokestatic 114, 3) := by decide +kernel
theorem dX7_next_88 : decode cX7_next 88 = .ok (.ifCond .eq 16, 3) := by decide +kernel
theorem dX7_next_91 : decode cX7_next 91 = .ok (.aload_n 0, 1) := by decide +kernel
theorem dX7_next_92 : decode cX7_next 92 = .ok (.dup, 1) := by decide +kernel
theorem dX7_next_93 : decode cX7_next 93 = .ok (.getfield 102, 3) := by decide +kernel
theorem dX7_next_96 : decode cX7_next 96 = .ok (.iconst 1, 1) := by decide +kernel
theorem dX7_next_97 : decode cX7_next 97 = .ok (.iadd, 1) := by decide +kernel
theorem dX7_next_98 : decode cX7_next 98 = .ok (.putfield 102, 3) := by decide +kernel
theorem dX7_next_101 : decode cX7_next 101 = .ok (.goto (-24), 3) := by decide +kernel
theorem dX7_next_104 : decode cX7_next 104 = .ok (.aload_n 0, 1) := by decide +kernel
theorem dX7_next_105 : decode cX7_next 105 = .ok (.iconst 2, 1) := by decide +kernel
theorem dX7_next_106 : decode cX7_next 106 = .ok (.putfield 111, 3) := by decide +kernel
theorem dX7_next_109 : decode cX7_next 109 = .ok (.goto 87, 3) := by decide +kernel
theorem dX7_next_112 : decode cX7_next 112 = .ok (.iload_n 1, 1) := by decide +kernel
theorem dX7_next_113 : decode cX7_next 113 = .ok (.invokestatic 117, 3) := by decide +kernel
theorem dX7_next_116 : decode cX7_next 116 = .ok (.ifCond .eq 55, 3) := by decide +kernel
theorem dX7_next_119 : decode cX7_next 119 = .ok (.aload_n 0, 1) := by decide +kernel
theorem dX7_next_120 : decode cX7_next 120 = .ok (.aload_n 0, 1) := by decide +kernel
theorem dX7_next_121 : decode cX7_next 121 = .ok (.getfield 102, 3) := by decide +kernel
theorem dX7_next_124 : decode cX7_next 124 = .ok (.invokevirtual 105, 3) := by decide +kernel
theorem dX7_next_127 : decode cX7_next 127 = .ok (.invokestatic 117, 3) := by decide +kernel
theorem dX7_next_130 : decode cX7_next 130 = .ok (.ifCond .eq 16, 3) := by decide +kernel
theorem dX7_next_133 : decode cX7_next 133 = .ok (.aload_n 0, 1) := by decide +kernel
theorem dX7_next_134 : decode cX7_next 134 = .ok (.dup, 1) := by decide +kernel
theorem dX7_next_135 : decode cX7_next 135 = .ok (.getfield 102, 3) := by decide +kernel
theorem dX7_next_138 : decode cX7_next 138 = .ok (.iconst 1, 1) := by decide +kernel
theorem dX7_next_139 : decode cX7_next 139 = .ok (.iadd, 1) := by decide +kernel
theorem dX7_next_140 : decode cX7_next 140 = .ok (.putfield 102, 3) := by decide +kernel
theorem dX7_next_143 : decode cX7_next 143 = .ok (.goto (-24), 3) := by decide +kernel
theorem dX7_next_146 : decode cX7_next 146 = .ok (.aload_n 0, 1) := by decide +kernel
theorem dX7_next_147 : decode cX7_next 147 = .ok (.aload_n 0, 1) := by decide +kernel
theorem dX7_next_148 : decode cX7_next 148 = .ok (.getfield 102, 3) := by decide +kernel
theorem dX7_next_151 : decode cX7_next 151 = .ok (.aload_n 0, 1) := by decide +kernel
theorem dX7_next_152 : decode cX7_next 152 = .ok (.getfield 108, 3) := by decide +kernel
theorem dX7_next_155 : decode cX7_next 155 = .ok (.isub, 1) := by decide +kernel
theorem dX7_next_156 : decode cX7_next 156 = .ok (.iconst 3, 1) := by decide +kernel
theorem dX7_next_157 : decode cX7_next 157 = .ok (.if_icmp .le 7, 3) := by decide +kernel
theorem dX7_next_160 : decode cX7_next 160 = .ok (.iconst 0, 1) := by decide +kernel
theorem dX7_next_161 : decode cX7_next 161 = .ok (.goto 4, 3) := by decide +kernel
theorem dX7_next_164 : decode cX7_next 164 = .ok (.iconst 3, 1) := by decide +kernel
theorem dX7_next_165 : decode cX7_next 165 = .ok (.putfield 111, 3) := by decide +kernel
theorem dX7_next_168 : decode cX7_next 168 = .ok (.goto 28, 3) := by decide +kernel
theorem dX7_next_171 : decode cX7_next 171 = .ok (.aload_n 0, 1) := by decide +kernel
theorem dX7_next_172 : decode cX7_next 172 = .ok (.dup, 1) := by decide +kernel
theorem dX7_next_173 : decode cX7_next 173 = .ok (.getfield 102, 3) := by decide +kernel
theorem dX7_next_176 : decode cX7_next 176 = .ok (.iconst 1, 1) := by decide +kernel
theorem dX7_next_177 : decode cX7_next 177 = .ok (.iadd, 1) := by decide +kernel
theorem dX7_next_178 : decode cX7_next 178 = .ok (.putfield 102, 3) := by decide +kernel
theorem dX7_next_181 : decode cX7_next 181 = .ok (.aload_n 0, 1) := by decide +kernel
theorem dX7_next_182 : decode cX7_next 182 = .ok (.iload_n 1, 1) := by decide +kernel
theorem dX7_next_183 : decode cX7_next 183 = .ok (.bipush 59, 2) := by decide +kernel
theorem dX7_next_185 : decode cX7_next 185 = .ok (.if_icmp .ne 7, 3) := by decide +kernel
theorem dX7_next_188 : decode cX7_next 188 = .ok (.iconst 4, 1) := by decide +kernel
theorem dX7_next_189 : decode cX7_next 189 = .ok (.goto 4, 3) := by decide +kernel
theorem dX7_next_192 : decode cX7_next 192 = .ok (.iconst 0, 1) := by decide +kernel
theorem dX7_next_193 : decode cX7_next 193 = .ok (.putfield 111, 3) := by decide +kernel
theorem dX7_next_196 : decode cX7_next 196 = .ok (.aload_n 0, 1) := by decide +kernel
theorem dX7_next_197 : decode cX7_next 197 = .ok (.aload_n 0, 1) := by decide +kernel
theorem dX7_next_198 : decode cX7_next 198 = .ok (.getfield 102, 3) := by decide +kernel
theorem dX7_next_201 : decode cX7_next 201 = .ok (.putfield 120, 3) := by decide +kernel
theorem dX7_next_204 : decode cX7_next 204 = .ok (.return_, 1) := by decide +kernel
theorem dX7_begin_0 : decode cX7_begin 0 = .ok (.aload_n 0, 1) := by decide +kernel
theorem dX7_begin_1 : decode cX7_begin 1 = .ok (.aload_n 0, 1) := by decide +kernel
theorem dX7_begin_2 : decode cX7_begin 2 = .ok (.getfield 92, 3) := by decide +kernel
theorem dX7_begin_5 : decode cX7_begin 5 = .ok (.putfield 98, 3) := by decide +kernel
theorem dX7_begin_8 : decode cX7_begin 8 = .ok (.aload_n 0, 1) := by decide +kernel
theorem dX7_begin_9 : decode cX7_begin 9 = .ok (.iconst 0, 1) := by decide +kernel
theorem dX7_begin_10 : decode cX7_begin 10 = .ok (.putfield 92, 3) := by decide +kernel
theorem dX7_begin_13 : decode cX7_begin 13 = .ok (.aload_n 0, 1) := by decide +kernel
theorem dX7_begin_14 : decode cX7_begin 14 = .ok (.iconst 0, 1) := by decide +kernel
theorem dX7_begin_15 : decode cX7_begin 15 = .ok (.putfield 102, 3) := by decide +kernel
theorem dX7_begin_18 : decode cX7_begin 18 = .ok (.aload_n 0, 1) := by decide +kernel
theorem dX7_begin_19 : decode cX7_begin 19 = .ok (.iconst 0, 1) := by decide +kernel
theorem dX7_begin_20 : decode cX7_begin 20 = .ok (.putfield 123, 3) := by decide +kernel
theorem dX7_begin_23 : decode cX7_begin 23 = .ok (.aload_n 0, 1) := by decide +kernel
theorem dX7_begin_24 : decode cX7_begin 24 = .ok (.invokevirtual 126, 3) := by decide +kernel
theorem dX7_begin_27 : decode cX7_begin 27 = .ok (.return_, 1) := by decide +kernel
theorem dX7_bad_0 : decode cX7_bad 0 = .ok (.aload_n 0, 1) := by decide +kernel
theorem dX7_bad_1 : decode cX7_bad 1 = .ok (.getfield 123, 3) := by decide +kernel
theorem dX7_bad_4 : decode cX7_bad 4 = .ok (.ifCond .ne 16, 3) := by decide +kernel
theorem dX7_bad_7 : decode cX7_bad 7 = .ok (.aload_n 0, 1) := by decide +kernel
theorem dX7_bad_8 : decode cX7_bad 8 = .ok (.iload_n 1, 1) := by decide +kernel
theorem dX7_bad_9 : decode cX7_bad 9 = .ok (.putfield 123, 3) := by decide +kernel
theorem dX7_bad_12 : decode cX7_bad 12 = .ok (.aload_n 0, 1) := by decide +kernel
theorem dX7_bad_13 : decode cX7_bad 13 = .ok (.aload_n 0, 1) := by decide +kernel
theorem dX7_bad_14 : decode cX7_bad 14 = .ok (.getfield 108, 3) := by decide +kernel
theorem dX7_bad_17 : decode cX7_bad 17 = .ok (.putfield 129, 3) := by decide +kernel
theorem dX7_bad_20 : decode cX7_bad 20 = .ok (.return_, 1) := by decide +kernel
theorem dX7_must_0 : decode cX7_must 0 = .ok (.iload_n 1, 1) := by decide +kernel
theorem dX7_must_1 : decode cX7_must 1 = .ok (.ifCond .ne 8, 3) := by decide +kernel
theorem dX7_must_4 : decode cX7_must 4 = .ok (.aload_n 0, 1) := by decide +kernel
theorem dX7_must_5 : decode cX7_must 5 = .ok (.iconst 1, 1) := by decide +kernel
theorem dX7_must_6 : decode cX7_must 6 = .ok (.invokevirtual 132, 3) := by decide +kernel
theorem dX7_must_9 : decode cX7_must 9 = .ok (.aload_n 0, 1) := by decide +kernel
theorem dX7_must_10 : decode cX7_must 10 = .ok (.getfield 123, 3) := by decide +kernel
theorem dX7_must_13 : decode cX7_must 13 = .ok (.ifCond .ne 7, 3) := by decide +kernel
theorem dX7_must_16 : decode cX7_must 16 = .ok (.aload_n 0, 1) := by decide +kernel
theorem dX7_must_17 : decode cX7_must 17 = .ok (.invokevirtual 126, 3) := by decide +kernel
theorem dX7_must_20 : decode cX7_must 20 = .ok (.return_, 1) := by decide +kernel
theorem dX7_name_0 : decode cX7_name 0 = .ok (.lconst 0, 1) := by decide +kernel
theorem dX7_name_1 : decode cX7_name 1 = .ok (.lstore_n 1, 1) := by decide +kernel
theorem dX7_name_2 : decode cX7_name 2 = .ok (.aload_n 0, 1) := by decide +kernel
theorem dX7_name_3 : decode cX7_name 3 = .ok (.getfield 108, 3) := by decide +kernel
theorem dX7_name_6 : decode cX7_name 6 = .ok (.istore_n 3, 1) := by decide +kernel
theorem dX7_name_7 : decode cX7_name 7 = .ok (.iload_n 3, 1) := by decide +kernel
theorem dX7_name_8 : decode cX7_name 8 = .ok (.aload_n 0, 1) := by decide +kernel
theorem dX7_name_9 : decode cX7_name 9 = .ok (.getfield 120, 3) := by decide +kernel
theorem dX7_name_12 : decode cX7_name 12 = .ok (.if_icmp .ge 44, 3) := by decide +kernel
theorem dX7_name_15 : decode cX7_name 15 = .ok (.aload_n 0, 1) := by decide +kernel
theorem dX7_name_16 : decode cX7_name 16 = .ok (.getfield 111, 3) := by decide +kernel
theorem dX7_name_19 : decode cX7_name 19 = .ok (.iconst 2, 1) := by decide +kernel
theorem dX7_name_20 : decode cX7_name 20 = .ok (.if_icmp .ne 36, 3) := by decide +kernel
theorem dX7_name_23 : decode cX7_name 23 = .ok (.aload_n 0, 1) := by decide +kernel
theorem dX7_name_24 : decode cX7_name 24 = .ok (.getfield 120, 3) := by decide +kernel
theorem dX7_name_27 : decode cX7_name 27 = .ok (.aload_n 0, 1) := by decide +kernel
theorem dX7_name_28 : decode cX7_name 28 = .ok (.getfield 108, 3) := by decide +kernel
theorem dX7_name_31 : decode cX7_name 31 = .ok (.isub, 1) := by decide +kernel
theorem dX7_name_32 : decode cX7_name 32 = .ok (.bipush 8, 2) := by decide +kernel
theorem dX7_name_34 : decode cX7_name 34 = .ok (.if_icmp .ge 22, 3) := by decide +kernel
theorem dX7_name_37 : decode cX7_name 37 = .ok (.lload_n 1, 1) := by decide +kernel
theorem dX7_name_38 : decode cX7_name 38 = .ok (.bipush 8, 2) := by decide +kernel
theorem dX7_name_40 : decode cX7_name 40 = .ok (.lshl, 1) := by decide +kernel
theorem dX7_name_41 : decode cX7_name 41 = .ok (.aload_n 0, 1) := by decide +kernel
theorem dX7_name_42 : decode cX7_name 42 = .ok (.getfield 28, 3) := by decide +kernel
theorem dX7_name_45 : decode cX7_name 45 = .ok (.iload_n 3, 1) := by decide +kernel
theorem dX7_name_46 : decode cX7_name 46 = .ok (.iaload, 1) := by decide +kernel
theorem dX7_name_47 : decode cX7_name 47 = .ok (.i2l, 1) := by decide +kernel
theorem dX7_name_48 : decode cX7_name 48 = .ok (.lor, 1) := by decide +kernel
theorem dX7_name_49 : decode cX7_name 49 = .ok (.lstore_n 1, 1) := by decide +kernel
theorem dX7_name_50 : decode cX7_name 50 = .ok (.iinc 3 1, 3) := by decide +kernel
theorem dX7_name_53 : decode cX7_name 53 = .ok (.goto (-46), 3) := by decide +kernel
theorem dX7_name_56 : decode cX7_name 56 = .ok (.aload_n 0, 1) := by decide +kernel
theorem dX7_name_57 : decode cX7_name 57 = .ok (.getfield 123, 3) := by decide +kernel
theorem dX7_name_60 : decode cX7_name 60 = .ok (.ifCond .ne 7, 3) := by decide +kernel
theorem dX7_name_63 : decode cX7_name 63 = .ok (.lload_n 1, 1) := by decide +kernel
theorem dX7_name_64 : decode cX7_name 64 = .ok (.goto 4, 3) := by decide +kernel
theorem dX7_name_67 : decode cX7_name 67 = .ok (.lconst 0, 1) := by decide +kernel
theorem dX7_name_68 : decode cX7_name 68 = .ok (.lreturn, 1) := by decide +kernel
theorem dX7_figures_0 : decode cX7_figures 0 = .ok (.iconst 0, 1) := by decide +kernel
theorem dX7_figures_1 : decode cX7_figures 1 = .ok (.istore_n 1, 1) := by decide +kernel
theorem dX7_figures_2 : decode cX7_figures 2 = .ok (.aload_n 0, 1) := by decide +kernel
theorem dX7_figures_3 : decode cX7_figures 3 = .ok (.getfield 108, 3) := by decide +kernel
theorem dX7_figures_6 : decode cX7_figures 6 = .ok (.istore_n 2, 1) := by decide +kernel
theorem dX7_figures_7 : decode cX7_figures 7 = .ok (.iload_n 2, 1) := by decide +kernel
theorem dX7_figures_8 : decode cX7_figures 8 = .ok (.aload_n 0, 1) := by decide +kernel
theorem dX7_figures_9 : decode cX7_figures 9 = .ok (.getfield 120, 3) := by decide +kernel
theorem dX7_figures_12 : decode cX7_figures 12 = .ok (.if_icmp .ge 32, 3) := by decide +kernel
theorem dX7_figures_15 : decode cX7_figures 15 = .ok (.aload_n 0, 1) := by decide +kernel
theorem dX7_figures_16 : decode cX7_figures 16 = .ok (.getfield 111, 3) := by decide +kernel
theorem dX7_figures_19 : decode cX7_figures 19 = .ok (.iconst 3, 1) := by decide +kernel
theorem dX7_figures_20 : decode cX7_figures 20 = .ok (.if_icmp .ne 24, 3) := by decide +kernel
theorem dX7_figures_23 : decode cX7_figures 23 = .ok (.bipush 10, 2) := by decide +kernel
theorem dX7_figures_25 : decode cX7_figures 25 = .ok (.iload_n 1, 1) := by decide +kernel
theorem dX7_figures_26 : decode cX7_figures 26 = .ok (.imul, 1) := by decide +kernel
theorem dX7_figures_27 : decode cX7_figures 27 = .ok (.aload_n 0, 1) := by decide +kernel
theorem dX7_figures_28 : decode cX7_figures 28 = .ok (.getfield 28, 3) := by decide +kernel
theorem dX7_figures_31 : decode cX7_figures 31 = .ok (.iload_n 2, 1) := by decide +kernel
theorem dX7_figures_32 : decode cX7_figures 32 = .ok (.iaload, 1) := by decide +kernel
theorem dX7_figures_33 : decode cX7_figures 33 = .ok (.iadd, 1) := by decide +kernel
theorem dX7_figures_34 : decode cX7_figures 34 = .ok (.bipush 48, 2) := by decide +kernel
theorem dX7_figures_36 : decode cX7_figures 36 = .ok (.isub, 1) := by decide +kernel
theorem dX7_figures_37 : decode cX7_figures 37 = .ok (.istore_n 1, 1) := by decide +kernel
theorem dX7_figures_38 : decode cX7_figures 38 = .ok (.iinc 2 1, 3) := by decide +kernel
theorem dX7_figures_41 : decode cX7_figures 41 = .ok (.goto (-34), 3) := by decide +kernel
theorem dX7_figures_44 : decode cX7_figures 44 = .ok (.iload_n 1, 1) := by decide +kernel
theorem dX7_figures_45 : decode cX7_figures 45 = .ok (.ireturn, 1) := by decide +kernel
theorem dX7_number_0 : decode cX7_number 0 = .ok (.aload_n 0, 1) := by decide +kernel
theorem dX7_number_1 : decode cX7_number 1 = .ok (.getfield 123, 3) := by decide +kernel
theorem dX7_number_4 : decode cX7_number 4 = .ok (.ifCond .le 5, 3) := by decide +kernel
theorem dX7_number_7 : decode cX7_number 7 = .ok (.iconst 0, 1) := by decide +kernel
theorem dX7_number_8 : decode cX7_number 8 = .ok (.ireturn, 1) := by decide +kernel
theorem dX7_number_9 : decode cX7_number 9 = .ok (.aload_n 0, 1) := by decide +kernel
theorem dX7_number_10 : decode cX7_number 10 = .ok (.invokevirtual 136, 3) := by decide +kernel
theorem dX7_number_13 : decode cX7_number 13 = .ok (.istore_n 3, 1) := by decide +kernel
theorem dX7_number_14 : decode cX7_number 14 = .ok (.aload_n 0, 1) := by decide +kernel
theorem dX7_number_15 : decode cX7_number 15 = .ok (.getfield 111, 3) := by decide +kernel
theorem dX7_number_18 : decode cX7_number 18 = .ok (.iconst 3, 1) := by decide +kernel
theorem dX7_number_19 : decode cX7_number 19 = .ok (.if_icmp .ne 20, 3) := by decide +kernel
theorem dX7_number_22 : decode cX7_number 22 = .ok (.iload_n 3, 1) := by decide +kernel
theorem dX7_number_23 : decode cX7_number 23 = .ok (.i2l, 1) := by decide +kernel
theorem dX7_number_24 : decode cX7_number 24 = .ok (.iload_n 1, 1) := by decide +kernel
theorem dX7_number_25 : decode cX7_number 25 = .ok (.i2l, 1) := by decide +kernel
theorem dX7_number_26 : decode cX7_number 26 = .ok (.iload_n 2, 1) := by decide +kernel
theorem dX7_number_27 : decode cX7_number 27 = .ok (.i2l, 1) := by decide +kernel
theorem dX7_number_28 : decode cX7_number 28 = .ok (.invokestatic 75, 3) := by decide +kernel
theorem dX7_number_31 : decode cX7_number 31 = .ok (.ifCond .ne 8, 3) := by decide +kernel
theorem dX7_number_34 : decode cX7_number 34 = .ok (.aload_n 0, 1) := by decide +kernel
theorem dX7_number_35 : decode cX7_number 35 = .ok (.iconst 2, 1) := by decide +kernel
theorem dX7_number_36 : decode cX7_number 36 = .ok (.invokevirtual 132, 3) := by decide +kernel
theorem dX7_number_39 : decode cX7_number 39 = .ok (.aload_n 0, 1) := by decide +kernel
theorem dX7_number_40 : decode cX7_number 40 = .ok (.aload_n 0, 1) := by decide +kernel
theorem dX7_number_41 : decode cX7_number 41 = .ok (.getfield 111, 3) := by decide +kernel
theorem dX7_number_44 : decode cX7_number 44 = .ok (.iconst 3, 1) := by decide +kernel
theorem dX7_number_45 : decode cX7_number 45 = .ok (.if_icmp .ne 7, 3) := by decide +kernel
theorem dX7_number_48 : decode cX7_number 48 = .ok (.iconst 1, 1) := by decide +kernel
theorem dX7_number_49 : decode cX7_number 49 = .ok (.goto 4, 3) := by decide +kernel
theorem dX7_number_52 : decode cX7_number 52 = .ok (.iconst 0, 1) := by decide +kernel
theorem dX7_number_53 : decode cX7_number 53 = .ok (.invokevirtual 140, 3) := by decide +kernel
theorem dX7_number_56 : decode cX7_number 56 = .ok (.iload_n 3, 1) := by decide +kernel
theorem dX7_number_57 : decode cX7_number 57 = .ok (.ireturn, 1) := by decide +kernel
theorem dX7_kindBy_0 : decode cX7_kindBy 0 = .ok (.lload_n 0, 1) := by decide +kernel
theorem dX7_kindBy_1 : decode cX7_kindBy 1 = .ok (.ldc2_w 144, 3) := by decide +kernel
theorem dX7_kindBy_4 : decode cX7_kindBy 4 = .ok (.lcmp, 1) := by decide +kernel
theorem dX7_kindBy_5 : decode cX7_kindBy 5 = .ok (.ifCond .ne 7, 3) := by decide +kernel
theorem dX7_kindBy_8 : decode cX7_kindBy 8 = .ok (.iconst 1, 1) := by decide +kernel
theorem dX7_kindBy_9 : decode cX7_kindBy 9 = .ok (.goto 53, 3) := by decide +kernel
theorem dX7_kindBy_12 : decode cX7_kindBy 12 = .ok (.lload_n 0, 1) := by decide +kernel
theorem dX7_kindBy_13 : decode cX7_kindBy 13 = .ok (.ldc2_w 146, 3) := by decide +kernel
theorem dX7_kindBy_16 : decode cX7_kindBy 16 = .ok (.lcmp, 1) := by decide +kernel
theorem dX7_kindBy_17 : decode cX7_kindBy 17 = .ok (.ifCond .ne 7, 3) := by decide +kernel
theorem dX7_kindBy_20 : decode cX7_kindBy 20 = .ok (.iconst 4, 1) := by decide +kernel
theorem dX7_kindBy_21 : decode cX7_kindBy 21 = .ok (.goto 41, 3) := by decide +kernel
theorem dX7_kindBy_24 : decode cX7_kindBy 24 = .ok (.lload_n 0, 1) := by decide +kernel
theorem dX7_kindBy_25 : decode cX7_kindBy 25 = .ok (.ldc2_w 148, 3) := by decide +kernel
theorem dX7_kindBy_28 : decode cX7_kindBy 28 = .ok (.lcmp, 1) := by decide +kernel
theorem dX7_kindBy_29 : decode cX7_kindBy 29 = .ok (.ifCond .ne 7, 3) := by decide +kernel
theorem dX7_kindBy_32 : decode cX7_kindBy 32 = .ok (.iconst 2, 1) := by decide +kernel
theorem dX7_kindBy_33 : decode cX7_kindBy 33 = .ok (.goto 29, 3) := by decide +kernel
theorem dX7_kindBy_36 : decode cX7_kindBy 36 = .ok (.lload_n 0, 1) := by decide +kernel
theorem dX7_kindBy_37 : decode cX7_kindBy 37 = .ok (.ldc2_w 150, 3) := by decide +kernel
theorem dX7_kindBy_40 : decode cX7_kindBy 40 = .ok (.lcmp, 1) := by decide +kernel
theorem dX7_kindBy_41 : decode cX7_kindBy 41 = .ok (.ifCond .ne 7, 3) := by decide +kernel
theorem dX7_kindBy_44 : decode cX7_kindBy 44 = .ok (.iconst 3, 1) := by decide +kernel
theorem dX7_kindBy_45 : decode cX7_kindBy 45 = .ok (.goto 17, 3) := by decide +kernel
theorem dX7_kindBy_48 : decode cX7_kindBy 48 = .ok (.lload_n 0, 1) := by decide +kernel
theorem dX7_kindBy_49 : decode cX7_kindBy 49 = .ok (.ldc2_w 152, 3) := by decide +kernel
theorem dX7_kindBy_52 : decode cX7_kindBy 52 = .ok (.lcmp, 1) := by decide +kernel
theorem dX7_kindBy_53 : decode cX7_kindBy 53 = .ok (.ifCond .ne 7, 3) := by decide +kernel
theorem dX7_kindBy_56 : decode cX7_kindBy 56 = .ok (.iconst 5, 1) := by decide +kernel
theorem dX7_kindBy_57 : decode cX7_kindBy 57 = .ok (.goto 5, 3) := by decide +kernel
theorem dX7_kindBy_60 : decode cX7_kindBy 60 = .ok (.ldc 101, 2) := by decide +kernel
theorem dX7_kindBy_62 : decode cX7_kindBy 62 = .ok (.ireturn, 1) := by decide +kernel
theorem dX7_mustEnd_0 : decode cX7_mustEnd 0 = .ok (.aload_n 0, 1) := by decide +kernel
theorem dX7_mustEnd_1 : decode cX7_mustEnd 1 = .ok (.getfield 123, 3) := by decide +kernel
theorem dX7_mustEnd_4 : decode cX7_mustEnd 4 = .ok (.ifCond .ne 20, 3) := by decide +kernel
theorem dX7_mustEnd_7 : decode cX7_mustEnd 7 = .ok (.aload_n 0, 1) := by decide +kernel
theorem dX7_mustEnd_8 : decode cX7_mustEnd 8 = .ok (.aload_n 0, 1) := by decide +kernel
theorem dX7_mustEnd_9 : decode cX7_mustEnd 9 = .ok (.getfield 111, 3) := by decide +kernel
theorem dX7_mustEnd_12 : decode cX7_mustEnd 12 = .ok (.iconst 4, 1) := by decide +kernel
theorem dX7_mustEnd_13 : decode cX7_mustEnd 13 = .ok (.if_icmp .ne 7, 3) := by decide +kernel
theorem dX7_mustEnd_16 : decode cX7_mustEnd 16 = .ok (.iconst 1, 1) := by decide +kernel
theorem dX7_mustEnd_17 : decode cX7_mustEnd 17 = .ok (.goto 4, 3) := by decide +kernel
theorem dX7_mustEnd_20 : decode cX7_mustEnd 20 = .ok (.iconst 0, 1) := by decide +kernel
theorem dX7_mustEnd_21 : decode cX7_mustEnd 21 = .ok (.invokevirtual 140, 3) := by decide +kernel
theorem dX7_mustEnd_24 : decode cX7_mustEnd 24 = .ok (.return_, 1) := by decide +kernel
theorem dX7_readToll_0 : decode cX7_readToll 0 = .ok (.aload_n 0, 1) := by decide +kernel
theorem dX7_readToll_1 : decode cX7_readToll 1 = .ok (.aload_n 0, 1) := by decide +kernel
theorem dX7_readToll_2 : decode cX7_readToll 2 = .ok (.invokevirtual 154, 3) := by decide +kernel
theorem dX7_readToll_5 : decode cX7_readToll 5 = .ok (.ldc2_w 158, 3) := by decide +kernel
theorem dX7_readToll_8 : decode cX7_readToll 8 = .ok (.lcmp, 1) := by decide +kernel
theorem dX7_readToll_9 : decode cX7_readToll 9 = .ok (.ifCond .ne 7, 3) := by decide +kernel
theorem dX7_readToll_12 : decode cX7_readToll 12 = .ok (.iconst 1, 1) := by decide +kernel
theorem dX7_readToll_13 : decode cX7_readToll 13 = .ok (.goto 4, 3) := by decide +kernel
theorem dX7_readToll_16 : decode cX7_readToll 16 = .ok (.iconst 0, 1) := by decide +kernel
theorem dX7_readToll_17 : decode cX7_readToll 17 = .ok (.invokevirtual 140, 3) := by decide +kernel
theorem dX7_readToll_20 : decode cX7_readToll 20 = .ok (.iconst 0, 1) := by decide +kernel
theorem dX7_readToll_21 : decode cX7_readToll 21 = .ok (.istore_n 1, 1) := by decide +kernel
theorem dX7_readToll_22 : decode cX7_readToll 22 = .ok (.iload_n 1, 1) := by decide +kernel
theorem dX7_readToll_23 : decode cX7_readToll 23 = .ok (.bipush 6, 2) := by decide +kernel
theorem dX7_readToll_25 : decode cX7_readToll 25 = .ok (.if_icmp .ge 24, 3) := by decide +kernel
theorem dX7_readToll_28 : decode cX7_readToll 28 = .ok (.aload_n 0, 1) := by decide +kernel
theorem dX7_readToll_29 : decode cX7_readToll 29 = .ok (.getfield 22, 3) := by decide +kernel
theorem dX7_readToll_32 : decode cX7_readToll 32 = .ok (.iconst 2, 1) := by decide +kernel
theorem dX7_readToll_33 : decode cX7_readToll 33 = .ok (.iload_n 1, 1) := by decide +kernel
theorem dX7_readToll_34 : decode cX7_readToll 34 = .ok (.iadd, 1) := by decide +kernel
theorem dX7_readToll_35 : decode cX7_readToll 35 = .ok (.aload_n 0, 1) := by decide +kernel
theorem dX7_readToll_36 : decode cX7_readToll 36 = .ok (.iconst 0, 1) := by decide +kernel
theorem dX7_readToll_37 : decode cX7_readToll 37 = .ok (.bipush 99, 2) := by decide +kernel
theorem dX7_readToll_39 : decode cX7_readToll 39 = .ok (.invokevirtual 160, 3) := by decide +kernel
theorem dX7_readToll_42 : decode cX7_readToll 42 = .ok (.iastore, 1) := by decide +kernel
theorem dX7_readToll_43 : decode cX7_readToll 43 = .ok (.iinc 1 1, 3) := by decide +kernel
theorem dX7_readToll_46 : decode cX7_readToll 46 = .ok (.goto (-24), 3) := by decide +kernel
theorem dX7_readToll_49 : decode cX7_readToll 49 = .ok (.aload_n 0, 1) := by decide +kernel
theorem dX7_readToll_50 : decode cX7_readToll 50 = .ok (.invokevirtual 164, 3) := by decide +kernel
theorem dX7_readToll_53 : decode cX7_readToll 53 = .ok (.return_, 1) := by decide +kernel
theorem dX7_readCart_0 : decode cX7_readCart 0 = .ok (.aload_n 0, 1) := by decide +kernel
theorem dX7_readCart_1 : decode cX7_readCart 1 = .ok (.getfield 22, 3) := by decide +kernel
theorem dX7_readCart_4 : decode cX7_readCart 4 = .ok (.iconst 0, 1) := by decide +kernel
theorem dX7_readCart_5 : decode cX7_readCart 5 = .ok (.iaload, 1) := by decide +kernel
theorem dX7_readCart_6 : decode cX7_readCart 6 = .ok (.bipush 6, 2) := by decide +kernel
theorem dX7_readCart_8 : decode cX7_readCart 8 = .ok (.if_icmp .ne 8, 3) := by decide +kernel
theorem dX7_readCart_11 : decode cX7_readCart 11 = .ok (.aload_n 0, 1) := by decide +kernel
theorem dX7_readCart_12 : decode cX7_readCart 12 = .ok (.iconst 3, 1) := by decide +kernel
theorem dX7_readCart_13 : decode cX7_readCart 13 = .ok (.invokevirtual 132, 3) := by decide +kernel
theorem dX7_readCart_16 : decode cX7_readCart 16 = .ok (.aload_n 0, 1) := by decide +kernel
theorem dX7_readCart_17 : decode cX7_readCart 17 = .ok (.iconst 1, 1) := by decide +kernel
theorem dX7_readCart_18 : decode cX7_readCart 18 = .ok (.invokevirtual 140, 3) := by decide +kernel
theorem dX7_readCart_21 : decode cX7_readCart 21 = .ok (.aload_n 0, 1) := by decide +kernel
theorem dX7_readCart_22 : decode cX7_readCart 22 = .ok (.invokevirtual 154, 3) := by decide +kernel
theorem dX7_readCart_25 : decode cX7_readCart 25 = .ok (.invokestatic 167, 3) := by decide +kernel
theorem dX7_readCart_28 : decode cX7_readCart 28 = .ok (.istore_n 1, 1) := by decide +kernel
theorem dX7_readCart_29 : decode cX7_readCart 29 = .ok (.aload_n 0, 1) := by decide +kernel
theorem dX7_readCart_30 : decode cX7_readCart 30 = .ok (.getfield 123, 3) := by decide +kernel
theorem dX7_readCart_33 : decode cX7_readCart 33 = .ok (.ifCond .ne 18, 3) := by decide +kernel
theorem dX7_readCart_36 : decode cX7_readCart 36 = .ok (.aload_n 0, 1) := by decide +kernel
theorem dX7_readCart_37 : decode cX7_readCart 37 = .ok (.iload_n 1, 1) := by decide +kernel
theorem dX7_readCart_38 : decode cX7_readCart 38 = .ok (.ldc 101, 2) := by decide +kernel
theorem dX7_readCart_40 : decode cX7_readCart 40 = .ok (.if_icmp .eq 7, 3) := by decide +kernel
theorem dX7_readCart_43 : decode cX7_readCart 43 = .ok (.iconst 1, 1) := by decide +kernel
theorem dX7_readCart_44 : decode cX7_readCart 44 = .ok (.goto 4, 3) := by decide +kernel
theorem dX7_readCart_47 : decode cX7_readCart 47 = .ok (.iconst 0, 1) := by decide +kernel
theorem dX7_readCart_48 : decode cX7_readCart 48 = .ok (.invokevirtual 140, 3) := by decide +kernel
theorem dX7_readCart_51 : decode cX7_readCart 51 = .ok (.aload_n 0, 1) := by decide +kernel
theorem dX7_readCart_52 : decode cX7_readCart 52 = .ok (.iconst 0, 1) := by decide +kernel
theorem dX7_readCart_53 : decode cX7_readCart 53 = .ok (.bipush 11, 2) := by decide +kernel
theorem dX7_readCart_55 : decode cX7_readCart 55 = .ok (.invokevirtual 160, 3) := by decide +kernel
theorem dX7_readCart_58 : decode cX7_readCart 58 = .ok (.istore_n 2, 1) := by decide +kernel
theorem dX7_readCart_59 : decode cX7_readCart 59 = .ok (.aload_n 0, 1) := by decide +kernel
theorem dX7_readCart_60 : decode cX7_readCart 60 = .ok (.iconst 0, 1) := by decide +kernel
theorem dX7_readCart_61 : decode cX7_readCart 61 = .ok (.bipush 20, 2) := by decide +kernel
theorem dX7_readCart_63 : decode cX7_readCart 63 = .ok (.invokevirtual 160, 3) := by decide +kernel
theorem dX7_readCart_66 : decode cX7_readCart 66 = .ok (.istore_n 3, 1) := by decide +kernel
theorem dX7_readCart_67 : decode cX7_readCart 67 = .ok (.aload_n 0, 1) := by decide +kernel
theorem dX7_readCart_68 : decode cX7_readCart 68 = .ok (.iconst 0, 1) := by decide +kernel
theorem dX7_readCart_69 : decode cX7_readCart 69 = .ok (.bipush 11, 2) := by decide +kernel
theorem dX7_readCart_71 : decode cX7_readCart 71 = .ok (.invokevirtual 160, 3) := by decide +kernel
theorem dX7_readCart_74 : decode cX7_readCart 74 = .ok (.istore 4, 2) := by decide +kernel
theorem dX7_readCart_76 : decode cX7_readCart 76 = .ok (.aload_n 0, 1) := by decide +kernel
theorem dX7_readCart_77 : decode cX7_readCart 77 = .ok (.invokevirtual 164, 3) := by decide +kernel
theorem dX7_readCart_80 : decode cX7_readCart 80 = .ok (.aload_n 0, 1) := by decide +kernel
theorem dX7_readCart_81 : decode cX7_readCart 81 = .ok (.getfield 123, 3) := by decide +kernel
theorem dX7_readCart_84 : decode cX7_readCart 84 = .ok (.ifCond .ne 77, 3) := by decide +kernel
theorem dX7_readCart_87 : decode cX7_readCart 87 = .ok (.bipush 8, 2) := by decide +kernel
theorem dX7_readCart_89 : decode cX7_readCart 89 = .ok (.bipush 6, 2) := by decide +kernel
theorem dX7_readCart_91 : decode cX7_readCart 91 = .ok (.aload_n 0, 1) := by decide +kernel
theorem dX7_readCart_92 : decode cX7_readCart 92 = .ok (.getfield 22, 3) := by decide +kernel
theorem dX7_readCart_95 : decode cX7_readCart 95 = .ok (.iconst 0, 1) := by decide +kernel
theorem dX7_readCart_96 : decode cX7_readCart 96 = .ok (.iaload, 1) := by decide +kernel
theorem dX7_readCart_97 : decode cX7_readCart 97 = .ok (.imul, 1) := by decide +kernel
theorem dX7_readCart_98 : decode cX7_readCart 98 = .ok (.iadd, 1) := by decide +kernel
theorem dX7_readCart_99 : decode cX7_readCart 99 = .ok (.istore 5, 2) := by decide +kernel
theorem dX7_readCart_101 : decode cX7_readCart 101 = .ok (.aload_n 0, 1) := by decide +kernel
theorem dX7_readCart_102 : decode cX7_readCart 102 = .ok (.getfield 22, 3) := by decide +kernel
theorem dX7_readCart_105 : decode cX7_readCart 105 = .ok (.iload 5, 2) := by decide +kernel
theorem dX7_readCart_107 : decode cX7_readCart 107 = .ok (.iload_n 1, 1) := by decide +kernel
theorem dX7_readCart_108 : decode cX7_readCart 108 = .ok (.iastore, 1) := by decide +kernel
theorem dX7_readCart_109 : decode cX7_readCart 109 = .ok (.aload_n 0, 1) := by decide +kernel
theorem dX7_readCart_110 : decode cX7_readCart 110 = .ok (.getfield 22, 3) := by decide +kernel
theorem dX7_readCart_113 : decode cX7_readCart 113 = .ok (.iload 5, 2) := by decide +kernel
theorem dX7_readCart_115 : decode cX7_readCart 115 = .ok (.iconst 1, 1) := by decide +kernel
theorem dX7_readCart_116 : decode cX7_readCart 116 = .ok (.iadd, 1) := by decide +kernel
theorem dX7_readCart_117 : decode cX7_readCart 117 = .ok (.iload_n 2, 1) := by decide +kernel
theorem dX7_readCart_118 : decode cX7_readCart 118 = .ok (.iastore, 1) := by decide +kernel
theorem dX7_readCart_119 : decode cX7_readCart 119 = .ok (.aload_n 0, 1) := by decide +kernel
theorem dX7_readCart_120 : decode cX7_readCart 120 = .ok (.getfield 22, 3) := by decide +kernel
theorem dX7_readCart_123 : decode cX7_readCart 123 = .ok (.iload 5, 2) := by decide +kernel
theorem dX7_readCart_125 : decode cX7_readCart 125 = .ok (.iconst 2, 1) := by decide +kernel
theorem dX7_readCart_126 : decode cX7_readCart 126 = .ok (.iadd, 1) := by decide +kernel
theorem dX7_readCart_127 : decode cX7_readCart 127 = .ok (.iload_n 3, 1) := by decide +kernel
theorem dX7_readCart_128 : decode cX7_readCart 128 = .ok (.iastore, 1) := by decide +kernel
theorem dX7_readCart_129 : decode cX7_readCart 129 = .ok (.aload_n 0, 1) := by decide +kernel
theorem dX7_readCart_130 : decode cX7_readCart 130 = .ok (.getfield 22, 3) := by decide +kernel
theorem dX7_readCart_133 : decode cX7_readCart 133 = .ok (.iload 5, 2) := by decide +kernel
theorem dX7_readCart_135 : decode cX7_readCart 135 = .ok (.iconst 3, 1) := by decide +kernel
theorem dX7_readCart_136 : decode cX7_readCart 136 = .ok (.iadd, 1) := by decide +kernel
theorem dX7_readCart_137 : decode cX7_readCart 137 = .ok (.iload 4, 2) := by decide +kernel
theorem dX7_readCart_139 : decode cX7_readCart 139 = .ok (.iastore, 1) := by decide +kernel
theorem dX7_readCart_140 : decode cX7_readCart 140 = .ok (.aload_n 0, 1) := by decide +kernel
theorem dX7_readCart_141 : decode cX7_readCart 141 = .ok (.getfield 22, 3) := by decide +kernel
theorem dX7_readCart_144 : decode cX7_readCart 144 = .ok (.iload 5, 2) := by decide +kernel
theorem dX7_readCart_146 : decode cX7_readCart 146 = .ok (.iconst 4, 1) := by decide +kernel
theorem dX7_readCart_147 : decode cX7_readCart 147 = .ok (.iadd, 1) := by decide +kernel
theorem dX7_readCart_148 : decode cX7_readCart 148 = .ok (.ldc 101, 2) := by decide +kernel
theorem dX7_readCart_150 : decode cX7_readCart 150 = .ok (.iastore, 1) := by decide +kernel
theorem dX7_readCart_151 : decode cX7_readCart 151 = .ok (.aload_n 0, 1) := by decide +kernel
theorem dX7_readCart_152 : decode cX7_readCart 152 = .ok (.getfield 22, 3) := by decide +kernel
theorem dX7_readCart_155 : decode cX7_readCart 155 = .ok (.iconst 0, 1) := by decide +kernel
theorem dX7_readCart_156 : decode cX7_readCart 156 = .ok (.dup2, 1) := by decide +kernel
theorem dX7_readCart_157 : decode cX7_readCart 157 = .ok (.iaload, 1) := by decide +kernel
theorem dX7_readCart_158 : decode cX7_readCart 158 = .ok (.iconst 1, 1) := by decide +kernel
theorem dX7_readCart_159 : decode cX7_readCart 159 = .ok (.iadd, 1) := by decide +kernel
theorem dX7_readCart_160 : decode cX7_readCart 160 = .ok (.iastore, 1) := by decide +kernel
theorem dX7_readCart_161 : decode cX7_readCart 161 = .ok (.return_, 1) := by decide +kernel
theorem dX7_pass_0 : decode cX7_pass 0 = .ok (.aload_n 0, 1) := by decide +kernel
theorem dX7_pass_1 : decode cX7_pass 1 = .ok (.iconst 0, 1) := by decide +kernel
theorem dX7_pass_2 : decode cX7_pass 2 = .ok (.putfield 65, 3) := by decide +kernel
theorem dX7_pass_5 : decode cX7_pass 5 = .ok (.aload_n 0, 1) := by decide +kernel
theorem dX7_pass_6 : decode cX7_pass 6 = .ok (.invokevirtual 171, 3) := by decide +kernel
theorem dX7_pass_9 : decode cX7_pass 9 = .ok (.iconst 0, 1) := by decide +kernel
theorem dX7_pass_10 : decode cX7_pass 10 = .ok (.istore_n 1, 1) := by decide +kernel
theorem dX7_pass_11 : decode cX7_pass 11 = .ok (.iload_n 1, 1) := by decide +kernel
theorem dX7_pass_12 : decode cX7_pass 12 = .ok (.bipush 44, 2) := by decide +kernel
theorem dX7_pass_14 : decode cX7_pass 14 = .ok (.if_icmp .ge 16, 3) := by decide +kernel
theorem dX7_pass_17 : decode cX7_pass 17 = .ok (.aload_n 0, 1) := by decide +kernel
theorem dX7_pass_18 : decode cX7_pass 18 = .ok (.getfield 22, 3) := by decide +kernel
theorem dX7_pass_21 : decode cX7_pass 21 = .ok (.iload_n 1, 1) := by decide +kernel
theorem dX7_pass_22 : decode cX7_pass 22 = .ok (.iconst 0, 1) := by decide +kernel
theorem dX7_pass_23 : decode cX7_pass 23 = .ok (.iastore, 1) := by decide +kernel
theorem dX7_pass_24 : decode cX7_pass 24 = .ok (.iinc 1 1, 3) := by decide +kernel
theorem dX7_pass_27 : decode cX7_pass 27 = .ok (.goto (-16), 3) := by decide +kernel
theorem dX7_pass_30 : decode cX7_pass 30 = .ok (.aload_n 0, 1) := by decide +kernel
theorem dX7_pass_31 : decode cX7_pass 31 = .ok (.invokevirtual 174, 3) := by decide +kernel
theorem dX7_pass_34 : decode cX7_pass 34 = .ok (.aload_n 0, 1) := by decide +kernel
theorem dX7_pass_35 : decode cX7_pass 35 = .ok (.invokevirtual 154, 3) := by decide +kernel
theorem dX7_pass_38 : decode cX7_pass 38 = .ok (.ldc2_w 177, 3) := by decide +kernel
theorem dX7_pass_41 : decode cX7_pass 41 = .ok (.lcmp, 1) := by decide +kernel
theorem dX7_pass_42 : decode cX7_pass 42 = .ok (.ifCond .ne 10, 3) := by decide +kernel
theorem dX7_pass_45 : decode cX7_pass 45 = .ok (.aload_n 0, 1) := by decide +kernel
theorem dX7_pass_46 : decode cX7_pass 46 = .ok (.invokevirtual 179, 3) := by decide +kernel
theorem dX7_pass_49 : decode cX7_pass 49 = .ok (.goto (-15), 3) := by decide +kernel
theorem dX7_pass_52 : decode cX7_pass 52 = .ok (.aload_n 0, 1) := by decide +kernel
theorem dX7_pass_53 : decode cX7_pass 53 = .ok (.getfield 123, 3) := by decide +kernel
theorem dX7_pass_56 : decode cX7_pass 56 = .ok (.ifCond .ne 16, 3) := by decide +kernel
theorem dX7_pass_59 : decode cX7_pass 59 = .ok (.aload_n 0, 1) := by decide +kernel
theorem dX7_pass_60 : decode cX7_pass 60 = .ok (.getfield 111, 3) := by decide +kernel
theorem dX7_pass_63 : decode cX7_pass 63 = .ok (.iconst 1, 1) := by decide +kernel
theorem dX7_pass_64 : decode cX7_pass 64 = .ok (.if_icmp .eq 8, 3) := by decide +kernel
theorem dX7_pass_67 : decode cX7_pass 67 = .ok (.aload_n 0, 1) := by decide +kernel
theorem dX7_pass_68 : decode cX7_pass 68 = .ok (.iconst 1, 1) := by decide +kernel
theorem dX7_pass_69 : decode cX7_pass 69 = .ok (.invokevirtual 132, 3) := by decide +kernel
theorem dX7_pass_72 : decode cX7_pass 72 = .ok (.aload_n 0, 1) := by decide +kernel
theorem dX7_pass_73 : decode cX7_pass 73 = .ok (.getfield 123, 3) := by decide +kernel
theorem dX7_pass_76 : decode cX7_pass 76 = .ok (.ifCond .le 19, 3) := by decide +kernel
theorem dX7_pass_79 : decode cX7_pass 79 = .ok (.aload_n 0, 1) := by decide +kernel
theorem dX7_pass_80 : decode cX7_pass 80 = .ok (.aload_n 0, 1) := by decide +kernel
theorem dX7_pass_81 : decode cX7_pass 81 = .ok (.getfield 123, 3) := by decide +kernel
theorem dX7_pass_84 : decode cX7_pass 84 = .ok (.putfield 182, 3) := by decide +kernel
theorem dX7_pass_87 : decode cX7_pass 87 = .ok (.ldc 185, 2) := by decide +kernel
theorem dX7_pass_89 : decode cX7_pass 89 = .ok (.aload_n 0, 1) := by decide +kernel
theorem dX7_pass_90 : decode cX7_pass 90 = .ok (.getfield 129, 3) := by decide +kernel
theorem dX7_pass_93 : decode cX7_pass 93 = .ok (.isub, 1) := by decide +kernel
theorem dX7_pass_94 : decode cX7_pass 94 = .ok (.ireturn, 1) := by decide +kernel
theorem dX7_pass_95 : decode cX7_pass 95 = .ok (.aload_n 0, 1) := by decide +kernel
theorem dX7_pass_96 : decode cX7_pass 96 = .ok (.iconst 1, 1) := by decide +kernel
theorem dX7_pass_97 : decode cX7_pass 97 = .ok (.putfield 186, 3) := by decide +kernel
theorem dX7_pass_100 : decode cX7_pass 100 = .ok (.aload_n 0, 1) := by decide +kernel
theorem dX7_pass_101 : decode cX7_pass 101 = .ok (.iconst 0, 1) := by decide +kernel
theorem dX7_pass_102 : decode cX7_pass 102 = .ok (.putfield 190, 3) := by decide +kernel
theorem dX7_pass_105 : decode cX7_pass 105 = .ok (.iconst 0, 1) := by decide +kernel
theorem dX7_pass_106 : decode cX7_pass 106 = .ok (.istore_n 1, 1) := by decide +kernel
theorem dX7_pass_107 : decode cX7_pass 107 = .ok (.iload_n 1, 1) := by decide +kernel
theorem dX7_pass_108 : decode cX7_pass 108 = .ok (.bipush 44, 2) := by decide +kernel
theorem dX7_pass_110 : decode cX7_pass 110 = .ok (.if_icmp .ge 21, 3) := by decide +kernel
theorem dX7_pass_113 : decode cX7_pass 113 = .ok (.aload_n 0, 1) := by decide +kernel
theorem dX7_pass_114 : decode cX7_pass 114 = .ok (.getfield 19, 3) := by decide +kernel
theorem dX7_pass_117 : decode cX7_pass 117 = .ok (.iload_n 1, 1) := by decide +kernel
theorem dX7_pass_118 : decode cX7_pass 118 = .ok (.aload_n 0, 1) := by decide +kernel
theorem dX7_pass_119 : decode cX7_pass 119 = .ok (.getfield 22, 3) := by decide +kernel
theorem dX7_pass_122 : decode cX7_pass 122 = .ok (.iload_n 1, 1) := by decide +kernel
theorem dX7_pass_123 : decode cX7_pass 123 = .ok (.iaload, 1) := by decide +kernel
theorem dX7_pass_124 : decode cX7_pass 124 = .ok (.iastore, 1) := by decide +kernel
theorem dX7_pass_125 : decode cX7_pass 125 = .ok (.iinc 1 1, 3) := by decide +kernel
theorem dX7_pass_128 : decode cX7_pass 128 = .ok (.goto (-21), 3) := by decide +kernel
theorem dX7_pass_131 : decode cX7_pass 131 = .ok (.aload_n 0, 1) := by decide +kernel
theorem dX7_pass_132 : decode cX7_pass 132 = .ok (.getfield 19, 3) := by decide +kernel
theorem dX7_pass_135 : decode cX7_pass 135 = .ok (.iconst 0, 1) := by decide +kernel
theorem dX7_pass_136 : decode cX7_pass 136 = .ok (.iaload, 1) := by decide +kernel
theorem dX7_pass_137 : decode cX7_pass 137 = .ok (.ireturn, 1) := by decide +kernel
theorem dX7_fault_0 : decode cX7_fault 0 = .ok (.aload_n 0, 1) := by decide +kernel
theorem dX7_fault_1 : decode cX7_fault 1 = .ok (.iconst 0, 1) := by decide +kernel
theorem dX7_fault_2 : decode cX7_fault 2 = .ok (.putfield 65, 3) := by decide +kernel
theorem dX7_fault_5 : decode cX7_fault 5 = .ok (.aload_n 0, 1) := by decide +kernel
theorem dX7_fault_6 : decode cX7_fault 6 = .ok (.getfield 182, 3) := by decide +kernel
theorem dX7_fault_9 : decode cX7_fault 9 = .ok (.ireturn, 1) := by decide +kernel
theorem dX7_isCart_0 : decode cX7_isCart 0 = .ok (.iload_n 1, 1) := by decide +kernel
theorem dX7_isCart_1 : decode cX7_isCart 1 = .ok (.i2l, 1) := by decide +kernel
theorem dX7_isCart_2 : decode cX7_isCart 2 = .ok (.lconst 0, 1) := by decide +kernel
theorem dX7_isCart_3 : decode cX7_isCart 3 = .ok (.aload_n 0, 1) := by decide +kernel
theorem dX7_isCart_4 : decode cX7_isCart 4 = .ok (.getfield 19, 3) := by decide +kernel
theorem dX7_isCart_7 : decode cX7_isCart 7 = .ok (.iconst 0, 1) := by decide +kernel
theorem dX7_isCart_8 : decode cX7_isCart 8 = .ok (.iaload, 1) := by decide +kernel
theorem dX7_isCart_9 : decode cX7_isCart 9 = .ok (.iconst 1, 1) := by decide +kernel
theorem dX7_isCart_10 : decode cX7_isCart 10 = .ok (.isub, 1) := by decide +kernel
theorem dX7_isCart_11 : decode cX7_isCart 11 = .ok (.i2l, 1) := by decide +kernel
theorem dX7_isCart_12 : decode cX7_isCart 12 = .ok (.invokestatic 75, 3) := by decide +kernel
theorem dX7_isCart_15 : decode cX7_isCart 15 = .ok (.ireturn, 1) := by decide +kernel
theorem dX7_isHour_0 : decode cX7_isHour 0 = .ok (.iload_n 0, 1) := by decide +kernel
theorem dX7_isHour_1 : decode cX7_isHour 1 = .ok (.i2l, 1) := by decide +kernel
theorem dX7_isHour_2 : decode cX7_isHour 2 = .ok (.lconst 0, 1) := by decide +kernel
theorem dX7_isHour_3 : decode cX7_isHour 3 = .ok (.ldc2_w 193, 3) := by decide +kernel
