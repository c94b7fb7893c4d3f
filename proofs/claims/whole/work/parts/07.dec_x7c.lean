theorem dX7_thought_48 : decode cX7_thought 48 = .ok (.invokevirtual 238, 3) := by decide +kernel
theorem dX7_thought_51 : decode cX7_thought 51 = .ok (.iload_n 3, 1) := by decide +kernel
theorem dX7_thought_52 : decode cX7_thought 52 = .ok (.aload_n 0, 1) := by decide +kernel
theorem dX7_thought_53 : decode cX7_thought 53 = .ok (.getfield 43, 3) := by decide +kernel
theorem dX7_thought_56 : decode cX7_thought 56 = .ok (.iload_n 1, 1) := by decide +kernel
theorem dX7_thought_57 : decode cX7_thought 57 = .ok (.iaload, 1) := by decide +kernel
theorem dX7_thought_58 : decode cX7_thought 58 = .ok (.iload_n 2, 1) := by decide +kernel
theorem dX7_thought_59 : decode cX7_thought 59 = .ok (.if_icmp .ne 10, 3) := by decide +kernel
theorem dX7_thought_62 : decode cX7_thought 62 = .ok (.iconst 1, 1) := by decide +kernel
theorem dX7_thought_63 : decode cX7_thought 63 = .ok (.iload 4, 2) := by decide +kernel
theorem dX7_thought_65 : decode cX7_thought 65 = .ok (.ishl, 1) := by decide +kernel
theorem dX7_thought_66 : decode cX7_thought 66 = .ok (.goto 4, 3) := by decide +kernel
theorem dX7_thought_69 : decode cX7_thought 69 = .ok (.iconst 0, 1) := by decide +kernel
theorem dX7_thought_70 : decode cX7_thought 70 = .ok (.ior, 1) := by decide +kernel
theorem dX7_thought_71 : decode cX7_thought 71 = .ok (.istore_n 3, 1) := by decide +kernel
theorem dX7_thought_72 : decode cX7_thought 72 = .ok (.iinc 4 1, 3) := by decide +kernel
theorem dX7_thought_75 : decode cX7_thought 75 = .ok (.goto (-43), 3) := by decide +kernel
theorem dX7_thought_78 : decode cX7_thought 78 = .ok (.iload_n 3, 1) := by decide +kernel
theorem dX7_thought_79 : decode cX7_thought 79 = .ok (.ireturn, 1) := by decide +kernel
theorem dX7_two_0 : decode cX7_two 0 = .ok (.aload_n 0, 1) := by decide +kernel
theorem dX7_two_1 : decode cX7_two 1 = .ok (.iconst 0, 1) := by decide +kernel
theorem dX7_two_2 : decode cX7_two 2 = .ok (.putfield 65, 3) := by decide +kernel
theorem dX7_two_5 : decode cX7_two 5 = .ok (.aload_n 0, 1) := by decide +kernel
theorem dX7_two_6 : decode cX7_two 6 = .ok (.iload_n 1, 1) := by decide +kernel
theorem dX7_two_7 : decode cX7_two 7 = .ok (.invokevirtual 230, 3) := by decide +kernel
theorem dX7_two_10 : decode cX7_two 10 = .ok (.ifCond .eq 34, 3) := by decide +kernel
theorem dX7_two_13 : decode cX7_two 13 = .ok (.aload_n 0, 1) := by decide +kernel
theorem dX7_two_14 : decode cX7_two 14 = .ok (.iload_n 2, 1) := by decide +kernel
theorem dX7_two_15 : decode cX7_two 15 = .ok (.invokevirtual 230, 3) := by decide +kernel
theorem dX7_two_18 : decode cX7_two 18 = .ok (.ifCond .eq 26, 3) := by decide +kernel
theorem dX7_two_21 : decode cX7_two 21 = .ok (.iload_n 1, 1) := by decide +kernel
theorem dX7_two_22 : decode cX7_two 22 = .ok (.iload_n 2, 1) := by decide +kernel
theorem dX7_two_23 : decode cX7_two 23 = .ok (.if_icmp .eq 21, 3) := by decide +kernel
theorem dX7_two_26 : decode cX7_two 26 = .ok (.iload_n 3, 1) := by decide +kernel
theorem dX7_two_27 : decode cX7_two 27 = .ok (.invokestatic 251, 3) := by decide +kernel
theorem dX7_two_30 : decode cX7_two 30 = .ok (.ifCond .eq 14, 3) := by decide +kernel
theorem dX7_two_33 : decode cX7_two 33 = .ok (.iload 4, 2) := by decide +kernel
theorem dX7_two_35 : decode cX7_two 35 = .ok (.i2l, 1) := by decide +kernel
theorem dX7_two_36 : decode cX7_two 36 = .ok (.lconst 0, 1) := by decide +kernel
theorem dX7_two_37 : decode cX7_two 37 = .ok (.lconst 1, 1) := by decide +kernel
theorem dX7_two_38 : decode cX7_two 38 = .ok (.invokestatic 75, 3) := by decide +kernel
theorem dX7_two_41 : decode cX7_two 41 = .ok (.ifCond .ne 6, 3) := by decide +kernel
theorem dX7_two_44 : decode cX7_two 44 = .ok (.ldc 85, 2) := by decide +kernel
theorem dX7_two_46 : decode cX7_two 46 = .ok (.ireturn, 1) := by decide +kernel
theorem dX7_two_47 : decode cX7_two 47 = .ok (.aload_n 0, 1) := by decide +kernel
theorem dX7_two_48 : decode cX7_two 48 = .ok (.iconst 2, 1) := by decide +kernel
theorem dX7_two_49 : decode cX7_two 49 = .ok (.invokevirtual 217, 3) := by decide +kernel
theorem dX7_two_52 : decode cX7_two 52 = .ok (.istore 5, 2) := by decide +kernel
theorem dX7_two_54 : decode cX7_two 54 = .ok (.iload 5, 2) := by decide +kernel
theorem dX7_two_56 : decode cX7_two 56 = .ok (.istore 6, 2) := by decide +kernel
theorem dX7_two_58 : decode cX7_two 58 = .ok (.iconst 0, 1) := by decide +kernel
theorem dX7_two_59 : decode cX7_two 59 = .ok (.istore 7, 2) := by decide +kernel
theorem dX7_two_61 : decode cX7_two 61 = .ok (.bipush 11, 2) := by decide +kernel
theorem dX7_two_63 : decode cX7_two 63 = .ok (.istore 8, 2) := by decide +kernel
theorem dX7_two_65 : decode cX7_two 65 = .ok (.iload_n 1, 1) := by decide +kernel
theorem dX7_two_66 : decode cX7_two 66 = .ok (.istore 9, 2) := by decide +kernel
theorem dX7_two_68 : decode cX7_two 68 = .ok (.bipush 10, 2) := by decide +kernel
theorem dX7_two_70 : decode cX7_two 70 = .ok (.istore 10, 2) := by decide +kernel
theorem dX7_two_72 : decode cX7_two 72 = .ok (.iload 10, 2) := by decide +kernel
theorem dX7_two_74 : decode cX7_two 74 = .ok (.iload_n 3, 1) := by decide +kernel
theorem dX7_two_75 : decode cX7_two 75 = .ok (.if_icmp .lt 155, 3) := by decide +kernel
theorem dX7_two_78 : decode cX7_two 78 = .ok (.aload_n 0, 1) := by decide +kernel
theorem dX7_two_79 : decode cX7_two 79 = .ok (.iload_n 1, 1) := by decide +kernel
theorem dX7_two_80 : decode cX7_two 80 = .ok (.iconst 2, 1) := by decide +kernel
theorem dX7_two_81 : decode cX7_two 81 = .ok (.invokevirtual 201, 3) := by decide +kernel
theorem dX7_two_84 : decode cX7_two 84 = .ok (.iload 6, 2) := by decide +kernel
theorem dX7_two_86 : decode cX7_two 86 = .ok (.iadd, 1) := by decide +kernel
theorem dX7_two_87 : decode cX7_two 87 = .ok (.istore 11, 2) := by decide +kernel
theorem dX7_two_89 : decode cX7_two 89 = .ok (.aload_n 0, 1) := by decide +kernel
theorem dX7_two_90 : decode cX7_two 90 = .ok (.iload_n 2, 1) := by decide +kernel
theorem dX7_two_91 : decode cX7_two 91 = .ok (.iconst 2, 1) := by decide +kernel
theorem dX7_two_92 : decode cX7_two 92 = .ok (.invokevirtual 201, 3) := by decide +kernel
theorem dX7_two_95 : decode cX7_two 95 = .ok (.iload 7, 2) := by decide +kernel
theorem dX7_two_97 : decode cX7_two 97 = .ok (.iadd, 1) := by decide +kernel
theorem dX7_two_98 : decode cX7_two 98 = .ok (.istore 12, 2) := by decide +kernel
theorem dX7_two_100 : decode cX7_two 100 = .ok (.iload 5, 2) := by decide +kernel
theorem dX7_two_102 : decode cX7_two 102 = .ok (.iload 12, 2) := by decide +kernel
theorem dX7_two_104 : decode cX7_two 104 = .ok (.if_icmp .gt 7, 3) := by decide +kernel
theorem dX7_two_107 : decode cX7_two 107 = .ok (.iconst 1, 1) := by decide +kernel
theorem dX7_two_108 : decode cX7_two 108 = .ok (.goto 4, 3) := by decide +kernel
theorem dX7_two_111 : decode cX7_two 111 = .ok (.iconst 0, 1) := by decide +kernel
theorem dX7_two_112 : decode cX7_two 112 = .ok (.istore 13, 2) := by decide +kernel
theorem dX7_two_114 : decode cX7_two 114 = .ok (.iload 5, 2) := by decide +kernel
theorem dX7_two_116 : decode cX7_two 116 = .ok (.iload 13, 2) := by decide +kernel
theorem dX7_two_118 : decode cX7_two 118 = .ok (.ifCond .eq 7, 3) := by decide +kernel
theorem dX7_two_121 : decode cX7_two 121 = .ok (.iconst 0, 1) := by decide +kernel
theorem dX7_two_122 : decode cX7_two 122 = .ok (.goto 5, 3) := by decide +kernel
theorem dX7_two_125 : decode cX7_two 125 = .ok (.iload 11, 2) := by decide +kernel
theorem dX7_two_127 : decode cX7_two 127 = .ok (.if_icmp .gt 7, 3) := by decide +kernel
theorem dX7_two_130 : decode cX7_two 130 = .ok (.iconst 1, 1) := by decide +kernel
theorem dX7_two_131 : decode cX7_two 131 = .ok (.goto 4, 3) := by decide +kernel
theorem dX7_two_134 : decode cX7_two 134 = .ok (.iconst 0, 1) := by decide +kernel
theorem dX7_two_135 : decode cX7_two 135 = .ok (.istore 14, 2) := by decide +kernel
theorem dX7_two_137 : decode cX7_two 137 = .ok (.iload 14, 2) := by decide +kernel
theorem dX7_two_139 : decode cX7_two 139 = .ok (.ifCond .eq 8, 3) := by decide +kernel
theorem dX7_two_142 : decode cX7_two 142 = .ok (.iload 5, 2) := by decide +kernel
theorem dX7_two_144 : decode cX7_two 144 = .ok (.goto 14, 3) := by decide +kernel
theorem dX7_two_147 : decode cX7_two 147 = .ok (.iload 13, 2) := by decide +kernel
theorem dX7_two_149 : decode cX7_two 149 = .ok (.ifCond .eq 7, 3) := by decide +kernel
theorem dX7_two_152 : decode cX7_two 152 = .ok (.iconst 0, 1) := by decide +kernel
theorem dX7_two_153 : decode cX7_two 153 = .ok (.goto 5, 3) := by decide +kernel
theorem dX7_two_156 : decode cX7_two 156 = .ok (.iload 11, 2) := by decide +kernel
theorem dX7_two_158 : decode cX7_two 158 = .ok (.istore 6, 2) := by decide +kernel
theorem dX7_two_160 : decode cX7_two 160 = .ok (.iload 14, 2) := by decide +kernel
theorem dX7_two_162 : decode cX7_two 162 = .ok (.ifCond .eq 7, 3) := by decide +kernel
theorem dX7_two_165 : decode cX7_two 165 = .ok (.iconst 0, 1) := by decide +kernel
theorem dX7_two_166 : decode cX7_two 166 = .ok (.goto 15, 3) := by decide +kernel
theorem dX7_two_169 : decode cX7_two 169 = .ok (.iload 13, 2) := by decide +kernel
theorem dX7_two_171 : decode cX7_two 171 = .ok (.ifCond .eq 8, 3) := by decide +kernel
theorem dX7_two_174 : decode cX7_two 174 = .ok (.iload 5, 2) := by decide +kernel
theorem dX7_two_176 : decode cX7_two 176 = .ok (.goto 5, 3) := by decide +kernel
theorem dX7_two_179 : decode cX7_two 179 = .ok (.iload 12, 2) := by decide +kernel
theorem dX7_two_181 : decode cX7_two 181 = .ok (.istore 7, 2) := by decide +kernel
theorem dX7_two_183 : decode cX7_two 183 = .ok (.iload 14, 2) := by decide +kernel
theorem dX7_two_185 : decode cX7_two 185 = .ok (.ifCond .ne 8, 3) := by decide +kernel
theorem dX7_two_188 : decode cX7_two 188 = .ok (.iload 13, 2) := by decide +kernel
theorem dX7_two_190 : decode cX7_two 190 = .ok (.ifCond .eq 8, 3) := by decide +kernel
theorem dX7_two_193 : decode cX7_two 193 = .ok (.iload 10, 2) := by decide +kernel
theorem dX7_two_195 : decode cX7_two 195 = .ok (.goto 5, 3) := by decide +kernel
theorem dX7_two_198 : decode cX7_two 198 = .ok (.iload 8, 2) := by decide +kernel
theorem dX7_two_200 : decode cX7_two 200 = .ok (.istore 8, 2) := by decide +kernel
theorem dX7_two_202 : decode cX7_two 202 = .ok (.iload 14, 2) := by decide +kernel
theorem dX7_two_204 : decode cX7_two 204 = .ok (.ifCond .eq 7, 3) := by decide +kernel
theorem dX7_two_207 : decode cX7_two 207 = .ok (.iload_n 1, 1) := by decide +kernel
theorem dX7_two_208 : decode cX7_two 208 = .ok (.goto 14, 3) := by decide +kernel
theorem dX7_two_211 : decode cX7_two 211 = .ok (.iload 13, 2) := by decide +kernel
theorem dX7_two_213 : decode cX7_two 213 = .ok (.ifCond .eq 7, 3) := by decide +kernel
theorem dX7_two_216 : decode cX7_two 216 = .ok (.iload_n 2, 1) := by decide +kernel
theorem dX7_two_217 : decode cX7_two 217 = .ok (.goto 5, 3) := by decide +kernel
theorem dX7_two_220 : decode cX7_two 220 = .ok (.iload 9, 2) := by decide +kernel
theorem dX7_two_222 : decode cX7_two 222 = .ok (.istore 9, 2) := by decide +kernel
theorem dX7_two_224 : decode cX7_two 224 = .ok (.iinc 10 (-1), 3) := by decide +kernel
theorem dX7_two_227 : decode cX7_two 227 = .ok (.goto (-155), 3) := by decide +kernel
theorem dX7_two_230 : decode cX7_two 230 = .ok (.iload 4, 2) := by decide +kernel
theorem dX7_two_232 : decode cX7_two 232 = .ok (.ifCond .ne 8, 3) := by decide +kernel
theorem dX7_two_235 : decode cX7_two 235 = .ok (.iload 8, 2) := by decide +kernel
theorem dX7_two_237 : decode cX7_two 237 = .ok (.goto 5, 3) := by decide +kernel
theorem dX7_two_240 : decode cX7_two 240 = .ok (.iload 9, 2) := by decide +kernel
theorem dX7_two_242 : decode cX7_two 242 = .ok (.ireturn, 1) := by decide +kernel
theorem dX7_part_0 : decode cX7_part 0 = .ok (.iload_n 0, 1) := by decide +kernel
theorem dX7_part_1 : decode cX7_part 1 = .ok (.iload_n 1, 1) := by decide +kernel
theorem dX7_part_2 : decode cX7_part 2 = .ok (.idiv, 1) := by decide +kernel
theorem dX7_part_3 : decode cX7_part 3 = .ok (.iload_n 2, 1) := by decide +kernel
theorem dX7_part_4 : decode cX7_part 4 = .ok (.iload_n 0, 1) := by decide +kernel
theorem dX7_part_5 : decode cX7_part 5 = .ok (.iload_n 1, 1) := by decide +kernel
theorem dX7_part_6 : decode cX7_part 6 = .ok (.irem, 1) := by decide +kernel
theorem dX7_part_7 : decode cX7_part 7 = .ok (.if_icmp .ge 7, 3) := by decide +kernel
theorem dX7_part_10 : decode cX7_part 10 = .ok (.iconst 1, 1) := by decide +kernel
theorem dX7_part_11 : decode cX7_part 11 = .ok (.goto 4, 3) := by decide +kernel
theorem dX7_part_14 : decode cX7_part 14 = .ok (.iconst 0, 1) := by decide +kernel
theorem dX7_part_15 : decode cX7_part 15 = .ok (.iadd, 1) := by decide +kernel
theorem dX7_part_16 : decode cX7_part 16 = .ok (.ireturn, 1) := by decide +kernel
theorem dX7_shares_0 : decode cX7_shares 0 = .ok (.aload_n 0, 1) := by decide +kernel
theorem dX7_shares_1 : decode cX7_shares 1 = .ok (.iconst 0, 1) := by decide +kernel
theorem dX7_shares_2 : decode cX7_shares 2 = .ok (.putfield 65, 3) := by decide +kernel
theorem dX7_shares_5 : decode cX7_shares 5 = .ok (.aload_n 0, 1) := by decide +kernel
theorem dX7_shares_6 : decode cX7_shares 6 = .ok (.getfield 186, 3) := by decide +kernel
theorem dX7_shares_9 : decode cX7_shares 9 = .ok (.ifCond .ne 6, 3) := by decide +kernel
theorem dX7_shares_12 : decode cX7_shares 12 = .ok (.ldc 223, 2) := by decide +kernel
theorem dX7_shares_14 : decode cX7_shares 14 = .ok (.ireturn, 1) := by decide +kernel
theorem dX7_shares_15 : decode cX7_shares 15 = .ok (.iload_n 1, 1) := by decide +kernel
theorem dX7_shares_16 : decode cX7_shares 16 = .ok (.i2l, 1) := by decide +kernel
theorem dX7_shares_17 : decode cX7_shares 17 = .ok (.lconst 1, 1) := by decide +kernel
theorem dX7_shares_18 : decode cX7_shares 18 = .ok (.ldc2_w 254, 3) := by decide +kernel
theorem dX7_shares_21 : decode cX7_shares 21 = .ok (.invokestatic 75, 3) := by decide +kernel
theorem dX7_shares_24 : decode cX7_shares 24 = .ok (.ifCond .eq 8, 3) := by decide +kernel
theorem dX7_shares_27 : decode cX7_shares 27 = .ok (.iload_n 2, 1) := by decide +kernel
theorem dX7_shares_28 : decode cX7_shares 28 = .ok (.iconst (-1), 1) := by decide +kernel
theorem dX7_shares_29 : decode cX7_shares 29 = .ok (.if_icmp .ge 6, 3) := by decide +kernel
theorem dX7_shares_32 : decode cX7_shares 32 = .ok (.ldc 85, 2) := by decide +kernel
theorem dX7_shares_34 : decode cX7_shares 34 = .ok (.ireturn, 1) := by decide +kernel
theorem dX7_shares_35 : decode cX7_shares 35 = .ok (.aload_n 0, 1) := by decide +kernel
theorem dX7_shares_36 : decode cX7_shares 36 = .ok (.iload_n 1, 1) := by decide +kernel
theorem dX7_shares_37 : decode cX7_shares 37 = .ok (.invokevirtual 217, 3) := by decide +kernel
theorem dX7_shares_40 : decode cX7_shares 40 = .ok (.istore_n 3, 1) := by decide +kernel
theorem dX7_shares_41 : decode cX7_shares 41 = .ok (.iload_n 2, 1) := by decide +kernel
theorem dX7_shares_42 : decode cX7_shares 42 = .ok (.ifCond .lt 20, 3) := by decide +kernel
theorem dX7_shares_45 : decode cX7_shares 45 = .ok (.iload_n 2, 1) := by decide +kernel
theorem dX7_shares_46 : decode cX7_shares 46 = .ok (.iload_n 1, 1) := by decide +kernel
theorem dX7_shares_47 : decode cX7_shares 47 = .ok (.if_icmp .ge 12, 3) := by decide +kernel
theorem dX7_shares_50 : decode cX7_shares 50 = .ok (.iload_n 3, 1) := by decide +kernel
theorem dX7_shares_51 : decode cX7_shares 51 = .ok (.iload_n 1, 1) := by decide +kernel
theorem dX7_shares_52 : decode cX7_shares 52 = .ok (.iload_n 2, 1) := by decide +kernel
theorem dX7_shares_53 : decode cX7_shares 53 = .ok (.invokestatic 256, 3) := by decide +kernel
theorem dX7_shares_56 : decode cX7_shares 56 = .ok (.goto 5, 3) := by decide +kernel
theorem dX7_shares_59 : decode cX7_shares 59 = .ok (.ldc 101, 2) := by decide +kernel
theorem dX7_shares_61 : decode cX7_shares 61 = .ok (.ireturn, 1) := by decide +kernel
theorem dX7_shares_62 : decode cX7_shares 62 = .ok (.iconst 0, 1) := by decide +kernel
theorem dX7_shares_63 : decode cX7_shares 63 = .ok (.istore 4, 2) := by decide +kernel
theorem dX7_shares_65 : decode cX7_shares 65 = .ok (.iconst 1, 1) := by decide +kernel
theorem dX7_shares_66 : decode cX7_shares 66 = .ok (.istore 5, 2) := by decide +kernel
theorem dX7_shares_68 : decode cX7_shares 68 = .ok (.iconst 1, 1) := by decide +kernel
theorem dX7_shares_69 : decode cX7_shares 69 = .ok (.istore 6, 2) := by decide +kernel
theorem dX7_shares_71 : decode cX7_shares 71 = .ok (.iload 6, 2) := by decide +kernel
theorem dX7_shares_73 : decode cX7_shares 73 = .ok (.iload_n 1, 1) := by decide +kernel
theorem dX7_shares_74 : decode cX7_shares 74 = .ok (.if_icmp .ge 46, 3) := by decide +kernel
theorem dX7_shares_77 : decode cX7_shares 77 = .ok (.iload 4, 2) := by decide +kernel
theorem dX7_shares_79 : decode cX7_shares 79 = .ok (.iload_n 3, 1) := by decide +kernel
theorem dX7_shares_80 : decode cX7_shares 80 = .ok (.iload_n 1, 1) := by decide +kernel
theorem dX7_shares_81 : decode cX7_shares 81 = .ok (.iload 6, 2) := by decide +kernel
theorem dX7_shares_83 : decode cX7_shares 83 = .ok (.iconst 1, 1) := by decide +kernel
theorem dX7_shares_84 : decode cX7_shares 84 = .ok (.isub, 1) := by decide +kernel
theorem dX7_shares_85 : decode cX7_shares 85 = .ok (.invokestatic 256, 3) := by decide +kernel
theorem dX7_shares_88 : decode cX7_shares 88 = .ok (.iadd, 1) := by decide +kernel
theorem dX7_shares_89 : decode cX7_shares 89 = .ok (.istore 4, 2) := by decide +kernel
theorem dX7_shares_91 : decode cX7_shares 91 = .ok (.iload 5, 2) := by decide +kernel
theorem dX7_shares_93 : decode cX7_shares 93 = .ok (.ifCond .eq 18, 3) := by decide +kernel
theorem dX7_shares_96 : decode cX7_shares 96 = .ok (.iload 4, 2) := by decide +kernel
theorem dX7_shares_98 : decode cX7_shares 98 = .ok (.aload_n 0, 1) := by decide +kernel
theorem dX7_shares_99 : decode cX7_shares 99 = .ok (.iload 6, 2) := by decide +kernel
theorem dX7_shares_101 : decode cX7_shares 101 = .ok (.invokevirtual 217, 3) := by decide +kernel
theorem dX7_shares_104 : decode cX7_shares 104 = .ok (.if_icmp .gt 7, 3) := by decide +kernel
theorem dX7_shares_107 : decode cX7_shares 107 = .ok (.iconst 1, 1) := by decide +kernel
theorem dX7_shares_108 : decode cX7_shares 108 = .ok (.goto 4, 3) := by decide +kernel
theorem dX7_shares_111 : decode cX7_shares 111 = .ok (.iconst 0, 1) := by decide +kernel
theorem dX7_shares_112 : decode cX7_shares 112 = .ok (.istore 5, 2) := by decide +kernel
theorem dX7_shares_114 : decode cX7_shares 114 = .ok (.iinc 6 1, 3) := by decide +kernel
theorem dX7_shares_117 : decode cX7_shares 117 = .ok (.goto (-46), 3) := by decide +kernel
theorem dX7_shares_120 : decode cX7_shares 120 = .ok (.iload 5, 2) := by decide +kernel
theorem dX7_shares_122 : decode cX7_shares 122 = .ok (.ifCond .eq 7, 3) := by decide +kernel
theorem dX7_shares_125 : decode cX7_shares 125 = .ok (.iconst 1, 1) := by decide +kernel
theorem dX7_shares_126 : decode cX7_shares 126 = .ok (.goto 4, 3) := by decide +kernel
theorem dX7_shares_129 : decode cX7_shares 129 = .ok (.iconst 0, 1) := by decide +kernel
theorem dX7_shares_130 : decode cX7_shares 130 = .ok (.ireturn, 1) := by decide +kernel
theorem dX7_size_0 : decode cX7_size 0 = .ok (.aload_n 0, 1) := by decide +kernel
theorem dX7_size_1 : decode cX7_size 1 = .ok (.iconst 0, 1) := by decide +kernel
theorem dX7_size_2 : decode cX7_size 2 = .ok (.putfield 65, 3) := by decide +kernel
theorem dX7_size_5 : decode cX7_size 5 = .ok (.aload_n 0, 1) := by decide +kernel
theorem dX7_size_6 : decode cX7_size 6 = .ok (.getfield 186, 3) := by decide +kernel
theorem dX7_size_9 : decode cX7_size 9 = .ok (.ifCond .ne 6, 3) := by decide +kernel
theorem dX7_size_12 : decode cX7_size 12 = .ok (.ldc 223, 2) := by decide +kernel
theorem dX7_size_14 : decode cX7_size 14 = .ok (.ireturn, 1) := by decide +kernel
theorem dX7_size_15 : decode cX7_size 15 = .ok (.iconst 1, 1) := by decide +kernel
theorem dX7_size_16 : decode cX7_size 16 = .ok (.istore_n 1, 1) := by decide +kernel
theorem dX7_size_17 : decode cX7_size 17 = .ok (.iconst 2, 1) := by decide +kernel
theorem dX7_size_18 : decode cX7_size 18 = .ok (.istore_n 2, 1) := by decide +kernel
theorem dX7_size_19 : decode cX7_size 19 = .ok (.iload_n 2, 1) := by decide +kernel
theorem dX7_size_20 : decode cX7_size 20 = .ok (.bipush 6, 2) := by decide +kernel
theorem dX7_size_22 : decode cX7_size 22 = .ok (.if_icmp .gt 32, 3) := by decide +kernel
theorem dX7_size_25 : decode cX7_size 25 = .ok (.aload_n 0, 1) := by decide +kernel
theorem dX7_size_26 : decode cX7_size 26 = .ok (.iload_n 2, 1) := by decide +kernel
theorem dX7_size_27 : decode cX7_size 27 = .ok (.invokevirtual 217, 3) := by decide +kernel
theorem dX7_size_30 : decode cX7_size 30 = .ok (.iload_n 1, 1) := by decide +kernel
theorem dX7_size_31 : decode cX7_size 31 = .ok (.imul, 1) := by decide +kernel
theorem dX7_size_32 : decode cX7_size 32 = .ok (.aload_n 0, 1) := by decide +kernel
theorem dX7_size_33 : decode cX7_size 33 = .ok (.iload_n 1, 1) := by decide +kernel
theorem dX7_size_34 : decode cX7_size 34 = .ok (.invokevirtual 217, 3) := by decide +kernel
theorem dX7_size_37 : decode cX7_size 37 = .ok (.iload_n 2, 1) := by decide +kernel
theorem dX7_size_38 : decode cX7_size 38 = .ok (.imul, 1) := by decide +kernel
theorem dX7_size_39 : decode cX7_size 39 = .ok (.if_icmp .ge 7, 3) := by decide +kernel
theorem dX7_size_42 : decode cX7_size 42 = .ok (.iload_n 2, 1) := by decide +kernel
theorem dX7_size_43 : decode cX7_size 43 = .ok (.goto 4, 3) := by decide +kernel
theorem dX7_size_46 : decode cX7_size 46 = .ok (.iload_n 1, 1) := by decide +kernel
theorem dX7_size_47 : decode cX7_size 47 = .ok (.istore_n 1, 1) := by decide +kernel
theorem dX7_size_48 : decode cX7_size 48 = .ok (.iinc 2 1, 3) := by decide +kernel
theorem dX7_size_51 : decode cX7_size 51 = .ok (.goto (-32), 3) := by decide +kernel
theorem dX7_size_54 : decode cX7_size 54 = .ok (.iload_n 1, 1) := by decide +kernel
theorem dX7_size_55 : decode cX7_size 55 = .ok (.ireturn, 1) := by decide +kernel
theorem dX7_book_0 : decode cX7_book 0 = .ok (.aload_n 0, 1) := by decide +kernel
theorem dX7_book_1 : decode cX7_book 1 = .ok (.iconst 0, 1) := by decide +kernel
theorem dX7_book_2 : decode cX7_book 2 = .ok (.putfield 65, 3) := by decide +kernel
theorem dX7_book_5 : decode cX7_book 5 = .ok (.aload_n 0, 1) := by decide +kernel
theorem dX7_book_6 : decode cX7_book 6 = .ok (.iload_n 1, 1) := by decide +kernel
theorem dX7_book_7 : decode cX7_book 7 = .ok (.invokevirtual 230, 3) := by decide +kernel
theorem dX7_book_10 : decode cX7_book 10 = .ok (.ifCond .eq 15, 3) := by decide +kernel
theorem dX7_book_13 : decode cX7_book 13 = .ok (.iload_n 2, 1) := by decide +kernel
theorem dX7_book_14 : decode cX7_book 14 = .ok (.i2l, 1) := by decide +kernel
theorem dX7_book_15 : decode cX7_book 15 = .ok (.lconst 1, 1) := by decide +kernel
theorem dX7_book_16 : decode cX7_book 16 = .ok (.ldc2_w 260, 3) := by decide +kernel
theorem dX7_book_19 : decode cX7_book 19 = .ok (.invokestatic 75, 3) := by decide +kernel
theorem dX7_book_22 : decode cX7_book 22 = .ok (.ifCond .ne 6, 3) := by decide +kernel
theorem dX7_book_25 : decode cX7_book 25 = .ok (.ldc 85, 2) := by decide +kernel
theorem dX7_book_27 : decode cX7_book 27 = .ok (.ireturn, 1) := by decide +kernel
theorem dX7_book_28 : decode cX7_book 28 = .ok (.aload_n 0, 1) := by decide +kernel
theorem dX7_book_29 : decode cX7_book 29 = .ok (.invokevirtual 227, 3) := by decide +kernel
theorem dX7_book_32 : decode cX7_book 32 = .ok (.aload_n 0, 1) := by decide +kernel
theorem dX7_book_33 : decode cX7_book 33 = .ok (.iconst 1, 1) := by decide +kernel
theorem dX7_book_34 : decode cX7_book 34 = .ok (.putfield 198, 3) := by decide +kernel
theorem dX7_book_37 : decode cX7_book 37 = .ok (.iconst 0, 1) := by decide +kernel
theorem dX7_book_38 : decode cX7_book 38 = .ok (.istore_n 3, 1) := by decide +kernel
theorem dX7_book_39 : decode cX7_book 39 = .ok (.iload_n 3, 1) := by decide +kernel
theorem dX7_book_40 : decode cX7_book 40 = .ok (.bipush 7, 2) := by decide +kernel
theorem dX7_book_42 : decode cX7_book 42 = .ok (.if_icmp .ge 16, 3) := by decide +kernel
theorem dX7_book_45 : decode cX7_book 45 = .ok (.aload_n 0, 1) := by decide +kernel
theorem dX7_book_46 : decode cX7_book 46 = .ok (.getfield 52, 3) := by decide +kernel
theorem dX7_book_49 : decode cX7_book 49 = .ok (.iload_n 3, 1) := by decide +kernel
theorem dX7_book_50 : decode cX7_book 50 = .ok (.iconst 0, 1) := by decide +kernel
theorem dX7_book_51 : decode cX7_book 51 = .ok (.iastore, 1) := by decide +kernel
theorem dX7_book_52 : decode cX7_book 52 = .ok (.iinc 3 1, 3) := by decide +kernel
theorem dX7_book_55 : decode cX7_book 55 = .ok (.goto (-16), 3) := by decide +kernel
theorem dX7_book_58 : decode cX7_book 58 = .ok (.iconst 0, 1) := by decide +kernel
theorem dX7_book_59 : decode cX7_book 59 = .ok (.istore_n 3, 1) := by decide +kernel
theorem dX7_book_60 : decode cX7_book 60 = .ok (.iload_n 3, 1) := by decide +kernel
theorem dX7_book_61 : decode cX7_book 61 = .ok (.iload_n 2, 1) := by decide +kernel
theorem dX7_book_62 : decode cX7_book 62 = .ok (.if_icmp .ge 13, 3) := by decide +kernel
theorem dX7_book_65 : decode cX7_book 65 = .ok (.aload_n 0, 1) := by decide +kernel
theorem dX7_book_66 : decode cX7_book 66 = .ok (.invokevirtual 238, 3) := by decide +kernel
theorem dX7_book_69 : decode cX7_book 69 = .ok (.iinc 3 1, 3) := by decide +kernel
theorem dX7_book_72 : decode cX7_book 72 = .ok (.goto (-12), 3) := by decide +kernel
theorem dX7_book_75 : decode cX7_book 75 = .ok (.aload_n 0, 1) := by decide +kernel
theorem dX7_book_76 : decode cX7_book 76 = .ok (.getfield 52, 3) := by decide +kernel
theorem dX7_book_79 : decode cX7_book 79 = .ok (.iload_n 1, 1) := by decide +kernel
theorem dX7_book_80 : decode cX7_book 80 = .ok (.iaload, 1) := by decide +kernel
theorem dX7_book_81 : decode cX7_book 81 = .ok (.ireturn, 1) := by decide +kernel
theorem dX7_ford_0 : decode cX7_ford 0 = .ok (.aload_n 0, 1) := by decide +kernel
theorem dX7_ford_1 : decode cX7_ford 1 = .ok (.iconst 0, 1) := by decide +kernel
theorem dX7_ford_2 : decode cX7_ford 2 = .ok (.putfield 65, 3) := by decide +kernel
theorem dX7_ford_5 : decode cX7_ford 5 = .ok (.aload_n 0, 1) := by decide +kernel
theorem dX7_ford_6 : decode cX7_ford 6 = .ok (.iload_n 1, 1) := by decide +kernel
theorem dX7_ford_7 : decode cX7_ford 7 = .ok (.invokevirtual 230, 3) := by decide +kernel
theorem dX7_ford_10 : decode cX7_ford 10 = .ok (.ifCond .eq 38, 3) := by decide +kernel
theorem dX7_ford_13 : decode cX7_ford 13 = .ok (.iload_n 2, 1) := by decide +kernel
theorem dX7_ford_14 : decode cX7_ford 14 = .ok (.i2l, 1) := by decide +kernel
theorem dX7_ford_15 : decode cX7_ford 15 = .ok (.lconst 0, 1) := by decide +kernel
theorem dX7_ford_16 : decode cX7_ford 16 = .ok (.ldc2_w 262, 3) := by decide +kernel
theorem dX7_ford_19 : decode cX7_ford 19 = .ok (.invokestatic 75, 3) := by decide +kernel
theorem dX7_ford_22 : decode cX7_ford 22 = .ok (.ifCond .eq 26, 3) := by decide +kernel
theorem dX7_ford_25 : decode cX7_ford 25 = .ok (.iload_n 3, 1) := by decide +kernel
theorem dX7_ford_26 : decode cX7_ford 26 = .ok (.i2l, 1) := by decide +kernel
theorem dX7_ford_27 : decode cX7_ford 27 = .ok (.lconst 0, 1) := by decide +kernel
theorem dX7_ford_28 : decode cX7_ford 28 = .ok (.ldc2_w 264, 3) := by decide +kernel
theorem dX7_ford_31 : decode cX7_ford 31 = .ok (.invokestatic 75, 3) := by decide +kernel
theorem dX7_ford_34 : decode cX7_ford 34 = .ok (.ifCond .eq 14, 3) := by decide +kernel
theorem dX7_ford_37 : decode cX7_ford 37 = .ok (.iload 4, 2) := by decide +kernel
theorem dX7_ford_39 : decode cX7_ford 39 = .ok (.i2l, 1) := by decide +kernel
theorem dX7_ford_40 : decode cX7_ford 40 = .ok (.lconst 0, 1) := by decide +kernel
theorem dX7_ford_41 : decode cX7_ford 41 = .ok (.lconst 1, 1) := by decide +kernel
theorem dX7_ford_42 : decode cX7_ford 42 = .ok (.invokestatic 75, 3) := by decide +kernel
theorem dX7_ford_45 : decode cX7_ford 45 = .ok (.ifCond .ne 6, 3) := by decide +kernel
theorem dX7_ford_48 : decode cX7_ford 48 = .ok (.ldc 85, 2) := by decide +kernel
theorem dX7_ford_50 : decode cX7_ford 50 = .ok (.ireturn, 1) := by decide +kernel
theorem dX7_ford_51 : decode cX7_ford 51 = .ok (.aload_n 0, 1) := by decide +kernel
theorem dX7_ford_52 : decode cX7_ford 52 = .ok (.iconst 1, 1) := by decide +kernel
theorem dX7_ford_53 : decode cX7_ford 53 = .ok (.invokevirtual 217, 3) := by decide +kernel
theorem dX7_ford_56 : decode cX7_ford 56 = .ok (.istore 5, 2) := by decide +kernel
theorem dX7_ford_58 : decode cX7_ford 58 = .ok (.iconst 1, 1) := by decide +kernel
theorem dX7_ford_59 : decode cX7_ford 59 = .ok (.istore 6, 2) := by decide +kernel
theorem dX7_ford_61 : decode cX7_ford 61 = .ok (.iconst 0, 1) := by decide +kernel
theorem dX7_ford_62 : decode cX7_ford 62 = .ok (.istore 7, 2) := by decide +kernel
theorem dX7_ford_64 : decode cX7_ford 64 = .ok (.iload 7, 2) := by decide +kernel
theorem dX7_ford_66 : decode cX7_ford 66 = .ok (.iload_n 3, 1) := by decide +kernel
theorem dX7_ford_67 : decode cX7_ford 67 = .ok (.if_icmp .ge 63, 3) := by decide +kernel
theorem dX7_ford_70 : decode cX7_ford 70 = .ok (.iload 6, 2) := by decide +kernel
theorem dX7_ford_72 : decode cX7_ford 72 = .ok (.bipush 100, 2) := by decide +kernel
theorem dX7_ford_74 : decode cX7_ford 74 = .ok (.imul, 1) := by decide +kernel
theorem dX7_ford_75 : decode cX7_ford 75 = .ok (.istore 6, 2) := by decide +kernel
theorem dX7_ford_77 : decode cX7_ford 77 = .ok (.aload_n 0, 1) := by decide +kernel
theorem dX7_ford_78 : decode cX7_ford 78 = .ok (.iload_n 1, 1) := by decide +kernel
theorem dX7_ford_79 : decode cX7_ford 79 = .ok (.iconst 2, 1) := by decide +kernel
theorem dX7_ford_80 : decode cX7_ford 80 = .ok (.invokevirtual 201, 3) := by decide +kernel
theorem dX7_ford_83 : decode cX7_ford 83 = .ok (.iload 6, 2) := by decide +kernel
theorem dX7_ford_85 : decode cX7_ford 85 = .ok (.imul, 1) := by decide +kernel
theorem dX7_ford_86 : decode cX7_ford 86 = .ok (.bipush 100, 2) := by decide +kernel
theorem dX7_ford_88 : decode cX7_ford 88 = .ok (.iload_n 2, 1) := by decide +kernel
theorem dX7_ford_89 : decode cX7_ford 89 = .ok (.isub, 1) := by decide +kernel
theorem dX7_ford_90 : decode cX7_ford 90 = .ok (.iload 5, 2) := by decide +kernel
theorem dX7_ford_92 : decode cX7_ford 92 = .ok (.imul, 1) := by decide +kernel
theorem dX7_ford_93 : decode cX7_ford 93 = .ok (.iadd, 1) := by decide +kernel
theorem dX7_ford_94 : decode cX7_ford 94 = .ok (.istore 8, 2) := by decide +kernel
theorem dX7_ford_96 : decode cX7_ford 96 = .ok (.aload_n 0, 1) := by decide +kernel
theorem dX7_ford_97 : decode cX7_ford 97 = .ok (.iconst 1, 1) := by decide +kernel
theorem dX7_ford_98 : decode cX7_ford 98 = .ok (.invokevirtual 217, 3) := by decide +kernel
theorem dX7_ford_101 : decode cX7_ford 101 = .ok (.iload 6, 2) := by decide +kernel
theorem dX7_ford_103 : decode cX7_ford 103 = .ok (.imul, 1) := by decide +kernel
theorem dX7_ford_104 : decode cX7_ford 104 = .ok (.iload 8, 2) := by decide +kernel
theorem dX7_ford_106 : decode cX7_ford 106 = .ok (.if_icmp .ge 14, 3) := by decide +kernel
theorem dX7_ford_109 : decode cX7_ford 109 = .ok (.aload_n 0, 1) := by decide +kernel
theorem dX7_ford_110 : decode cX7_ford 110 = .ok (.iconst 1, 1) := by decide +kernel
theorem dX7_ford_111 : decode cX7_ford 111 = .ok (.invokevirtual 217, 3) := by decide +kernel
theorem dX7_ford_114 : decode cX7_ford 114 = .ok (.iload 6, 2) := by decide +kernel
theorem dX7_ford_116 : decode cX7_ford 116 = .ok (.imul, 1) := by decide +kernel
theorem dX7_ford_117 : decode cX7_ford 117 = .ok (.goto 5, 3) := by decide +kernel
theorem dX7_ford_120 : decode cX7_ford 120 = .ok (.iload 8, 2) := by decide +kernel
theorem dX7_ford_122 : decode cX7_ford 122 = .ok (.istore 5, 2) := by decide +kernel
theorem dX7_ford_124 : decode cX7_ford 124 = .ok (.iinc 7 1, 3) := by decide +kernel
theorem dX7_ford_127 : decode cX7_ford 127 = .ok (.goto (-63), 3) := by decide +kernel
theorem dX7_ford_130 : decode cX7_ford 130 = .ok (.iload 5, 2) := by decide +kernel
theorem dX7_ford_132 : decode cX7_ford 132 = .ok (.istore 7, 2) := by decide +kernel
theorem dX7_ford_134 : decode cX7_ford 134 = .ok (.iload 6, 2) := by decide +kernel
theorem dX7_ford_136 : decode cX7_ford 136 = .ok (.istore 8, 2) := by decide +kernel
theorem dX7_ford_138 : decode cX7_ford 138 = .ok (.iload 8, 2) := by decide +kernel
theorem dX7_ford_140 : decode cX7_ford 140 = .ok (.ifCond .eq 21, 3) := by decide +kernel
theorem dX7_ford_143 : decode cX7_ford 143 = .ok (.iload 7, 2) := by decide +kernel
theorem dX7_ford_145 : decode cX7_ford 145 = .ok (.iload 8, 2) := by decide +kernel
theorem dX7_ford_147 : decode cX7_ford 147 = .ok (.irem, 1) := by decide +kernel
theorem dX7_ford_148 : decode cX7_ford 148 = .ok (.istore 9, 2) := by decide +kernel
theorem dX7_ford_150 : decode cX7_ford 150 = .ok (.iload 8, 2) := by decide +kernel
theorem dX7_ford_152 : decode cX7_ford 152 = .ok (.istore 7, 2) := by decide +kernel
theorem dX7_ford_154 : decode cX7_ford 154 = .ok (.iload 9, 2) := by decide +kernel
theorem dX7_ford_156 : decode cX7_ford 156 = .ok (.istore 8, 2) := by decide +kernel
theorem dX7_ford_158 : decode cX7_ford 158 = .ok (.goto (-20), 3) := by decide +kernel
theorem dX7_ford_161 : decode cX7_ford 161 = .ok (.iload 4, 2) := by decide +kernel
theorem dX7_ford_163 : decode cX7_ford 163 = .ok (.ifCond .ne 8, 3) := by decide +kernel
theorem dX7_ford_166 : decode cX7_ford 166 = .ok (.iload 5, 2) := by decide +kernel
theorem dX7_ford_168 : decode cX7_ford 168 = .ok (.goto 5, 3) := by decide +kernel
theorem dX7_ford_171 : decode cX7_ford 171 = .ok (.iload 6, 2) := by decide +kernel
theorem dX7_ford_173 : decode cX7_ford 173 = .ok (.iload 7, 2) := by decide +kernel
theorem dX7_ford_175 : decode cX7_ford 175 = .ok (.idiv, 1) := by decide +kernel
theorem dX7_ford_176 : decode cX7_ford 176 = .ok (.ireturn, 1) := by decide +kernel
theorem dX7_goat_0 : decode cX7_goat 0 = .ok (.aload_n 0, 1) := by decide +kernel
theorem dX7_goat_1 : decode cX7_goat 1 = .ok (.iconst 0, 1) := by decide +kernel
theorem dX7_goat_2 : decode cX7_goat 2 = .ok (.putfield 65, 3) := by decide +kernel
theorem dX7_goat_5 : decode cX7_goat 5 = .ok (.aload_n 0, 1) := by decide +kernel
theorem dX7_goat_6 : decode cX7_goat 6 = .ok (.iload_n 1, 1) := by decide +kernel
theorem dX7_goat_7 : decode cX7_goat 7 = .ok (.invokevirtual 230, 3) := by decide +kernel
theorem dX7_goat_10 : decode cX7_goat 10 = .ok (.ifCond .eq 10, 3) := by decide +kernel
theorem dX7_goat_13 : decode cX7_goat 13 = .ok (.iload_n 2, 1) := by decide +kernel
theorem dX7_goat_14 : decode cX7_goat 14 = .ok (.invokestatic 251, 3) := by decide +kernel
theorem dX7_goat_17 : decode cX7_goat 17 = .ok (.ifCond .ne 6, 3) := by decide +kernel
theorem dX7_goat_20 : decode cX7_goat 20 = .ok (.ldc 85, 2) := by decide +kernel
theorem dX7_goat_22 : decode cX7_goat 22 = .ok (.ireturn, 1) := by decide +kernel
theorem dX7_goat_23 : decode cX7_goat 23 = .ok (.aload_n 0, 1) := by decide +kernel
theorem dX7_goat_24 : decode cX7_goat 24 = .ok (.invokevirtual 227, 3) := by decide +kernel
theorem dX7_goat_27 : decode cX7_goat 27 = .ok (.aload_n 0, 1) := by decide +kernel
theorem dX7_goat_28 : decode cX7_goat 28 = .ok (.invokevirtual 238, 3) := by decide +kernel
theorem dX7_goat_31 : decode cX7_goat 31 = .ok (.aload_n 0, 1) := by decide +kernel
theorem dX7_goat_32 : decode cX7_goat 32 = .ok (.iload_n 1, 1) := by decide +kernel
theorem dX7_goat_33 : decode cX7_goat 33 = .ok (.invokevirtual 235, 3) := by decide +kernel
theorem dX7_goat_36 : decode cX7_goat 36 = .ok (.istore_n 3, 1) := by decide +kernel
theorem dX7_goat_37 : decode cX7_goat 37 = .ok (.aload_n 0, 1) := by decide +kernel
theorem dX7_goat_38 : decode cX7_goat 38 = .ok (.getfield 195, 3) := by decide +kernel
theorem dX7_goat_41 : decode cX7_goat 41 = .ok (.istore 4, 2) := by decide +kernel
theorem dX7_goat_43 : decode cX7_goat 43 = .ok (.aload_n 0, 1) := by decide +kernel
theorem dX7_goat_44 : decode cX7_goat 44 = .ok (.dup, 1) := by decide +kernel
theorem dX7_goat_45 : decode cX7_goat 45 = .ok (.getfield 195, 3) := by decide +kernel
theorem dX7_goat_48 : decode cX7_goat 48 = .ok (.iconst 1, 1) := by decide +kernel
theorem dX7_goat_49 : decode cX7_goat 49 = .ok (.iadd, 1) := by decide +kernel
theorem dX7_goat_50 : decode cX7_goat 50 = .ok (.putfield 195, 3) := by decide +kernel
theorem dX7_goat_53 : decode cX7_goat 53 = .ok (.aload_n 0, 1) := by decide +kernel
theorem dX7_goat_54 : decode cX7_goat 54 = .ok (.getfield 31, 3) := by decide +kernel
theorem dX7_goat_57 : decode cX7_goat 57 = .ok (.iload 4, 2) := by decide +kernel
theorem dX7_goat_59 : decode cX7_goat 59 = .ok (.iconst 5, 1) := by decide +kernel
theorem dX7_goat_60 : decode cX7_goat 60 = .ok (.iastore, 1) := by decide +kernel
theorem dX7_goat_61 : decode cX7_goat 61 = .ok (.aload_n 0, 1) := by decide +kernel
theorem dX7_goat_62 : decode cX7_goat 62 = .ok (.getfield 34, 3) := by decide +kernel
theorem dX7_goat_65 : decode cX7_goat 65 = .ok (.iload 4, 2) := by decide +kernel
theorem dX7_goat_67 : decode cX7_goat 67 = .ok (.iload_n 2, 1) := by decide +kernel
theorem dX7_goat_68 : decode cX7_goat 68 = .ok (.iastore, 1) := by decide +kernel
theorem dX7_goat_69 : decode cX7_goat 69 = .ok (.aload_n 0, 1) := by decide +kernel
theorem dX7_goat_70 : decode cX7_goat 70 = .ok (.getfield 37, 3) := by decide +kernel
theorem dX7_goat_73 : decode cX7_goat 73 = .ok (.iload 4, 2) := by decide +kernel
theorem dX7_goat_75 : decode cX7_goat 75 = .ok (.iconst 0, 1) := by decide +kernel
theorem dX7_goat_76 : decode cX7_goat 76 = .ok (.iastore, 1) := by decide +kernel
theorem dX7_goat_77 : decode cX7_goat 77 = .ok (.aload_n 0, 1) := by decide +kernel
theorem dX7_goat_78 : decode cX7_goat 78 = .ok (.getfield 40, 3) := by decide +kernel
theorem dX7_goat_81 : decode cX7_goat 81 = .ok (.iload 4, 2) := by decide +kernel
theorem dX7_goat_83 : decode cX7_goat 83 = .ok (.iconst 0, 1) := by decide +kernel
theorem dX7_goat_84 : decode cX7_goat 84 = .ok (.iastore, 1) := by decide +kernel
theorem dX7_goat_85 : decode cX7_goat 85 = .ok (.aload_n 0, 1) := by decide +kernel
theorem dX7_goat_86 : decode cX7_goat 86 = .ok (.invokevirtual 238, 3) := by decide +kernel
theorem dX7_goat_89 : decode cX7_goat 89 = .ok (.aload_n 0, 1) := by decide +kernel
theorem dX7_goat_90 : decode cX7_goat 90 = .ok (.iload_n 1, 1) := by decide +kernel
theorem dX7_goat_91 : decode cX7_goat 91 = .ok (.invokevirtual 235, 3) := by decide +kernel
theorem dX7_goat_94 : decode cX7_goat 94 = .ok (.aload_n 0, 1) := by decide +kernel
theorem dX7_goat_95 : decode cX7_goat 95 = .ok (.getfield 46, 3) := by decide +kernel
theorem dX7_goat_98 : decode cX7_goat 98 = .ok (.iload 4, 2) := by decide +kernel
theorem dX7_goat_100 : decode cX7_goat 100 = .ok (.iaload, 1) := by decide +kernel
theorem dX7_goat_101 : decode cX7_goat 101 = .ok (.iadd, 1) := by decide +kernel
theorem dX7_goat_102 : decode cX7_goat 102 = .ok (.iload_n 3, 1) := by decide +kernel
theorem dX7_goat_103 : decode cX7_goat 103 = .ok (.isub, 1) := by decide +kernel
theorem dX7_goat_104 : decode cX7_goat 104 = .ok (.ireturn, 1) := by decide +kernel
theorem dX7_image_0 : decode cX7_image 0 = .ok (.aload_n 0, 1) := by decide +kernel
theorem dX7_image_1 : decode cX7_image 1 = .ok (.iconst 0, 1) := by decide +kernel
theorem dX7_image_2 : decode cX7_image 2 = .ok (.putfield 65, 3) := by decide +kernel
theorem dX7_image_5 : decode cX7_image 5 = .ok (.iload_n 1, 1) := by decide +kernel
theorem dX7_image_6 : decode cX7_image 6 = .ok (.i2l, 1) := by decide +kernel
theorem dX7_image_7 : decode cX7_image 7 = .ok (.lconst 0, 1) := by decide +kernel
theorem dX7_image_8 : decode cX7_image 8 = .ok (.lconst 1, 1) := by decide +kernel
theorem dX7_image_9 : decode cX7_image 9 = .ok (.invokestatic 75, 3) := by decide +kernel
theorem dX7_image_12 : decode cX7_image 12 = .ok (.ifCond .ne 6, 3) := by decide +kernel
theorem dX7_image_15 : decode cX7_image 15 = .ok (.ldc 85, 2) := by decide +kernel
theorem dX7_image_17 : decode cX7_image 17 = .ok (.ireturn, 1) := by decide +kernel
theorem dX7_image_18 : decode cX7_image 18 = .ok (.aload_n 0, 1) := by decide +kernel
theorem dX7_image_19 : decode cX7_image 19 = .ok (.getfield 186, 3) := by decide +kernel
theorem dX7_image_22 : decode cX7_image 22 = .ok (.ifCond .ne 6, 3) := by decide +kernel
theorem dX7_image_25 : decode cX7_image 25 = .ok (.ldc 223, 2) := by decide +kernel
theorem dX7_image_27 : decode cX7_image 27 = .ok (.ireturn, 1) := by decide +kernel
theorem dX7_image_28 : decode cX7_image 28 = .ok (.iconst 0, 1) := by decide +kernel
theorem dX7_image_29 : decode cX7_image 29 = .ok (.istore_n 2, 1) := by decide +kernel
theorem dX7_image_30 : decode cX7_image 30 = .ok (.iload_n 2, 1) := by decide +kernel
theorem dX7_image_31 : decode cX7_image 31 = .ok (.bipush 44, 2) := by decide +kernel
theorem dX7_image_33 : decode cX7_image 33 = .ok (.if_icmp .ge 26, 3) := by decide +kernel
theorem dX7_image_36 : decode cX7_image 36 = .ok (.aload_n 0, 1) := by decide +kernel
theorem dX7_image_37 : decode cX7_image 37 = .ok (.getfield 59, 3) := by decide +kernel
theorem dX7_image_40 : decode cX7_image 40 = .ok (.bipush 44, 2) := by decide +kernel
theorem dX7_image_42 : decode cX7_image 42 = .ok (.iload_n 1, 1) := by decide +kernel
theorem dX7_image_43 : decode cX7_image 43 = .ok (.imul, 1) := by decide +kernel
theorem dX7_image_44 : decode cX7_image 44 = .ok (.iload_n 2, 1) := by decide +kernel
theorem dX7_image_45 : decode cX7_image 45 = .ok (.iadd, 1) := by decide +kernel
theorem dX7_image_46 : decode cX7_image 46 = .ok (.aload_n 0, 1) := by decide +kernel
theorem dX7_image_47 : decode cX7_image 47 = .ok (.getfield 19, 3) := by decide +kernel
theorem dX7_image_50 : decode cX7_image 50 = .ok (.iload_n 2, 1) := by decide +kernel
theorem dX7_image_51 : decode cX7_image 51 = .ok (.iaload, 1) := by decide +kernel
theorem dX7_image_52 : decode cX7_image 52 = .ok (.iastore, 1) := by decide +kernel
theorem dX7_image_53 : decode cX7_image 53 = .ok (.iinc 2 1, 3) := by decide +kernel
theorem dX7_image_56 : decode cX7_image 56 = .ok (.goto (-26), 3) := by decide +kernel
theorem dX7_image_59 : decode cX7_image 59 = .ok (.aload_n 0, 1) := by decide +kernel
theorem dX7_image_60 : decode cX7_image 60 = .ok (.getfield 55, 3) := by decide +kernel
theorem dX7_image_63 : decode cX7_image 63 = .ok (.iload_n 1, 1) := by decide +kernel
theorem dX7_image_64 : decode cX7_image 64 = .ok (.iconst 1, 1) := by decide +kernel
theorem dX7_image_65 : decode cX7_image 65 = .ok (.bastore, 1) := by decide +kernel
theorem dX7_image_66 : decode cX7_image 66 = .ok (.iconst 1, 1) := by decide +kernel
theorem dX7_image_67 : decode cX7_image 67 = .ok (.ireturn, 1) := by decide +kernel
theorem dX7_restore_0 : decode cX7_restore 0 = .ok (.aload_n 0, 1) := by decide +kernel
theorem dX7_restore_1 : decode cX7_restore 1 = .ok (.iconst 0, 1) := by decide +kernel
theorem dX7_restore_2 : decode cX7_restore 2 = .ok (.putfield 65, 3) := by decide +kernel
theorem dX7_restore_5 : decode cX7_restore 5 = .ok (.iload_n 1, 1) := by decide +kernel
theorem dX7_restore_6 : decode cX7_restore 6 = .ok (.i2l, 1) := by decide +kernel
theorem dX7_restore_7 : decode cX7_restore 7 = .ok (.lconst 0, 1) := by decide +kernel
theorem dX7_restore_8 : decode cX7_restore 8 = .ok (.lconst 1, 1) := by decide +kernel
theorem dX7_restore_9 : decode cX7_restore 9 = .ok (.invokestatic 75, 3) := by decide +kernel
theorem dX7_restore_12 : decode cX7_restore 12 = .ok (.ifCond .ne 6, 3) := by decide +kernel
theorem dX7_restore_15 : decode cX7_restore 15 = .ok (.ldc 85, 2) := by decide +kernel
theorem dX7_restore_17 : decode cX7_restore 17 = .ok (.ireturn, 1) := by decide +kernel
theorem dX7_restore_18 : decode cX7_restore 18 = .ok (.aload_n 0, 1) := by decide +kernel
theorem dX7_restore_19 : decode cX7_restore 19 = .ok (.getfield 55, 3) := by decide +kernel
theorem dX7_restore_22 : decode cX7_restore 22 = .ok (.iload_n 1, 1) := by decide +kernel
theorem dX7_restore_23 : decode cX7_restore 23 = .ok (.baload, 1) := by decide +kernel
theorem dX7_restore_24 : decode cX7_restore 24 = .ok (.ifCond .ne 6, 3) := by decide +kernel
theorem dX7_restore_27 : decode cX7_restore 27 = .ok (.ldc 223, 2) := by decide +kernel
theorem dX7_restore_29 : decode cX7_restore 29 = .ok (.ireturn, 1) := by decide +kernel
theorem dX7_restore_30 : decode cX7_restore 30 = .ok (.iconst 0, 1) := by decide +kernel
theorem dX7_restore_31 : decode cX7_restore 31 = .ok (.istore_n 2, 1) := by decide +kernel
theorem dX7_restore_32 : decode cX7_restore 32 = .ok (.iload_n 2, 1) := by decide +kernel
theorem dX7_restore_33 : decode cX7_restore 33 = .ok (.bipush 44, 2) := by decide +kernel
theorem dX7_restore_35 : decode cX7_restore 35 = .ok (.if_icmp .ge 26, 3) := by decide +kernel
theorem dX7_restore_38 : decode cX7_restore 38 = .ok (.aload_n 0, 1) := by decide +kernel
theorem dX7_restore_39 : decode cX7_restore 39 = .ok (.getfield 19, 3) := by decide +kernel
theorem dX7_restore_42 : decode cX7_restore 42 = .ok (.iload_n 2, 1) := by decide +kernel
theorem dX7_restore_43 : decode cX7_restore 43 = .ok (.aload_n 0, 1) := by decide +kernel
theorem dX7_restore_44 : decode cX7_restore 44 = .ok (.getfield 59, 3) := by decide +kernel
theorem dX7_restore_47 : decode cX7_restore 47 = .ok (.bipush 44, 2) := by decide +kernel
theorem dX7_restore_49 : decode cX7_restore 49 = .ok (.iload_n 1, 1) := by decide +kernel
theorem dX7_restore_50 : decode cX7_restore 50 = .ok (.imul, 1) := by decide +kernel
theorem dX7_restore_51 : decode cX7_restore 51 = .ok (.iload_n 2, 1) := by decide +kernel
theorem dX7_restore_52 : decode cX7_restore 52 = .ok (.iadd, 1) := by decide +kernel
theorem dX7_restore_53 : decode cX7_restore 53 = .ok (.iaload, 1) := by decide +kernel
theorem dX7_restore_54 : decode cX7_restore 54 = .ok (.iastore, 1) := by decide +kernel
theorem dX7_restore_55 : decode cX7_restore 55 = .ok (.iinc 2 1, 3) := by decide +kernel
theorem dX7_restore_58 : decode cX7_restore 58 = .ok (.goto (-26), 3) := by decide +kernel
theorem dX7_restore_61 : decode cX7_restore 61 = .ok (.aload_n 0, 1) := by decide +kernel
theorem dX7_restore_62 : decode cX7_restore 62 = .ok (.iconst 0, 1) := by decide +kernel
theorem dX7_restore_63 : decode cX7_restore 63 = .ok (.putfield 190, 3) := by decide +kernel
theorem dX7_restore_66 : decode cX7_restore 66 = .ok (.iconst 1, 1) := by decide +kernel
theorem dX7_restore_67 : decode cX7_restore 67 = .ok (.ireturn, 1) := by decide +kernel
theorem dX7_isOf_0 : decode cX7_isOf 0 = .ok (.iload_n 1, 1) := by decide +kernel
theorem dX7_isOf_1 : decode cX7_isOf 1 = .ok (.ifCond .eq 28, 3) := by decide +kernel
theorem dX7_isOf_4 : decode cX7_isOf 4 = .ok (.iload_n 0, 1) := by decide +kernel
theorem dX7_isOf_5 : decode cX7_isOf 5 = .ok (.iload_n 1, 1) := by decide +kernel
theorem dX7_isOf_6 : decode cX7_isOf 6 = .ok (.if_icmp .eq 23, 3) := by decide +kernel
theorem dX7_isOf_9 : decode cX7_isOf 9 = .ok (.iload_n 1, 1) := by decide +kernel
theorem dX7_isOf_10 : decode cX7_isOf 10 = .ok (.iconst 1, 1) := by decide +kernel
theorem dX7_isOf_11 : decode cX7_isOf 11 = .ok (.if_icmp .ne 8, 3) := by decide +kernel
theorem dX7_isOf_14 : decode cX7_isOf 14 = .ok (.iload_n 0, 1) := by decide +kernel
theorem dX7_isOf_15 : decode cX7_isOf 15 = .ok (.iconst 4, 1) := by decide +kernel
theorem dX7_isOf_16 : decode cX7_isOf 16 = .ok (.if_icmp .lt 13, 3) := by decide +kernel
theorem dX7_isOf_19 : decode cX7_isOf 19 = .ok (.iload_n 1, 1) := by decide +kernel
theorem dX7_isOf_20 : decode cX7_isOf 20 = .ok (.iconst 4, 1) := by decide +kernel
theorem dX7_isOf_21 : decode cX7_isOf 21 = .ok (.if_icmp .ne 12, 3) := by decide +kernel
theorem dX7_isOf_24 : decode cX7_isOf 24 = .ok (.iload_n 0, 1) := by decide +kernel
theorem dX7_isOf_25 : decode cX7_isOf 25 = .ok (.iconst 5, 1) := by decide +kernel
theorem dX7_isOf_26 : decode cX7_isOf 26 = .ok (.if_icmp .ne 7, 3) := by decide +kernel
theorem dX7_isOf_29 : decode cX7_isOf 29 = .ok (.iconst 1, 1) := by decide +kernel
theorem dX7_isOf_30 : decode cX7_isOf 30 = .ok (.goto 4, 3) := by decide +kernel
theorem dX7_isOf_33 : decode cX7_isOf 33 = .ok (.iconst 0, 1) := by decide +kernel
theorem dX7_isOf_34 : decode cX7_isOf 34 = .ok (.ireturn, 1) := by decide +kernel
theorem dX7_kind_0 : decode cX7_kind 0 = .ok (.aload_n 0, 1) := by decide +kernel
theorem dX7_kind_1 : decode cX7_kind 1 = .ok (.iconst 0, 1) := by decide +kernel
theorem dX7_kind_2 : decode cX7_kind 2 = .ok (.putfield 65, 3) := by decide +kernel
theorem dX7_kind_5 : decode cX7_kind 5 = .ok (.aload_n 0, 1) := by decide +kernel
theorem dX7_kind_6 : decode cX7_kind 6 = .ok (.iload_n 1, 1) := by decide +kernel
theorem dX7_kind_7 : decode cX7_kind 7 = .ok (.invokevirtual 230, 3) := by decide +kernel
theorem dX7_kind_10 : decode cX7_kind 10 = .ok (.ifCond .eq 12, 3) := by decide +kernel
theorem dX7_kind_13 : decode cX7_kind 13 = .ok (.aload_n 0, 1) := by decide +kernel
theorem dX7_kind_14 : decode cX7_kind 14 = .ok (.iload_n 1, 1) := by decide +kernel
theorem dX7_kind_15 : decode cX7_kind 15 = .ok (.iconst 0, 1) := by decide +kernel
theorem dX7_kind_16 : decode cX7_kind 16 = .ok (.invokevirtual 201, 3) := by decide +kernel
theorem dX7_kind_19 : decode cX7_kind 19 = .ok (.goto 5, 3) := by decide +kernel
theorem dX7_kind_22 : decode cX7_kind 22 = .ok (.ldc 85, 2) := by decide +kernel
theorem dX7_kind_24 : decode cX7_kind 24 = .ok (.ireturn, 1) := by decide +kernel
theorem dX7_as_0 : decode cX7_as 0 = .ok (.aload_n 0, 1) := by decide +kernel
theorem dX7_as_1 : decode cX7_as 1 = .ok (.iconst 0, 1) := by decide +kernel
theorem dX7_as_2 : decode cX7_as 2 = .ok (.putfield 65, 3) := by decide +kernel
theorem dX7_as_5 : decode cX7_as 5 = .ok (.aload_n 0, 1) := by decide +kernel
theorem dX7_as_6 : decode cX7_as 6 = .ok (.iload_n 1, 1) := by decide +kernel
theorem dX7_as_7 : decode cX7_as 7 = .ok (.invokevirtual 230, 3) := by decide +kernel
theorem dX7_as_10 : decode cX7_as 10 = .ok (.ifCond .eq 15, 3) := by decide +kernel
theorem dX7_as_13 : decode cX7_as 13 = .ok (.iload_n 2, 1) := by decide +kernel
theorem dX7_as_14 : decode cX7_as 14 = .ok (.i2l, 1) := by decide +kernel
theorem dX7_as_15 : decode cX7_as 15 = .ok (.lconst 0, 1) := by decide +kernel
theorem dX7_as_16 : decode cX7_as 16 = .ok (.ldc2_w 233, 3) := by decide +kernel
theorem dX7_as_19 : decode cX7_as 19 = .ok (.invokestatic 75, 3) := by decide +kernel
theorem dX7_as_22 : decode cX7_as 22 = .ok (.ifCond .ne 6, 3) := by decide +kernel
theorem dX7_as_25 : decode cX7_as 25 = .ok (.ldc 85, 2) := by decide +kernel
theorem dX7_as_27 : decode cX7_as 27 = .ok (.ireturn, 1) := by decide +kernel
theorem dX7_as_28 : decode cX7_as 28 = .ok (.aload_n 0, 1) := by decide +kernel
theorem dX7_as_29 : decode cX7_as 29 = .ok (.iconst 0, 1) := by decide +kernel
theorem dX7_as_30 : decode cX7_as 30 = .ok (.putfield 69, 3) := by decide +kernel
theorem dX7_as_33 : decode cX7_as 33 = .ok (.aload_n 0, 1) := by decide +kernel
theorem dX7_as_34 : decode cX7_as 34 = .ok (.iload_n 1, 1) := by decide +kernel
theorem dX7_as_35 : decode cX7_as 35 = .ok (.iconst 0, 1) := by decide +kernel
theorem dX7_as_36 : decode cX7_as 36 = .ok (.invokevirtual 201, 3) := by decide +kernel
theorem dX7_as_39 : decode cX7_as 39 = .ok (.iload_n 2, 1) := by decide +kernel
theorem dX7_as_40 : decode cX7_as 40 = .ok (.invokestatic 266, 3) := by decide +kernel
theorem dX7_as_43 : decode cX7_as 43 = .ok (.ifCond .eq 7, 3) := by decide +kernel
theorem dX7_as_46 : decode cX7_as 46 = .ok (.iload_n 1, 1) := by decide +kernel
theorem dX7_as_47 : decode cX7_as 47 = .ok (.goto 8, 3) := by decide +kernel
theorem dX7_as_50 : decode cX7_as 50 = .ok (.aload_n 0, 1) := by decide +kernel
theorem dX7_as_51 : decode cX7_as 51 = .ok (.iconst 3, 1) := by decide +kernel
theorem dX7_as_52 : decode cX7_as 52 = .ok (.invokevirtual 86, 3) := by decide +kernel
theorem dX7_as_55 : decode cX7_as 55 = .ok (.ireturn, 1) := by decide +kernel
theorem dX7_began_0 : decode cX7_began 0 = .ok (.aload_n 0, 1) := by decide +kernel
theorem dX7_began_1 : decode cX7_began 1 = .ok (.getfield 269, 3) := by decide +kernel
theorem dX7_began_4 : decode cX7_began 4 = .ok (.bipush 16, 2) := by decide +kernel
theorem dX7_began_6 : decode cX7_began 6 = .ok (.if_icmp .ge 23, 3) := by decide +kernel
theorem dX7_began_9 : decode cX7_began 9 = .ok (.aload_n 0, 1) := by decide +kernel
theorem dX7_began_10 : decode cX7_began 10 = .ok (.getfield 62, 3) := by decide +kernel
theorem dX7_began_13 : decode cX7_began 13 = .ok (.aload_n 0, 1) := by decide +kernel
theorem dX7_began_14 : decode cX7_began 14 = .ok (.getfield 269, 3) := by decide +kernel
theorem dX7_began_17 : decode cX7_began 17 = .ok (.iload_n 1, 1) := by decide +kernel
theorem dX7_began_18 : decode cX7_began 18 = .ok (.iastore, 1) := by decide +kernel
theorem dX7_began_19 : decode cX7_began 19 = .ok (.aload_n 0, 1) := by decide +kernel
theorem dX7_began_20 : decode cX7_began 20 = .ok (.dup, 1) := by decide +kernel
theorem dX7_began_21 : decode cX7_began 21 = .ok (.getfield 269, 3) := by decide +kernel
theorem dX7_began_24 : decode cX7_began 24 = .ok (.iconst 1, 1) := by decide +kernel
theorem dX7_began_25 : decode cX7_began 25 = .ok (.iadd, 1) := by decide +kernel
theorem dX7_began_26 : decode cX7_began 26 = .ok (.putfield 269, 3) := by decide +kernel
theorem dX7_began_29 : decode cX7_began 29 = .ok (.return_, 1) := by decide +kernel
theorem dX7_plainSize_0 : decode cX7_plainSize 0 = .ok (.aload_n 0, 1) := by decide +kernel
theorem dX7_plainSize_1 : decode cX7_plainSize 1 = .ok (.bipush 10, 2) := by decide +kernel
theorem dX7_plainSize_3 : decode cX7_plainSize 3 = .ok (.invokevirtual 272, 3) := by decide +kernel
theorem dX7_plainSize_6 : decode cX7_plainSize 6 = .ok (.aload_n 0, 1) := by decide +kernel
theorem dX7_plainSize_7 : decode cX7_plainSize 7 = .ok (.iload_n 1, 1) := by decide +kernel
theorem dX7_plainSize_8 : decode cX7_plainSize 8 = .ok (.iconst 2, 1) := by decide +kernel
theorem dX7_plainSize_9 : decode cX7_plainSize 9 = .ok (.invokevirtual 201, 3) := by decide +kernel
theorem dX7_plainSize_12 : decode cX7_plainSize 12 = .ok (.ireturn, 1) := by decide +kernel
theorem dX7_goSize_0 : decode cX7_goSize 0 = .ok (.aload_n 0, 1) := by decide +kernel
theorem dX7_goSize_1 : decode cX7_goSize 1 = .ok (.iload_n 1, 1) := by decide +kernel
theorem dX7_goSize_2 : decode cX7_goSize 2 = .ok (.iconst 0, 1) := by decide +kernel
theorem dX7_goSize_3 : decode cX7_goSize 3 = .ok (.invokevirtual 201, 3) := by decide +kernel
theorem dX7_goSize_6 : decode cX7_goSize 6 = .ok (.iconst 5, 1) := by decide +kernel
theorem dX7_goSize_7 : decode cX7_goSize 7 = .ok (.if_icmp .ne 9, 3) := by decide +kernel
theorem dX7_goSize_10 : decode cX7_goSize 10 = .ok (.aload_n 0, 1) := by decide +kernel
theorem dX7_goSize_11 : decode cX7_goSize 11 = .ok (.bipush 14, 2) := by decide +kernel
theorem dX7_goSize_13 : decode cX7_goSize 13 = .ok (.invokevirtual 272, 3) := by decide +kernel
theorem dX7_goSize_16 : decode cX7_goSize 16 = .ok (.aload_n 0, 1) := by decide +kernel
theorem dX7_goSize_17 : decode cX7_goSize 17 = .ok (.bipush 13, 2) := by decide +kernel
theorem dX7_goSize_19 : decode cX7_goSize 19 = .ok (.invokevirtual 272, 3) := by decide +kernel
theorem dX7_goSize_22 : decode cX7_goSize 22 = .ok (.aload_n 0, 1) := by decide +kernel
theorem dX7_goSize_23 : decode cX7_goSize 23 = .ok (.iload_n 1, 1) := by decide +kernel
theorem dX7_goSize_24 : decode cX7_goSize 24 = .ok (.invokevirtual 275, 3) := by decide +kernel
theorem dX7_goSize_27 : decode cX7_goSize 27 = .ok (.bipush 100, 2) := by decide +kernel
theorem dX7_goSize_29 : decode cX7_goSize 29 = .ok (.isub, 1) := by decide +kernel
theorem dX7_goSize_30 : decode cX7_goSize 30 = .ok (.istore_n 2, 1) := by decide +kernel
theorem dX7_goSize_31 : decode cX7_goSize 31 = .ok (.aload_n 0, 1) := by decide +kernel
theorem dX7_goSize_32 : decode cX7_goSize 32 = .ok (.iload_n 1, 1) := by decide +kernel
theorem dX7_goSize_33 : decode cX7_goSize 33 = .ok (.iconst 0, 1) := by decide +kernel
theorem dX7_goSize_34 : decode cX7_goSize 34 = .ok (.invokevirtual 201, 3) := by decide +kernel
theorem dX7_goSize_37 : decode cX7_goSize 37 = .ok (.iconst 5, 1) := by decide +kernel
theorem dX7_goSize_38 : decode cX7_goSize 38 = .ok (.if_icmp .ne 9, 3) := by decide +kernel
theorem dX7_goSize_41 : decode cX7_goSize 41 = .ok (.iconst 2, 1) := by decide +kernel
theorem dX7_goSize_42 : decode cX7_goSize 42 = .ok (.iload_n 2, 1) := by decide +kernel
theorem dX7_goSize_43 : decode cX7_goSize 43 = .ok (.imul, 1) := by decide +kernel
theorem dX7_goSize_44 : decode cX7_goSize 44 = .ok (.goto 4, 3) := by decide +kernel
theorem dX7_goSize_47 : decode cX7_goSize 47 = .ok (.iload_n 2, 1) := by decide +kernel
theorem dX7_goSize_48 : decode cX7_goSize 48 = .ok (.ireturn, 1) := by decide +kernel
theorem dX7_markOf_0 : decode cX7_markOf 0 = .ok (.aload_n 0, 1) := by decide +kernel
theorem dX7_markOf_1 : decode cX7_markOf 1 = .ok (.iload_n 1, 1) := by decide +kernel
theorem dX7_markOf_2 : decode cX7_markOf 2 = .ok (.iconst 0, 1) := by decide +kernel
theorem dX7_markOf_3 : decode cX7_markOf 3 = .ok (.invokevirtual 201, 3) := by decide +kernel
theorem dX7_markOf_6 : decode cX7_markOf 6 = .ok (.istore_n 2, 1) := by decide +kernel
theorem dX7_markOf_7 : decode cX7_markOf 7 = .ok (.iload_n 2, 1) := by decide +kernel
theorem dX7_markOf_8 : decode cX7_markOf 8 = .ok (.iconst 4, 1) := by decide +kernel
theorem dX7_markOf_9 : decode cX7_markOf 9 = .ok (.if_icmp .lt 23, 3) := by decide +kernel
theorem dX7_markOf_12 : decode cX7_markOf 12 = .ok (.aload_n 0, 1) := by decide +kernel
theorem dX7_markOf_13 : decode cX7_markOf 13 = .ok (.bipush 23, 2) := by decide +kernel
theorem dX7_markOf_15 : decode cX7_markOf 15 = .ok (.invokevirtual 272, 3) := by decide +kernel
theorem dX7_markOf_18 : decode cX7_markOf 18 = .ok (.aload_n 0, 1) := by decide +kernel
theorem dX7_markOf_19 : decode cX7_markOf 19 = .ok (.bipush 20, 2) := by decide +kernel
theorem dX7_markOf_21 : decode cX7_markOf 21 = .ok (.invokevirtual 272, 3) := by decide +kernel
theorem dX7_markOf_24 : decode cX7_markOf 24 = .ok (.iload_n 1, 1) := by decide +kernel
theorem dX7_markOf_25 : decode cX7_markOf 25 = .ok (.aload_n 0, 1) := by decide +kernel
theorem dX7_markOf_26 : decode cX7_markOf 26 = .ok (.iload_n 1, 1) := by decide +kernel
theorem dX7_markOf_27 : decode cX7_markOf 27 = .ok (.invokevirtual 278, 3) := by decide +kernel
theorem dX7_markOf_30 : decode cX7_markOf 30 = .ok (.isub, 1) := by decide +kernel
theorem dX7_markOf_31 : decode cX7_markOf 31 = .ok (.ireturn, 1) := by decide +kernel
theorem dX7_markOf_32 : decode cX7_markOf 32 = .ok (.iload_n 2, 1) := by decide +kernel
theorem dX7_markOf_33 : decode cX7_markOf 33 = .ok (.iconst 1, 1) := by decide +kernel
theorem dX7_markOf_34 : decode cX7_markOf 34 = .ok (.if_icmp .eq 19, 3) := by decide +kernel
theorem dX7_markOf_37 : decode cX7_markOf 37 = .ok (.aload_n 0, 1) := by decide +kernel
theorem dX7_markOf_38 : decode cX7_markOf 38 = .ok (.iload_n 2, 1) := by decide +kernel
theorem dX7_markOf_39 : decode cX7_markOf 39 = .ok (.iconst 3, 1) := by decide +kernel
theorem dX7_markOf_40 : decode cX7_markOf 40 = .ok (.if_icmp .ne 8, 3) := by decide +kernel
theorem dX7_markOf_43 : decode cX7_markOf 43 = .ok (.bipush 22, 2) := by decide +kernel
theorem dX7_markOf_45 : decode cX7_markOf 45 = .ok (.goto 5, 3) := by decide +kernel
theorem dX7_markOf_48 : decode cX7_markOf 48 = .ok (.bipush 24, 2) := by decide +kernel
theorem dX7_markOf_50 : decode cX7_markOf 50 = .ok (.invokevirtual 272, 3) := by decide +kernel
theorem dX7_markOf_53 : decode cX7_markOf 53 = .ok (.aload_n 0, 1) := by decide +kernel
theorem dX7_markOf_54 : decode cX7_markOf 54 = .ok (.bipush 21, 2) := by decide +kernel
theorem dX7_markOf_56 : decode cX7_markOf 56 = .ok (.invokevirtual 272, 3) := by decide +kernel
theorem dX7_markOf_59 : decode cX7_markOf 59 = .ok (.aload_n 0, 1) := by decide +kernel
theorem dX7_markOf_60 : decode cX7_markOf 60 = .ok (.bipush 20, 2) := by decide +kernel
theorem dX7_markOf_62 : decode cX7_markOf 62 = .ok (.invokevirtual 272, 3) := by decide +kernel
theorem dX7_markOf_65 : decode cX7_markOf 65 = .ok (.iload_n 1, 1) := by decide +kernel
theorem dX7_markOf_66 : decode cX7_markOf 66 = .ok (.aload_n 0, 1) := by decide +kernel
theorem dX7_markOf_67 : decode cX7_markOf 67 = .ok (.iload_n 1, 1) := by decide +kernel
theorem dX7_markOf_68 : decode cX7_markOf 68 = .ok (.iconst 1, 1) := by decide +kernel
theorem dX7_markOf_69 : decode cX7_markOf 69 = .ok (.invokevirtual 201, 3) := by decide +kernel
theorem dX7_markOf_72 : decode cX7_markOf 72 = .ok (.iadd, 1) := by decide +kernel
theorem dX7_markOf_73 : decode cX7_markOf 73 = .ok (.istore_n 3, 1) := by decide +kernel
theorem dX7_markOf_74 : decode cX7_markOf 74 = .ok (.iload_n 2, 1) := by decide +kernel
theorem dX7_markOf_75 : decode cX7_markOf 75 = .ok (.iconst 1, 1) := by decide +kernel
theorem dX7_markOf_76 : decode cX7_markOf 76 = .ok (.if_icmp .ne 7, 3) := by decide +kernel
theorem dX7_markOf_79 : decode cX7_markOf 79 = .ok (.iload_n 3, 1) := by decide +kernel
theorem dX7_markOf_80 : decode cX7_markOf 80 = .ok (.goto 19, 3) := by decide +kernel
theorem dX7_markOf_83 : decode cX7_markOf 83 = .ok (.iload_n 2, 1) := by decide +kernel
theorem dX7_markOf_84 : decode cX7_markOf 84 = .ok (.iconst 3, 1) := by decide +kernel
theorem dX7_markOf_85 : decode cX7_markOf 85 = .ok (.if_icmp .ne 11, 3) := by decide +kernel
theorem dX7_markOf_88 : decode cX7_markOf 88 = .ok (.iload_n 3, 1) := by decide +kernel
theorem dX7_markOf_89 : decode cX7_markOf 89 = .ok (.sipush 1000, 3) := by decide +kernel
theorem dX7_markOf_92 : decode cX7_markOf 92 = .ok (.isub, 1) := by decide +kernel
theorem dX7_markOf_93 : decode cX7_markOf 93 = .ok (.goto 6, 3) := by decide +kernel
theorem dX7_markOf_96 : decode cX7_markOf 96 = .ok (.iconst 2, 1) := by decide +kernel
theorem dX7_markOf_97 : decode cX7_markOf 97 = .ok (.iload_n 3, 1) := by decide +kernel
theorem dX7_markOf_98 : decode cX7_markOf 98 = .ok (.imul, 1) := by decide +kernel
theorem dX7_markOf_99 : decode cX7_markOf 99 = .ok (.ireturn, 1) := by decide +kernel
theorem dX7_sizeOf_0 : decode cX7_sizeOf 0 = .ok (.aload_n 0, 1) := by decide +kernel
theorem dX7_sizeOf_1 : decode cX7_sizeOf 1 = .ok (.iload_n 1, 1) := by decide +kernel
theorem dX7_sizeOf_2 : decode cX7_sizeOf 2 = .ok (.iconst 0, 1) := by decide +kernel
theorem dX7_sizeOf_3 : decode cX7_sizeOf 3 = .ok (.invokevirtual 201, 3) := by decide +kernel
theorem dX7_sizeOf_6 : decode cX7_sizeOf 6 = .ok (.istore_n 2, 1) := by decide +kernel
theorem dX7_sizeOf_7 : decode cX7_sizeOf 7 = .ok (.iload_n 2, 1) := by decide +kernel
theorem dX7_sizeOf_8 : decode cX7_sizeOf 8 = .ok (.iconst 4, 1) := by decide +kernel
theorem dX7_sizeOf_9 : decode cX7_sizeOf 9 = .ok (.if_icmp .lt 9, 3) := by decide +kernel
theorem dX7_sizeOf_12 : decode cX7_sizeOf 12 = .ok (.aload_n 0, 1) := by decide +kernel
theorem dX7_sizeOf_13 : decode cX7_sizeOf 13 = .ok (.iload_n 1, 1) := by decide +kernel
theorem dX7_sizeOf_14 : decode cX7_sizeOf 14 = .ok (.invokevirtual 278, 3) := by decide +kernel
theorem dX7_sizeOf_17 : decode cX7_sizeOf 17 = .ok (.ireturn, 1) := by decide +kernel
theorem dX7_sizeOf_18 : decode cX7_sizeOf 18 = .ok (.iload_n 2, 1) := by decide +kernel
theorem dX7_sizeOf_19 : decode cX7_sizeOf 19 = .ok (.iconst 2, 1) := by decide +kernel
theorem dX7_sizeOf_20 : decode cX7_sizeOf 20 = .ok (.if_icmp .ne 9, 3) := by decide +kernel
theorem dX7_sizeOf_23 : decode cX7_sizeOf 23 = .ok (.aload_n 0, 1) := by decide +kernel
theorem dX7_sizeOf_24 : decode cX7_sizeOf 24 = .ok (.bipush 12, 2) := by decide +kernel
theorem dX7_sizeOf_26 : decode cX7_sizeOf 26 = .ok (.invokevirtual 272, 3) := by decide +kernel
theorem dX7_sizeOf_29 : decode cX7_sizeOf 29 = .ok (.aload_n 0, 1) := by decide +kernel
theorem dX7_sizeOf_30 : decode cX7_sizeOf 30 = .ok (.bipush 11, 2) := by decide +kernel
theorem dX7_sizeOf_32 : decode cX7_sizeOf 32 = .ok (.invokevirtual 272, 3) := by decide +kernel
theorem dX7_sizeOf_35 : decode cX7_sizeOf 35 = .ok (.aload_n 0, 1) := by decide +kernel
theorem dX7_sizeOf_36 : decode cX7_sizeOf 36 = .ok (.iload_n 1, 1) := by decide +kernel
theorem dX7_sizeOf_37 : decode cX7_sizeOf 37 = .ok (.invokevirtual 275, 3) := by decide +kernel
theorem dX7_sizeOf_40 : decode cX7_sizeOf 40 = .ok (.istore_n 3, 1) := by decide +kernel
theorem dX7_sizeOf_41 : decode cX7_sizeOf 41 = .ok (.iload_n 3, 1) := by decide +kernel
theorem dX7_sizeOf_42 : decode cX7_sizeOf 42 = .ok (.aload_n 0, 1) := by decide +kernel
theorem dX7_sizeOf_43 : decode cX7_sizeOf 43 = .ok (.iload_n 1, 1) := by decide +kernel
theorem dX7_sizeOf_44 : decode cX7_sizeOf 44 = .ok (.invokevirtual 281, 3) := by decide +kernel
theorem dX7_sizeOf_47 : decode cX7_sizeOf 47 = .ok (.iadd, 1) := by decide +kernel
theorem dX7_sizeOf_48 : decode cX7_sizeOf 48 = .ok (.istore_n 3, 1) := by decide +kernel
theorem dX7_sizeOf_49 : decode cX7_sizeOf 49 = .ok (.iload_n 2, 1) := by decide +kernel
theorem dX7_sizeOf_50 : decode cX7_sizeOf 50 = .ok (.iconst 2, 1) := by decide +kernel
theorem dX7_sizeOf_51 : decode cX7_sizeOf 51 = .ok (.if_icmp .ne 8, 3) := by decide +kernel
theorem dX7_sizeOf_54 : decode cX7_sizeOf 54 = .ok (.iload_n 3, 1) := by decide +kernel
theorem dX7_sizeOf_55 : decode cX7_sizeOf 55 = .ok (.ineg, 1) := by decide +kernel
theorem dX7_sizeOf_56 : decode cX7_sizeOf 56 = .ok (.goto 4, 3) := by decide +kernel
theorem dX7_sizeOf_59 : decode cX7_sizeOf 59 = .ok (.iload_n 3, 1) := by decide +kernel
theorem dX7_sizeOf_60 : decode cX7_sizeOf 60 = .ok (.ireturn, 1) := by decide +kernel
theorem dX7_ask_0 : decode cX7_ask 0 = .ok (.aload_n 0, 1) := by decide +kernel
theorem dX7_ask_1 : decode cX7_ask 1 = .ok (.iconst 0, 1) := by decide +kernel
theorem dX7_ask_2 : decode cX7_ask 2 = .ok (.putfield 65, 3) := by decide +kernel
theorem dX7_ask_5 : decode cX7_ask 5 = .ok (.aload_n 0, 1) := by decide +kernel
theorem dX7_ask_6 : decode cX7_ask 6 = .ok (.iload_n 1, 1) := by decide +kernel
theorem dX7_ask_7 : decode cX7_ask 7 = .ok (.invokevirtual 230, 3) := by decide +kernel
theorem dX7_ask_10 : decode cX7_ask 10 = .ok (.ifCond .eq 13, 3) := by decide +kernel
theorem dX7_ask_13 : decode cX7_ask 13 = .ok (.iload_n 2, 1) := by decide +kernel
theorem dX7_ask_14 : decode cX7_ask 14 = .ok (.i2l, 1) := by decide +kernel
theorem dX7_ask_15 : decode cX7_ask 15 = .ok (.lconst 0, 1) := by decide +kernel
theorem dX7_ask_16 : decode cX7_ask 16 = .ok (.lconst 1, 1) := by decide +kernel
theorem dX7_ask_17 : decode cX7_ask 17 = .ok (.invokestatic 75, 3) := by decide +kernel
theorem dX7_ask_20 : decode cX7_ask 20 = .ok (.ifCond .ne 6, 3) := by decide +kernel
theorem dX7_ask_23 : decode cX7_ask 23 = .ok (.ldc 85, 2) := by decide +kernel
theorem dX7_ask_25 : decode cX7_ask 25 = .ok (.ireturn, 1) := by decide +kernel
theorem dX7_ask_26 : decode cX7_ask 26 = .ok (.aload_n 0, 1) := by decide +kernel
theorem dX7_ask_27 : decode cX7_ask 27 = .ok (.iconst 0, 1) := by decide +kernel
theorem dX7_ask_28 : decode cX7_ask 28 = .ok (.putfield 269, 3) := by decide +kernel
theorem dX7_ask_31 : decode cX7_ask 31 = .ok (.iload_n 2, 1) := by decide +kernel
theorem dX7_ask_32 : decode cX7_ask 32 = .ok (.ifCond .ne 11, 3) := by decide +kernel
theorem dX7_ask_35 : decode cX7_ask 35 = .ok (.aload_n 0, 1) := by decide +kernel
theorem dX7_ask_36 : decode cX7_ask 36 = .ok (.iload_n 1, 1) := by decide +kernel
theorem dX7_ask_37 : decode cX7_ask 37 = .ok (.invokevirtual 284, 3) := by decide +kernel
theorem dX7_ask_40 : decode cX7_ask 40 = .ok (.goto 8, 3) := by decide +kernel
theorem dX7_ask_43 : decode cX7_ask 43 = .ok (.aload_n 0, 1) := by decide +kernel
theorem dX7_ask_44 : decode cX7_ask 44 = .ok (.iload_n 1, 1) := by decide +kernel
theorem dX7_ask_45 : decode cX7_ask 45 = .ok (.invokevirtual 281, 3) := by decide +kernel
theorem dX7_ask_48 : decode cX7_ask 48 = .ok (.ireturn, 1) := by decide +kernel
theorem dX7_trace_0 : decode cX7_trace 0 = .ok (.aload_n 0, 1) := by decide +kernel
theorem dX7_trace_1 : decode cX7_trace 1 = .ok (.iconst 0, 1) := by decide +kernel
theorem dX7_trace_2 : decode cX7_trace 2 = .ok (.putfield 65, 3) := by decide +kernel
theorem dX7_trace_5 : decode cX7_trace 5 = .ok (.iload_n 1, 1) := by decide +kernel
theorem dX7_trace_6 : decode cX7_trace 6 = .ok (.i2l, 1) := by decide +kernel
theorem dX7_trace_7 : decode cX7_trace 7 = .ok (.lconst 0, 1) := by decide +kernel
theorem dX7_trace_8 : decode cX7_trace 8 = .ok (.aload_n 0, 1) := by decide +kernel
theorem dX7_trace_9 : decode cX7_trace 9 = .ok (.getfield 269, 3) := by decide +kernel
theorem dX7_trace_12 : decode cX7_trace 12 = .ok (.iconst 1, 1) := by decide +kernel
theorem dX7_trace_13 : decode cX7_trace 13 = .ok (.isub, 1) := by decide +kernel
theorem dX7_trace_14 : decode cX7_trace 14 = .ok (.i2l, 1) := by decide +kernel
theorem dX7_trace_15 : decode cX7_trace 15 = .ok (.invokestatic 75, 3) := by decide +kernel
theorem dX7_trace_18 : decode cX7_trace 18 = .ok (.ifCond .eq 12, 3) := by decide +kernel
theorem dX7_trace_21 : decode cX7_trace 21 = .ok (.aload_n 0, 1) := by decide +kernel
theorem dX7_trace_22 : decode cX7_trace 22 = .ok (.getfield 62, 3) := by decide +kernel
theorem dX7_trace_25 : decode cX7_trace 25 = .ok (.iload_n 1, 1) := by decide +kernel
theorem dX7_trace_26 : decode cX7_trace 26 = .ok (.iaload, 1) := by decide +kernel
theorem dX7_trace_27 : decode cX7_trace 27 = .ok (.goto 5, 3) := by decide +kernel
theorem dX7_trace_30 : decode cX7_trace 30 = .ok (.ldc 101, 2) := by decide +kernel
theorem dX7_trace_32 : decode cX7_trace 32 = .ok (.ireturn, 1) := by decide +kernel
theorem dX7_count_0 : decode cX7_count 0 = .ok (.aload_n 0, 1) := by decide +kernel
theorem dX7_count_1 : decode cX7_count 1 = .ok (.iconst 0, 1) := by decide +kernel
theorem dX7_count_2 : decode cX7_count 2 = .ok (.putfield 65, 3) := by decide +kernel
theorem dX7_count_5 : decode cX7_count 5 = .ok (.iconst 0, 1) := by decide +kernel
theorem dX7_count_6 : decode cX7_count 6 = .ok (.istore_n 2, 1) := by decide +kernel
theorem dX7_count_7 : decode cX7_count 7 = .ok (.iload_n 1, 1) := by decide +kernel
theorem dX7_count_8 : decode cX7_count 8 = .ok (.tableswitch 154 0 6 #[44, 77, 84, 91, 144, 91, 149], 44) := by decide +kernel
theorem dX7_count_52 : decode cX7_count 52 = .ok (.iconst 0, 1) := by decide +kernel
theorem dX7_count_53 : decode cX7_count 53 = .ok (.istore_n 3, 1) := by decide +kernel
theorem dX7_count_54 : decode cX7_count 54 = .ok (.iload_n 3, 1) := by decide +kernel
theorem dX7_count_55 : decode cX7_count 55 = .ok (.bipush 8, 2) := by decide +kernel
theorem dX7_count_57 : decode cX7_count 57 = .ok (.if_icmp .ge 26, 3) := by decide +kernel
theorem dX7_count_60 : decode cX7_count 60 = .ok (.iload_n 2, 1) := by decide +kernel
theorem dX7_count_61 : decode cX7_count 61 = .ok (.aload_n 0, 1) := by decide +kernel
theorem dX7_count_62 : decode cX7_count 62 = .ok (.getfield 7, 3) := by decide +kernel
theorem dX7_count_65 : decode cX7_count 65 = .ok (.iload_n 3, 1) := by decide +kernel
theorem dX7_count_66 : decode cX7_count 66 = .ok (.iaload, 1) := by decide +kernel
theorem dX7_count_67 : decode cX7_count 67 = .ok (.ifCond .lt 7, 3) := by decide +kernel
theorem dX7_count_70 : decode cX7_count 70 = .ok (.iconst 1, 1) := by decide +kernel
theorem dX7_count_71 : decode cX7_count 71 = .ok (.goto 4, 3) := by decide +kernel
theorem dX7_count_74 : decode cX7_count 74 = .ok (.iconst 0, 1) := by decide +kernel
theorem dX7_count_75 : decode cX7_count 75 = .ok (.iadd, 1) := by decide +kernel
theorem dX7_count_76 : decode cX7_count 76 = .ok (.istore_n 2, 1) := by decide +kernel
theorem dX7_count_77 : decode cX7_count 77 = .ok (.iinc 3 1, 3) := by decide +kernel
theorem dX7_count_80 : decode cX7_count 80 = .ok (.goto (-26), 3) := by decide +kernel
theorem dX7_count_83 : decode cX7_count 83 = .ok (.iload_n 2, 1) := by decide +kernel
theorem dX7_count_84 : decode cX7_count 84 = .ok (.ireturn, 1) := by decide +kernel
theorem dX7_count_85 : decode cX7_count 85 = .ok (.aload_n 0, 1) := by decide +kernel
theorem dX7_count_86 : decode cX7_count 86 = .ok (.getfield 19, 3) := by decide +kernel
theorem dX7_count_89 : decode cX7_count 89 = .ok (.iconst 0, 1) := by decide +kernel
theorem dX7_count_90 : decode cX7_count 90 = .ok (.iaload, 1) := by decide +kernel
theorem dX7_count_91 : decode cX7_count 91 = .ok (.ireturn, 1) := by decide +kernel
theorem dX7_count_92 : decode cX7_count 92 = .ok (.aload_n 0, 1) := by decide +kernel
theorem dX7_count_93 : decode cX7_count 93 = .ok (.getfield 19, 3) := by decide +kernel
theorem dX7_count_96 : decode cX7_count 96 = .ok (.iconst 1, 1) := by decide +kernel
theorem dX7_count_97 : decode cX7_count 97 = .ok (.iaload, 1) := by decide +kernel
theorem dX7_count_98 : decode cX7_count 98 = .ok (.ireturn, 1) := by decide +kernel
theorem dX7_count_99 : decode cX7_count 99 = .ok (.iconst 0, 1) := by decide +kernel
theorem dX7_count_100 : decode cX7_count 100 = .ok (.istore_n 3, 1) := by decide +kernel
theorem dX7_count_101 : decode cX7_count 101 = .ok (.iload_n 3, 1) := by decide +kernel
theorem dX7_count_102 : decode cX7_count 102 = .ok (.aload_n 0, 1) := by decide +kernel
theorem dX7_count_103 : decode cX7_count 103 = .ok (.getfield 19, 3) := by decide +kernel
theorem dX7_count_106 : decode cX7_count 106 = .ok (.iconst 0, 1) := by decide +kernel
theorem dX7_count_107 : decode cX7_count 107 = .ok (.iaload, 1) := by decide +kernel
theorem dX7_count_108 : decode cX7_count 108 = .ok (.if_icmp .ge 42, 3) := by decide +kernel
theorem dX7_count_111 : decode cX7_count 111 = .ok (.iload_n 2, 1) := by decide +kernel
theorem dX7_count_112 : decode cX7_count 112 = .ok (.iload_n 1, 1) := by decide +kernel
theorem dX7_count_113 : decode cX7_count 113 = .ok (.iconst 5, 1) := by decide +kernel
theorem dX7_count_114 : decode cX7_count 114 = .ok (.if_icmp .ne 12, 3) := by decide +kernel
theorem dX7_count_117 : decode cX7_count 117 = .ok (.aload_n 0, 1) := by decide +kernel
theorem dX7_count_118 : decode cX7_count 118 = .ok (.iload_n 3, 1) := by decide +kernel
theorem dX7_count_119 : decode cX7_count 119 = .ok (.iconst 5, 1) := by decide +kernel
theorem dX7_count_120 : decode cX7_count 120 = .ok (.invokevirtual 201, 3) := by decide +kernel
theorem dX7_count_123 : decode cX7_count 123 = .ok (.goto 19, 3) := by decide +kernel
theorem dX7_count_126 : decode cX7_count 126 = .ok (.aload_n 0, 1) := by decide +kernel
theorem dX7_count_127 : decode cX7_count 127 = .ok (.iload_n 3, 1) := by decide +kernel
theorem dX7_count_128 : decode cX7_count 128 = .ok (.iconst 4, 1) := by decide +kernel
theorem dX7_count_129 : decode cX7_count 129 = .ok (.invokevirtual 201, 3) := by decide +kernel
theorem dX7_count_132 : decode cX7_count 132 = .ok (.ldc 101, 2) := by decide +kernel
theorem dX7_count_134 : decode cX7_count 134 = .ok (.if_icmp .eq 7, 3) := by decide +kernel
theorem dX7_count_137 : decode cX7_count 137 = .ok (.iconst 1, 1) := by decide +kernel
theorem dX7_count_138 : decode cX7_count 138 = .ok (.goto 4, 3) := by decide +kernel
theorem dX7_count_141 : decode cX7_count 141 = .ok (.iconst 0, 1) := by decide +kernel
theorem dX7_count_142 : decode cX7_count 142 = .ok (.iadd, 1) := by decide +kernel
theorem dX7_count_143 : decode cX7_count 143 = .ok (.istore_n 2, 1) := by decide +kernel
theorem dX7_count_144 : decode cX7_count 144 = .ok (.iinc 3 1, 3) := by decide +kernel
theorem dX7_count_147 : decode cX7_count 147 = .ok (.goto (-46), 3) := by decide +kernel
theorem dX7_count_150 : decode cX7_count 150 = .ok (.iload_n 2, 1) := by decide +kernel
theorem dX7_count_151 : decode cX7_count 151 = .ok (.ireturn, 1) := by decide +kernel
theorem dX7_count_152 : decode cX7_count 152 = .ok (.aload_n 0, 1) := by decide +kernel
theorem dX7_count_153 : decode cX7_count 153 = .ok (.getfield 190, 3) := by decide +kernel
theorem dX7_count_156 : decode cX7_count 156 = .ok (.ireturn, 1) := by decide +kernel
theorem dX7_count_157 : decode cX7_count 157 = .ok (.aload_n 0, 1) := by decide +kernel
theorem dX7_count_158 : decode cX7_count 158 = .ok (.getfield 92, 3) := by decide +kernel
theorem dX7_count_161 : decode cX7_count 161 = .ok (.ireturn, 1) := by decide +kernel
theorem dX7_count_162 : decode cX7_count 162 = .ok (.ldc 85, 2) := by decide +kernel
theorem dX7_count_164 : decode cX7_count 164 = .ok (.ireturn, 1) := by decide +kernel
theorem dX7_status_0 : decode cX7_status 0 = .ok (.aload_n 0, 1) := by decide +kernel
theorem dX7_status_1 : decode cX7_status 1 = .ok (.iconst 0, 1) := by decide +kernel
theorem dX7_status_2 : decode cX7_status 2 = .ok (.putfield 65, 3) := by decide +kernel
theorem dX7_status_5 : decode cX7_status 5 = .ok (.aload_n 0, 1) := by decide +kernel
theorem dX7_status_6 : decode cX7_status 6 = .ok (.getfield 69, 3) := by decide +kernel
theorem dX7_status_9 : decode cX7_status 9 = .ok (.ireturn, 1) := by decide +kernel
