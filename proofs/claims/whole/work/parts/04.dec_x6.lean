theorem dX6_init_0 : decode cX6_init 0 = .ok (.aload_n 0, 1) := by decide +kernel
theorem dX6_init_1 : decode cX6_init 1 = .ok (.invokespecial 1, 3) := by decide +kernel
theorem dX6_init_4 : decode cX6_init 4 = .ok (.aload_n 0, 1) := by decide +kernel
theorem dX6_init_5 : decode cX6_init 5 = .ok (.bipush 8, 2) := by decide +kernel
theorem dX6_init_7 : decode cX6_init 7 = .ok (.anewarray 9, 3) := by decide +kernel
theorem dX6_init_10 : decode cX6_init 10 = .ok (.putfield 11, 3) := by decide +kernel
theorem dX6_init_13 : decode cX6_init 13 = .ok (.aload_n 0, 1) := by decide +kernel
theorem dX6_init_14 : decode cX6_init 14 = .ok (.new 15, 3) := by decide +kernel
theorem dX6_init_17 : decode cX6_init 17 = .ok (.dup, 1) := by decide +kernel
theorem dX6_init_18 : decode cX6_init 18 = .ok (.invokespecial 17, 3) := by decide +kernel
theorem dX6_init_21 : decode cX6_init 21 = .ok (.putfield 18, 3) := by decide +kernel
theorem dX6_init_24 : decode cX6_init 24 = .ok (.aload_n 0, 1) := by decide +kernel
theorem dX6_init_25 : decode cX6_init 25 = .ok (.new 22, 3) := by decide +kernel
theorem dX6_init_28 : decode cX6_init 28 = .ok (.dup, 1) := by decide +kernel
theorem dX6_init_29 : decode cX6_init 29 = .ok (.invokespecial 24, 3) := by decide +kernel
theorem dX6_init_32 : decode cX6_init 32 = .ok (.putfield 25, 3) := by decide +kernel
theorem dX6_init_35 : decode cX6_init 35 = .ok (.aload_n 0, 1) := by decide +kernel
theorem dX6_init_36 : decode cX6_init 36 = .ok (.iconst 2, 1) := by decide +kernel
theorem dX6_init_37 : decode cX6_init 37 = .ok (.anewarray 22, 3) := by decide +kernel
theorem dX6_init_40 : decode cX6_init 40 = .ok (.putfield 29, 3) := by decide +kernel
theorem dX6_init_43 : decode cX6_init 43 = .ok (.aload_n 0, 1) := by decide +kernel
theorem dX6_init_44 : decode cX6_init 44 = .ok (.new 33, 3) := by decide +kernel
theorem dX6_init_47 : decode cX6_init 47 = .ok (.dup, 1) := by decide +kernel
theorem dX6_init_48 : decode cX6_init 48 = .ok (.invokespecial 35, 3) := by decide +kernel
theorem dX6_init_51 : decode cX6_init 51 = .ok (.putfield 36, 3) := by decide +kernel
theorem dX6_init_54 : decode cX6_init 54 = .ok (.aload_n 0, 1) := by decide +kernel
theorem dX6_init_55 : decode cX6_init 55 = .ok (.new 40, 3) := by decide +kernel
theorem dX6_init_58 : decode cX6_init 58 = .ok (.dup, 1) := by decide +kernel
theorem dX6_init_59 : decode cX6_init 59 = .ok (.invokespecial 42, 3) := by decide +kernel
theorem dX6_init_62 : decode cX6_init 62 = .ok (.putfield 43, 3) := by decide +kernel
theorem dX6_init_65 : decode cX6_init 65 = .ok (.aload_n 0, 1) := by decide +kernel
theorem dX6_init_66 : decode cX6_init 66 = .ok (.new 47, 3) := by decide +kernel
theorem dX6_init_69 : decode cX6_init 69 = .ok (.dup, 1) := by decide +kernel
theorem dX6_init_70 : decode cX6_init 70 = .ok (.invokespecial 49, 3) := by decide +kernel
theorem dX6_init_73 : decode cX6_init 73 = .ok (.putfield 50, 3) := by decide +kernel
theorem dX6_init_76 : decode cX6_init 76 = .ok (.iconst 0, 1) := by decide +kernel
theorem dX6_init_77 : decode cX6_init 77 = .ok (.istore_n 1, 1) := by decide +kernel
theorem dX6_init_78 : decode cX6_init 78 = .ok (.iload_n 1, 1) := by decide +kernel
theorem dX6_init_79 : decode cX6_init 79 = .ok (.bipush 8, 2) := by decide +kernel
theorem dX6_init_81 : decode cX6_init 81 = .ok (.if_icmp .ge 22, 3) := by decide +kernel
theorem dX6_init_84 : decode cX6_init 84 = .ok (.aload_n 0, 1) := by decide +kernel
theorem dX6_init_85 : decode cX6_init 85 = .ok (.getfield 11, 3) := by decide +kernel
theorem dX6_init_88 : decode cX6_init 88 = .ok (.iload_n 1, 1) := by decide +kernel
theorem dX6_init_89 : decode cX6_init 89 = .ok (.new 9, 3) := by decide +kernel
theorem dX6_init_92 : decode cX6_init 92 = .ok (.dup, 1) := by decide +kernel
theorem dX6_init_93 : decode cX6_init 93 = .ok (.invokespecial 54, 3) := by decide +kernel
theorem dX6_init_96 : decode cX6_init 96 = .ok (.aastore, 1) := by decide +kernel
theorem dX6_init_97 : decode cX6_init 97 = .ok (.iinc 1 1, 3) := by decide +kernel
theorem dX6_init_100 : decode cX6_init 100 = .ok (.goto (-22), 3) := by decide +kernel
theorem dX6_init_103 : decode cX6_init 103 = .ok (.iconst 0, 1) := by decide +kernel
theorem dX6_init_104 : decode cX6_init 104 = .ok (.istore_n 1, 1) := by decide +kernel
theorem dX6_init_105 : decode cX6_init 105 = .ok (.iload_n 1, 1) := by decide +kernel
theorem dX6_init_106 : decode cX6_init 106 = .ok (.iconst 2, 1) := by decide +kernel
theorem dX6_init_107 : decode cX6_init 107 = .ok (.if_icmp .ge 22, 3) := by decide +kernel
theorem dX6_init_110 : decode cX6_init 110 = .ok (.aload_n 0, 1) := by decide +kernel
theorem dX6_init_111 : decode cX6_init 111 = .ok (.getfield 29, 3) := by decide +kernel
theorem dX6_init_114 : decode cX6_init 114 = .ok (.iload_n 1, 1) := by decide +kernel
theorem dX6_init_115 : decode cX6_init 115 = .ok (.new 22, 3) := by decide +kernel
theorem dX6_init_118 : decode cX6_init 118 = .ok (.dup, 1) := by decide +kernel
theorem dX6_init_119 : decode cX6_init 119 = .ok (.invokespecial 24, 3) := by decide +kernel
theorem dX6_init_122 : decode cX6_init 122 = .ok (.aastore, 1) := by decide +kernel
theorem dX6_init_123 : decode cX6_init 123 = .ok (.iinc 1 1, 3) := by decide +kernel
theorem dX6_init_126 : decode cX6_init 126 = .ok (.goto (-21), 3) := by decide +kernel
theorem dX6_init_129 : decode cX6_init 129 = .ok (.return_, 1) := by decide +kernel
theorem dX6_row_0 : decode cX6_row 0 = .ok (.iload_n 1, 1) := by decide +kernel
theorem dX6_row_1 : decode cX6_row 1 = .ok (.invokestatic 55, 3) := by decide +kernel
theorem dX6_row_4 : decode cX6_row 4 = .ok (.ifCond .eq 18, 3) := by decide +kernel
theorem dX6_row_7 : decode cX6_row 7 = .ok (.iload_n 2, 1) := by decide +kernel
theorem dX6_row_8 : decode cX6_row 8 = .ok (.iconst 0, 1) := by decide +kernel
theorem dX6_row_9 : decode cX6_row 9 = .ok (.iconst 2, 1) := by decide +kernel
theorem dX6_row_10 : decode cX6_row 10 = .ok (.invokestatic 59, 3) := by decide +kernel
theorem dX6_row_13 : decode cX6_row 13 = .ok (.ifCond .eq 9, 3) := by decide +kernel
theorem dX6_row_16 : decode cX6_row 16 = .ok (.iload_n 3, 1) := by decide +kernel
theorem dX6_row_17 : decode cX6_row 17 = .ok (.bipush 40, 2) := by decide +kernel
theorem dX6_row_19 : decode cX6_row 19 = .ok (.if_icmp .le 6, 3) := by decide +kernel
theorem dX6_row_22 : decode cX6_row 22 = .ok (.ldc 63, 2) := by decide +kernel
theorem dX6_row_24 : decode cX6_row 24 = .ok (.ireturn, 1) := by decide +kernel
theorem dX6_row_25 : decode cX6_row 25 = .ok (.iload_n 3, 1) := by decide +kernel
theorem dX6_row_26 : decode cX6_row 26 = .ok (.ifCond .ge 9, 3) := by decide +kernel
theorem dX6_row_29 : decode cX6_row 29 = .ok (.aload_n 0, 1) := by decide +kernel
theorem dX6_row_30 : decode cX6_row 30 = .ok (.iconst 4, 1) := by decide +kernel
theorem dX6_row_31 : decode cX6_row 31 = .ok (.invokevirtual 64, 3) := by decide +kernel
theorem dX6_row_34 : decode cX6_row 34 = .ok (.ireturn, 1) := by decide +kernel
theorem dX6_row_35 : decode cX6_row 35 = .ok (.aload_n 0, 1) := by decide +kernel
theorem dX6_row_36 : decode cX6_row 36 = .ok (.getfield 11, 3) := by decide +kernel
theorem dX6_row_39 : decode cX6_row 39 = .ok (.iload_n 1, 1) := by decide +kernel
theorem dX6_row_40 : decode cX6_row 40 = .ok (.aaload, 1) := by decide +kernel
theorem dX6_row_41 : decode cX6_row 41 = .ok (.iload_n 2, 1) := by decide +kernel
theorem dX6_row_42 : decode cX6_row 42 = .ok (.iload_n 3, 1) := by decide +kernel
theorem dX6_row_43 : decode cX6_row 43 = .ok (.invokevirtual 68, 3) := by decide +kernel
theorem dX6_row_46 : decode cX6_row 46 = .ok (.aload_n 0, 1) := by decide +kernel
theorem dX6_row_47 : decode cX6_row 47 = .ok (.iconst 0, 1) := by decide +kernel
theorem dX6_row_48 : decode cX6_row 48 = .ok (.putfield 72, 3) := by decide +kernel
theorem dX6_row_51 : decode cX6_row 51 = .ok (.iload_n 3, 1) := by decide +kernel
theorem dX6_row_52 : decode cX6_row 52 = .ok (.ireturn, 1) := by decide +kernel
theorem dX6_set_0 : decode cX6_set 0 = .ok (.iload_n 1, 1) := by decide +kernel
theorem dX6_set_1 : decode cX6_set 1 = .ok (.invokestatic 55, 3) := by decide +kernel
theorem dX6_set_4 : decode cX6_set 4 = .ok (.ifCond .ne 6, 3) := by decide +kernel
theorem dX6_set_7 : decode cX6_set 7 = .ok (.ldc 63, 2) := by decide +kernel
theorem dX6_set_9 : decode cX6_set 9 = .ok (.ireturn, 1) := by decide +kernel
theorem dX6_set_10 : decode cX6_set 10 = .ok (.aload_n 0, 1) := by decide +kernel
theorem dX6_set_11 : decode cX6_set 11 = .ok (.getfield 11, 3) := by decide +kernel
theorem dX6_set_14 : decode cX6_set 14 = .ok (.iload_n 1, 1) := by decide +kernel
theorem dX6_set_15 : decode cX6_set 15 = .ok (.aaload, 1) := by decide +kernel
theorem dX6_set_16 : decode cX6_set 16 = .ok (.astore 4, 2) := by decide +kernel
theorem dX6_set_18 : decode cX6_set 18 = .ok (.aload 4, 2) := by decide +kernel
theorem dX6_set_20 : decode cX6_set 20 = .ok (.getfield 76, 3) := by decide +kernel
theorem dX6_set_23 : decode cX6_set 23 = .ok (.ifCond .ne 9, 3) := by decide +kernel
theorem dX6_set_26 : decode cX6_set 26 = .ok (.aload_n 0, 1) := by decide +kernel
theorem dX6_set_27 : decode cX6_set 27 = .ok (.iconst 1, 1) := by decide +kernel
theorem dX6_set_28 : decode cX6_set 28 = .ok (.invokevirtual 64, 3) := by decide +kernel
theorem dX6_set_31 : decode cX6_set 31 = .ok (.ireturn, 1) := by decide +kernel
theorem dX6_set_32 : decode cX6_set 32 = .ok (.aload 4, 2) := by decide +kernel
theorem dX6_set_34 : decode cX6_set 34 = .ok (.iload_n 2, 1) := by decide +kernel
theorem dX6_set_35 : decode cX6_set 35 = .ok (.iconst 1, 1) := by decide +kernel
theorem dX6_set_36 : decode cX6_set 36 = .ok (.invokevirtual 80, 3) := by decide +kernel
theorem dX6_set_39 : decode cX6_set 39 = .ok (.ifCond .ne 9, 3) := by decide +kernel
theorem dX6_set_42 : decode cX6_set 42 = .ok (.aload_n 0, 1) := by decide +kernel
theorem dX6_set_43 : decode cX6_set 43 = .ok (.iconst 2, 1) := by decide +kernel
theorem dX6_set_44 : decode cX6_set 44 = .ok (.invokevirtual 64, 3) := by decide +kernel
theorem dX6_set_47 : decode cX6_set 47 = .ok (.ireturn, 1) := by decide +kernel
theorem dX6_set_48 : decode cX6_set 48 = .ok (.aload 4, 2) := by decide +kernel
theorem dX6_set_50 : decode cX6_set 50 = .ok (.getfield 84, 3) := by decide +kernel
theorem dX6_set_53 : decode cX6_set 53 = .ok (.iload_n 2, 1) := by decide +kernel
theorem dX6_set_54 : decode cX6_set 54 = .ok (.aload 4, 2) := by decide +kernel
theorem dX6_set_56 : decode cX6_set 56 = .ok (.iload_n 3, 1) := by decide +kernel
theorem dX6_set_57 : decode cX6_set 57 = .ok (.invokevirtual 88, 3) := by decide +kernel
theorem dX6_set_60 : decode cX6_set 60 = .ok (.iastore, 1) := by decide +kernel
theorem dX6_set_61 : decode cX6_set 61 = .ok (.aload_n 0, 1) := by decide +kernel
theorem dX6_set_62 : decode cX6_set 62 = .ok (.iconst 0, 1) := by decide +kernel
theorem dX6_set_63 : decode cX6_set 63 = .ok (.putfield 72, 3) := by decide +kernel
theorem dX6_set_66 : decode cX6_set 66 = .ok (.aload 4, 2) := by decide +kernel
theorem dX6_set_68 : decode cX6_set 68 = .ok (.getfield 84, 3) := by decide +kernel
theorem dX6_set_71 : decode cX6_set 71 = .ok (.iload_n 2, 1) := by decide +kernel
theorem dX6_set_72 : decode cX6_set 72 = .ok (.iaload, 1) := by decide +kernel
theorem dX6_set_73 : decode cX6_set 73 = .ok (.ireturn, 1) := by decide +kernel
theorem dX6_copy_0 : decode cX6_copy 0 = .ok (.iload_n 1, 1) := by decide +kernel
theorem dX6_copy_1 : decode cX6_copy 1 = .ok (.invokestatic 55, 3) := by decide +kernel
theorem dX6_copy_4 : decode cX6_copy 4 = .ok (.ifCond .eq 10, 3) := by decide +kernel
theorem dX6_copy_7 : decode cX6_copy 7 = .ok (.iload_n 3, 1) := by decide +kernel
theorem dX6_copy_8 : decode cX6_copy 8 = .ok (.invokestatic 55, 3) := by decide +kernel
theorem dX6_copy_11 : decode cX6_copy 11 = .ok (.ifCond .ne 6, 3) := by decide +kernel
theorem dX6_copy_14 : decode cX6_copy 14 = .ok (.ldc 63, 2) := by decide +kernel
theorem dX6_copy_16 : decode cX6_copy 16 = .ok (.ireturn, 1) := by decide +kernel
theorem dX6_copy_17 : decode cX6_copy 17 = .ok (.aload_n 0, 1) := by decide +kernel
theorem dX6_copy_18 : decode cX6_copy 18 = .ok (.getfield 11, 3) := by decide +kernel
theorem dX6_copy_21 : decode cX6_copy 21 = .ok (.iload_n 1, 1) := by decide +kernel
theorem dX6_copy_22 : decode cX6_copy 22 = .ok (.aaload, 1) := by decide +kernel
theorem dX6_copy_23 : decode cX6_copy 23 = .ok (.astore 6, 2) := by decide +kernel
theorem dX6_copy_25 : decode cX6_copy 25 = .ok (.aload_n 0, 1) := by decide +kernel
theorem dX6_copy_26 : decode cX6_copy 26 = .ok (.getfield 11, 3) := by decide +kernel
theorem dX6_copy_29 : decode cX6_copy 29 = .ok (.iload_n 3, 1) := by decide +kernel
theorem dX6_copy_30 : decode cX6_copy 30 = .ok (.aaload, 1) := by decide +kernel
theorem dX6_copy_31 : decode cX6_copy 31 = .ok (.astore 7, 2) := by decide +kernel
theorem dX6_copy_33 : decode cX6_copy 33 = .ok (.aload 6, 2) := by decide +kernel
theorem dX6_copy_35 : decode cX6_copy 35 = .ok (.getfield 76, 3) := by decide +kernel
theorem dX6_copy_38 : decode cX6_copy 38 = .ok (.ifCond .eq 11, 3) := by decide +kernel
theorem dX6_copy_41 : decode cX6_copy 41 = .ok (.aload 7, 2) := by decide +kernel
theorem dX6_copy_43 : decode cX6_copy 43 = .ok (.getfield 76, 3) := by decide +kernel
theorem dX6_copy_46 : decode cX6_copy 46 = .ok (.ifCond .ne 9, 3) := by decide +kernel
theorem dX6_copy_49 : decode cX6_copy 49 = .ok (.aload_n 0, 1) := by decide +kernel
theorem dX6_copy_50 : decode cX6_copy 50 = .ok (.iconst 1, 1) := by decide +kernel
theorem dX6_copy_51 : decode cX6_copy 51 = .ok (.invokevirtual 64, 3) := by decide +kernel
theorem dX6_copy_54 : decode cX6_copy 54 = .ok (.ireturn, 1) := by decide +kernel
theorem dX6_copy_55 : decode cX6_copy 55 = .ok (.aload 6, 2) := by decide +kernel
theorem dX6_copy_57 : decode cX6_copy 57 = .ok (.getfield 91, 3) := by decide +kernel
theorem dX6_copy_60 : decode cX6_copy 60 = .ok (.aload 7, 2) := by decide +kernel
theorem dX6_copy_62 : decode cX6_copy 62 = .ok (.getfield 91, 3) := by decide +kernel
theorem dX6_copy_65 : decode cX6_copy 65 = .ok (.if_icmp .eq 9, 3) := by decide +kernel
theorem dX6_copy_68 : decode cX6_copy 68 = .ok (.aload_n 0, 1) := by decide +kernel
theorem dX6_copy_69 : decode cX6_copy 69 = .ok (.iconst 5, 1) := by decide +kernel
theorem dX6_copy_70 : decode cX6_copy 70 = .ok (.invokevirtual 64, 3) := by decide +kernel
theorem dX6_copy_73 : decode cX6_copy 73 = .ok (.ireturn, 1) := by decide +kernel
theorem dX6_copy_74 : decode cX6_copy 74 = .ok (.aload 6, 2) := by decide +kernel
theorem dX6_copy_76 : decode cX6_copy 76 = .ok (.iload_n 2, 1) := by decide +kernel
theorem dX6_copy_77 : decode cX6_copy 77 = .ok (.iload 5, 2) := by decide +kernel
theorem dX6_copy_79 : decode cX6_copy 79 = .ok (.invokevirtual 80, 3) := by decide +kernel
theorem dX6_copy_82 : decode cX6_copy 82 = .ok (.ifCond .eq 15, 3) := by decide +kernel
theorem dX6_copy_85 : decode cX6_copy 85 = .ok (.aload 7, 2) := by decide +kernel
theorem dX6_copy_87 : decode cX6_copy 87 = .ok (.iload 4, 2) := by decide +kernel
theorem dX6_copy_89 : decode cX6_copy 89 = .ok (.iload 5, 2) := by decide +kernel
theorem dX6_copy_91 : decode cX6_copy 91 = .ok (.invokevirtual 80, 3) := by decide +kernel
theorem dX6_copy_94 : decode cX6_copy 94 = .ok (.ifCond .ne 9, 3) := by decide +kernel
theorem dX6_copy_97 : decode cX6_copy 97 = .ok (.aload_n 0, 1) := by decide +kernel
theorem dX6_copy_98 : decode cX6_copy 98 = .ok (.iconst 2, 1) := by decide +kernel
theorem dX6_copy_99 : decode cX6_copy 99 = .ok (.invokevirtual 64, 3) := by decide +kernel
theorem dX6_copy_102 : decode cX6_copy 102 = .ok (.ireturn, 1) := by decide +kernel
theorem dX6_copy_103 : decode cX6_copy 103 = .ok (.aload 6, 2) := by decide +kernel
theorem dX6_copy_105 : decode cX6_copy 105 = .ok (.getfield 84, 3) := by decide +kernel
theorem dX6_copy_108 : decode cX6_copy 108 = .ok (.iload_n 2, 1) := by decide +kernel
theorem dX6_copy_109 : decode cX6_copy 109 = .ok (.aload 7, 2) := by decide +kernel
theorem dX6_copy_111 : decode cX6_copy 111 = .ok (.getfield 84, 3) := by decide +kernel
theorem dX6_copy_114 : decode cX6_copy 114 = .ok (.iload 4, 2) := by decide +kernel
theorem dX6_copy_116 : decode cX6_copy 116 = .ok (.iload 5, 2) := by decide +kernel
theorem dX6_copy_118 : decode cX6_copy 118 = .ok (.invokestatic 94, 3) := by decide +kernel
theorem dX6_copy_121 : decode cX6_copy 121 = .ok (.aload_n 0, 1) := by decide +kernel
theorem dX6_copy_122 : decode cX6_copy 122 = .ok (.iconst 0, 1) := by decide +kernel
theorem dX6_copy_123 : decode cX6_copy 123 = .ok (.putfield 72, 3) := by decide +kernel
theorem dX6_copy_126 : decode cX6_copy 126 = .ok (.iload 5, 2) := by decide +kernel
theorem dX6_copy_128 : decode cX6_copy 128 = .ok (.ireturn, 1) := by decide +kernel
theorem dX6_drop_0 : decode cX6_drop 0 = .ok (.iload_n 1, 1) := by decide +kernel
theorem dX6_drop_1 : decode cX6_drop 1 = .ok (.invokestatic 55, 3) := by decide +kernel
theorem dX6_drop_4 : decode cX6_drop 4 = .ok (.ifCond .ne 6, 3) := by decide +kernel
theorem dX6_drop_7 : decode cX6_drop 7 = .ok (.ldc 63, 2) := by decide +kernel
theorem dX6_drop_9 : decode cX6_drop 9 = .ok (.ireturn, 1) := by decide +kernel
theorem dX6_drop_10 : decode cX6_drop 10 = .ok (.aload_n 0, 1) := by decide +kernel
theorem dX6_drop_11 : decode cX6_drop 11 = .ok (.getfield 11, 3) := by decide +kernel
theorem dX6_drop_14 : decode cX6_drop 14 = .ok (.iload_n 1, 1) := by decide +kernel
theorem dX6_drop_15 : decode cX6_drop 15 = .ok (.aaload, 1) := by decide +kernel
theorem dX6_drop_16 : decode cX6_drop 16 = .ok (.astore_n 2, 1) := by decide +kernel
theorem dX6_drop_17 : decode cX6_drop 17 = .ok (.aload_n 2, 1) := by decide +kernel
theorem dX6_drop_18 : decode cX6_drop 18 = .ok (.getfield 76, 3) := by decide +kernel
theorem dX6_drop_21 : decode cX6_drop 21 = .ok (.ifCond .ne 9, 3) := by decide +kernel
theorem dX6_drop_24 : decode cX6_drop 24 = .ok (.aload_n 0, 1) := by decide +kernel
theorem dX6_drop_25 : decode cX6_drop 25 = .ok (.iconst 1, 1) := by decide +kernel
theorem dX6_drop_26 : decode cX6_drop 26 = .ok (.invokevirtual 64, 3) := by decide +kernel
theorem dX6_drop_29 : decode cX6_drop 29 = .ok (.ireturn, 1) := by decide +kernel
theorem dX6_drop_30 : decode cX6_drop 30 = .ok (.aload_n 2, 1) := by decide +kernel
theorem dX6_drop_31 : decode cX6_drop 31 = .ok (.iconst 0, 1) := by decide +kernel
theorem dX6_drop_32 : decode cX6_drop 32 = .ok (.putfield 76, 3) := by decide +kernel
theorem dX6_drop_35 : decode cX6_drop 35 = .ok (.aload_n 0, 1) := by decide +kernel
theorem dX6_drop_36 : decode cX6_drop 36 = .ok (.iconst 0, 1) := by decide +kernel
theorem dX6_drop_37 : decode cX6_drop 37 = .ok (.putfield 72, 3) := by decide +kernel
theorem dX6_drop_40 : decode cX6_drop 40 = .ok (.aload_n 2, 1) := by decide +kernel
theorem dX6_drop_41 : decode cX6_drop 41 = .ok (.getfield 100, 3) := by decide +kernel
theorem dX6_drop_44 : decode cX6_drop 44 = .ok (.ireturn, 1) := by decide +kernel
theorem dX6_feed_0 : decode cX6_feed 0 = .ok (.iload_n 3, 1) := by decide +kernel
theorem dX6_feed_1 : decode cX6_feed 1 = .ok (.iconst 1, 1) := by decide +kernel
theorem dX6_feed_2 : decode cX6_feed 2 = .ok (.bipush 8, 2) := by decide +kernel
theorem dX6_feed_4 : decode cX6_feed 4 = .ok (.invokestatic 59, 3) := by decide +kernel
theorem dX6_feed_7 : decode cX6_feed 7 = .ok (.ifCond .ne 6, 3) := by decide +kernel
theorem dX6_feed_10 : decode cX6_feed 10 = .ok (.ldc 63, 2) := by decide +kernel
theorem dX6_feed_12 : decode cX6_feed 12 = .ok (.ireturn, 1) := by decide +kernel
theorem dX6_feed_13 : decode cX6_feed 13 = .ok (.iload_n 3, 1) := by decide +kernel
theorem dX6_feed_14 : decode cX6_feed 14 = .ok (.sipush 400, 3) := by decide +kernel
theorem dX6_feed_17 : decode cX6_feed 17 = .ok (.aload_n 0, 1) := by decide +kernel
theorem dX6_feed_18 : decode cX6_feed 18 = .ok (.getfield 18, 3) := by decide +kernel
theorem dX6_feed_21 : decode cX6_feed 21 = .ok (.getfield 103, 3) := by decide +kernel
theorem dX6_feed_24 : decode cX6_feed 24 = .ok (.isub, 1) := by decide +kernel
theorem dX6_feed_25 : decode cX6_feed 25 = .ok (.if_icmp .le 6, 3) := by decide +kernel
theorem dX6_feed_28 : decode cX6_feed 28 = .ok (.ldc 104, 2) := by decide +kernel
theorem dX6_feed_30 : decode cX6_feed 30 = .ok (.ireturn, 1) := by decide +kernel
theorem dX6_feed_31 : decode cX6_feed 31 = .ok (.iload_n 3, 1) := by decide +kernel
theorem dX6_feed_32 : decode cX6_feed 32 = .ok (.iconst 1, 1) := by decide +kernel
theorem dX6_feed_33 : decode cX6_feed 33 = .ok (.isub, 1) := by decide +kernel
theorem dX6_feed_34 : decode cX6_feed 34 = .ok (.istore 4, 2) := by decide +kernel
theorem dX6_feed_36 : decode cX6_feed 36 = .ok (.iload 4, 2) := by decide +kernel
theorem dX6_feed_38 : decode cX6_feed 38 = .ok (.ifCond .lt 46, 3) := by decide +kernel
theorem dX6_feed_41 : decode cX6_feed 41 = .ok (.aload_n 0, 1) := by decide +kernel
theorem dX6_feed_42 : decode cX6_feed 42 = .ok (.getfield 18, 3) := by decide +kernel
theorem dX6_feed_45 : decode cX6_feed 45 = .ok (.getfield 105, 3) := by decide +kernel
theorem dX6_feed_48 : decode cX6_feed 48 = .ok (.aload_n 0, 1) := by decide +kernel
theorem dX6_feed_49 : decode cX6_feed 49 = .ok (.getfield 18, 3) := by decide +kernel
theorem dX6_feed_52 : decode cX6_feed 52 = .ok (.getfield 103, 3) := by decide +kernel
theorem dX6_feed_55 : decode cX6_feed 55 = .ok (.lload_n 1, 1) := by decide +kernel
theorem dX6_feed_56 : decode cX6_feed 56 = .ok (.bipush 8, 2) := by decide +kernel
theorem dX6_feed_58 : decode cX6_feed 58 = .ok (.iload 4, 2) := by decide +kernel
theorem dX6_feed_60 : decode cX6_feed 60 = .ok (.imul, 1) := by decide +kernel
theorem dX6_feed_61 : decode cX6_feed 61 = .ok (.lshr, 1) := by decide +kernel
theorem dX6_feed_62 : decode cX6_feed 62 = .ok (.l2i, 1) := by decide +kernel
theorem dX6_feed_63 : decode cX6_feed 63 = .ok (.i2b, 1) := by decide +kernel
theorem dX6_feed_64 : decode cX6_feed 64 = .ok (.bastore, 1) := by decide +kernel
theorem dX6_feed_65 : decode cX6_feed 65 = .ok (.aload_n 0, 1) := by decide +kernel
theorem dX6_feed_66 : decode cX6_feed 66 = .ok (.getfield 18, 3) := by decide +kernel
theorem dX6_feed_69 : decode cX6_feed 69 = .ok (.dup, 1) := by decide +kernel
theorem dX6_feed_70 : decode cX6_feed 70 = .ok (.getfield 103, 3) := by decide +kernel
theorem dX6_feed_73 : decode cX6_feed 73 = .ok (.iconst 1, 1) := by decide +kernel
theorem dX6_feed_74 : decode cX6_feed 74 = .ok (.iadd, 1) := by decide +kernel
theorem dX6_feed_75 : decode cX6_feed 75 = .ok (.putfield 103, 3) := by decide +kernel
theorem dX6_feed_78 : decode cX6_feed 78 = .ok (.iinc 4 (-1), 3) := by decide +kernel
theorem dX6_feed_81 : decode cX6_feed 81 = .ok (.goto (-45), 3) := by decide +kernel
theorem dX6_feed_84 : decode cX6_feed 84 = .ok (.aload_n 0, 1) := by decide +kernel
theorem dX6_feed_85 : decode cX6_feed 85 = .ok (.getfield 18, 3) := by decide +kernel
theorem dX6_feed_88 : decode cX6_feed 88 = .ok (.getfield 103, 3) := by decide +kernel
theorem dX6_feed_91 : decode cX6_feed 91 = .ok (.ireturn, 1) := by decide +kernel
theorem dX6_pass_0 : decode cX6_pass 0 = .ok (.aload_n 0, 1) := by decide +kernel
theorem dX6_pass_1 : decode cX6_pass 1 = .ok (.getfield 18, 3) := by decide +kernel
theorem dX6_pass_4 : decode cX6_pass 4 = .ok (.invokevirtual 109, 3) := by decide +kernel
theorem dX6_pass_7 : decode cX6_pass 7 = .ok (.istore_n 1, 1) := by decide +kernel
theorem dX6_pass_8 : decode cX6_pass 8 = .ok (.aload_n 0, 1) := by decide +kernel
theorem dX6_pass_9 : decode cX6_pass 9 = .ok (.getfield 18, 3) := by decide +kernel
theorem dX6_pass_12 : decode cX6_pass 12 = .ok (.iconst 0, 1) := by decide +kernel
theorem dX6_pass_13 : decode cX6_pass 13 = .ok (.putfield 103, 3) := by decide +kernel
theorem dX6_pass_16 : decode cX6_pass 16 = .ok (.iload_n 1, 1) := by decide +kernel
theorem dX6_pass_17 : decode cX6_pass 17 = .ok (.ifCond .ne 25, 3) := by decide +kernel
theorem dX6_pass_20 : decode cX6_pass 20 = .ok (.aload_n 0, 1) := by decide +kernel
theorem dX6_pass_21 : decode cX6_pass 21 = .ok (.aload_n 0, 1) := by decide +kernel
theorem dX6_pass_22 : decode cX6_pass 22 = .ok (.getfield 18, 3) := by decide +kernel
theorem dX6_pass_25 : decode cX6_pass 25 = .ok (.getfield 113, 3) := by decide +kernel
theorem dX6_pass_28 : decode cX6_pass 28 = .ok (.putfield 116, 3) := by decide +kernel
theorem dX6_pass_31 : decode cX6_pass 31 = .ok (.ldc 117, 2) := by decide +kernel
theorem dX6_pass_33 : decode cX6_pass 33 = .ok (.aload_n 0, 1) := by decide +kernel
theorem dX6_pass_34 : decode cX6_pass 34 = .ok (.getfield 18, 3) := by decide +kernel
theorem dX6_pass_37 : decode cX6_pass 37 = .ok (.getfield 118, 3) := by decide +kernel
theorem dX6_pass_40 : decode cX6_pass 40 = .ok (.isub, 1) := by decide +kernel
theorem dX6_pass_41 : decode cX6_pass 41 = .ok (.ireturn, 1) := by decide +kernel
theorem dX6_pass_42 : decode cX6_pass 42 = .ok (.aload_n 0, 1) := by decide +kernel
theorem dX6_pass_43 : decode cX6_pass 43 = .ok (.getfield 25, 3) := by decide +kernel
theorem dX6_pass_46 : decode cX6_pass 46 = .ok (.aload_n 0, 1) := by decide +kernel
theorem dX6_pass_47 : decode cX6_pass 47 = .ok (.getfield 18, 3) := by decide +kernel
theorem dX6_pass_50 : decode cX6_pass 50 = .ok (.getfield 121, 3) := by decide +kernel
theorem dX6_pass_53 : decode cX6_pass 53 = .ok (.invokevirtual 124, 3) := by decide +kernel
theorem dX6_pass_56 : decode cX6_pass 56 = .ok (.aload_n 0, 1) := by decide +kernel
theorem dX6_pass_57 : decode cX6_pass 57 = .ok (.getfield 36, 3) := by decide +kernel
theorem dX6_pass_60 : decode cX6_pass 60 = .ok (.iconst 0, 1) := by decide +kernel
theorem dX6_pass_61 : decode cX6_pass 61 = .ok (.putfield 128, 3) := by decide +kernel
theorem dX6_pass_64 : decode cX6_pass 64 = .ok (.aload_n 0, 1) := by decide +kernel
theorem dX6_pass_65 : decode cX6_pass 65 = .ok (.getfield 25, 3) := by decide +kernel
theorem dX6_pass_68 : decode cX6_pass 68 = .ok (.getfield 129, 3) := by decide +kernel
theorem dX6_pass_71 : decode cX6_pass 71 = .ok (.ireturn, 1) := by decide +kernel
theorem dX6_fault_0 : decode cX6_fault 0 = .ok (.aload_n 0, 1) := by decide +kernel
theorem dX6_fault_1 : decode cX6_fault 1 = .ok (.getfield 116, 3) := by decide +kernel
theorem dX6_fault_4 : decode cX6_fault 4 = .ok (.ireturn, 1) := by decide +kernel
theorem dX6_hour_0 : decode cX6_hour 0 = .ok (.aload_n 0, 1) := by decide +kernel
theorem dX6_hour_1 : decode cX6_hour 1 = .ok (.getfield 25, 3) := by decide +kernel
theorem dX6_hour_4 : decode cX6_hour 4 = .ok (.getfield 132, 3) := by decide +kernel
theorem dX6_hour_7 : decode cX6_hour 7 = .ok (.ifCond .ne 6, 3) := by decide +kernel
theorem dX6_hour_10 : decode cX6_hour 10 = .ok (.ldc 135, 2) := by decide +kernel
theorem dX6_hour_12 : decode cX6_hour 12 = .ok (.ireturn, 1) := by decide +kernel
theorem dX6_hour_13 : decode cX6_hour 13 = .ok (.aload_n 0, 1) := by decide +kernel
theorem dX6_hour_14 : decode cX6_hour 14 = .ok (.getfield 25, 3) := by decide +kernel
theorem dX6_hour_17 : decode cX6_hour 17 = .ok (.getfield 136, 3) := by decide +kernel
theorem dX6_hour_20 : decode cX6_hour 20 = .ok (.bipush 11, 2) := by decide +kernel
theorem dX6_hour_22 : decode cX6_hour 22 = .ok (.if_icmp .le 6, 3) := by decide +kernel
theorem dX6_hour_25 : decode cX6_hour 25 = .ok (.ldc 104, 2) := by decide +kernel
theorem dX6_hour_27 : decode cX6_hour 27 = .ok (.ireturn, 1) := by decide +kernel
theorem dX6_hour_28 : decode cX6_hour 28 = .ok (.aload_n 0, 1) := by decide +kernel
theorem dX6_hour_29 : decode cX6_hour 29 = .ok (.getfield 36, 3) := by decide +kernel
theorem dX6_hour_32 : decode cX6_hour 32 = .ok (.iconst (-1), 1) := by decide +kernel
theorem dX6_hour_33 : decode cX6_hour 33 = .ok (.iconst 0, 1) := by decide +kernel
theorem dX6_hour_34 : decode cX6_hour 34 = .ok (.invokevirtual 139, 3) := by decide +kernel
theorem dX6_hour_37 : decode cX6_hour 37 = .ok (.aload_n 0, 1) := by decide +kernel
theorem dX6_hour_38 : decode cX6_hour 38 = .ok (.getfield 25, 3) := by decide +kernel
theorem dX6_hour_41 : decode cX6_hour 41 = .ok (.invokevirtual 142, 3) := by decide +kernel
theorem dX6_hour_44 : decode cX6_hour 44 = .ok (.ireturn, 1) := by decide +kernel
theorem dX6_waits_0 : decode cX6_waits 0 = .ok (.aload_n 0, 1) := by decide +kernel
theorem dX6_waits_1 : decode cX6_waits 1 = .ok (.iload_n 1, 1) := by decide +kernel
theorem dX6_waits_2 : decode cX6_waits 2 = .ok (.invokevirtual 146, 3) := by decide +kernel
theorem dX6_waits_5 : decode cX6_waits 5 = .ok (.ifCond .eq 13, 3) := by decide +kernel
theorem dX6_waits_8 : decode cX6_waits 8 = .ok (.iload_n 2, 1) := by decide +kernel
theorem dX6_waits_9 : decode cX6_waits 9 = .ok (.iconst 0, 1) := by decide +kernel
theorem dX6_waits_10 : decode cX6_waits 10 = .ok (.bipush 11, 2) := by decide +kernel
theorem dX6_waits_12 : decode cX6_waits 12 = .ok (.invokestatic 59, 3) := by decide +kernel
theorem dX6_waits_15 : decode cX6_waits 15 = .ok (.ifCond .ne 6, 3) := by decide +kernel
theorem dX6_waits_18 : decode cX6_waits 18 = .ok (.ldc 63, 2) := by decide +kernel
theorem dX6_waits_20 : decode cX6_waits 20 = .ok (.ireturn, 1) := by decide +kernel
theorem dX6_waits_21 : decode cX6_waits 21 = .ok (.aload_n 0, 1) := by decide +kernel
theorem dX6_waits_22 : decode cX6_waits 22 = .ok (.getfield 25, 3) := by decide +kernel
theorem dX6_waits_25 : decode cX6_waits 25 = .ok (.getfield 149, 3) := by decide +kernel
theorem dX6_waits_28 : decode cX6_waits 28 = .ok (.iload_n 1, 1) := by decide +kernel
theorem dX6_waits_29 : decode cX6_waits 29 = .ok (.iaload, 1) := by decide +kernel
theorem dX6_waits_30 : decode cX6_waits 30 = .ok (.ldc 152, 2) := by decide +kernel
theorem dX6_waits_32 : decode cX6_waits 32 = .ok (.if_icmp .eq 6, 3) := by decide +kernel
theorem dX6_waits_35 : decode cX6_waits 35 = .ok (.ldc 135, 2) := by decide +kernel
theorem dX6_waits_37 : decode cX6_waits 37 = .ok (.ireturn, 1) := by decide +kernel
theorem dX6_waits_38 : decode cX6_waits 38 = .ok (.aload_n 0, 1) := by decide +kernel
theorem dX6_waits_39 : decode cX6_waits 39 = .ok (.getfield 25, 3) := by decide +kernel
theorem dX6_waits_42 : decode cX6_waits 42 = .ok (.getfield 153, 3) := by decide +kernel
theorem dX6_waits_45 : decode cX6_waits 45 = .ok (.iload_n 1, 1) := by decide +kernel
theorem dX6_waits_46 : decode cX6_waits 46 = .ok (.iaload, 1) := by decide +kernel
theorem dX6_waits_47 : decode cX6_waits 47 = .ok (.istore_n 3, 1) := by decide +kernel
theorem dX6_waits_48 : decode cX6_waits 48 = .ok (.aload_n 0, 1) := by decide +kernel
theorem dX6_waits_49 : decode cX6_waits 49 = .ok (.getfield 36, 3) := by decide +kernel
theorem dX6_waits_52 : decode cX6_waits 52 = .ok (.iload_n 1, 1) := by decide +kernel
theorem dX6_waits_53 : decode cX6_waits 53 = .ok (.iload_n 3, 1) := by decide +kernel
theorem dX6_waits_54 : decode cX6_waits 54 = .ok (.invokevirtual 139, 3) := by decide +kernel
theorem dX6_waits_57 : decode cX6_waits 57 = .ok (.aload_n 0, 1) := by decide +kernel
theorem dX6_waits_58 : decode cX6_waits 58 = .ok (.getfield 25, 3) := by decide +kernel
theorem dX6_waits_61 : decode cX6_waits 61 = .ok (.getfield 153, 3) := by decide +kernel
theorem dX6_waits_64 : decode cX6_waits 64 = .ok (.iload_n 1, 1) := by decide +kernel
theorem dX6_waits_65 : decode cX6_waits 65 = .ok (.iload_n 2, 1) := by decide +kernel
theorem dX6_waits_66 : decode cX6_waits 66 = .ok (.iastore, 1) := by decide +kernel
theorem dX6_waits_67 : decode cX6_waits 67 = .ok (.iload_n 3, 1) := by decide +kernel
theorem dX6_waits_68 : decode cX6_waits 68 = .ok (.ireturn, 1) := by decide +kernel
theorem dX6_undo_0 : decode cX6_undo 0 = .ok (.aload_n 0, 1) := by decide +kernel
theorem dX6_undo_1 : decode cX6_undo 1 = .ok (.getfield 36, 3) := by decide +kernel
theorem dX6_undo_4 : decode cX6_undo 4 = .ok (.getfield 128, 3) := by decide +kernel
theorem dX6_undo_7 : decode cX6_undo 7 = .ok (.ifCond .ne 6, 3) := by decide +kernel
theorem dX6_undo_10 : decode cX6_undo 10 = .ok (.ldc 135, 2) := by decide +kernel
theorem dX6_undo_12 : decode cX6_undo 12 = .ok (.ireturn, 1) := by decide +kernel
theorem dX6_undo_13 : decode cX6_undo 13 = .ok (.aload_n 0, 1) := by decide +kernel
theorem dX6_undo_14 : decode cX6_undo 14 = .ok (.getfield 36, 3) := by decide +kernel
theorem dX6_undo_17 : decode cX6_undo 17 = .ok (.dup, 1) := by decide +kernel
theorem dX6_undo_18 : decode cX6_undo 18 = .ok (.getfield 128, 3) := by decide +kernel
theorem dX6_undo_21 : decode cX6_undo 21 = .ok (.iconst 1, 1) := by decide +kernel
theorem dX6_undo_22 : decode cX6_undo 22 = .ok (.isub, 1) := by decide +kernel
theorem dX6_undo_23 : decode cX6_undo 23 = .ok (.putfield 128, 3) := by decide +kernel
theorem dX6_undo_26 : decode cX6_undo 26 = .ok (.aload_n 0, 1) := by decide +kernel
theorem dX6_undo_27 : decode cX6_undo 27 = .ok (.getfield 36, 3) := by decide +kernel
theorem dX6_undo_30 : decode cX6_undo 30 = .ok (.getfield 156, 3) := by decide +kernel
theorem dX6_undo_33 : decode cX6_undo 33 = .ok (.aload_n 0, 1) := by decide +kernel
theorem dX6_undo_34 : decode cX6_undo 34 = .ok (.getfield 36, 3) := by decide +kernel
theorem dX6_undo_37 : decode cX6_undo 37 = .ok (.getfield 128, 3) := by decide +kernel
theorem dX6_undo_40 : decode cX6_undo 40 = .ok (.iaload, 1) := by decide +kernel
theorem dX6_undo_41 : decode cX6_undo 41 = .ok (.istore_n 1, 1) := by decide +kernel
theorem dX6_undo_42 : decode cX6_undo 42 = .ok (.aload_n 0, 1) := by decide +kernel
theorem dX6_undo_43 : decode cX6_undo 43 = .ok (.iload_n 1, 1) := by decide +kernel
theorem dX6_undo_44 : decode cX6_undo 44 = .ok (.invokevirtual 146, 3) := by decide +kernel
theorem dX6_undo_47 : decode cX6_undo 47 = .ok (.ifCond .eq 30, 3) := by decide +kernel
theorem dX6_undo_50 : decode cX6_undo 50 = .ok (.aload_n 0, 1) := by decide +kernel
theorem dX6_undo_51 : decode cX6_undo 51 = .ok (.getfield 25, 3) := by decide +kernel
theorem dX6_undo_54 : decode cX6_undo 54 = .ok (.getfield 153, 3) := by decide +kernel
theorem dX6_undo_57 : decode cX6_undo 57 = .ok (.iload_n 1, 1) := by decide +kernel
theorem dX6_undo_58 : decode cX6_undo 58 = .ok (.aload_n 0, 1) := by decide +kernel
theorem dX6_undo_59 : decode cX6_undo 59 = .ok (.getfield 36, 3) := by decide +kernel
theorem dX6_undo_62 : decode cX6_undo 62 = .ok (.getfield 159, 3) := by decide +kernel
theorem dX6_undo_65 : decode cX6_undo 65 = .ok (.aload_n 0, 1) := by decide +kernel
theorem dX6_undo_66 : decode cX6_undo 66 = .ok (.getfield 36, 3) := by decide +kernel
theorem dX6_undo_69 : decode cX6_undo 69 = .ok (.getfield 128, 3) := by decide +kernel
theorem dX6_undo_72 : decode cX6_undo 72 = .ok (.iaload, 1) := by decide +kernel
theorem dX6_undo_73 : decode cX6_undo 73 = .ok (.iastore, 1) := by decide +kernel
theorem dX6_undo_74 : decode cX6_undo 74 = .ok (.goto 10, 3) := by decide +kernel
theorem dX6_undo_77 : decode cX6_undo 77 = .ok (.aload_n 0, 1) := by decide +kernel
theorem dX6_undo_78 : decode cX6_undo 78 = .ok (.getfield 25, 3) := by decide +kernel
theorem dX6_undo_81 : decode cX6_undo 81 = .ok (.invokevirtual 162, 3) := by decide +kernel
theorem dX6_undo_84 : decode cX6_undo 84 = .ok (.aload_n 0, 1) := by decide +kernel
theorem dX6_undo_85 : decode cX6_undo 85 = .ok (.getfield 36, 3) := by decide +kernel
theorem dX6_undo_88 : decode cX6_undo 88 = .ok (.getfield 128, 3) := by decide +kernel
theorem dX6_undo_91 : decode cX6_undo 91 = .ok (.ireturn, 1) := by decide +kernel
theorem dX6_cart_0 : decode cX6_cart 0 = .ok (.aload_n 0, 1) := by decide +kernel
theorem dX6_cart_1 : decode cX6_cart 1 = .ok (.iload_n 1, 1) := by decide +kernel
theorem dX6_cart_2 : decode cX6_cart 2 = .ok (.invokevirtual 146, 3) := by decide +kernel
theorem dX6_cart_5 : decode cX6_cart 5 = .ok (.ifCond .ne 6, 3) := by decide +kernel
theorem dX6_cart_8 : decode cX6_cart 8 = .ok (.ldc 63, 2) := by decide +kernel
theorem dX6_cart_10 : decode cX6_cart 10 = .ok (.ireturn, 1) := by decide +kernel
theorem dX6_cart_11 : decode cX6_cart 11 = .ok (.iload_n 2, 1) := by decide +kernel
theorem dX6_cart_12 : decode cX6_cart 12 = .ok (.tableswitch 99 0 5 #[40, 50, 60, 70, 80, 90], 40) := by decide +kernel
theorem dX6_cart_52 : decode cX6_cart 52 = .ok (.aload_n 0, 1) := by decide +kernel
theorem dX6_cart_53 : decode cX6_cart 53 = .ok (.getfield 25, 3) := by decide +kernel
theorem dX6_cart_56 : decode cX6_cart 56 = .ok (.getfield 165, 3) := by decide +kernel
theorem dX6_cart_59 : decode cX6_cart 59 = .ok (.iload_n 1, 1) := by decide +kernel
theorem dX6_cart_60 : decode cX6_cart 60 = .ok (.iaload, 1) := by decide +kernel
theorem dX6_cart_61 : decode cX6_cart 61 = .ok (.ireturn, 1) := by decide +kernel
theorem dX6_cart_62 : decode cX6_cart 62 = .ok (.aload_n 0, 1) := by decide +kernel
theorem dX6_cart_63 : decode cX6_cart 63 = .ok (.getfield 25, 3) := by decide +kernel
theorem dX6_cart_66 : decode cX6_cart 66 = .ok (.getfield 168, 3) := by decide +kernel
theorem dX6_cart_69 : decode cX6_cart 69 = .ok (.iload_n 1, 1) := by decide +kernel
theorem dX6_cart_70 : decode cX6_cart 70 = .ok (.iaload, 1) := by decide +kernel
theorem dX6_cart_71 : decode cX6_cart 71 = .ok (.ireturn, 1) := by decide +kernel
theorem dX6_cart_72 : decode cX6_cart 72 = .ok (.aload_n 0, 1) := by decide +kernel
theorem dX6_cart_73 : decode cX6_cart 73 = .ok (.getfield 25, 3) := by decide +kernel
theorem dX6_cart_76 : decode cX6_cart 76 = .ok (.getfield 153, 3) := by decide +kernel
theorem dX6_cart_79 : decode cX6_cart 79 = .ok (.iload_n 1, 1) := by decide +kernel
theorem dX6_cart_80 : decode cX6_cart 80 = .ok (.iaload, 1) := by decide +kernel
theorem dX6_cart_81 : decode cX6_cart 81 = .ok (.ireturn, 1) := by decide +kernel
theorem dX6_cart_82 : decode cX6_cart 82 = .ok (.aload_n 0, 1) := by decide +kernel
theorem dX6_cart_83 : decode cX6_cart 83 = .ok (.getfield 25, 3) := by decide +kernel
theorem dX6_cart_86 : decode cX6_cart 86 = .ok (.getfield 149, 3) := by decide +kernel
theorem dX6_cart_89 : decode cX6_cart 89 = .ok (.iload_n 1, 1) := by decide +kernel
theorem dX6_cart_90 : decode cX6_cart 90 = .ok (.iaload, 1) := by decide +kernel
theorem dX6_cart_91 : decode cX6_cart 91 = .ok (.ireturn, 1) := by decide +kernel
theorem dX6_cart_92 : decode cX6_cart 92 = .ok (.aload_n 0, 1) := by decide +kernel
theorem dX6_cart_93 : decode cX6_cart 93 = .ok (.getfield 25, 3) := by decide +kernel
theorem dX6_cart_96 : decode cX6_cart 96 = .ok (.getfield 171, 3) := by decide +kernel
theorem dX6_cart_99 : decode cX6_cart 99 = .ok (.iload_n 1, 1) := by decide +kernel
theorem dX6_cart_100 : decode cX6_cart 100 = .ok (.iaload, 1) := by decide +kernel
theorem dX6_cart_101 : decode cX6_cart 101 = .ok (.ireturn, 1) := by decide +kernel
theorem dX6_cart_102 : decode cX6_cart 102 = .ok (.aload_n 0, 1) := by decide +kernel
theorem dX6_cart_103 : decode cX6_cart 103 = .ok (.getfield 25, 3) := by decide +kernel
theorem dX6_cart_106 : decode cX6_cart 106 = .ok (.iload_n 1, 1) := by decide +kernel
theorem dX6_cart_107 : decode cX6_cart 107 = .ok (.invokevirtual 174, 3) := by decide +kernel
theorem dX6_cart_110 : decode cX6_cart 110 = .ok (.ireturn, 1) := by decide +kernel
theorem dX6_cart_111 : decode cX6_cart 111 = .ok (.ldc 63, 2) := by decide +kernel
theorem dX6_cart_113 : decode cX6_cart 113 = .ok (.ireturn, 1) := by decide +kernel
theorem dX6_day_0 : decode cX6_day 0 = .ok (.aload_n 0, 1) := by decide +kernel
theorem dX6_day_1 : decode cX6_day 1 = .ok (.iload_n 1, 1) := by decide +kernel
theorem dX6_day_2 : decode cX6_day 2 = .ok (.invokevirtual 146, 3) := by decide +kernel
theorem dX6_day_5 : decode cX6_day 5 = .ok (.ifCond .eq 12, 3) := by decide +kernel
theorem dX6_day_8 : decode cX6_day 8 = .ok (.iload_n 2, 1) := by decide +kernel
theorem dX6_day_9 : decode cX6_day 9 = .ok (.iconst 0, 1) := by decide +kernel
theorem dX6_day_10 : decode cX6_day 10 = .ok (.iconst 2, 1) := by decide +kernel
theorem dX6_day_11 : decode cX6_day 11 = .ok (.invokestatic 59, 3) := by decide +kernel
theorem dX6_day_14 : decode cX6_day 14 = .ok (.ifCond .ne 6, 3) := by decide +kernel
theorem dX6_day_17 : decode cX6_day 17 = .ok (.ldc 63, 2) := by decide +kernel
theorem dX6_day_19 : decode cX6_day 19 = .ok (.ireturn, 1) := by decide +kernel
theorem dX6_day_20 : decode cX6_day 20 = .ok (.aload_n 0, 1) := by decide +kernel
theorem dX6_day_21 : decode cX6_day 21 = .ok (.getfield 43, 3) := by decide +kernel
theorem dX6_day_24 : decode cX6_day 24 = .ok (.aload_n 0, 1) := by decide +kernel
theorem dX6_day_25 : decode cX6_day 25 = .ok (.getfield 25, 3) := by decide +kernel
theorem dX6_day_28 : decode cX6_day 28 = .ok (.invokevirtual 177, 3) := by decide +kernel
theorem dX6_day_31 : decode cX6_day 31 = .ok (.astore_n 3, 1) := by decide +kernel
theorem dX6_day_32 : decode cX6_day 32 = .ok (.iload_n 2, 1) := by decide +kernel
theorem dX6_day_33 : decode cX6_day 33 = .ok (.ifCond .ne 10, 3) := by decide +kernel
theorem dX6_day_36 : decode cX6_day 36 = .ok (.aload_n 3, 1) := by decide +kernel
theorem dX6_day_37 : decode cX6_day 37 = .ok (.getfield 149, 3) := by decide +kernel
theorem dX6_day_40 : decode cX6_day 40 = .ok (.iload_n 1, 1) := by decide +kernel
theorem dX6_day_41 : decode cX6_day 41 = .ok (.iaload, 1) := by decide +kernel
theorem dX6_day_42 : decode cX6_day 42 = .ok (.ireturn, 1) := by decide +kernel
theorem dX6_day_43 : decode cX6_day 43 = .ok (.iload_n 2, 1) := by decide +kernel
theorem dX6_day_44 : decode cX6_day 44 = .ok (.iconst 1, 1) := by decide +kernel
theorem dX6_day_45 : decode cX6_day 45 = .ok (.if_icmp .ne 11, 3) := by decide +kernel
theorem dX6_day_48 : decode cX6_day 48 = .ok (.aload_n 3, 1) := by decide +kernel
theorem dX6_day_49 : decode cX6_day 49 = .ok (.iload_n 1, 1) := by decide +kernel
theorem dX6_day_50 : decode cX6_day 50 = .ok (.invokevirtual 174, 3) := by decide +kernel
theorem dX6_day_53 : decode cX6_day 53 = .ok (.goto 9, 3) := by decide +kernel
theorem dX6_day_56 : decode cX6_day 56 = .ok (.aload_n 3, 1) := by decide +kernel
theorem dX6_day_57 : decode cX6_day 57 = .ok (.getfield 171, 3) := by decide +kernel
theorem dX6_day_60 : decode cX6_day 60 = .ok (.iload_n 1, 1) := by decide +kernel
theorem dX6_day_61 : decode cX6_day 61 = .ok (.iaload, 1) := by decide +kernel
theorem dX6_day_62 : decode cX6_day 62 = .ok (.ireturn, 1) := by decide +kernel
theorem dX6_judge_0 : decode cX6_judge 0 = .ok (.aload_n 0, 1) := by decide +kernel
theorem dX6_judge_1 : decode cX6_judge 1 = .ok (.getfield 25, 3) := by decide +kernel
theorem dX6_judge_4 : decode cX6_judge 4 = .ok (.getfield 132, 3) := by decide +kernel
theorem dX6_judge_7 : decode cX6_judge 7 = .ok (.ifCond .ne 6, 3) := by decide +kernel
theorem dX6_judge_10 : decode cX6_judge 10 = .ok (.ldc 135, 2) := by decide +kernel
theorem dX6_judge_12 : decode cX6_judge 12 = .ok (.ireturn, 1) := by decide +kernel
theorem dX6_judge_13 : decode cX6_judge 13 = .ok (.iload_n 1, 1) := by decide +kernel
theorem dX6_judge_14 : decode cX6_judge 14 = .ok (.invokestatic 55, 3) := by decide +kernel
theorem dX6_judge_17 : decode cX6_judge 17 = .ok (.ifCond .ne 6, 3) := by decide +kernel
theorem dX6_judge_20 : decode cX6_judge 20 = .ok (.ldc 63, 2) := by decide +kernel
theorem dX6_judge_22 : decode cX6_judge 22 = .ok (.ireturn, 1) := by decide +kernel
theorem dX6_judge_23 : decode cX6_judge 23 = .ok (.aload_n 0, 1) := by decide +kernel
theorem dX6_judge_24 : decode cX6_judge 24 = .ok (.getfield 11, 3) := by decide +kernel
theorem dX6_judge_27 : decode cX6_judge 27 = .ok (.iload_n 1, 1) := by decide +kernel
theorem dX6_judge_28 : decode cX6_judge 28 = .ok (.aaload, 1) := by decide +kernel
theorem dX6_judge_29 : decode cX6_judge 29 = .ok (.astore_n 3, 1) := by decide +kernel
theorem dX6_judge_30 : decode cX6_judge 30 = .ok (.aload_n 3, 1) := by decide +kernel
theorem dX6_judge_31 : decode cX6_judge 31 = .ok (.getfield 76, 3) := by decide +kernel
theorem dX6_judge_34 : decode cX6_judge 34 = .ok (.ifCond .ne 9, 3) := by decide +kernel
theorem dX6_judge_37 : decode cX6_judge 37 = .ok (.aload_n 0, 1) := by decide +kernel
theorem dX6_judge_38 : decode cX6_judge 38 = .ok (.iconst 1, 1) := by decide +kernel
theorem dX6_judge_39 : decode cX6_judge 39 = .ok (.invokevirtual 64, 3) := by decide +kernel
theorem dX6_judge_42 : decode cX6_judge 42 = .ok (.ireturn, 1) := by decide +kernel
theorem dX6_judge_43 : decode cX6_judge 43 = .ok (.aload_n 3, 1) := by decide +kernel
theorem dX6_judge_44 : decode cX6_judge 44 = .ok (.iload_n 2, 1) := by decide +kernel
theorem dX6_judge_45 : decode cX6_judge 45 = .ok (.bipush 12, 2) := by decide +kernel
theorem dX6_judge_47 : decode cX6_judge 47 = .ok (.invokevirtual 80, 3) := by decide +kernel
theorem dX6_judge_50 : decode cX6_judge 50 = .ok (.ifCond .ne 9, 3) := by decide +kernel
theorem dX6_judge_53 : decode cX6_judge 53 = .ok (.aload_n 0, 1) := by decide +kernel
theorem dX6_judge_54 : decode cX6_judge 54 = .ok (.iconst 2, 1) := by decide +kernel
theorem dX6_judge_55 : decode cX6_judge 55 = .ok (.invokevirtual 64, 3) := by decide +kernel
theorem dX6_judge_58 : decode cX6_judge 58 = .ok (.ireturn, 1) := by decide +kernel
theorem dX6_judge_59 : decode cX6_judge 59 = .ok (.iconst 0, 1) := by decide +kernel
theorem dX6_judge_60 : decode cX6_judge 60 = .ok (.istore 4, 2) := by decide +kernel
theorem dX6_judge_62 : decode cX6_judge 62 = .ok (.iload 4, 2) := by decide +kernel
theorem dX6_judge_64 : decode cX6_judge 64 = .ok (.bipush 12, 2) := by decide +kernel
theorem dX6_judge_66 : decode cX6_judge 66 = .ok (.if_icmp .ge 41, 3) := by decide +kernel
theorem dX6_judge_69 : decode cX6_judge 69 = .ok (.aload_n 3, 1) := by decide +kernel
theorem dX6_judge_70 : decode cX6_judge 70 = .ok (.getfield 84, 3) := by decide +kernel
theorem dX6_judge_73 : decode cX6_judge 73 = .ok (.iload_n 2, 1) := by decide +kernel
theorem dX6_judge_74 : decode cX6_judge 74 = .ok (.iload 4, 2) := by decide +kernel
theorem dX6_judge_76 : decode cX6_judge 76 = .ok (.iadd, 1) := by decide +kernel
theorem dX6_judge_77 : decode cX6_judge 77 = .ok (.iaload, 1) := by decide +kernel
theorem dX6_judge_78 : decode cX6_judge 78 = .ok (.iconst (-1), 1) := by decide +kernel
theorem dX6_judge_79 : decode cX6_judge 79 = .ok (.if_icmp .eq 22, 3) := by decide +kernel
theorem dX6_judge_82 : decode cX6_judge 82 = .ok (.aload_n 0, 1) := by decide +kernel
theorem dX6_judge_83 : decode cX6_judge 83 = .ok (.aload_n 3, 1) := by decide +kernel
theorem dX6_judge_84 : decode cX6_judge 84 = .ok (.getfield 84, 3) := by decide +kernel
theorem dX6_judge_87 : decode cX6_judge 87 = .ok (.iload_n 2, 1) := by decide +kernel
theorem dX6_judge_88 : decode cX6_judge 88 = .ok (.iload 4, 2) := by decide +kernel
theorem dX6_judge_90 : decode cX6_judge 90 = .ok (.iadd, 1) := by decide +kernel
theorem dX6_judge_91 : decode cX6_judge 91 = .ok (.iaload, 1) := by decide +kernel
theorem dX6_judge_92 : decode cX6_judge 92 = .ok (.invokevirtual 146, 3) := by decide +kernel
theorem dX6_judge_95 : decode cX6_judge 95 = .ok (.ifCond .ne 6, 3) := by decide +kernel
theorem dX6_judge_98 : decode cX6_judge 98 = .ok (.ldc 63, 2) := by decide +kernel
theorem dX6_judge_100 : decode cX6_judge 100 = .ok (.ireturn, 1) := by decide +kernel
theorem dX6_judge_101 : decode cX6_judge 101 = .ok (.iinc 4 1, 3) := by decide +kernel
theorem dX6_judge_104 : decode cX6_judge 104 = .ok (.goto (-42), 3) := by decide +kernel
theorem dX6_judge_107 : decode cX6_judge 107 = .ok (.aload_n 0, 1) := by decide +kernel
theorem dX6_judge_108 : decode cX6_judge 108 = .ok (.iconst 0, 1) := by decide +kernel
theorem dX6_judge_109 : decode cX6_judge 109 = .ok (.putfield 72, 3) := by decide +kernel
theorem dX6_judge_112 : decode cX6_judge 112 = .ok (.aload_n 0, 1) := by decide +kernel
theorem dX6_judge_113 : decode cX6_judge 113 = .ok (.getfield 43, 3) := by decide +kernel
theorem dX6_judge_116 : decode cX6_judge 116 = .ok (.aload_n 0, 1) := by decide +kernel
theorem dX6_judge_117 : decode cX6_judge 117 = .ok (.getfield 25, 3) := by decide +kernel
theorem dX6_judge_120 : decode cX6_judge 120 = .ok (.invokevirtual 177, 3) := by decide +kernel
theorem dX6_judge_123 : decode cX6_judge 123 = .ok (.astore 4, 2) := by decide +kernel
theorem dX6_judge_125 : decode cX6_judge 125 = .ok (.iconst 0, 1) := by decide +kernel
theorem dX6_judge_126 : decode cX6_judge 126 = .ok (.istore 5, 2) := by decide +kernel
theorem dX6_judge_128 : decode cX6_judge 128 = .ok (.iload 5, 2) := by decide +kernel
theorem dX6_judge_130 : decode cX6_judge 130 = .ok (.bipush 12, 2) := by decide +kernel
theorem dX6_judge_132 : decode cX6_judge 132 = .ok (.if_icmp .ge 32, 3) := by decide +kernel
theorem dX6_judge_135 : decode cX6_judge 135 = .ok (.aload_n 3, 1) := by decide +kernel
theorem dX6_judge_136 : decode cX6_judge 136 = .ok (.getfield 84, 3) := by decide +kernel
theorem dX6_judge_139 : decode cX6_judge 139 = .ok (.iload_n 2, 1) := by decide +kernel
theorem dX6_judge_140 : decode cX6_judge 140 = .ok (.iload 5, 2) := by decide +kernel
theorem dX6_judge_142 : decode cX6_judge 142 = .ok (.iadd, 1) := by decide +kernel
theorem dX6_judge_143 : decode cX6_judge 143 = .ok (.iaload, 1) := by decide +kernel
theorem dX6_judge_144 : decode cX6_judge 144 = .ok (.aload 4, 2) := by decide +kernel
theorem dX6_judge_146 : decode cX6_judge 146 = .ok (.getfield 181, 3) := by decide +kernel
theorem dX6_judge_149 : decode cX6_judge 149 = .ok (.iload 5, 2) := by decide +kernel
theorem dX6_judge_151 : decode cX6_judge 151 = .ok (.iaload, 1) := by decide +kernel
theorem dX6_judge_152 : decode cX6_judge 152 = .ok (.if_icmp .eq 6, 3) := by decide +kernel
theorem dX6_judge_155 : decode cX6_judge 155 = .ok (.iload 5, 2) := by decide +kernel
theorem dX6_judge_157 : decode cX6_judge 157 = .ok (.ireturn, 1) := by decide +kernel
theorem dX6_judge_158 : decode cX6_judge 158 = .ok (.iinc 5 1, 3) := by decide +kernel
theorem dX6_judge_161 : decode cX6_judge 161 = .ok (.goto (-33), 3) := by decide +kernel
theorem dX6_judge_164 : decode cX6_judge 164 = .ok (.ldc 152, 2) := by decide +kernel
theorem dX6_judge_166 : decode cX6_judge 166 = .ok (.ireturn, 1) := by decide +kernel
theorem dX6_best_0 : decode cX6_best 0 = .ok (.aload_n 0, 1) := by decide +kernel
theorem dX6_best_1 : decode cX6_best 1 = .ok (.iload_n 1, 1) := by decide +kernel
theorem dX6_best_2 : decode cX6_best 2 = .ok (.invokevirtual 146, 3) := by decide +kernel
theorem dX6_best_5 : decode cX6_best 5 = .ok (.ifCond .eq 12, 3) := by decide +kernel
theorem dX6_best_8 : decode cX6_best 8 = .ok (.iload_n 2, 1) := by decide +kernel
theorem dX6_best_9 : decode cX6_best 9 = .ok (.iconst 0, 1) := by decide +kernel
theorem dX6_best_10 : decode cX6_best 10 = .ok (.iconst 1, 1) := by decide +kernel
theorem dX6_best_11 : decode cX6_best 11 = .ok (.invokestatic 59, 3) := by decide +kernel
theorem dX6_best_14 : decode cX6_best 14 = .ok (.ifCond .ne 6, 3) := by decide +kernel
theorem dX6_best_17 : decode cX6_best 17 = .ok (.ldc 63, 2) := by decide +kernel
theorem dX6_best_19 : decode cX6_best 19 = .ok (.ireturn, 1) := by decide +kernel
theorem dX6_best_20 : decode cX6_best 20 = .ok (.aload_n 0, 1) := by decide +kernel
theorem dX6_best_21 : decode cX6_best 21 = .ok (.getfield 43, 3) := by decide +kernel
theorem dX6_best_24 : decode cX6_best 24 = .ok (.aload_n 0, 1) := by decide +kernel
theorem dX6_best_25 : decode cX6_best 25 = .ok (.getfield 25, 3) := by decide +kernel
theorem dX6_best_28 : decode cX6_best 28 = .ok (.iload_n 1, 1) := by decide +kernel
theorem dX6_best_29 : decode cX6_best 29 = .ok (.invokevirtual 184, 3) := by decide +kernel
theorem dX6_best_32 : decode cX6_best 32 = .ok (.astore_n 3, 1) := by decide +kernel
theorem dX6_best_33 : decode cX6_best 33 = .ok (.iload_n 2, 1) := by decide +kernel
theorem dX6_best_34 : decode cX6_best 34 = .ok (.ifCond .ne 12, 3) := by decide +kernel
theorem dX6_best_37 : decode cX6_best 37 = .ok (.aload_n 3, 1) := by decide +kernel
theorem dX6_best_38 : decode cX6_best 38 = .ok (.getfield 153, 3) := by decide +kernel
theorem dX6_best_41 : decode cX6_best 41 = .ok (.iload_n 1, 1) := by decide +kernel
theorem dX6_best_42 : decode cX6_best 42 = .ok (.iaload, 1) := by decide +kernel
theorem dX6_best_43 : decode cX6_best 43 = .ok (.goto 8, 3) := by decide +kernel
theorem dX6_best_46 : decode cX6_best 46 = .ok (.aload_n 3, 1) := by decide +kernel
theorem dX6_best_47 : decode cX6_best 47 = .ok (.iload_n 1, 1) := by decide +kernel
theorem dX6_best_48 : decode cX6_best 48 = .ok (.invokevirtual 174, 3) := by decide +kernel
theorem dX6_best_51 : decode cX6_best 51 = .ok (.ireturn, 1) := by decide +kernel
theorem dX6_rest_0 : decode cX6_rest 0 = .ok (.aload_n 0, 1) := by decide +kernel
theorem dX6_rest_1 : decode cX6_rest 1 = .ok (.getfield 25, 3) := by decide +kernel
theorem dX6_rest_4 : decode cX6_rest 4 = .ok (.getfield 132, 3) := by decide +kernel
theorem dX6_rest_7 : decode cX6_rest 7 = .ok (.ifCond .ne 6, 3) := by decide +kernel
theorem dX6_rest_10 : decode cX6_rest 10 = .ok (.ldc 135, 2) := by decide +kernel
theorem dX6_rest_12 : decode cX6_rest 12 = .ok (.ireturn, 1) := by decide +kernel
theorem dX6_rest_13 : decode cX6_rest 13 = .ok (.iload_n 1, 1) := by decide +kernel
theorem dX6_rest_14 : decode cX6_rest 14 = .ok (.iconst (-1), 1) := by decide +kernel
theorem dX6_rest_15 : decode cX6_rest 15 = .ok (.if_icmp .eq 14, 3) := by decide +kernel
theorem dX6_rest_18 : decode cX6_rest 18 = .ok (.aload_n 0, 1) := by decide +kernel
theorem dX6_rest_19 : decode cX6_rest 19 = .ok (.iload_n 1, 1) := by decide +kernel
theorem dX6_rest_20 : decode cX6_rest 20 = .ok (.invokevirtual 146, 3) := by decide +kernel
theorem dX6_rest_23 : decode cX6_rest 23 = .ok (.ifCond .ne 6, 3) := by decide +kernel
theorem dX6_rest_26 : decode cX6_rest 26 = .ok (.ldc 63, 2) := by decide +kernel
theorem dX6_rest_28 : decode cX6_rest 28 = .ok (.ireturn, 1) := by decide +kernel
theorem dX6_rest_29 : decode cX6_rest 29 = .ok (.aload_n 0, 1) := by decide +kernel
theorem dX6_rest_30 : decode cX6_rest 30 = .ok (.getfield 43, 3) := by decide +kernel
theorem dX6_rest_33 : decode cX6_rest 33 = .ok (.aload_n 0, 1) := by decide +kernel
theorem dX6_rest_34 : decode cX6_rest 34 = .ok (.getfield 25, 3) := by decide +kernel
theorem dX6_rest_37 : decode cX6_rest 37 = .ok (.invokevirtual 188, 3) := by decide +kernel
theorem dX6_rest_40 : decode cX6_rest 40 = .ok (.istore_n 2, 1) := by decide +kernel
theorem dX6_rest_41 : decode cX6_rest 41 = .ok (.iload_n 1, 1) := by decide +kernel
theorem dX6_rest_42 : decode cX6_rest 42 = .ok (.iconst (-1), 1) := by decide +kernel
theorem dX6_rest_43 : decode cX6_rest 43 = .ok (.if_icmp .ne 7, 3) := by decide +kernel
theorem dX6_rest_46 : decode cX6_rest 46 = .ok (.iload_n 2, 1) := by decide +kernel
theorem dX6_rest_47 : decode cX6_rest 47 = .ok (.goto 15, 3) := by decide +kernel
theorem dX6_rest_50 : decode cX6_rest 50 = .ok (.aload_n 0, 1) := by decide +kernel
theorem dX6_rest_51 : decode cX6_rest 51 = .ok (.getfield 43, 3) := by decide +kernel
theorem dX6_rest_54 : decode cX6_rest 54 = .ok (.getfield 192, 3) := by decide +kernel
theorem dX6_rest_57 : decode cX6_rest 57 = .ok (.getfield 153, 3) := by decide +kernel
theorem dX6_rest_60 : decode cX6_rest 60 = .ok (.iload_n 1, 1) := by decide +kernel
theorem dX6_rest_61 : decode cX6_rest 61 = .ok (.iaload, 1) := by decide +kernel
theorem dX6_rest_62 : decode cX6_rest 62 = .ok (.ireturn, 1) := by decide +kernel
theorem dX6_thought_0 : decode cX6_thought 0 = .ok (.aload_n 0, 1) := by decide +kernel
theorem dX6_thought_1 : decode cX6_thought 1 = .ok (.iload_n 1, 1) := by decide +kernel
theorem dX6_thought_2 : decode cX6_thought 2 = .ok (.invokevirtual 146, 3) := by decide +kernel
theorem dX6_thought_5 : decode cX6_thought 5 = .ok (.ifCond .eq 10, 3) := by decide +kernel
theorem dX6_thought_8 : decode cX6_thought 8 = .ok (.iload_n 2, 1) := by decide +kernel
theorem dX6_thought_9 : decode cX6_thought 9 = .ok (.invokestatic 195, 3) := by decide +kernel
theorem dX6_thought_12 : decode cX6_thought 12 = .ok (.ifCond .ne 6, 3) := by decide +kernel
theorem dX6_thought_15 : decode cX6_thought 15 = .ok (.ldc 63, 2) := by decide +kernel
theorem dX6_thought_17 : decode cX6_thought 17 = .ok (.ireturn, 1) := by decide +kernel
theorem dX6_thought_18 : decode cX6_thought 18 = .ok (.aload_n 0, 1) := by decide +kernel
theorem dX6_thought_19 : decode cX6_thought 19 = .ok (.getfield 43, 3) := by decide +kernel
theorem dX6_thought_22 : decode cX6_thought 22 = .ok (.aload_n 0, 1) := by decide +kernel
theorem dX6_thought_23 : decode cX6_thought 23 = .ok (.getfield 25, 3) := by decide +kernel
theorem dX6_thought_26 : decode cX6_thought 26 = .ok (.iload_n 1, 1) := by decide +kernel
theorem dX6_thought_27 : decode cX6_thought 27 = .ok (.iload_n 2, 1) := by decide +kernel
theorem dX6_thought_28 : decode cX6_thought 28 = .ok (.invokevirtual 198, 3) := by decide +kernel
theorem dX6_thought_31 : decode cX6_thought 31 = .ok (.ireturn, 1) := by decide +kernel
theorem dX6_two_0 : decode cX6_two 0 = .ok (.aload_n 0, 1) := by decide +kernel
theorem dX6_two_1 : decode cX6_two 1 = .ok (.iload_n 1, 1) := by decide +kernel
theorem dX6_two_2 : decode cX6_two 2 = .ok (.invokevirtual 146, 3) := by decide +kernel
theorem dX6_two_5 : decode cX6_two 5 = .ok (.ifCond .eq 33, 3) := by decide +kernel
theorem dX6_two_8 : decode cX6_two 8 = .ok (.aload_n 0, 1) := by decide +kernel
theorem dX6_two_9 : decode cX6_two 9 = .ok (.iload_n 2, 1) := by decide +kernel
theorem dX6_two_10 : decode cX6_two 10 = .ok (.invokevirtual 146, 3) := by decide +kernel
theorem dX6_two_13 : decode cX6_two 13 = .ok (.ifCond .eq 25, 3) := by decide +kernel
theorem dX6_two_16 : decode cX6_two 16 = .ok (.iload_n 1, 1) := by decide +kernel
theorem dX6_two_17 : decode cX6_two 17 = .ok (.iload_n 2, 1) := by decide +kernel
theorem dX6_two_18 : decode cX6_two 18 = .ok (.if_icmp .eq 20, 3) := by decide +kernel
theorem dX6_two_21 : decode cX6_two 21 = .ok (.iload_n 3, 1) := by decide +kernel
theorem dX6_two_22 : decode cX6_two 22 = .ok (.invokestatic 195, 3) := by decide +kernel
theorem dX6_two_25 : decode cX6_two 25 = .ok (.ifCond .eq 13, 3) := by decide +kernel
theorem dX6_two_28 : decode cX6_two 28 = .ok (.iload 4, 2) := by decide +kernel
theorem dX6_two_30 : decode cX6_two 30 = .ok (.iconst 0, 1) := by decide +kernel
theorem dX6_two_31 : decode cX6_two 31 = .ok (.iconst 1, 1) := by decide +kernel
theorem dX6_two_32 : decode cX6_two 32 = .ok (.invokestatic 59, 3) := by decide +kernel
theorem dX6_two_35 : decode cX6_two 35 = .ok (.ifCond .ne 6, 3) := by decide +kernel
theorem dX6_two_38 : decode cX6_two 38 = .ok (.ldc 63, 2) := by decide +kernel
theorem dX6_two_40 : decode cX6_two 40 = .ok (.ireturn, 1) := by decide +kernel
theorem dX6_two_41 : decode cX6_two 41 = .ok (.aload_n 0, 1) := by decide +kernel
theorem dX6_two_42 : decode cX6_two 42 = .ok (.getfield 43, 3) := by decide +kernel
theorem dX6_two_45 : decode cX6_two 45 = .ok (.aload_n 0, 1) := by decide +kernel
theorem dX6_two_46 : decode cX6_two 46 = .ok (.getfield 25, 3) := by decide +kernel
theorem dX6_two_49 : decode cX6_two 49 = .ok (.iload_n 1, 1) := by decide +kernel
theorem dX6_two_50 : decode cX6_two 50 = .ok (.iload_n 2, 1) := by decide +kernel
theorem dX6_two_51 : decode cX6_two 51 = .ok (.iload_n 3, 1) := by decide +kernel
theorem dX6_two_52 : decode cX6_two 52 = .ok (.iload 4, 2) := by decide +kernel
theorem dX6_two_54 : decode cX6_two 54 = .ok (.iconst 1, 1) := by decide +kernel
theorem dX6_two_55 : decode cX6_two 55 = .ok (.if_icmp .ne 7, 3) := by decide +kernel
theorem dX6_two_58 : decode cX6_two 58 = .ok (.iconst 1, 1) := by decide +kernel
theorem dX6_two_59 : decode cX6_two 59 = .ok (.goto 4, 3) := by decide +kernel
theorem dX6_two_62 : decode cX6_two 62 = .ok (.iconst 0, 1) := by decide +kernel
theorem dX6_two_63 : decode cX6_two 63 = .ok (.invokevirtual 202, 3) := by decide +kernel
theorem dX6_two_66 : decode cX6_two 66 = .ok (.ireturn, 1) := by decide +kernel
theorem dX6_shares_0 : decode cX6_shares 0 = .ok (.aload_n 0, 1) := by decide +kernel
theorem dX6_shares_1 : decode cX6_shares 1 = .ok (.getfield 25, 3) := by decide +kernel
theorem dX6_shares_4 : decode cX6_shares 4 = .ok (.getfield 132, 3) := by decide +kernel
theorem dX6_shares_7 : decode cX6_shares 7 = .ok (.ifCond .ne 6, 3) := by decide +kernel
theorem dX6_shares_10 : decode cX6_shares 10 = .ok (.ldc 135, 2) := by decide +kernel
theorem dX6_shares_12 : decode cX6_shares 12 = .ok (.ireturn, 1) := by decide +kernel
theorem dX6_shares_13 : decode cX6_shares 13 = .ok (.iload_n 1, 1) := by decide +kernel
theorem dX6_shares_14 : decode cX6_shares 14 = .ok (.iconst 1, 1) := by decide +kernel
theorem dX6_shares_15 : decode cX6_shares 15 = .ok (.bipush 6, 2) := by decide +kernel
theorem dX6_shares_17 : decode cX6_shares 17 = .ok (.invokestatic 59, 3) := by decide +kernel
theorem dX6_shares_20 : decode cX6_shares 20 = .ok (.ifCond .eq 8, 3) := by decide +kernel
theorem dX6_shares_23 : decode cX6_shares 23 = .ok (.iload_n 2, 1) := by decide +kernel
theorem dX6_shares_24 : decode cX6_shares 24 = .ok (.iconst (-1), 1) := by decide +kernel
theorem dX6_shares_25 : decode cX6_shares 25 = .ok (.if_icmp .ge 6, 3) := by decide +kernel
theorem dX6_shares_28 : decode cX6_shares 28 = .ok (.ldc 63, 2) := by decide +kernel
theorem dX6_shares_30 : decode cX6_shares 30 = .ok (.ireturn, 1) := by decide +kernel
theorem dX6_shares_31 : decode cX6_shares 31 = .ok (.iload_n 2, 1) := by decide +kernel
theorem dX6_shares_32 : decode cX6_shares 32 = .ok (.iconst (-1), 1) := by decide +kernel
theorem dX6_shares_33 : decode cX6_shares 33 = .ok (.if_icmp .ne 20, 3) := by decide +kernel
theorem dX6_shares_36 : decode cX6_shares 36 = .ok (.aload_n 0, 1) := by decide +kernel
theorem dX6_shares_37 : decode cX6_shares 37 = .ok (.getfield 25, 3) := by decide +kernel
theorem dX6_shares_40 : decode cX6_shares 40 = .ok (.iload_n 1, 1) := by decide +kernel
theorem dX6_shares_41 : decode cX6_shares 41 = .ok (.invokevirtual 206, 3) := by decide +kernel
theorem dX6_shares_44 : decode cX6_shares 44 = .ok (.ifCond .eq 7, 3) := by decide +kernel
theorem dX6_shares_47 : decode cX6_shares 47 = .ok (.iconst 1, 1) := by decide +kernel
theorem dX6_shares_48 : decode cX6_shares 48 = .ok (.goto 4, 3) := by decide +kernel
theorem dX6_shares_51 : decode cX6_shares 51 = .ok (.iconst 0, 1) := by decide +kernel
theorem dX6_shares_52 : decode cX6_shares 52 = .ok (.ireturn, 1) := by decide +kernel
theorem dX6_shares_53 : decode cX6_shares 53 = .ok (.iload_n 2, 1) := by decide +kernel
theorem dX6_shares_54 : decode cX6_shares 54 = .ok (.iload_n 1, 1) := by decide +kernel
theorem dX6_shares_55 : decode cX6_shares 55 = .ok (.if_icmp .lt 6, 3) := by decide +kernel
theorem dX6_shares_58 : decode cX6_shares 58 = .ok (.ldc 152, 2) := by decide +kernel
theorem dX6_shares_60 : decode cX6_shares 60 = .ok (.ireturn, 1) := by decide +kernel
theorem dX6_shares_61 : decode cX6_shares 61 = .ok (.aload_n 0, 1) := by decide +kernel
theorem dX6_shares_62 : decode cX6_shares 62 = .ok (.getfield 25, 3) := by decide +kernel
theorem dX6_shares_65 : decode cX6_shares 65 = .ok (.iload_n 1, 1) := by decide +kernel
theorem dX6_shares_66 : decode cX6_shares 66 = .ok (.iload_n 2, 1) := by decide +kernel
theorem dX6_shares_67 : decode cX6_shares 67 = .ok (.iconst 1, 1) := by decide +kernel
theorem dX6_shares_68 : decode cX6_shares 68 = .ok (.iadd, 1) := by decide +kernel
theorem dX6_shares_69 : decode cX6_shares 69 = .ok (.invokevirtual 209, 3) := by decide +kernel
theorem dX6_shares_72 : decode cX6_shares 72 = .ok (.aload_n 0, 1) := by decide +kernel
theorem dX6_shares_73 : decode cX6_shares 73 = .ok (.getfield 25, 3) := by decide +kernel
theorem dX6_shares_76 : decode cX6_shares 76 = .ok (.iload_n 1, 1) := by decide +kernel
theorem dX6_shares_77 : decode cX6_shares 77 = .ok (.iload_n 2, 1) := by decide +kernel
theorem dX6_shares_78 : decode cX6_shares 78 = .ok (.invokevirtual 209, 3) := by decide +kernel
theorem dX6_shares_81 : decode cX6_shares 81 = .ok (.isub, 1) := by decide +kernel
theorem dX6_shares_82 : decode cX6_shares 82 = .ok (.ireturn, 1) := by decide +kernel
theorem dX6_size_0 : decode cX6_size 0 = .ok (.aload_n 0, 1) := by decide +kernel
theorem dX6_size_1 : decode cX6_size 1 = .ok (.getfield 25, 3) := by decide +kernel
theorem dX6_size_4 : decode cX6_size 4 = .ok (.getfield 132, 3) := by decide +kernel
theorem dX6_size_7 : decode cX6_size 7 = .ok (.ifCond .eq 13, 3) := by decide +kernel
theorem dX6_size_10 : decode cX6_size 10 = .ok (.aload_n 0, 1) := by decide +kernel
theorem dX6_size_11 : decode cX6_size 11 = .ok (.getfield 25, 3) := by decide +kernel
theorem dX6_size_14 : decode cX6_size 14 = .ok (.invokevirtual 213, 3) := by decide +kernel
theorem dX6_size_17 : decode cX6_size 17 = .ok (.goto 5, 3) := by decide +kernel
theorem dX6_size_20 : decode cX6_size 20 = .ok (.ldc 135, 2) := by decide +kernel
theorem dX6_size_22 : decode cX6_size 22 = .ok (.ireturn, 1) := by decide +kernel
theorem dX6_book_0 : decode cX6_book 0 = .ok (.aload_n 0, 1) := by decide +kernel
theorem dX6_book_1 : decode cX6_book 1 = .ok (.iload_n 1, 1) := by decide +kernel
theorem dX6_book_2 : decode cX6_book 2 = .ok (.invokevirtual 146, 3) := by decide +kernel
theorem dX6_book_5 : decode cX6_book 5 = .ok (.ifCond .eq 13, 3) := by decide +kernel
theorem dX6_book_8 : decode cX6_book 8 = .ok (.iload_n 2, 1) := by decide +kernel
theorem dX6_book_9 : decode cX6_book 9 = .ok (.iconst 1, 1) := by decide +kernel
theorem dX6_book_10 : decode cX6_book 10 = .ok (.bipush 30, 2) := by decide +kernel
theorem dX6_book_12 : decode cX6_book 12 = .ok (.invokestatic 59, 3) := by decide +kernel
theorem dX6_book_15 : decode cX6_book 15 = .ok (.ifCond .ne 6, 3) := by decide +kernel
theorem dX6_book_18 : decode cX6_book 18 = .ok (.ldc 63, 2) := by decide +kernel
theorem dX6_book_20 : decode cX6_book 20 = .ok (.ireturn, 1) := by decide +kernel
theorem dX6_book_21 : decode cX6_book 21 = .ok (.aload_n 0, 1) := by decide +kernel
theorem dX6_book_22 : decode cX6_book 22 = .ok (.getfield 43, 3) := by decide +kernel
theorem dX6_book_25 : decode cX6_book 25 = .ok (.aload_n 0, 1) := by decide +kernel
theorem dX6_book_26 : decode cX6_book 26 = .ok (.getfield 25, 3) := by decide +kernel
theorem dX6_book_29 : decode cX6_book 29 = .ok (.iload_n 1, 1) := by decide +kernel
theorem dX6_book_30 : decode cX6_book 30 = .ok (.iload_n 2, 1) := by decide +kernel
theorem dX6_book_31 : decode cX6_book 31 = .ok (.invokevirtual 216, 3) := by decide +kernel
theorem dX6_book_34 : decode cX6_book 34 = .ok (.ireturn, 1) := by decide +kernel
theorem dX6_ford_0 : decode cX6_ford 0 = .ok (.aload_n 0, 1) := by decide +kernel
theorem dX6_ford_1 : decode cX6_ford 1 = .ok (.iload_n 1, 1) := by decide +kernel
theorem dX6_ford_2 : decode cX6_ford 2 = .ok (.invokevirtual 146, 3) := by decide +kernel
theorem dX6_ford_5 : decode cX6_ford 5 = .ok (.ifCond .eq 13, 3) := by decide +kernel
theorem dX6_ford_8 : decode cX6_ford 8 = .ok (.iload_n 2, 1) := by decide +kernel
theorem dX6_ford_9 : decode cX6_ford 9 = .ok (.iconst 0, 1) := by decide +kernel
theorem dX6_ford_10 : decode cX6_ford 10 = .ok (.bipush 100, 2) := by decide +kernel
theorem dX6_ford_12 : decode cX6_ford 12 = .ok (.invokestatic 59, 3) := by decide +kernel
theorem dX6_ford_15 : decode cX6_ford 15 = .ok (.ifCond .ne 6, 3) := by decide +kernel
theorem dX6_ford_18 : decode cX6_ford 18 = .ok (.ldc 63, 2) := by decide +kernel
theorem dX6_ford_20 : decode cX6_ford 20 = .ok (.ireturn, 1) := by decide +kernel
theorem dX6_ford_21 : decode cX6_ford 21 = .ok (.iload_n 3, 1) := by decide +kernel
theorem dX6_ford_22 : decode cX6_ford 22 = .ok (.iconst 0, 1) := by decide +kernel
theorem dX6_ford_23 : decode cX6_ford 23 = .ok (.iconst 3, 1) := by decide +kernel
theorem dX6_ford_24 : decode cX6_ford 24 = .ok (.invokestatic 59, 3) := by decide +kernel
theorem dX6_ford_27 : decode cX6_ford 27 = .ok (.ifCond .eq 13, 3) := by decide +kernel
theorem dX6_ford_30 : decode cX6_ford 30 = .ok (.iload 4, 2) := by decide +kernel
theorem dX6_ford_32 : decode cX6_ford 32 = .ok (.iconst 0, 1) := by decide +kernel
theorem dX6_ford_33 : decode cX6_ford 33 = .ok (.iconst 1, 1) := by decide +kernel
theorem dX6_ford_34 : decode cX6_ford 34 = .ok (.invokestatic 59, 3) := by decide +kernel
theorem dX6_ford_37 : decode cX6_ford 37 = .ok (.ifCond .ne 6, 3) := by decide +kernel
theorem dX6_ford_40 : decode cX6_ford 40 = .ok (.ldc 63, 2) := by decide +kernel
theorem dX6_ford_42 : decode cX6_ford 42 = .ok (.ireturn, 1) := by decide +kernel
theorem dX6_ford_43 : decode cX6_ford 43 = .ok (.aload_n 0, 1) := by decide +kernel
theorem dX6_ford_44 : decode cX6_ford 44 = .ok (.getfield 43, 3) := by decide +kernel
theorem dX6_ford_47 : decode cX6_ford 47 = .ok (.aload_n 0, 1) := by decide +kernel
theorem dX6_ford_48 : decode cX6_ford 48 = .ok (.getfield 25, 3) := by decide +kernel
theorem dX6_ford_51 : decode cX6_ford 51 = .ok (.iload_n 1, 1) := by decide +kernel
theorem dX6_ford_52 : decode cX6_ford 52 = .ok (.iload_n 2, 1) := by decide +kernel
theorem dX6_ford_53 : decode cX6_ford 53 = .ok (.iload_n 3, 1) := by decide +kernel
theorem dX6_ford_54 : decode cX6_ford 54 = .ok (.iload 4, 2) := by decide +kernel
theorem dX6_ford_56 : decode cX6_ford 56 = .ok (.ifCond .ne 7, 3) := by decide +kernel
theorem dX6_ford_59 : decode cX6_ford 59 = .ok (.iconst 1, 1) := by decide +kernel
theorem dX6_ford_60 : decode cX6_ford 60 = .ok (.goto 4, 3) := by decide +kernel
theorem dX6_ford_63 : decode cX6_ford 63 = .ok (.iconst 0, 1) := by decide +kernel
theorem dX6_ford_64 : decode cX6_ford 64 = .ok (.invokevirtual 219, 3) := by decide +kernel
theorem dX6_ford_67 : decode cX6_ford 67 = .ok (.ireturn, 1) := by decide +kernel
theorem dX6_goat_0 : decode cX6_goat 0 = .ok (.aload_n 0, 1) := by decide +kernel
theorem dX6_goat_1 : decode cX6_goat 1 = .ok (.iload_n 1, 1) := by decide +kernel
theorem dX6_goat_2 : decode cX6_goat 2 = .ok (.invokevirtual 146, 3) := by decide +kernel
theorem dX6_goat_5 : decode cX6_goat 5 = .ok (.ifCond .eq 10, 3) := by decide +kernel
theorem dX6_goat_8 : decode cX6_goat 8 = .ok (.iload_n 2, 1) := by decide +kernel
theorem dX6_goat_9 : decode cX6_goat 9 = .ok (.invokestatic 195, 3) := by decide +kernel
theorem dX6_goat_12 : decode cX6_goat 12 = .ok (.ifCond .ne 6, 3) := by decide +kernel
theorem dX6_goat_15 : decode cX6_goat 15 = .ok (.ldc 63, 2) := by decide +kernel
theorem dX6_goat_17 : decode cX6_goat 17 = .ok (.ireturn, 1) := by decide +kernel
theorem dX6_goat_18 : decode cX6_goat 18 = .ok (.aload_n 0, 1) := by decide +kernel
theorem dX6_goat_19 : decode cX6_goat 19 = .ok (.getfield 43, 3) := by decide +kernel
theorem dX6_goat_22 : decode cX6_goat 22 = .ok (.aload_n 0, 1) := by decide +kernel
theorem dX6_goat_23 : decode cX6_goat 23 = .ok (.getfield 25, 3) := by decide +kernel
theorem dX6_goat_26 : decode cX6_goat 26 = .ok (.iload_n 1, 1) := by decide +kernel
theorem dX6_goat_27 : decode cX6_goat 27 = .ok (.iload_n 2, 1) := by decide +kernel
theorem dX6_goat_28 : decode cX6_goat 28 = .ok (.invokevirtual 222, 3) := by decide +kernel
theorem dX6_goat_31 : decode cX6_goat 31 = .ok (.ireturn, 1) := by decide +kernel
theorem dX6_image_0 : decode cX6_image 0 = .ok (.iload_n 1, 1) := by decide +kernel
theorem dX6_image_1 : decode cX6_image 1 = .ok (.iconst 0, 1) := by decide +kernel
theorem dX6_image_2 : decode cX6_image 2 = .ok (.iconst 1, 1) := by decide +kernel
theorem dX6_image_3 : decode cX6_image 3 = .ok (.invokestatic 59, 3) := by decide +kernel
theorem dX6_image_6 : decode cX6_image 6 = .ok (.ifCond .ne 6, 3) := by decide +kernel
theorem dX6_image_9 : decode cX6_image 9 = .ok (.ldc 63, 2) := by decide +kernel
theorem dX6_image_11 : decode cX6_image 11 = .ok (.ireturn, 1) := by decide +kernel
theorem dX6_image_12 : decode cX6_image 12 = .ok (.aload_n 0, 1) := by decide +kernel
theorem dX6_image_13 : decode cX6_image 13 = .ok (.getfield 25, 3) := by decide +kernel
theorem dX6_image_16 : decode cX6_image 16 = .ok (.getfield 132, 3) := by decide +kernel
theorem dX6_image_19 : decode cX6_image 19 = .ok (.ifCond .ne 6, 3) := by decide +kernel
theorem dX6_image_22 : decode cX6_image 22 = .ok (.ldc 135, 2) := by decide +kernel
theorem dX6_image_24 : decode cX6_image 24 = .ok (.ireturn, 1) := by decide +kernel
theorem dX6_image_25 : decode cX6_image 25 = .ok (.aload_n 0, 1) := by decide +kernel
theorem dX6_image_26 : decode cX6_image 26 = .ok (.getfield 29, 3) := by decide +kernel
theorem dX6_image_29 : decode cX6_image 29 = .ok (.iload_n 1, 1) := by decide +kernel
theorem dX6_image_30 : decode cX6_image 30 = .ok (.aaload, 1) := by decide +kernel
theorem dX6_image_31 : decode cX6_image 31 = .ok (.aload_n 0, 1) := by decide +kernel
theorem dX6_image_32 : decode cX6_image 32 = .ok (.getfield 25, 3) := by decide +kernel
theorem dX6_image_35 : decode cX6_image 35 = .ok (.invokevirtual 124, 3) := by decide +kernel
theorem dX6_image_38 : decode cX6_image 38 = .ok (.iconst 1, 1) := by decide +kernel
theorem dX6_image_39 : decode cX6_image 39 = .ok (.ireturn, 1) := by decide +kernel
theorem dX6_restore_0 : decode cX6_restore 0 = .ok (.iload_n 1, 1) := by decide +kernel
theorem dX6_restore_1 : decode cX6_restore 1 = .ok (.iconst 0, 1) := by decide +kernel
theorem dX6_restore_2 : decode cX6_restore 2 = .ok (.iconst 1, 1) := by decide +kernel
theorem dX6_restore_3 : decode cX6_restore 3 = .ok (.invokestatic 59, 3) := by decide +kernel
theorem dX6_restore_6 : decode cX6_restore 6 = .ok (.ifCond .ne 6, 3) := by decide +kernel
theorem dX6_restore_9 : decode cX6_restore 9 = .ok (.ldc 63, 2) := by decide +kernel
theorem dX6_restore_11 : decode cX6_restore 11 = .ok (.ireturn, 1) := by decide +kernel
theorem dX6_restore_12 : decode cX6_restore 12 = .ok (.aload_n 0, 1) := by decide +kernel
theorem dX6_restore_13 : decode cX6_restore 13 = .ok (.getfield 29, 3) := by decide +kernel
theorem dX6_restore_16 : decode cX6_restore 16 = .ok (.iload_n 1, 1) := by decide +kernel
theorem dX6_restore_17 : decode cX6_restore 17 = .ok (.aaload, 1) := by decide +kernel
theorem dX6_restore_18 : decode cX6_restore 18 = .ok (.getfield 132, 3) := by decide +kernel
theorem dX6_restore_21 : decode cX6_restore 21 = .ok (.ifCond .ne 6, 3) := by decide +kernel
theorem dX6_restore_24 : decode cX6_restore 24 = .ok (.ldc 135, 2) := by decide +kernel
theorem dX6_restore_26 : decode cX6_restore 26 = .ok (.ireturn, 1) := by decide +kernel
theorem dX6_restore_27 : decode cX6_restore 27 = .ok (.aload_n 0, 1) := by decide +kernel
theorem dX6_restore_28 : decode cX6_restore 28 = .ok (.getfield 25, 3) := by decide +kernel
theorem dX6_restore_31 : decode cX6_restore 31 = .ok (.aload_n 0, 1) := by decide +kernel
theorem dX6_restore_32 : decode cX6_restore 32 = .ok (.getfield 29, 3) := by decide +kernel
theorem dX6_restore_35 : decode cX6_restore 35 = .ok (.iload_n 1, 1) := by decide +kernel
theorem dX6_restore_36 : decode cX6_restore 36 = .ok (.aaload, 1) := by decide +kernel
theorem dX6_restore_37 : decode cX6_restore 37 = .ok (.invokevirtual 124, 3) := by decide +kernel
theorem dX6_restore_40 : decode cX6_restore 40 = .ok (.aload_n 0, 1) := by decide +kernel
theorem dX6_restore_41 : decode cX6_restore 41 = .ok (.getfield 36, 3) := by decide +kernel
theorem dX6_restore_44 : decode cX6_restore 44 = .ok (.iconst 0, 1) := by decide +kernel
theorem dX6_restore_45 : decode cX6_restore 45 = .ok (.putfield 128, 3) := by decide +kernel
theorem dX6_restore_48 : decode cX6_restore 48 = .ok (.iconst 1, 1) := by decide +kernel
theorem dX6_restore_49 : decode cX6_restore 49 = .ok (.ireturn, 1) := by decide +kernel
theorem dX6_kind_0 : decode cX6_kind 0 = .ok (.aload_n 0, 1) := by decide +kernel
theorem dX6_kind_1 : decode cX6_kind 1 = .ok (.iload_n 1, 1) := by decide +kernel
theorem dX6_kind_2 : decode cX6_kind 2 = .ok (.invokevirtual 146, 3) := by decide +kernel
theorem dX6_kind_5 : decode cX6_kind 5 = .ok (.ifCond .eq 15, 3) := by decide +kernel
theorem dX6_kind_8 : decode cX6_kind 8 = .ok (.aload_n 0, 1) := by decide +kernel
theorem dX6_kind_9 : decode cX6_kind 9 = .ok (.getfield 25, 3) := by decide +kernel
theorem dX6_kind_12 : decode cX6_kind 12 = .ok (.getfield 225, 3) := by decide +kernel
theorem dX6_kind_15 : decode cX6_kind 15 = .ok (.iload_n 1, 1) := by decide +kernel
theorem dX6_kind_16 : decode cX6_kind 16 = .ok (.iaload, 1) := by decide +kernel
theorem dX6_kind_17 : decode cX6_kind 17 = .ok (.goto 5, 3) := by decide +kernel
theorem dX6_kind_20 : decode cX6_kind 20 = .ok (.ldc 63, 2) := by decide +kernel
theorem dX6_kind_22 : decode cX6_kind 22 = .ok (.ireturn, 1) := by decide +kernel
theorem dX6_as_0 : decode cX6_as 0 = .ok (.aload_n 0, 1) := by decide +kernel
theorem dX6_as_1 : decode cX6_as 1 = .ok (.iload_n 1, 1) := by decide +kernel
theorem dX6_as_2 : decode cX6_as 2 = .ok (.invokevirtual 146, 3) := by decide +kernel
theorem dX6_as_5 : decode cX6_as 5 = .ok (.ifCond .eq 12, 3) := by decide +kernel
theorem dX6_as_8 : decode cX6_as 8 = .ok (.iload_n 2, 1) := by decide +kernel
theorem dX6_as_9 : decode cX6_as 9 = .ok (.iconst 0, 1) := by decide +kernel
theorem dX6_as_10 : decode cX6_as 10 = .ok (.iconst 5, 1) := by decide +kernel
theorem dX6_as_11 : decode cX6_as 11 = .ok (.invokestatic 59, 3) := by decide +kernel
theorem dX6_as_14 : decode cX6_as 14 = .ok (.ifCond .ne 6, 3) := by decide +kernel
theorem dX6_as_17 : decode cX6_as 17 = .ok (.ldc 63, 2) := by decide +kernel
theorem dX6_as_19 : decode cX6_as 19 = .ok (.ireturn, 1) := by decide +kernel
theorem dX6_as_20 : decode cX6_as 20 = .ok (.aload_n 0, 1) := by decide +kernel
theorem dX6_as_21 : decode cX6_as 21 = .ok (.getfield 25, 3) := by decide +kernel
theorem dX6_as_24 : decode cX6_as 24 = .ok (.getfield 225, 3) := by decide +kernel
theorem dX6_as_27 : decode cX6_as 27 = .ok (.iload_n 1, 1) := by decide +kernel
theorem dX6_as_28 : decode cX6_as 28 = .ok (.iaload, 1) := by decide +kernel
theorem dX6_as_29 : decode cX6_as 29 = .ok (.iload_n 2, 1) := by decide +kernel
theorem dX6_as_30 : decode cX6_as 30 = .ok (.invokestatic 228, 3) := by decide +kernel
theorem dX6_as_33 : decode cX6_as 33 = .ok (.ifCond .ne 9, 3) := by decide +kernel
theorem dX6_as_36 : decode cX6_as 36 = .ok (.aload_n 0, 1) := by decide +kernel
theorem dX6_as_37 : decode cX6_as 37 = .ok (.iconst 3, 1) := by decide +kernel
theorem dX6_as_38 : decode cX6_as 38 = .ok (.invokevirtual 64, 3) := by decide +kernel
theorem dX6_as_41 : decode cX6_as 41 = .ok (.ireturn, 1) := by decide +kernel
theorem dX6_as_42 : decode cX6_as 42 = .ok (.aload_n 0, 1) := by decide +kernel
theorem dX6_as_43 : decode cX6_as 43 = .ok (.iconst 0, 1) := by decide +kernel
theorem dX6_as_44 : decode cX6_as 44 = .ok (.putfield 72, 3) := by decide +kernel
theorem dX6_as_47 : decode cX6_as 47 = .ok (.iload_n 1, 1) := by decide +kernel
theorem dX6_as_48 : decode cX6_as 48 = .ok (.ireturn, 1) := by decide +kernel
theorem dX6_ask_0 : decode cX6_ask 0 = .ok (.aload_n 0, 1) := by decide +kernel
theorem dX6_ask_1 : decode cX6_ask 1 = .ok (.iload_n 1, 1) := by decide +kernel
theorem dX6_ask_2 : decode cX6_ask 2 = .ok (.invokevirtual 146, 3) := by decide +kernel
theorem dX6_ask_5 : decode cX6_ask 5 = .ok (.ifCond .eq 12, 3) := by decide +kernel
theorem dX6_ask_8 : decode cX6_ask 8 = .ok (.iload_n 2, 1) := by decide +kernel
theorem dX6_ask_9 : decode cX6_ask 9 = .ok (.iconst 0, 1) := by decide +kernel
theorem dX6_ask_10 : decode cX6_ask 10 = .ok (.iconst 1, 1) := by decide +kernel
theorem dX6_ask_11 : decode cX6_ask 11 = .ok (.invokestatic 59, 3) := by decide +kernel
theorem dX6_ask_14 : decode cX6_ask 14 = .ok (.ifCond .ne 6, 3) := by decide +kernel
theorem dX6_ask_17 : decode cX6_ask 17 = .ok (.ldc 63, 2) := by decide +kernel
theorem dX6_ask_19 : decode cX6_ask 19 = .ok (.ireturn, 1) := by decide +kernel
theorem dX6_ask_20 : decode cX6_ask 20 = .ok (.aload_n 0, 1) := by decide +kernel
theorem dX6_ask_21 : decode cX6_ask 21 = .ok (.getfield 50, 3) := by decide +kernel
theorem dX6_ask_24 : decode cX6_ask 24 = .ok (.aload_n 0, 1) := by decide +kernel
theorem dX6_ask_25 : decode cX6_ask 25 = .ok (.getfield 25, 3) := by decide +kernel
theorem dX6_ask_28 : decode cX6_ask 28 = .ok (.iload_n 1, 1) := by decide +kernel
theorem dX6_ask_29 : decode cX6_ask 29 = .ok (.iload_n 2, 1) := by decide +kernel
theorem dX6_ask_30 : decode cX6_ask 30 = .ok (.ifCond .ne 9, 3) := by decide +kernel
theorem dX6_ask_33 : decode cX6_ask 33 = .ok (.getstatic 231, 3) := by decide +kernel
theorem dX6_ask_36 : decode cX6_ask 36 = .ok (.goto 6, 3) := by decide +kernel
theorem dX6_ask_39 : decode cX6_ask 39 = .ok (.getstatic 234, 3) := by decide +kernel
theorem dX6_ask_42 : decode cX6_ask 42 = .ok (.invokevirtual 237, 3) := by decide +kernel
theorem dX6_ask_45 : decode cX6_ask 45 = .ok (.ireturn, 1) := by decide +kernel
theorem dX6_trace_0 : decode cX6_trace 0 = .ok (.iload_n 1, 1) := by decide +kernel
theorem dX6_trace_1 : decode cX6_trace 1 = .ok (.iconst 0, 1) := by decide +kernel
theorem dX6_trace_2 : decode cX6_trace 2 = .ok (.aload_n 0, 1) := by decide +kernel
theorem dX6_trace_3 : decode cX6_trace 3 = .ok (.getfield 50, 3) := by decide +kernel
theorem dX6_trace_6 : decode cX6_trace 6 = .ok (.getfield 240, 3) := by decide +kernel
theorem dX6_trace_9 : decode cX6_trace 9 = .ok (.iconst 1, 1) := by decide +kernel
theorem dX6_trace_10 : decode cX6_trace 10 = .ok (.isub, 1) := by decide +kernel
theorem dX6_trace_11 : decode cX6_trace 11 = .ok (.invokestatic 59, 3) := by decide +kernel
theorem dX6_trace_14 : decode cX6_trace 14 = .ok (.ifCond .eq 15, 3) := by decide +kernel
theorem dX6_trace_17 : decode cX6_trace 17 = .ok (.aload_n 0, 1) := by decide +kernel
theorem dX6_trace_18 : decode cX6_trace 18 = .ok (.getfield 50, 3) := by decide +kernel
theorem dX6_trace_21 : decode cX6_trace 21 = .ok (.getfield 241, 3) := by decide +kernel
theorem dX6_trace_24 : decode cX6_trace 24 = .ok (.iload_n 1, 1) := by decide +kernel
theorem dX6_trace_25 : decode cX6_trace 25 = .ok (.iaload, 1) := by decide +kernel
theorem dX6_trace_26 : decode cX6_trace 26 = .ok (.goto 5, 3) := by decide +kernel
theorem dX6_trace_29 : decode cX6_trace 29 = .ok (.ldc 152, 2) := by decide +kernel
theorem dX6_trace_31 : decode cX6_trace 31 = .ok (.ireturn, 1) := by decide +kernel
theorem dX6_count_0 : decode cX6_count 0 = .ok (.iload_n 1, 1) := by decide +kernel
theorem dX6_count_1 : decode cX6_count 1 = .ok (.tableswitch 96 0 6 #[43, 48, 56, 64, 72, 80, 88], 43) := by decide +kernel
theorem dX6_count_44 : decode cX6_count 44 = .ok (.aload_n 0, 1) := by decide +kernel
theorem dX6_count_45 : decode cX6_count 45 = .ok (.invokevirtual 244, 3) := by decide +kernel
theorem dX6_count_48 : decode cX6_count 48 = .ok (.ireturn, 1) := by decide +kernel
theorem dX6_count_49 : decode cX6_count 49 = .ok (.aload_n 0, 1) := by decide +kernel
theorem dX6_count_50 : decode cX6_count 50 = .ok (.getfield 25, 3) := by decide +kernel
theorem dX6_count_53 : decode cX6_count 53 = .ok (.getfield 129, 3) := by decide +kernel
theorem dX6_count_56 : decode cX6_count 56 = .ok (.ireturn, 1) := by decide +kernel
theorem dX6_count_57 : decode cX6_count 57 = .ok (.aload_n 0, 1) := by decide +kernel
theorem dX6_count_58 : decode cX6_count 58 = .ok (.getfield 25, 3) := by decide +kernel
theorem dX6_count_61 : decode cX6_count 61 = .ok (.getfield 136, 3) := by decide +kernel
theorem dX6_count_64 : decode cX6_count 64 = .ok (.ireturn, 1) := by decide +kernel
theorem dX6_count_65 : decode cX6_count 65 = .ok (.aload_n 0, 1) := by decide +kernel
theorem dX6_count_66 : decode cX6_count 66 = .ok (.getfield 25, 3) := by decide +kernel
theorem dX6_count_69 : decode cX6_count 69 = .ok (.invokevirtual 247, 3) := by decide +kernel
theorem dX6_count_72 : decode cX6_count 72 = .ok (.ireturn, 1) := by decide +kernel
theorem dX6_count_73 : decode cX6_count 73 = .ok (.aload_n 0, 1) := by decide +kernel
theorem dX6_count_74 : decode cX6_count 74 = .ok (.getfield 36, 3) := by decide +kernel
theorem dX6_count_77 : decode cX6_count 77 = .ok (.getfield 128, 3) := by decide +kernel
theorem dX6_count_80 : decode cX6_count 80 = .ok (.ireturn, 1) := by decide +kernel
theorem dX6_count_81 : decode cX6_count 81 = .ok (.aload_n 0, 1) := by decide +kernel
theorem dX6_count_82 : decode cX6_count 82 = .ok (.getfield 25, 3) := by decide +kernel
theorem dX6_count_85 : decode cX6_count 85 = .ok (.invokevirtual 250, 3) := by decide +kernel
theorem dX6_count_88 : decode cX6_count 88 = .ok (.ireturn, 1) := by decide +kernel
theorem dX6_count_89 : decode cX6_count 89 = .ok (.aload_n 0, 1) := by decide +kernel
theorem dX6_count_90 : decode cX6_count 90 = .ok (.getfield 18, 3) := by decide +kernel
theorem dX6_count_93 : decode cX6_count 93 = .ok (.getfield 103, 3) := by decide +kernel
theorem dX6_count_96 : decode cX6_count 96 = .ok (.ireturn, 1) := by decide +kernel
theorem dX6_count_97 : decode cX6_count 97 = .ok (.ldc 63, 2) := by decide +kernel
theorem dX6_count_99 : decode cX6_count 99 = .ok (.ireturn, 1) := by decide +kernel
theorem dX6_status_0 : decode cX6_status 0 = .ok (.aload_n 0, 1) := by decide +kernel
theorem dX6_status_1 : decode cX6_status 1 = .ok (.getfield 72, 3) := by decide +kernel
theorem dX6_status_4 : decode cX6_status 4 = .ok (.ireturn, 1) := by decide +kernel
theorem dX6_found_0 : decode cX6_found 0 = .ok (.aload_n 0, 1) := by decide +kernel
theorem dX6_found_1 : decode cX6_found 1 = .ok (.iload_n 1, 1) := by decide +kernel
theorem dX6_found_2 : decode cX6_found 2 = .ok (.putfield 72, 3) := by decide +kernel
theorem dX6_found_5 : decode cX6_found 5 = .ok (.ldc 253, 2) := by decide +kernel
theorem dX6_found_7 : decode cX6_found 7 = .ok (.iload_n 1, 1) := by decide +kernel
theorem dX6_found_8 : decode cX6_found 8 = .ok (.isub, 1) := by decide +kernel
theorem dX6_found_9 : decode cX6_found 9 = .ok (.ireturn, 1) := by decide +kernel
theorem dX6_isCart_0 : decode cX6_isCart 0 = .ok (.iload_n 1, 1) := by decide +kernel
theorem dX6_isCart_1 : decode cX6_isCart 1 = .ok (.iconst 0, 1) := by decide +kernel
theorem dX6_isCart_2 : decode cX6_isCart 2 = .ok (.aload_n 0, 1) := by decide +kernel
theorem dX6_isCart_3 : decode cX6_isCart 3 = .ok (.getfield 25, 3) := by decide +kernel
theorem dX6_isCart_6 : decode cX6_isCart 6 = .ok (.getfield 129, 3) := by decide +kernel
theorem dX6_isCart_9 : decode cX6_isCart 9 = .ok (.iconst 1, 1) := by decide +kernel
theorem dX6_isCart_10 : decode cX6_isCart 10 = .ok (.isub, 1) := by decide +kernel
theorem dX6_isCart_11 : decode cX6_isCart 11 = .ok (.invokestatic 59, 3) := by decide +kernel
theorem dX6_isCart_14 : decode cX6_isCart 14 = .ok (.ireturn, 1) := by decide +kernel
theorem dX6_rowsThere_0 : decode cX6_rowsThere 0 = .ok (.iconst 0, 1) := by decide +kernel
theorem dX6_rowsThere_1 : decode cX6_rowsThere 1 = .ok (.istore_n 1, 1) := by decide +kernel
theorem dX6_rowsThere_2 : decode cX6_rowsThere 2 = .ok (.iconst 0, 1) := by decide +kernel
theorem dX6_rowsThere_3 : decode cX6_rowsThere 3 = .ok (.istore_n 2, 1) := by decide +kernel
theorem dX6_rowsThere_4 : decode cX6_rowsThere 4 = .ok (.iload_n 2, 1) := by decide +kernel
theorem dX6_rowsThere_5 : decode cX6_rowsThere 5 = .ok (.bipush 8, 2) := by decide +kernel
theorem dX6_rowsThere_7 : decode cX6_rowsThere 7 = .ok (.if_icmp .ge 24, 3) := by decide +kernel
theorem dX6_rowsThere_10 : decode cX6_rowsThere 10 = .ok (.aload_n 0, 1) := by decide +kernel
theorem dX6_rowsThere_11 : decode cX6_rowsThere 11 = .ok (.getfield 11, 3) := by decide +kernel
theorem dX6_rowsThere_14 : decode cX6_rowsThere 14 = .ok (.iload_n 2, 1) := by decide +kernel
theorem dX6_rowsThere_15 : decode cX6_rowsThere 15 = .ok (.aaload, 1) := by decide +kernel
theorem dX6_rowsThere_16 : decode cX6_rowsThere 16 = .ok (.getfield 76, 3) := by decide +kernel
theorem dX6_rowsThere_19 : decode cX6_rowsThere 19 = .ok (.ifCond .eq 6, 3) := by decide +kernel
theorem dX6_rowsThere_22 : decode cX6_rowsThere 22 = .ok (.iinc 1 1, 3) := by decide +kernel
theorem dX6_rowsThere_25 : decode cX6_rowsThere 25 = .ok (.iinc 2 1, 3) := by decide +kernel
theorem dX6_rowsThere_28 : decode cX6_rowsThere 28 = .ok (.goto (-24), 3) := by decide +kernel
theorem dX6_rowsThere_31 : decode cX6_rowsThere 31 = .ok (.iload_n 1, 1) := by decide +kernel
theorem dX6_rowsThere_32 : decode cX6_rowsThere 32 = .ok (.ireturn, 1) := by decide +kernel
theorem dX6_isRow_0 : decode cX6_isRow 0 = .ok (.iload_n 0, 1) := by decide +kernel
theorem dX6_isRow_1 : decode cX6_isRow 1 = .ok (.iconst 0, 1) := by decide +kernel
theorem dX6_isRow_2 : decode cX6_isRow 2 = .ok (.bipush 7, 2) := by decide +kernel
theorem dX6_isRow_4 : decode cX6_isRow 4 = .ok (.invokestatic 59, 3) := by decide +kernel
theorem dX6_isRow_7 : decode cX6_isRow 7 = .ok (.ireturn, 1) := by decide +kernel
theorem dX6_isHour_0 : decode cX6_isHour 0 = .ok (.iload_n 0, 1) := by decide +kernel
theorem dX6_isHour_1 : decode cX6_isHour 1 = .ok (.iconst 0, 1) := by decide +kernel
theorem dX6_isHour_2 : decode cX6_isHour 2 = .ok (.bipush 11, 2) := by decide +kernel
theorem dX6_isHour_4 : decode cX6_isHour 4 = .ok (.invokestatic 59, 3) := by decide +kernel
theorem dX6_isHour_7 : decode cX6_isHour 7 = .ok (.ireturn, 1) := by decide +kernel
theorem dX6_isWithin_0 : decode cX6_isWithin 0 = .ok (.iload_n 0, 1) := by decide +kernel
theorem dX6_isWithin_1 : decode cX6_isWithin 1 = .ok (.iload_n 1, 1) := by decide +kernel
theorem dX6_isWithin_2 : decode cX6_isWithin 2 = .ok (.if_icmp .lt 12, 3) := by decide +kernel
theorem dX6_isWithin_5 : decode cX6_isWithin 5 = .ok (.iload_n 0, 1) := by decide +kernel
theorem dX6_isWithin_6 : decode cX6_isWithin 6 = .ok (.iload_n 2, 1) := by decide +kernel
theorem dX6_isWithin_7 : decode cX6_isWithin 7 = .ok (.if_icmp .gt 7, 3) := by decide +kernel
theorem dX6_isWithin_10 : decode cX6_isWithin 10 = .ok (.iconst 1, 1) := by decide +kernel
theorem dX6_isWithin_11 : decode cX6_isWithin 11 = .ok (.goto 4, 3) := by decide +kernel
theorem dX6_isWithin_14 : decode cX6_isWithin 14 = .ok (.iconst 0, 1) := by decide +kernel
theorem dX6_isWithin_15 : decode cX6_isWithin 15 = .ok (.ireturn, 1) := by decide +kernel
theorem dX6_isOfKind_0 : decode cX6_isOfKind 0 = .ok (.iload_n 0, 1) := by decide +kernel
theorem dX6_isOfKind_1 : decode cX6_isOfKind 1 = .ok (.istore_n 2, 1) := by decide +kernel
theorem dX6_isOfKind_2 : decode cX6_isOfKind 2 = .ok (.iconst 0, 1) := by decide +kernel
theorem dX6_isOfKind_3 : decode cX6_isOfKind 3 = .ok (.istore_n 3, 1) := by decide +kernel
theorem dX6_isOfKind_4 : decode cX6_isOfKind 4 = .ok (.iload_n 3, 1) := by decide +kernel
theorem dX6_isOfKind_5 : decode cX6_isOfKind 5 = .ok (.bipush 6, 2) := by decide +kernel
theorem dX6_isOfKind_7 : decode cX6_isOfKind 7 = .ok (.if_icmp .ge 29, 3) := by decide +kernel
theorem dX6_isOfKind_10 : decode cX6_isOfKind 10 = .ok (.iload_n 2, 1) := by decide +kernel
theorem dX6_isOfKind_11 : decode cX6_isOfKind 11 = .ok (.iload_n 1, 1) := by decide +kernel
theorem dX6_isOfKind_12 : decode cX6_isOfKind 12 = .ok (.if_icmp .eq 24, 3) := by decide +kernel
theorem dX6_isOfKind_15 : decode cX6_isOfKind 15 = .ok (.iload_n 2, 1) := by decide +kernel
theorem dX6_isOfKind_16 : decode cX6_isOfKind 16 = .ok (.iconst 0, 1) := by decide +kernel
theorem dX6_isOfKind_17 : decode cX6_isOfKind 17 = .ok (.iconst 5, 1) := by decide +kernel
theorem dX6_isOfKind_18 : decode cX6_isOfKind 18 = .ok (.invokestatic 59, 3) := by decide +kernel
theorem dX6_isOfKind_21 : decode cX6_isOfKind 21 = .ok (.ifCond .eq 15, 3) := by decide +kernel
theorem dX6_isOfKind_24 : decode cX6_isOfKind 24 = .ok (.getstatic 254, 3) := by decide +kernel
theorem dX6_isOfKind_27 : decode cX6_isOfKind 27 = .ok (.iload_n 2, 1) := by decide +kernel
theorem dX6_isOfKind_28 : decode cX6_isOfKind 28 = .ok (.iaload, 1) := by decide +kernel
theorem dX6_isOfKind_29 : decode cX6_isOfKind 29 = .ok (.istore_n 2, 1) := by decide +kernel
theorem dX6_isOfKind_30 : decode cX6_isOfKind 30 = .ok (.iinc 3 1, 3) := by decide +kernel
theorem dX6_isOfKind_33 : decode cX6_isOfKind 33 = .ok (.goto (-29), 3) := by decide +kernel
theorem dX6_isOfKind_36 : decode cX6_isOfKind 36 = .ok (.iload_n 2, 1) := by decide +kernel
theorem dX6_isOfKind_37 : decode cX6_isOfKind 37 = .ok (.iload_n 1, 1) := by decide +kernel
theorem dX6_isOfKind_38 : decode cX6_isOfKind 38 = .ok (.if_icmp .ne 7, 3) := by decide +kernel
theorem dX6_isOfKind_41 : decode cX6_isOfKind 41 = .ok (.iconst 1, 1) := by decide +kernel
theorem dX6_isOfKind_42 : decode cX6_isOfKind 42 = .ok (.goto 4, 3) := by decide +kernel
theorem dX6_isOfKind_45 : decode cX6_isOfKind 45 = .ok (.iconst 0, 1) := by decide +kernel
theorem dX6_isOfKind_46 : decode cX6_isOfKind 46 = .ok (.ireturn, 1) := by decide +kernel
theorem dX6_bodyFor_0 : decode cX6_bodyFor 0 = .ok (.iload_n 1, 1) := by decide +kernel
theorem dX6_bodyFor_1 : decode cX6_bodyFor 1 = .ok (.istore_n 2, 1) := by decide +kernel
theorem dX6_bodyFor_2 : decode cX6_bodyFor 2 = .ok (.iconst 0, 1) := by decide +kernel
theorem dX6_bodyFor_3 : decode cX6_bodyFor 3 = .ok (.istore_n 3, 1) := by decide +kernel
theorem dX6_bodyFor_4 : decode cX6_bodyFor 4 = .ok (.iload_n 3, 1) := by decide +kernel
theorem dX6_bodyFor_5 : decode cX6_bodyFor 5 = .ok (.bipush 6, 2) := by decide +kernel
theorem dX6_bodyFor_7 : decode cX6_bodyFor 7 = .ok (.if_icmp .ge 34, 3) := by decide +kernel
theorem dX6_bodyFor_10 : decode cX6_bodyFor 10 = .ok (.iload_n 2, 1) := by decide +kernel
theorem dX6_bodyFor_11 : decode cX6_bodyFor 11 = .ok (.iconst 0, 1) := by decide +kernel
theorem dX6_bodyFor_12 : decode cX6_bodyFor 12 = .ok (.iconst 5, 1) := by decide +kernel
theorem dX6_bodyFor_13 : decode cX6_bodyFor 13 = .ok (.invokestatic 59, 3) := by decide +kernel
theorem dX6_bodyFor_16 : decode cX6_bodyFor 16 = .ok (.ifCond .eq 25, 3) := by decide +kernel
theorem dX6_bodyFor_19 : decode cX6_bodyFor 19 = .ok (.aload_n 0, 1) := by decide +kernel
theorem dX6_bodyFor_20 : decode cX6_bodyFor 20 = .ok (.iload_n 2, 1) := by decide +kernel
theorem dX6_bodyFor_21 : decode cX6_bodyFor 21 = .ok (.iaload, 1) := by decide +kernel
theorem dX6_bodyFor_22 : decode cX6_bodyFor 22 = .ok (.ifCond .eq 7, 3) := by decide +kernel
theorem dX6_bodyFor_25 : decode cX6_bodyFor 25 = .ok (.aload_n 0, 1) := by decide +kernel
theorem dX6_bodyFor_26 : decode cX6_bodyFor 26 = .ok (.iload_n 2, 1) := by decide +kernel
theorem dX6_bodyFor_27 : decode cX6_bodyFor 27 = .ok (.iaload, 1) := by decide +kernel
theorem dX6_bodyFor_28 : decode cX6_bodyFor 28 = .ok (.ireturn, 1) := by decide +kernel
theorem dX6_bodyFor_29 : decode cX6_bodyFor 29 = .ok (.getstatic 254, 3) := by decide +kernel
theorem dX6_bodyFor_32 : decode cX6_bodyFor 32 = .ok (.iload_n 2, 1) := by decide +kernel
theorem dX6_bodyFor_33 : decode cX6_bodyFor 33 = .ok (.iaload, 1) := by decide +kernel
theorem dX6_bodyFor_34 : decode cX6_bodyFor 34 = .ok (.istore_n 2, 1) := by decide +kernel
theorem dX6_bodyFor_35 : decode cX6_bodyFor 35 = .ok (.iinc 3 1, 3) := by decide +kernel
theorem dX6_bodyFor_38 : decode cX6_bodyFor 38 = .ok (.goto (-34), 3) := by decide +kernel
theorem dX6_bodyFor_41 : decode cX6_bodyFor 41 = .ok (.aload_n 0, 1) := by decide +kernel
theorem dX6_bodyFor_42 : decode cX6_bodyFor 42 = .ok (.iconst 0, 1) := by decide +kernel
theorem dX6_bodyFor_43 : decode cX6_bodyFor 43 = .ok (.iaload, 1) := by decide +kernel
theorem dX6_bodyFor_44 : decode cX6_bodyFor 44 = .ok (.ireturn, 1) := by decide +kernel
