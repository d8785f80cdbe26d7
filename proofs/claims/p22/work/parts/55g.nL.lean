/-! printed: decode rows and words of the law's methods -/
theorem dL_cellar_0 : decode cL_cellar 0 = .ok (.new 11, 3) := by decide +kernel
theorem dL_cellar_3 : decode cL_cellar 3 = .ok (.dup, 1) := by decide +kernel
theorem dL_cellar_4 : decode cL_cellar 4 = .ok (.invokespecial 118, 3) := by decide +kernel
theorem dL_cellar_7 : decode cL_cellar 7 = .ok (.astore_n 2, 1) := by decide +kernel
theorem dL_cellar_8 : decode cL_cellar 8 = .ok (.bipush 60, 2) := by decide +kernel
theorem dL_cellar_10 : decode cL_cellar 10 = .ok (.newarray .int, 2) := by decide +kernel
theorem dL_cellar_12 : decode cL_cellar 12 = .ok (.astore_n 3, 1) := by decide +kernel
theorem dL_cellar_13 : decode cL_cellar 13 = .ok (.bipush 6, 2) := by decide +kernel
theorem dL_cellar_15 : decode cL_cellar 15 = .ok (.newarray .int, 2) := by decide +kernel
theorem dL_cellar_17 : decode cL_cellar 17 = .ok (.astore 4, 2) := by decide +kernel
theorem dL_cellar_19 : decode cL_cellar 19 = .ok (.bipush 61, 2) := by decide +kernel
theorem dL_cellar_21 : decode cL_cellar 21 = .ok (.newarray .int, 2) := by decide +kernel
theorem dL_cellar_23 : decode cL_cellar 23 = .ok (.astore 5, 2) := by decide +kernel
theorem dL_cellar_25 : decode cL_cellar 25 = .ok (.aload_n 0, 1) := by decide +kernel
theorem dL_cellar_26 : decode cL_cellar 26 = .ok (.iload_n 1, 1) := by decide +kernel
theorem dL_cellar_27 : decode cL_cellar 27 = .ok (.bipush 6, 2) := by decide +kernel
theorem dL_cellar_29 : decode cL_cellar 29 = .ok (.invokestatic 119, 3) := by decide +kernel
theorem dL_cellar_32 : decode cL_cellar 32 = .ok (.istore 6, 2) := by decide +kernel
theorem dL_cellar_34 : decode cL_cellar 34 = .ok (.aload 4, 2) := by decide +kernel
theorem dL_cellar_36 : decode cL_cellar 36 = .ok (.iconst 5, 1) := by decide +kernel
theorem dL_cellar_37 : decode cL_cellar 37 = .ok (.bipush 12, 2) := by decide +kernel
theorem dL_cellar_39 : decode cL_cellar 39 = .ok (.iastore, 1) := by decide +kernel
theorem dL_cellar_40 : decode cL_cellar 40 = .ok (.iconst 0, 1) := by decide +kernel
theorem dL_cellar_41 : decode cL_cellar 41 = .ok (.istore 7, 2) := by decide +kernel
theorem dL_cellar_43 : decode cL_cellar 43 = .ok (.iload 7, 2) := by decide +kernel
theorem dL_cellar_45 : decode cL_cellar 45 = .ok (.bipush 64, 2) := by decide +kernel
theorem dL_cellar_47 : decode cL_cellar 47 = .ok (.if_icmp .ge 99, 3) := by decide +kernel
theorem dL_cellar_50 : decode cL_cellar 50 = .ok (.aload_n 0, 1) := by decide +kernel
theorem dL_cellar_51 : decode cL_cellar 51 = .ok (.iload_n 1, 1) := by decide +kernel
theorem dL_cellar_52 : decode cL_cellar 52 = .ok (.iconst 3, 1) := by decide +kernel
theorem dL_cellar_53 : decode cL_cellar 53 = .ok (.iload 7, 2) := by decide +kernel
theorem dL_cellar_55 : decode cL_cellar 55 = .ok (.imul, 1) := by decide +kernel
theorem dL_cellar_56 : decode cL_cellar 56 = .ok (.iadd, 1) := by decide +kernel
theorem dL_cellar_57 : decode cL_cellar 57 = .ok (.iconst 2, 1) := by decide +kernel
theorem dL_cellar_58 : decode cL_cellar 58 = .ok (.iadd, 1) := by decide +kernel
theorem dL_cellar_59 : decode cL_cellar 59 = .ok (.ldc 123, 2) := by decide +kernel
theorem dL_cellar_61 : decode cL_cellar 61 = .ok (.invokestatic 119, 3) := by decide +kernel
theorem dL_cellar_64 : decode cL_cellar 64 = .ok (.istore 8, 2) := by decide +kernel
theorem dL_cellar_66 : decode cL_cellar 66 = .ok (.aload_n 0, 1) := by decide +kernel
theorem dL_cellar_67 : decode cL_cellar 67 = .ok (.iload_n 1, 1) := by decide +kernel
theorem dL_cellar_68 : decode cL_cellar 68 = .ok (.iconst 3, 1) := by decide +kernel
theorem dL_cellar_69 : decode cL_cellar 69 = .ok (.iload 7, 2) := by decide +kernel
theorem dL_cellar_71 : decode cL_cellar 71 = .ok (.imul, 1) := by decide +kernel
theorem dL_cellar_72 : decode cL_cellar 72 = .ok (.iadd, 1) := by decide +kernel
theorem dL_cellar_73 : decode cL_cellar 73 = .ok (.iconst 3, 1) := by decide +kernel
theorem dL_cellar_74 : decode cL_cellar 74 = .ok (.iadd, 1) := by decide +kernel
theorem dL_cellar_75 : decode cL_cellar 75 = .ok (.ldc 123, 2) := by decide +kernel
theorem dL_cellar_77 : decode cL_cellar 77 = .ok (.invokestatic 119, 3) := by decide +kernel
theorem dL_cellar_80 : decode cL_cellar 80 = .ok (.istore 9, 2) := by decide +kernel
theorem dL_cellar_82 : decode cL_cellar 82 = .ok (.aload_n 2, 1) := by decide +kernel
theorem dL_cellar_83 : decode cL_cellar 83 = .ok (.iload 7, 2) := by decide +kernel
theorem dL_cellar_85 : decode cL_cellar 85 = .ok (.iconst 2, 1) := by decide +kernel
theorem dL_cellar_86 : decode cL_cellar 86 = .ok (.if_icmp .ge 7, 3) := by decide +kernel
theorem dL_cellar_89 : decode cL_cellar 89 = .ok (.iconst 0, 1) := by decide +kernel
theorem dL_cellar_90 : decode cL_cellar 90 = .ok (.goto 17, 3) := by decide +kernel
theorem dL_cellar_93 : decode cL_cellar 93 = .ok (.aload_n 0, 1) := by decide +kernel
theorem dL_cellar_94 : decode cL_cellar 94 = .ok (.iload_n 1, 1) := by decide +kernel
theorem dL_cellar_95 : decode cL_cellar 95 = .ok (.iconst 3, 1) := by decide +kernel
theorem dL_cellar_96 : decode cL_cellar 96 = .ok (.iload 7, 2) := by decide +kernel
theorem dL_cellar_98 : decode cL_cellar 98 = .ok (.imul, 1) := by decide +kernel
theorem dL_cellar_99 : decode cL_cellar 99 = .ok (.iadd, 1) := by decide +kernel
theorem dL_cellar_100 : decode cL_cellar 100 = .ok (.iconst 1, 1) := by decide +kernel
theorem dL_cellar_101 : decode cL_cellar 101 = .ok (.iadd, 1) := by decide +kernel
theorem dL_cellar_102 : decode cL_cellar 102 = .ok (.bipush 23, 2) := by decide +kernel
theorem dL_cellar_104 : decode cL_cellar 104 = .ok (.invokestatic 119, 3) := by decide +kernel
theorem dL_cellar_107 : decode cL_cellar 107 = .ok (.iload 8, 2) := by decide +kernel
theorem dL_cellar_109 : decode cL_cellar 109 = .ok (.iload 9, 2) := by decide +kernel
theorem dL_cellar_111 : decode cL_cellar 111 = .ok (.aload_n 3, 1) := by decide +kernel
theorem dL_cellar_112 : decode cL_cellar 112 = .ok (.aload 4, 2) := by decide +kernel
theorem dL_cellar_114 : decode cL_cellar 114 = .ok (.aload 5, 2) := by decide +kernel
theorem dL_cellar_116 : decode cL_cellar 116 = .ok (.iload 6, 2) := by decide +kernel
theorem dL_cellar_118 : decode cL_cellar 118 = .ok (.invokestatic 124, 3) := by decide +kernel
theorem dL_cellar_121 : decode cL_cellar 121 = .ok (.ifCond .eq 17, 3) := by decide +kernel
theorem dL_cellar_124 : decode cL_cellar 124 = .ok (.aload_n 2, 1) := by decide +kernel
theorem dL_cellar_125 : decode cL_cellar 125 = .ok (.aload_n 3, 1) := by decide +kernel
theorem dL_cellar_126 : decode cL_cellar 126 = .ok (.aload 4, 2) := by decide +kernel
theorem dL_cellar_128 : decode cL_cellar 128 = .ok (.aload 5, 2) := by decide +kernel
theorem dL_cellar_130 : decode cL_cellar 130 = .ok (.iload 6, 2) := by decide +kernel
theorem dL_cellar_132 : decode cL_cellar 132 = .ok (.invokestatic 128, 3) := by decide +kernel
theorem dL_cellar_135 : decode cL_cellar 135 = .ok (.ifCond .ne 5, 3) := by decide +kernel
theorem dL_cellar_138 : decode cL_cellar 138 = .ok (.iconst 0, 1) := by decide +kernel
theorem dL_cellar_139 : decode cL_cellar 139 = .ok (.ireturn, 1) := by decide +kernel
theorem dL_cellar_140 : decode cL_cellar 140 = .ok (.iinc 7 1, 3) := by decide +kernel
theorem dL_cellar_143 : decode cL_cellar 143 = .ok (.goto (-100), 3) := by decide +kernel
theorem dL_cellar_146 : decode cL_cellar 146 = .ok (.iconst 1, 1) := by decide +kernel
theorem dL_cellar_147 : decode cL_cellar 147 = .ok (.ireturn, 1) := by decide +kernel
theorem dL_law_0 : decode cL_law 0 = .ok (.aload_n 0, 1) := by decide +kernel
theorem dL_law_1 : decode cL_law 1 = .ok (.iconst 0, 1) := by decide +kernel
theorem dL_law_2 : decode cL_law 2 = .ok (.invokestatic 132, 3) := by decide +kernel
theorem dL_law_5 : decode cL_law 5 = .ok (.ifCond .eq 27, 3) := by decide +kernel
theorem dL_law_8 : decode cL_law 8 = .ok (.aload_n 0, 1) := by decide +kernel
theorem dL_law_9 : decode cL_law 9 = .ok (.sipush 200, 3) := by decide +kernel
theorem dL_law_12 : decode cL_law 12 = .ok (.invokestatic 132, 3) := by decide +kernel
theorem dL_law_15 : decode cL_law 15 = .ok (.ifCond .eq 17, 3) := by decide +kernel
theorem dL_law_18 : decode cL_law 18 = .ok (.aload_n 0, 1) := by decide +kernel
theorem dL_law_19 : decode cL_law 19 = .ok (.sipush 400, 3) := by decide +kernel
theorem dL_law_22 : decode cL_law 22 = .ok (.invokestatic 132, 3) := by decide +kernel
theorem dL_law_25 : decode cL_law 25 = .ok (.ifCond .eq 7, 3) := by decide +kernel
theorem dL_law_28 : decode cL_law 28 = .ok (.iconst 1, 1) := by decide +kernel
theorem dL_law_29 : decode cL_law 29 = .ok (.goto 4, 3) := by decide +kernel
theorem dL_law_32 : decode cL_law 32 = .ok (.iconst 0, 1) := by decide +kernel
theorem dL_law_33 : decode cL_law 33 = .ok (.ireturn, 1) := by decide +kernel
