theorem dX8_kinds_62 : decode cX8_kinds 62 = .ok (.iload 6, 2) := by decide +kernel
theorem dX8_kinds_64 : decode cX8_kinds 64 = .ok (.iload 5, 2) := by decide +kernel
theorem dX8_kinds_66 : decode cX8_kinds 66 = .ok (.invokestatic 100, 3) := by decide +kernel
theorem dX8_kinds_69 : decode cX8_kinds 69 = .ok (.ifCond .eq 10, 3) := by decide +kernel
theorem dX8_kinds_72 : decode cX8_kinds 72 = .ok (.iconst 1, 1) := by decide +kernel
theorem dX8_kinds_73 : decode cX8_kinds 73 = .ok (.iload 5, 2) := by decide +kernel
theorem dX8_kinds_75 : decode cX8_kinds 75 = .ok (.ishl, 1) := by decide +kernel
theorem dX8_kinds_76 : decode cX8_kinds 76 = .ok (.goto 4, 3) := by decide +kernel
theorem dX8_kinds_79 : decode cX8_kinds 79 = .ok (.iconst 0, 1) := by decide +kernel
theorem dX8_kinds_80 : decode cX8_kinds 80 = .ok (.ior, 1) := by decide +kernel
theorem dX8_kinds_81 : decode cX8_kinds 81 = .ok (.istore 4, 2) := by decide +kernel
theorem dX8_kinds_83 : decode cX8_kinds 83 = .ok (.iinc 5 1, 3) := by decide +kernel
theorem dX8_kinds_86 : decode cX8_kinds 86 = .ok (.goto (-74), 3) := by decide +kernel
theorem dX8_kinds_89 : decode cX8_kinds 89 = .ok (.aload_n 0, 1) := by decide +kernel
theorem dX8_kinds_90 : decode cX8_kinds 90 = .ok (.iload_n 3, 1) := by decide +kernel
theorem dX8_kinds_91 : decode cX8_kinds 91 = .ok (.iload 4, 2) := by decide +kernel
theorem dX8_kinds_93 : decode cX8_kinds 93 = .ok (.invokevirtual 121, 3) := by decide +kernel
theorem dX8_kinds_96 : decode cX8_kinds 96 = .ok (.ireturn, 1) := by decide +kernel
theorem dX8_takes_0 : decode cX8_takes 0 = .ok (.iload_n 1, 1) := by decide +kernel
theorem dX8_takes_1 : decode cX8_takes 1 = .ok (.invokestatic 57, 3) := by decide +kernel
theorem dX8_takes_4 : decode cX8_takes 4 = .ok (.ifCond .eq 7, 3) := by decide +kernel
theorem dX8_takes_7 : decode cX8_takes 7 = .ok (.iconst (-1), 1) := by decide +kernel
theorem dX8_takes_8 : decode cX8_takes 8 = .ok (.goto 9, 3) := by decide +kernel
theorem dX8_takes_11 : decode cX8_takes 11 = .ok (.aload_n 0, 1) := by decide +kernel
theorem dX8_takes_12 : decode cX8_takes 12 = .ok (.iload_n 1, 1) := by decide +kernel
theorem dX8_takes_13 : decode cX8_takes 13 = .ok (.iconst 1, 1) := by decide +kernel
theorem dX8_takes_14 : decode cX8_takes 14 = .ok (.invokevirtual 162, 3) := by decide +kernel
theorem dX8_takes_17 : decode cX8_takes 17 = .ok (.ireturn, 1) := by decide +kernel
theorem dX8_gives_0 : decode cX8_gives 0 = .ok (.iload_n 1, 1) := by decide +kernel
theorem dX8_gives_1 : decode cX8_gives 1 = .ok (.invokestatic 57, 3) := by decide +kernel
theorem dX8_gives_4 : decode cX8_gives 4 = .ok (.ifCond .eq 7, 3) := by decide +kernel
theorem dX8_gives_7 : decode cX8_gives 7 = .ok (.iconst (-1), 1) := by decide +kernel
theorem dX8_gives_8 : decode cX8_gives 8 = .ok (.goto 9, 3) := by decide +kernel
theorem dX8_gives_11 : decode cX8_gives 11 = .ok (.aload_n 0, 1) := by decide +kernel
theorem dX8_gives_12 : decode cX8_gives 12 = .ok (.iload_n 1, 1) := by decide +kernel
theorem dX8_gives_13 : decode cX8_gives 13 = .ok (.iconst 0, 1) := by decide +kernel
theorem dX8_gives_14 : decode cX8_gives 14 = .ok (.invokevirtual 162, 3) := by decide +kernel
theorem dX8_gives_17 : decode cX8_gives 17 = .ok (.ireturn, 1) := by decide +kernel
theorem dX8_step_0 : decode cX8_step 0 = .ok (.iload_n 2, 1) := by decide +kernel
theorem dX8_step_1 : decode cX8_step 1 = .ok (.invokestatic 57, 3) := by decide +kernel
theorem dX8_step_4 : decode cX8_step 4 = .ok (.ifCond .ne 11, 3) := by decide +kernel
theorem dX8_step_7 : decode cX8_step 7 = .ok (.iload 4, 2) := by decide +kernel
theorem dX8_step_9 : decode cX8_step 9 = .ok (.invokestatic 57, 3) := by decide +kernel
theorem dX8_step_12 : decode cX8_step 12 = .ok (.ifCond .eq 5, 3) := by decide +kernel
theorem dX8_step_15 : decode cX8_step 15 = .ok (.iconst (-1), 1) := by decide +kernel
theorem dX8_step_16 : decode cX8_step 16 = .ok (.ireturn, 1) := by decide +kernel
theorem dX8_step_17 : decode cX8_step 17 = .ok (.iload_n 1, 1) := by decide +kernel
theorem dX8_step_18 : decode cX8_step 18 = .ok (.i2l, 1) := by decide +kernel
theorem dX8_step_19 : decode cX8_step 19 = .ok (.lconst 0, 1) := by decide +kernel
theorem dX8_step_20 : decode cX8_step 20 = .ok (.ldc2_w 166, 3) := by decide +kernel
theorem dX8_step_23 : decode cX8_step 23 = .ok (.invokestatic 42, 3) := by decide +kernel
theorem dX8_step_26 : decode cX8_step 26 = .ok (.ifCond .ne 30, 3) := by decide +kernel
theorem dX8_step_29 : decode cX8_step 29 = .ok (.iload_n 3, 1) := by decide +kernel
theorem dX8_step_30 : decode cX8_step 30 = .ok (.i2l, 1) := by decide +kernel
theorem dX8_step_31 : decode cX8_step 31 = .ok (.ldc2_w 168, 3) := by decide +kernel
theorem dX8_step_34 : decode cX8_step 34 = .ok (.ldc2_w 63, 3) := by decide +kernel
theorem dX8_step_37 : decode cX8_step 37 = .ok (.invokestatic 42, 3) := by decide +kernel
theorem dX8_step_40 : decode cX8_step 40 = .ok (.ifCond .ne 16, 3) := by decide +kernel
theorem dX8_step_43 : decode cX8_step 43 = .ok (.iload 5, 2) := by decide +kernel
theorem dX8_step_45 : decode cX8_step 45 = .ok (.i2l, 1) := by decide +kernel
theorem dX8_step_46 : decode cX8_step 46 = .ok (.lconst 0, 1) := by decide +kernel
theorem dX8_step_47 : decode cX8_step 47 = .ok (.ldc2_w 82, 3) := by decide +kernel
theorem dX8_step_50 : decode cX8_step 50 = .ok (.invokestatic 42, 3) := by decide +kernel
theorem dX8_step_53 : decode cX8_step 53 = .ok (.ifCond .eq 6, 3) := by decide +kernel
theorem dX8_step_56 : decode cX8_step 56 = .ok (.bipush (-2), 2) := by decide +kernel
theorem dX8_step_58 : decode cX8_step 58 = .ok (.ireturn, 1) := by decide +kernel
theorem dX8_step_59 : decode cX8_step 59 = .ok (.aload_n 0, 1) := by decide +kernel
theorem dX8_step_60 : decode cX8_step 60 = .ok (.getfield 170, 3) := by decide +kernel
theorem dX8_step_63 : decode cX8_step 63 = .ok (.bipush 12, 2) := by decide +kernel
theorem dX8_step_65 : decode cX8_step 65 = .ok (.if_icmp .ne 6, 3) := by decide +kernel
theorem dX8_step_68 : decode cX8_step 68 = .ok (.bipush (-4), 2) := by decide +kernel
theorem dX8_step_70 : decode cX8_step 70 = .ok (.ireturn, 1) := by decide +kernel
theorem dX8_step_71 : decode cX8_step 71 = .ok (.iconst 5, 1) := by decide +kernel
theorem dX8_step_72 : decode cX8_step 72 = .ok (.aload_n 0, 1) := by decide +kernel
theorem dX8_step_73 : decode cX8_step 73 = .ok (.getfield 170, 3) := by decide +kernel
theorem dX8_step_76 : decode cX8_step 76 = .ok (.imul, 1) := by decide +kernel
theorem dX8_step_77 : decode cX8_step 77 = .ok (.istore 6, 2) := by decide +kernel
theorem dX8_step_79 : decode cX8_step 79 = .ok (.aload_n 0, 1) := by decide +kernel
theorem dX8_step_80 : decode cX8_step 80 = .ok (.getfield 31, 3) := by decide +kernel
theorem dX8_step_83 : decode cX8_step 83 = .ok (.iload 6, 2) := by decide +kernel
theorem dX8_step_85 : decode cX8_step 85 = .ok (.iload_n 1, 1) := by decide +kernel
theorem dX8_step_86 : decode cX8_step 86 = .ok (.iastore, 1) := by decide +kernel
theorem dX8_step_87 : decode cX8_step 87 = .ok (.aload_n 0, 1) := by decide +kernel
theorem dX8_step_88 : decode cX8_step 88 = .ok (.getfield 31, 3) := by decide +kernel
theorem dX8_step_91 : decode cX8_step 91 = .ok (.iload 6, 2) := by decide +kernel
theorem dX8_step_93 : decode cX8_step 93 = .ok (.iconst 1, 1) := by decide +kernel
theorem dX8_step_94 : decode cX8_step 94 = .ok (.iadd, 1) := by decide +kernel
theorem dX8_step_95 : decode cX8_step 95 = .ok (.iload_n 2, 1) := by decide +kernel
theorem dX8_step_96 : decode cX8_step 96 = .ok (.iastore, 1) := by decide +kernel
theorem dX8_step_97 : decode cX8_step 97 = .ok (.aload_n 0, 1) := by decide +kernel
theorem dX8_step_98 : decode cX8_step 98 = .ok (.getfield 31, 3) := by decide +kernel
theorem dX8_step_101 : decode cX8_step 101 = .ok (.iload 6, 2) := by decide +kernel
theorem dX8_step_103 : decode cX8_step 103 = .ok (.iconst 2, 1) := by decide +kernel
theorem dX8_step_104 : decode cX8_step 104 = .ok (.iadd, 1) := by decide +kernel
theorem dX8_step_105 : decode cX8_step 105 = .ok (.iload_n 3, 1) := by decide +kernel
theorem dX8_step_106 : decode cX8_step 106 = .ok (.iastore, 1) := by decide +kernel
theorem dX8_step_107 : decode cX8_step 107 = .ok (.aload_n 0, 1) := by decide +kernel
theorem dX8_step_108 : decode cX8_step 108 = .ok (.getfield 31, 3) := by decide +kernel
theorem dX8_step_111 : decode cX8_step 111 = .ok (.iload 6, 2) := by decide +kernel
theorem dX8_step_113 : decode cX8_step 113 = .ok (.iconst 3, 1) := by decide +kernel
theorem dX8_step_114 : decode cX8_step 114 = .ok (.iadd, 1) := by decide +kernel
theorem dX8_step_115 : decode cX8_step 115 = .ok (.iload 4, 2) := by decide +kernel
theorem dX8_step_117 : decode cX8_step 117 = .ok (.iastore, 1) := by decide +kernel
theorem dX8_step_118 : decode cX8_step 118 = .ok (.aload_n 0, 1) := by decide +kernel
theorem dX8_step_119 : decode cX8_step 119 = .ok (.getfield 31, 3) := by decide +kernel
theorem dX8_step_122 : decode cX8_step 122 = .ok (.iload 6, 2) := by decide +kernel
theorem dX8_step_124 : decode cX8_step 124 = .ok (.iconst 4, 1) := by decide +kernel
theorem dX8_step_125 : decode cX8_step 125 = .ok (.iadd, 1) := by decide +kernel
theorem dX8_step_126 : decode cX8_step 126 = .ok (.iload 5, 2) := by decide +kernel
theorem dX8_step_128 : decode cX8_step 128 = .ok (.iastore, 1) := by decide +kernel
theorem dX8_step_129 : decode cX8_step 129 = .ok (.aload_n 0, 1) := by decide +kernel
theorem dX8_step_130 : decode cX8_step 130 = .ok (.dup, 1) := by decide +kernel
theorem dX8_step_131 : decode cX8_step 131 = .ok (.getfield 170, 3) := by decide +kernel
theorem dX8_step_134 : decode cX8_step 134 = .ok (.iconst 1, 1) := by decide +kernel
theorem dX8_step_135 : decode cX8_step 135 = .ok (.iadd, 1) := by decide +kernel
theorem dX8_step_136 : decode cX8_step 136 = .ok (.putfield 170, 3) := by decide +kernel
theorem dX8_step_139 : decode cX8_step 139 = .ok (.aload_n 0, 1) := by decide +kernel
theorem dX8_step_140 : decode cX8_step 140 = .ok (.getfield 170, 3) := by decide +kernel
theorem dX8_step_143 : decode cX8_step 143 = .ok (.ireturn, 1) := by decide +kernel
theorem dX8_does_0 : decode cX8_does 0 = .ok (.aload_n 0, 1) := by decide +kernel
theorem dX8_does_1 : decode cX8_does 1 = .ok (.getfield 31, 3) := by decide +kernel
theorem dX8_does_4 : decode cX8_does 4 = .ok (.iload_n 1, 1) := by decide +kernel
theorem dX8_does_5 : decode cX8_does 5 = .ok (.iconst 1, 1) := by decide +kernel
theorem dX8_does_6 : decode cX8_does 6 = .ok (.iadd, 1) := by decide +kernel
theorem dX8_does_7 : decode cX8_does 7 = .ok (.iaload, 1) := by decide +kernel
theorem dX8_does_8 : decode cX8_does 8 = .ok (.istore_n 2, 1) := by decide +kernel
theorem dX8_does_9 : decode cX8_does 9 = .ok (.aload_n 0, 1) := by decide +kernel
theorem dX8_does_10 : decode cX8_does 10 = .ok (.getfield 31, 3) := by decide +kernel
theorem dX8_does_13 : decode cX8_does 13 = .ok (.iload_n 1, 1) := by decide +kernel
theorem dX8_does_14 : decode cX8_does 14 = .ok (.iconst 2, 1) := by decide +kernel
theorem dX8_does_15 : decode cX8_does 15 = .ok (.iadd, 1) := by decide +kernel
theorem dX8_does_16 : decode cX8_does 16 = .ok (.iaload, 1) := by decide +kernel
theorem dX8_does_17 : decode cX8_does 17 = .ok (.istore_n 3, 1) := by decide +kernel
theorem dX8_does_18 : decode cX8_does 18 = .ok (.aload_n 0, 1) := by decide +kernel
theorem dX8_does_19 : decode cX8_does 19 = .ok (.getfield 31, 3) := by decide +kernel
theorem dX8_does_22 : decode cX8_does 22 = .ok (.iload_n 1, 1) := by decide +kernel
theorem dX8_does_23 : decode cX8_does 23 = .ok (.iconst 4, 1) := by decide +kernel
theorem dX8_does_24 : decode cX8_does 24 = .ok (.iadd, 1) := by decide +kernel
theorem dX8_does_25 : decode cX8_does 25 = .ok (.iaload, 1) := by decide +kernel
theorem dX8_does_26 : decode cX8_does 26 = .ok (.istore 4, 2) := by decide +kernel
theorem dX8_does_28 : decode cX8_does 28 = .ok (.aload_n 0, 1) := by decide +kernel
theorem dX8_does_29 : decode cX8_does 29 = .ok (.getfield 31, 3) := by decide +kernel
theorem dX8_does_32 : decode cX8_does 32 = .ok (.iload_n 1, 1) := by decide +kernel
theorem dX8_does_33 : decode cX8_does 33 = .ok (.iaload, 1) := by decide +kernel
theorem dX8_does_34 : decode cX8_does 34 = .ok (.tableswitch 113 0 4 #[34, 41, 48, 68, 104], 34) := by decide +kernel
theorem dX8_does_68 : decode cX8_does 68 = .ok (.aload_n 0, 1) := by decide +kernel
theorem dX8_does_69 : decode cX8_does 69 = .ok (.iload_n 2, 1) := by decide +kernel
theorem dX8_does_70 : decode cX8_does 70 = .ok (.iload_n 3, 1) := by decide +kernel
theorem dX8_does_71 : decode cX8_does 71 = .ok (.invokevirtual 115, 3) := by decide +kernel
theorem dX8_does_74 : decode cX8_does 74 = .ok (.ireturn, 1) := by decide +kernel
theorem dX8_does_75 : decode cX8_does 75 = .ok (.aload_n 0, 1) := by decide +kernel
theorem dX8_does_76 : decode cX8_does 76 = .ok (.iload_n 2, 1) := by decide +kernel
theorem dX8_does_77 : decode cX8_does 77 = .ok (.iload_n 3, 1) := by decide +kernel
theorem dX8_does_78 : decode cX8_does 78 = .ok (.invokevirtual 127, 3) := by decide +kernel
theorem dX8_does_81 : decode cX8_does 81 = .ok (.ireturn, 1) := by decide +kernel
theorem dX8_does_82 : decode cX8_does 82 = .ok (.aload_n 0, 1) := by decide +kernel
theorem dX8_does_83 : decode cX8_does 83 = .ok (.aload_n 0, 1) := by decide +kernel
theorem dX8_does_84 : decode cX8_does 84 = .ok (.getfield 7, 3) := by decide +kernel
theorem dX8_does_87 : decode cX8_does 87 = .ok (.iload_n 2, 1) := by decide +kernel
theorem dX8_does_88 : decode cX8_does 88 = .ok (.iaload, 1) := by decide +kernel
theorem dX8_does_89 : decode cX8_does 89 = .ok (.aload_n 0, 1) := by decide +kernel
theorem dX8_does_90 : decode cX8_does 90 = .ok (.getfield 13, 3) := by decide +kernel
theorem dX8_does_93 : decode cX8_does 93 = .ok (.iload_n 2, 1) := by decide +kernel
theorem dX8_does_94 : decode cX8_does 94 = .ok (.iaload, 1) := by decide +kernel
theorem dX8_does_95 : decode cX8_does 95 = .ok (.iload_n 3, 1) := by decide +kernel
theorem dX8_does_96 : decode cX8_does 96 = .ok (.iload 4, 2) := by decide +kernel
theorem dX8_does_98 : decode cX8_does 98 = .ok (.invokevirtual 134, 3) := by decide +kernel
theorem dX8_does_101 : decode cX8_does 101 = .ok (.ireturn, 1) := by decide +kernel
theorem dX8_does_102 : decode cX8_does 102 = .ok (.aload_n 0, 1) := by decide +kernel
theorem dX8_does_103 : decode cX8_does 103 = .ok (.getfield 69, 3) := by decide +kernel
theorem dX8_does_106 : decode cX8_does 106 = .ok (.iconst 1, 1) := by decide +kernel
theorem dX8_does_107 : decode cX8_does 107 = .ok (.if_icmp .eq 7, 3) := by decide +kernel
theorem dX8_does_110 : decode cX8_does 110 = .ok (.iconst 0, 1) := by decide +kernel
theorem dX8_does_111 : decode cX8_does 111 = .ok (.goto 26, 3) := by decide +kernel
theorem dX8_does_114 : decode cX8_does 114 = .ok (.aload_n 0, 1) := by decide +kernel
theorem dX8_does_115 : decode cX8_does 115 = .ok (.aload_n 0, 1) := by decide +kernel
theorem dX8_does_116 : decode cX8_does 116 = .ok (.getfield 7, 3) := by decide +kernel
theorem dX8_does_119 : decode cX8_does 119 = .ok (.iload_n 2, 1) := by decide +kernel
theorem dX8_does_120 : decode cX8_does 120 = .ok (.iaload, 1) := by decide +kernel
theorem dX8_does_121 : decode cX8_does 121 = .ok (.aload_n 0, 1) := by decide +kernel
theorem dX8_does_122 : decode cX8_does 122 = .ok (.getfield 13, 3) := by decide +kernel
theorem dX8_does_125 : decode cX8_does 125 = .ok (.iload_n 2, 1) := by decide +kernel
theorem dX8_does_126 : decode cX8_does 126 = .ok (.iaload, 1) := by decide +kernel
theorem dX8_does_127 : decode cX8_does 127 = .ok (.iload_n 3, 1) := by decide +kernel
theorem dX8_does_128 : decode cX8_does 128 = .ok (.iload 4, 2) := by decide +kernel
theorem dX8_does_130 : decode cX8_does 130 = .ok (.aload_n 0, 1) := by decide +kernel
theorem dX8_does_131 : decode cX8_does 131 = .ok (.getfield 78, 3) := by decide +kernel
theorem dX8_does_134 : decode cX8_does 134 = .ok (.invokevirtual 140, 3) := by decide +kernel
theorem dX8_does_137 : decode cX8_does 137 = .ok (.ireturn, 1) := by decide +kernel
theorem dX8_does_138 : decode cX8_does 138 = .ok (.aload_n 0, 1) := by decide +kernel
theorem dX8_does_139 : decode cX8_does 139 = .ok (.iload_n 2, 1) := by decide +kernel
theorem dX8_does_140 : decode cX8_does 140 = .ok (.iload_n 3, 1) := by decide +kernel
theorem dX8_does_141 : decode cX8_does 141 = .ok (.iload 4, 2) := by decide +kernel
theorem dX8_does_143 : decode cX8_does 143 = .ok (.invokevirtual 156, 3) := by decide +kernel
theorem dX8_does_146 : decode cX8_does 146 = .ok (.ireturn, 1) := by decide +kernel
theorem dX8_does_147 : decode cX8_does 147 = .ok (.aload_n 0, 1) := by decide +kernel
theorem dX8_does_148 : decode cX8_does 148 = .ok (.iload_n 2, 1) := by decide +kernel
theorem dX8_does_149 : decode cX8_does 149 = .ok (.iload_n 3, 1) := by decide +kernel
theorem dX8_does_150 : decode cX8_does 150 = .ok (.aload_n 0, 1) := by decide +kernel
theorem dX8_does_151 : decode cX8_does 151 = .ok (.getfield 31, 3) := by decide +kernel
theorem dX8_does_154 : decode cX8_does 154 = .ok (.iload_n 1, 1) := by decide +kernel
theorem dX8_does_155 : decode cX8_does 155 = .ok (.iconst 3, 1) := by decide +kernel
theorem dX8_does_156 : decode cX8_does 156 = .ok (.iadd, 1) := by decide +kernel
theorem dX8_does_157 : decode cX8_does 157 = .ok (.iaload, 1) := by decide +kernel
theorem dX8_does_158 : decode cX8_does 158 = .ok (.iload 4, 2) := by decide +kernel
theorem dX8_does_160 : decode cX8_does 160 = .ok (.invokevirtual 173, 3) := by decide +kernel
theorem dX8_does_163 : decode cX8_does 163 = .ok (.ireturn, 1) := by decide +kernel
theorem dX8_moves_0 : decode cX8_moves 0 = .ok (.aload_n 0, 1) := by decide +kernel
theorem dX8_moves_1 : decode cX8_moves 1 = .ok (.getfield 69, 3) := by decide +kernel
theorem dX8_moves_4 : decode cX8_moves 4 = .ok (.istore 5, 2) := by decide +kernel
theorem dX8_moves_6 : decode cX8_moves 6 = .ok (.aload_n 0, 1) := by decide +kernel
theorem dX8_moves_7 : decode cX8_moves 7 = .ok (.getfield 75, 3) := by decide +kernel
theorem dX8_moves_10 : decode cX8_moves 10 = .ok (.istore 6, 2) := by decide +kernel
theorem dX8_moves_12 : decode cX8_moves 12 = .ok (.aload_n 0, 1) := by decide +kernel
theorem dX8_moves_13 : decode cX8_moves 13 = .ok (.getfield 78, 3) := by decide +kernel
theorem dX8_moves_16 : decode cX8_moves 16 = .ok (.lstore 7, 2) := by decide +kernel
theorem dX8_moves_18 : decode cX8_moves 18 = .ok (.aload_n 0, 1) := by decide +kernel
theorem dX8_moves_19 : decode cX8_moves 19 = .ok (.getfield 72, 3) := by decide +kernel
theorem dX8_moves_22 : decode cX8_moves 22 = .ok (.istore 9, 2) := by decide +kernel
theorem dX8_moves_24 : decode cX8_moves 24 = .ok (.aload_n 0, 1) := by decide +kernel
theorem dX8_moves_25 : decode cX8_moves 25 = .ok (.iload_n 1, 1) := by decide +kernel
theorem dX8_moves_26 : decode cX8_moves 26 = .ok (.iload_n 2, 1) := by decide +kernel
theorem dX8_moves_27 : decode cX8_moves 27 = .ok (.invokevirtual 115, 3) := by decide +kernel
theorem dX8_moves_30 : decode cX8_moves 30 = .ok (.istore 10, 2) := by decide +kernel
theorem dX8_moves_32 : decode cX8_moves 32 = .ok (.iload 10, 2) := by decide +kernel
theorem dX8_moves_34 : decode cX8_moves 34 = .ok (.ifCond .le 8, 3) := by decide +kernel
theorem dX8_moves_37 : decode cX8_moves 37 = .ok (.iload 10, 2) := by decide +kernel
theorem dX8_moves_39 : decode cX8_moves 39 = .ok (.goto 10, 3) := by decide +kernel
theorem dX8_moves_42 : decode cX8_moves 42 = .ok (.aload_n 0, 1) := by decide +kernel
theorem dX8_moves_43 : decode cX8_moves 43 = .ok (.iload_n 3, 1) := by decide +kernel
theorem dX8_moves_44 : decode cX8_moves 44 = .ok (.iload 4, 2) := by decide +kernel
theorem dX8_moves_46 : decode cX8_moves 46 = .ok (.invokevirtual 127, 3) := by decide +kernel
theorem dX8_moves_49 : decode cX8_moves 49 = .ok (.istore 10, 2) := by decide +kernel
theorem dX8_moves_51 : decode cX8_moves 51 = .ok (.aload_n 0, 1) := by decide +kernel
theorem dX8_moves_52 : decode cX8_moves 52 = .ok (.iload 5, 2) := by decide +kernel
theorem dX8_moves_54 : decode cX8_moves 54 = .ok (.putfield 69, 3) := by decide +kernel
theorem dX8_moves_57 : decode cX8_moves 57 = .ok (.aload_n 0, 1) := by decide +kernel
theorem dX8_moves_58 : decode cX8_moves 58 = .ok (.iload 6, 2) := by decide +kernel
theorem dX8_moves_60 : decode cX8_moves 60 = .ok (.putfield 75, 3) := by decide +kernel
theorem dX8_moves_63 : decode cX8_moves 63 = .ok (.aload_n 0, 1) := by decide +kernel
theorem dX8_moves_64 : decode cX8_moves 64 = .ok (.lload 7, 2) := by decide +kernel
theorem dX8_moves_66 : decode cX8_moves 66 = .ok (.putfield 78, 3) := by decide +kernel
theorem dX8_moves_69 : decode cX8_moves 69 = .ok (.aload_n 0, 1) := by decide +kernel
theorem dX8_moves_70 : decode cX8_moves 70 = .ok (.iload 9, 2) := by decide +kernel
theorem dX8_moves_72 : decode cX8_moves 72 = .ok (.putfield 72, 3) := by decide +kernel
theorem dX8_moves_75 : decode cX8_moves 75 = .ok (.iload 10, 2) := by decide +kernel
theorem dX8_moves_77 : decode cX8_moves 77 = .ok (.ireturn, 1) := by decide +kernel
theorem dX8_run_0 : decode cX8_run 0 = .ok (.iconst 0, 1) := by decide +kernel
theorem dX8_run_1 : decode cX8_run 1 = .ok (.istore_n 2, 1) := by decide +kernel
theorem dX8_run_2 : decode cX8_run 2 = .ok (.aload_n 0, 1) := by decide +kernel
theorem dX8_run_3 : decode cX8_run 3 = .ok (.iconst 0, 1) := by decide +kernel
theorem dX8_run_4 : decode cX8_run 4 = .ok (.putfield 176, 3) := by decide +kernel
theorem dX8_run_7 : decode cX8_run 7 = .ok (.iconst 1, 1) := by decide +kernel
theorem dX8_run_8 : decode cX8_run 8 = .ok (.istore_n 3, 1) := by decide +kernel
theorem dX8_run_9 : decode cX8_run 9 = .ok (.iload_n 3, 1) := by decide +kernel
theorem dX8_run_10 : decode cX8_run 10 = .ok (.ifCond .eq 86, 3) := by decide +kernel
theorem dX8_run_13 : decode cX8_run 13 = .ok (.aload_n 0, 1) := by decide +kernel
theorem dX8_run_14 : decode cX8_run 14 = .ok (.getfield 176, 3) := by decide +kernel
theorem dX8_run_17 : decode cX8_run 17 = .ok (.aload_n 0, 1) := by decide +kernel
theorem dX8_run_18 : decode cX8_run 18 = .ok (.getfield 170, 3) := by decide +kernel
theorem dX8_run_21 : decode cX8_run 21 = .ok (.if_icmp .ge 75, 3) := by decide +kernel
theorem dX8_run_24 : decode cX8_run 24 = .ok (.aload_n 0, 1) := by decide +kernel
theorem dX8_run_25 : decode cX8_run 25 = .ok (.iconst 5, 1) := by decide +kernel
theorem dX8_run_26 : decode cX8_run 26 = .ok (.aload_n 0, 1) := by decide +kernel
theorem dX8_run_27 : decode cX8_run 27 = .ok (.getfield 176, 3) := by decide +kernel
theorem dX8_run_30 : decode cX8_run 30 = .ok (.imul, 1) := by decide +kernel
theorem dX8_run_31 : decode cX8_run 31 = .ok (.invokevirtual 179, 3) := by decide +kernel
theorem dX8_run_34 : decode cX8_run 34 = .ok (.istore 4, 2) := by decide +kernel
theorem dX8_run_36 : decode cX8_run 36 = .ok (.aload_n 0, 1) := by decide +kernel
theorem dX8_run_37 : decode cX8_run 37 = .ok (.getfield 34, 3) := by decide +kernel
theorem dX8_run_40 : decode cX8_run 40 = .ok (.aload_n 0, 1) := by decide +kernel
theorem dX8_run_41 : decode cX8_run 41 = .ok (.getfield 176, 3) := by decide +kernel
theorem dX8_run_44 : decode cX8_run 44 = .ok (.iload 4, 2) := by decide +kernel
theorem dX8_run_46 : decode cX8_run 46 = .ok (.iastore, 1) := by decide +kernel
theorem dX8_run_47 : decode cX8_run 47 = .ok (.aload_n 0, 1) := by decide +kernel
theorem dX8_run_48 : decode cX8_run 48 = .ok (.dup, 1) := by decide +kernel
theorem dX8_run_49 : decode cX8_run 49 = .ok (.getfield 176, 3) := by decide +kernel
theorem dX8_run_52 : decode cX8_run 52 = .ok (.iconst 1, 1) := by decide +kernel
theorem dX8_run_53 : decode cX8_run 53 = .ok (.iadd, 1) := by decide +kernel
theorem dX8_run_54 : decode cX8_run 54 = .ok (.putfield 176, 3) := by decide +kernel
theorem dX8_run_57 : decode cX8_run 57 = .ok (.iload_n 2, 1) := by decide +kernel
theorem dX8_run_58 : decode cX8_run 58 = .ok (.iload 4, 2) := by decide +kernel
theorem dX8_run_60 : decode cX8_run 60 = .ok (.ifCond .ne 7, 3) := by decide +kernel
theorem dX8_run_63 : decode cX8_run 63 = .ok (.iconst 1, 1) := by decide +kernel
theorem dX8_run_64 : decode cX8_run 64 = .ok (.goto 4, 3) := by decide +kernel
theorem dX8_run_67 : decode cX8_run 67 = .ok (.iconst 0, 1) := by decide +kernel
theorem dX8_run_68 : decode cX8_run 68 = .ok (.iadd, 1) := by decide +kernel
theorem dX8_run_69 : decode cX8_run 69 = .ok (.istore_n 2, 1) := by decide +kernel
theorem dX8_run_70 : decode cX8_run 70 = .ok (.iload 4, 2) := by decide +kernel
theorem dX8_run_72 : decode cX8_run 72 = .ok (.ifCond .le 21, 3) := by decide +kernel
theorem dX8_run_75 : decode cX8_run 75 = .ok (.aload_n 0, 1) := by decide +kernel
theorem dX8_run_76 : decode cX8_run 76 = .ok (.iload 4, 2) := by decide +kernel
theorem dX8_run_78 : decode cX8_run 78 = .ok (.invokevirtual 50, 3) := by decide +kernel
theorem dX8_run_81 : decode cX8_run 81 = .ok (.istore 4, 2) := by decide +kernel
theorem dX8_run_83 : decode cX8_run 83 = .ok (.iload_n 1, 1) := by decide +kernel
theorem dX8_run_84 : decode cX8_run 84 = .ok (.ifCond .ne 7, 3) := by decide +kernel
theorem dX8_run_87 : decode cX8_run 87 = .ok (.iconst 1, 1) := by decide +kernel
theorem dX8_run_88 : decode cX8_run 88 = .ok (.goto 4, 3) := by decide +kernel
theorem dX8_run_91 : decode cX8_run 91 = .ok (.iconst 0, 1) := by decide +kernel
theorem dX8_run_92 : decode cX8_run 92 = .ok (.istore_n 3, 1) := by decide +kernel
theorem dX8_run_93 : decode cX8_run 93 = .ok (.goto (-84), 3) := by decide +kernel
theorem dX8_run_96 : decode cX8_run 96 = .ok (.iload_n 2, 1) := by decide +kernel
theorem dX8_run_97 : decode cX8_run 97 = .ok (.ireturn, 1) := by decide +kernel
theorem dX8_met_0 : decode cX8_met 0 = .ok (.iload_n 1, 1) := by decide +kernel
theorem dX8_met_1 : decode cX8_met 1 = .ok (.i2l, 1) := by decide +kernel
theorem dX8_met_2 : decode cX8_met 2 = .ok (.lconst 0, 1) := by decide +kernel
theorem dX8_met_3 : decode cX8_met 3 = .ok (.aload_n 0, 1) := by decide +kernel
theorem dX8_met_4 : decode cX8_met 4 = .ok (.getfield 176, 3) := by decide +kernel
theorem dX8_met_7 : decode cX8_met 7 = .ok (.iconst 1, 1) := by decide +kernel
theorem dX8_met_8 : decode cX8_met 8 = .ok (.isub, 1) := by decide +kernel
theorem dX8_met_9 : decode cX8_met 9 = .ok (.i2l, 1) := by decide +kernel
theorem dX8_met_10 : decode cX8_met 10 = .ok (.invokestatic 42, 3) := by decide +kernel
theorem dX8_met_13 : decode cX8_met 13 = .ok (.ifCond .eq 8, 3) := by decide +kernel
theorem dX8_met_16 : decode cX8_met 16 = .ok (.bipush (-9), 2) := by decide +kernel
theorem dX8_met_18 : decode cX8_met 18 = .ok (.goto 9, 3) := by decide +kernel
theorem dX8_met_21 : decode cX8_met 21 = .ok (.aload_n 0, 1) := by decide +kernel
theorem dX8_met_22 : decode cX8_met 22 = .ok (.getfield 34, 3) := by decide +kernel
theorem dX8_met_25 : decode cX8_met 25 = .ok (.iload_n 1, 1) := by decide +kernel
theorem dX8_met_26 : decode cX8_met 26 = .ok (.iaload, 1) := by decide +kernel
theorem dX8_met_27 : decode cX8_met 27 = .ok (.ireturn, 1) := by decide +kernel
theorem dX8_clear_0 : decode cX8_clear 0 = .ok (.aload_n 0, 1) := by decide +kernel
theorem dX8_clear_1 : decode cX8_clear 1 = .ok (.getfield 170, 3) := by decide +kernel
theorem dX8_clear_4 : decode cX8_clear 4 = .ok (.istore_n 1, 1) := by decide +kernel
theorem dX8_clear_5 : decode cX8_clear 5 = .ok (.aload_n 0, 1) := by decide +kernel
theorem dX8_clear_6 : decode cX8_clear 6 = .ok (.iconst 0, 1) := by decide +kernel
theorem dX8_clear_7 : decode cX8_clear 7 = .ok (.putfield 170, 3) := by decide +kernel
theorem dX8_clear_10 : decode cX8_clear 10 = .ok (.aload_n 0, 1) := by decide +kernel
theorem dX8_clear_11 : decode cX8_clear 11 = .ok (.iconst 0, 1) := by decide +kernel
theorem dX8_clear_12 : decode cX8_clear 12 = .ok (.putfield 176, 3) := by decide +kernel
theorem dX8_clear_15 : decode cX8_clear 15 = .ok (.iload_n 1, 1) := by decide +kernel
theorem dX8_clear_16 : decode cX8_clear 16 = .ok (.ireturn, 1) := by decide +kernel
theorem dX8_fault_0 : decode cX8_fault 0 = .ok (.aload_n 0, 1) := by decide +kernel
theorem dX8_fault_1 : decode cX8_fault 1 = .ok (.getfield 46, 3) := by decide +kernel
theorem dX8_fault_4 : decode cX8_fault 4 = .ok (.ireturn, 1) := by decide +kernel
theorem dX8_faults_0 : decode cX8_faults 0 = .ok (.iload_n 1, 1) := by decide +kernel
theorem dX8_faults_1 : decode cX8_faults 1 = .ok (.i2l, 1) := by decide +kernel
theorem dX8_faults_2 : decode cX8_faults 2 = .ok (.lconst 0, 1) := by decide +kernel
theorem dX8_faults_3 : decode cX8_faults 3 = .ok (.ldc2_w 182, 3) := by decide +kernel
theorem dX8_faults_6 : decode cX8_faults 6 = .ok (.invokestatic 42, 3) := by decide +kernel
theorem dX8_faults_9 : decode cX8_faults 9 = .ok (.ifCond .eq 8, 3) := by decide +kernel
theorem dX8_faults_12 : decode cX8_faults 12 = .ok (.bipush (-9), 2) := by decide +kernel
theorem dX8_faults_14 : decode cX8_faults 14 = .ok (.goto 9, 3) := by decide +kernel
theorem dX8_faults_17 : decode cX8_faults 17 = .ok (.aload_n 0, 1) := by decide +kernel
theorem dX8_faults_18 : decode cX8_faults 18 = .ok (.getfield 37, 3) := by decide +kernel
theorem dX8_faults_21 : decode cX8_faults 21 = .ok (.iload_n 1, 1) := by decide +kernel
theorem dX8_faults_22 : decode cX8_faults 22 = .ok (.iaload, 1) := by decide +kernel
theorem dX8_faults_23 : decode cX8_faults 23 = .ok (.ireturn, 1) := by decide +kernel
theorem dX8_has_0 : decode cX8_has 0 = .ok (.aload_n 0, 1) := by decide +kernel
theorem dX8_has_1 : decode cX8_has 1 = .ok (.getfield 69, 3) := by decide +kernel
theorem dX8_has_4 : decode cX8_has 4 = .ok (.ifCond .ne 8, 3) := by decide +kernel
theorem dX8_has_7 : decode cX8_has 7 = .ok (.bipush (-9), 2) := by decide +kernel
theorem dX8_has_9 : decode cX8_has 9 = .ok (.goto 50, 3) := by decide +kernel
theorem dX8_has_12 : decode cX8_has 12 = .ok (.aload_n 0, 1) := by decide +kernel
theorem dX8_has_13 : decode cX8_has 13 = .ok (.getfield 69, 3) := by decide +kernel
theorem dX8_has_16 : decode cX8_has 16 = .ok (.iconst 1, 1) := by decide +kernel
theorem dX8_has_17 : decode cX8_has 17 = .ok (.if_icmp .ne 10, 3) := by decide +kernel
theorem dX8_has_20 : decode cX8_has 20 = .ok (.aload_n 0, 1) := by decide +kernel
theorem dX8_has_21 : decode cX8_has 21 = .ok (.getfield 75, 3) := by decide +kernel
theorem dX8_has_24 : decode cX8_has 24 = .ok (.goto 35, 3) := by decide +kernel
theorem dX8_has_27 : decode cX8_has 27 = .ok (.aload_n 0, 1) := by decide +kernel
theorem dX8_has_28 : decode cX8_has 28 = .ok (.getfield 69, 3) := by decide +kernel
theorem dX8_has_31 : decode cX8_has 31 = .ok (.iconst 3, 1) := by decide +kernel
theorem dX8_has_32 : decode cX8_has 32 = .ok (.if_icmp .ne 8, 3) := by decide +kernel
theorem dX8_has_35 : decode cX8_has 35 = .ok (.bipush 10, 2) := by decide +kernel
theorem dX8_has_37 : decode cX8_has 37 = .ok (.goto 22, 3) := by decide +kernel
theorem dX8_has_40 : decode cX8_has 40 = .ok (.aload_n 0, 1) := by decide +kernel
theorem dX8_has_41 : decode cX8_has 41 = .ok (.getfield 16, 3) := by decide +kernel
theorem dX8_has_44 : decode cX8_has 44 = .ok (.aload_n 0, 1) := by decide +kernel
theorem dX8_has_45 : decode cX8_has 45 = .ok (.getfield 72, 3) := by decide +kernel
theorem dX8_has_48 : decode cX8_has 48 = .ok (.baload, 1) := by decide +kernel
theorem dX8_has_49 : decode cX8_has 49 = .ok (.ifCond .eq 8, 3) := by decide +kernel
theorem dX8_has_52 : decode cX8_has 52 = .ok (.bipush 9, 2) := by decide +kernel
theorem dX8_has_54 : decode cX8_has 54 = .ok (.goto 5, 3) := by decide +kernel
theorem dX8_has_57 : decode cX8_has 57 = .ok (.bipush 8, 2) := by decide +kernel
theorem dX8_has_59 : decode cX8_has 59 = .ok (.ireturn, 1) := by decide +kernel
theorem dX8_value_0 : decode cX8_value 0 = .ok (.aload_n 0, 1) := by decide +kernel
theorem dX8_value_1 : decode cX8_value 1 = .ok (.getfield 69, 3) := by decide +kernel
theorem dX8_value_4 : decode cX8_value 4 = .ok (.ifCond .ne 7, 3) := by decide +kernel
theorem dX8_value_7 : decode cX8_value 7 = .ok (.lconst 0, 1) := by decide +kernel
theorem dX8_value_8 : decode cX8_value 8 = .ok (.goto 44, 3) := by decide +kernel
theorem dX8_value_11 : decode cX8_value 11 = .ok (.aload_n 0, 1) := by decide +kernel
theorem dX8_value_12 : decode cX8_value 12 = .ok (.getfield 69, 3) := by decide +kernel
theorem dX8_value_15 : decode cX8_value 15 = .ok (.iconst 1, 1) := by decide +kernel
theorem dX8_value_16 : decode cX8_value 16 = .ok (.if_icmp .ne 10, 3) := by decide +kernel
theorem dX8_value_19 : decode cX8_value 19 = .ok (.aload_n 0, 1) := by decide +kernel
theorem dX8_value_20 : decode cX8_value 20 = .ok (.getfield 78, 3) := by decide +kernel
theorem dX8_value_23 : decode cX8_value 23 = .ok (.goto 29, 3) := by decide +kernel
theorem dX8_value_26 : decode cX8_value 26 = .ok (.aload_n 0, 1) := by decide +kernel
theorem dX8_value_27 : decode cX8_value 27 = .ok (.getfield 69, 3) := by decide +kernel
theorem dX8_value_30 : decode cX8_value 30 = .ok (.iconst 2, 1) := by decide +kernel
theorem dX8_value_31 : decode cX8_value 31 = .ok (.if_icmp .ne 11, 3) := by decide +kernel
theorem dX8_value_34 : decode cX8_value 34 = .ok (.aload_n 0, 1) := by decide +kernel
theorem dX8_value_35 : decode cX8_value 35 = .ok (.getfield 72, 3) := by decide +kernel
theorem dX8_value_38 : decode cX8_value 38 = .ok (.i2l, 1) := by decide +kernel
theorem dX8_value_39 : decode cX8_value 39 = .ok (.goto 13, 3) := by decide +kernel
theorem dX8_value_42 : decode cX8_value 42 = .ok (.aload_n 0, 1) := by decide +kernel
theorem dX8_value_43 : decode cX8_value 43 = .ok (.getfield 23, 3) := by decide +kernel
theorem dX8_value_46 : decode cX8_value 46 = .ok (.aload_n 0, 1) := by decide +kernel
theorem dX8_value_47 : decode cX8_value 47 = .ok (.getfield 72, 3) := by decide +kernel
theorem dX8_value_50 : decode cX8_value 50 = .ok (.iaload, 1) := by decide +kernel
theorem dX8_value_51 : decode cX8_value 51 = .ok (.i2l, 1) := by decide +kernel
theorem dX8_value_52 : decode cX8_value 52 = .ok (.lreturn, 1) := by decide +kernel
theorem dX8_told_0 : decode cX8_told 0 = .ok (.iload_n 1, 1) := by decide +kernel
theorem dX8_told_1 : decode cX8_told 1 = .ok (.invokestatic 57, 3) := by decide +kernel
theorem dX8_told_4 : decode cX8_told 4 = .ok (.ifCond .eq 5, 3) := by decide +kernel
theorem dX8_told_7 : decode cX8_told 7 = .ok (.iconst (-1), 1) := by decide +kernel
theorem dX8_told_8 : decode cX8_told 8 = .ok (.ireturn, 1) := by decide +kernel
theorem dX8_told_9 : decode cX8_told 9 = .ok (.aload_n 0, 1) := by decide +kernel
theorem dX8_told_10 : decode cX8_told 10 = .ok (.getfield 13, 3) := by decide +kernel
theorem dX8_told_13 : decode cX8_told 13 = .ok (.iload_n 1, 1) := by decide +kernel
theorem dX8_told_14 : decode cX8_told 14 = .ok (.iaload, 1) := by decide +kernel
theorem dX8_told_15 : decode cX8_told 15 = .ok (.istore_n 2, 1) := by decide +kernel
theorem dX8_told_16 : decode cX8_told 16 = .ok (.aload_n 0, 1) := by decide +kernel
theorem dX8_told_17 : decode cX8_told 17 = .ok (.getfield 7, 3) := by decide +kernel
theorem dX8_told_20 : decode cX8_told 20 = .ok (.iload_n 1, 1) := by decide +kernel
theorem dX8_told_21 : decode cX8_told 21 = .ok (.iaload, 1) := by decide +kernel
theorem dX8_told_22 : decode cX8_told 22 = .ok (.ifCond .ne 8, 3) := by decide +kernel
theorem dX8_told_25 : decode cX8_told 25 = .ok (.bipush (-9), 2) := by decide +kernel
theorem dX8_told_27 : decode cX8_told 27 = .ok (.goto 38, 3) := by decide +kernel
theorem dX8_told_30 : decode cX8_told 30 = .ok (.aload_n 0, 1) := by decide +kernel
theorem dX8_told_31 : decode cX8_told 31 = .ok (.getfield 7, 3) := by decide +kernel
theorem dX8_told_34 : decode cX8_told 34 = .ok (.iload_n 1, 1) := by decide +kernel
theorem dX8_told_35 : decode cX8_told 35 = .ok (.iaload, 1) := by decide +kernel
theorem dX8_told_36 : decode cX8_told 36 = .ok (.iconst 3, 1) := by decide +kernel
theorem dX8_told_37 : decode cX8_told 37 = .ok (.if_icmp .ne 12, 3) := by decide +kernel
theorem dX8_told_40 : decode cX8_told 40 = .ok (.aload_n 0, 1) := by decide +kernel
theorem dX8_told_41 : decode cX8_told 41 = .ok (.getfield 20, 3) := by decide +kernel
theorem dX8_told_44 : decode cX8_told 44 = .ok (.iload_n 2, 1) := by decide +kernel
theorem dX8_told_45 : decode cX8_told 45 = .ok (.iaload, 1) := by decide +kernel
theorem dX8_told_46 : decode cX8_told 46 = .ok (.goto 19, 3) := by decide +kernel
theorem dX8_told_49 : decode cX8_told 49 = .ok (.aload_n 0, 1) := by decide +kernel
theorem dX8_told_50 : decode cX8_told 50 = .ok (.getfield 16, 3) := by decide +kernel
theorem dX8_told_53 : decode cX8_told 53 = .ok (.iload_n 2, 1) := by decide +kernel
theorem dX8_told_54 : decode cX8_told 54 = .ok (.baload, 1) := by decide +kernel
theorem dX8_told_55 : decode cX8_told 55 = .ok (.ifCond .eq 8, 3) := by decide +kernel
theorem dX8_told_58 : decode cX8_told 58 = .ok (.bipush 12, 2) := by decide +kernel
theorem dX8_told_60 : decode cX8_told 60 = .ok (.goto 5, 3) := by decide +kernel
theorem dX8_told_63 : decode cX8_told 63 = .ok (.bipush 11, 2) := by decide +kernel
theorem dX8_told_65 : decode cX8_told 65 = .ok (.ireturn, 1) := by decide +kernel
theorem dX8_same_0 : decode cX8_same 0 = .ok (.iload_n 1, 1) := by decide +kernel
theorem dX8_same_1 : decode cX8_same 1 = .ok (.invokestatic 57, 3) := by decide +kernel
theorem dX8_same_4 : decode cX8_same 4 = .ok (.ifCond .eq 5, 3) := by decide +kernel
theorem dX8_same_7 : decode cX8_same 7 = .ok (.iconst (-1), 1) := by decide +kernel
theorem dX8_same_8 : decode cX8_same 8 = .ok (.ireturn, 1) := by decide +kernel
theorem dX8_same_9 : decode cX8_same 9 = .ok (.iconst 0, 1) := by decide +kernel
theorem dX8_same_10 : decode cX8_same 10 = .ok (.istore_n 2, 1) := by decide +kernel
theorem dX8_same_11 : decode cX8_same 11 = .ok (.iconst 0, 1) := by decide +kernel
theorem dX8_same_12 : decode cX8_same 12 = .ok (.istore_n 3, 1) := by decide +kernel
theorem dX8_same_13 : decode cX8_same 13 = .ok (.iload_n 3, 1) := by decide +kernel
theorem dX8_same_14 : decode cX8_same 14 = .ok (.bipush 10, 2) := by decide +kernel
theorem dX8_same_16 : decode cX8_same 16 = .ok (.if_icmp .ge 56, 3) := by decide +kernel
theorem dX8_same_19 : decode cX8_same 19 = .ok (.iload_n 2, 1) := by decide +kernel
theorem dX8_same_20 : decode cX8_same 20 = .ok (.aload_n 0, 1) := by decide +kernel
theorem dX8_same_21 : decode cX8_same 21 = .ok (.getfield 7, 3) := by decide +kernel
theorem dX8_same_24 : decode cX8_same 24 = .ok (.iload_n 1, 1) := by decide +kernel
theorem dX8_same_25 : decode cX8_same 25 = .ok (.iaload, 1) := by decide +kernel
theorem dX8_same_26 : decode cX8_same 26 = .ok (.ifCond .le 37, 3) := by decide +kernel
theorem dX8_same_29 : decode cX8_same 29 = .ok (.aload_n 0, 1) := by decide +kernel
theorem dX8_same_30 : decode cX8_same 30 = .ok (.getfield 7, 3) := by decide +kernel
theorem dX8_same_33 : decode cX8_same 33 = .ok (.iload_n 3, 1) := by decide +kernel
theorem dX8_same_34 : decode cX8_same 34 = .ok (.iaload, 1) := by decide +kernel
theorem dX8_same_35 : decode cX8_same 35 = .ok (.aload_n 0, 1) := by decide +kernel
theorem dX8_same_36 : decode cX8_same 36 = .ok (.getfield 7, 3) := by decide +kernel
theorem dX8_same_39 : decode cX8_same 39 = .ok (.iload_n 1, 1) := by decide +kernel
theorem dX8_same_40 : decode cX8_same 40 = .ok (.iaload, 1) := by decide +kernel
theorem dX8_same_41 : decode cX8_same 41 = .ok (.if_icmp .ne 22, 3) := by decide +kernel
theorem dX8_same_44 : decode cX8_same 44 = .ok (.aload_n 0, 1) := by decide +kernel
theorem dX8_same_45 : decode cX8_same 45 = .ok (.getfield 13, 3) := by decide +kernel
theorem dX8_same_48 : decode cX8_same 48 = .ok (.iload_n 3, 1) := by decide +kernel
theorem dX8_same_49 : decode cX8_same 49 = .ok (.iaload, 1) := by decide +kernel
theorem dX8_same_50 : decode cX8_same 50 = .ok (.aload_n 0, 1) := by decide +kernel
theorem dX8_same_51 : decode cX8_same 51 = .ok (.getfield 13, 3) := by decide +kernel
theorem dX8_same_54 : decode cX8_same 54 = .ok (.iload_n 1, 1) := by decide +kernel
theorem dX8_same_55 : decode cX8_same 55 = .ok (.iaload, 1) := by decide +kernel
theorem dX8_same_56 : decode cX8_same 56 = .ok (.if_icmp .ne 7, 3) := by decide +kernel
theorem dX8_same_59 : decode cX8_same 59 = .ok (.iconst 1, 1) := by decide +kernel
theorem dX8_same_60 : decode cX8_same 60 = .ok (.goto 4, 3) := by decide +kernel
theorem dX8_same_63 : decode cX8_same 63 = .ok (.iconst 0, 1) := by decide +kernel
theorem dX8_same_64 : decode cX8_same 64 = .ok (.iadd, 1) := by decide +kernel
theorem dX8_same_65 : decode cX8_same 65 = .ok (.istore_n 2, 1) := by decide +kernel
theorem dX8_same_66 : decode cX8_same 66 = .ok (.iinc 3 1, 3) := by decide +kernel
theorem dX8_same_69 : decode cX8_same 69 = .ok (.goto (-56), 3) := by decide +kernel
theorem dX8_same_72 : decode cX8_same 72 = .ok (.iload_n 2, 1) := by decide +kernel
theorem dX8_same_73 : decode cX8_same 73 = .ok (.ireturn, 1) := by decide +kernel
theorem dL_law_0 : decode cL_law 0 = .ok (.new 7, 3) := by decide +kernel
theorem dL_law_3 : decode cL_law 3 = .ok (.dup, 1) := by decide +kernel
theorem dL_law_4 : decode cL_law 4 = .ok (.invokespecial 9, 3) := by decide +kernel
theorem dL_law_7 : decode cL_law 7 = .ok (.astore_n 1, 1) := by decide +kernel
theorem dL_law_8 : decode cL_law 8 = .ok (.new 10, 3) := by decide +kernel
theorem dL_law_11 : decode cL_law 11 = .ok (.dup, 1) := by decide +kernel
theorem dL_law_12 : decode cL_law 12 = .ok (.invokespecial 12, 3) := by decide +kernel
theorem dL_law_15 : decode cL_law 15 = .ok (.astore_n 2, 1) := by decide +kernel
theorem dL_law_16 : decode cL_law 16 = .ok (.iconst 0, 1) := by decide +kernel
theorem dL_law_17 : decode cL_law 17 = .ok (.istore_n 3, 1) := by decide +kernel
theorem dL_law_18 : decode cL_law 18 = .ok (.iload_n 3, 1) := by decide +kernel
theorem dL_law_19 : decode cL_law 19 = .ok (.aload_n 0, 1) := by decide +kernel
theorem dL_law_20 : decode cL_law 20 = .ok (.arraylength, 1) := by decide +kernel
theorem dL_law_21 : decode cL_law 21 = .ok (.bipush 6, 2) := by decide +kernel
theorem dL_law_23 : decode cL_law 23 = .ok (.isub, 1) := by decide +kernel
theorem dL_law_24 : decode cL_law 24 = .ok (.if_icmp .gt 1009, 3) := by decide +kernel
theorem dL_law_27 : decode cL_law 27 = .ok (.aload_n 0, 1) := by decide +kernel
theorem dL_law_28 : decode cL_law 28 = .ok (.iload_n 3, 1) := by decide +kernel
theorem dL_law_29 : decode cL_law 29 = .ok (.iaload, 1) := by decide +kernel
theorem dL_law_30 : decode cL_law 30 = .ok (.bipush 31, 2) := by decide +kernel
theorem dL_law_32 : decode cL_law 32 = .ok (.iand, 1) := by decide +kernel
theorem dL_law_33 : decode cL_law 33 = .ok (.tableswitch 994 0 27 #[127, 170, 193, 226, 249, 312, 351, 374, 387, 420, 453, 496, 539, 562, 605, 658, 701, 724, 747, 810, 849, 872, 885, 898, 921, 934, 948, 971], 127) := by decide +kernel
theorem dL_law_160 : decode cL_law 160 = .ok (.aload_n 1, 1) := by decide +kernel
theorem dL_law_161 : decode cL_law 161 = .ok (.aload_n 0, 1) := by decide +kernel
theorem dL_law_162 : decode cL_law 162 = .ok (.iload_n 3, 1) := by decide +kernel
theorem dL_law_163 : decode cL_law 163 = .ok (.iconst 1, 1) := by decide +kernel
theorem dL_law_164 : decode cL_law 164 = .ok (.iadd, 1) := by decide +kernel
theorem dL_law_165 : decode cL_law 165 = .ok (.iaload, 1) := by decide +kernel
theorem dL_law_166 : decode cL_law 166 = .ok (.aload_n 0, 1) := by decide +kernel
theorem dL_law_167 : decode cL_law 167 = .ok (.iload_n 3, 1) := by decide +kernel
theorem dL_law_168 : decode cL_law 168 = .ok (.iconst 2, 1) := by decide +kernel
theorem dL_law_169 : decode cL_law 169 = .ok (.iadd, 1) := by decide +kernel
theorem dL_law_170 : decode cL_law 170 = .ok (.iaload, 1) := by decide +kernel
theorem dL_law_171 : decode cL_law 171 = .ok (.aload_n 0, 1) := by decide +kernel
theorem dL_law_172 : decode cL_law 172 = .ok (.iload_n 3, 1) := by decide +kernel
theorem dL_law_173 : decode cL_law 173 = .ok (.iconst 3, 1) := by decide +kernel
theorem dL_law_174 : decode cL_law 174 = .ok (.iadd, 1) := by decide +kernel
theorem dL_law_175 : decode cL_law 175 = .ok (.iaload, 1) := by decide +kernel
theorem dL_law_176 : decode cL_law 176 = .ok (.invokevirtual 13, 3) := by decide +kernel
theorem dL_law_179 : decode cL_law 179 = .ok (.aload_n 2, 1) := by decide +kernel
theorem dL_law_180 : decode cL_law 180 = .ok (.aload_n 0, 1) := by decide +kernel
theorem dL_law_181 : decode cL_law 181 = .ok (.iload_n 3, 1) := by decide +kernel
theorem dL_law_182 : decode cL_law 182 = .ok (.iconst 1, 1) := by decide +kernel
theorem dL_law_183 : decode cL_law 183 = .ok (.iadd, 1) := by decide +kernel
theorem dL_law_184 : decode cL_law 184 = .ok (.iaload, 1) := by decide +kernel
theorem dL_law_185 : decode cL_law 185 = .ok (.aload_n 0, 1) := by decide +kernel
theorem dL_law_186 : decode cL_law 186 = .ok (.iload_n 3, 1) := by decide +kernel
theorem dL_law_187 : decode cL_law 187 = .ok (.iconst 2, 1) := by decide +kernel
theorem dL_law_188 : decode cL_law 188 = .ok (.iadd, 1) := by decide +kernel
theorem dL_law_189 : decode cL_law 189 = .ok (.iaload, 1) := by decide +kernel
theorem dL_law_190 : decode cL_law 190 = .ok (.aload_n 0, 1) := by decide +kernel
theorem dL_law_191 : decode cL_law 191 = .ok (.iload_n 3, 1) := by decide +kernel
theorem dL_law_192 : decode cL_law 192 = .ok (.iconst 3, 1) := by decide +kernel
theorem dL_law_193 : decode cL_law 193 = .ok (.iadd, 1) := by decide +kernel
theorem dL_law_194 : decode cL_law 194 = .ok (.iaload, 1) := by decide +kernel
theorem dL_law_195 : decode cL_law 195 = .ok (.invokevirtual 17, 3) := by decide +kernel
theorem dL_law_198 : decode cL_law 198 = .ok (.if_icmp .eq 829, 3) := by decide +kernel
theorem dL_law_201 : decode cL_law 201 = .ok (.iconst 0, 1) := by decide +kernel
theorem dL_law_202 : decode cL_law 202 = .ok (.ireturn, 1) := by decide +kernel
theorem dL_law_203 : decode cL_law 203 = .ok (.aload_n 1, 1) := by decide +kernel
theorem dL_law_204 : decode cL_law 204 = .ok (.aload_n 0, 1) := by decide +kernel
theorem dL_law_205 : decode cL_law 205 = .ok (.iload_n 3, 1) := by decide +kernel
theorem dL_law_206 : decode cL_law 206 = .ok (.iconst 1, 1) := by decide +kernel
theorem dL_law_207 : decode cL_law 207 = .ok (.iadd, 1) := by decide +kernel
theorem dL_law_208 : decode cL_law 208 = .ok (.iaload, 1) := by decide +kernel
theorem dL_law_209 : decode cL_law 209 = .ok (.invokevirtual 18, 3) := by decide +kernel
theorem dL_law_212 : decode cL_law 212 = .ok (.aload_n 2, 1) := by decide +kernel
theorem dL_law_213 : decode cL_law 213 = .ok (.aload_n 0, 1) := by decide +kernel
theorem dL_law_214 : decode cL_law 214 = .ok (.iload_n 3, 1) := by decide +kernel
theorem dL_law_215 : decode cL_law 215 = .ok (.iconst 1, 1) := by decide +kernel
theorem dL_law_216 : decode cL_law 216 = .ok (.iadd, 1) := by decide +kernel
theorem dL_law_217 : decode cL_law 217 = .ok (.iaload, 1) := by decide +kernel
theorem dL_law_218 : decode cL_law 218 = .ok (.invokevirtual 22, 3) := by decide +kernel
theorem dL_law_221 : decode cL_law 221 = .ok (.if_icmp .eq 806, 3) := by decide +kernel
theorem dL_law_224 : decode cL_law 224 = .ok (.iconst 0, 1) := by decide +kernel
theorem dL_law_225 : decode cL_law 225 = .ok (.ireturn, 1) := by decide +kernel
theorem dL_law_226 : decode cL_law 226 = .ok (.aload_n 1, 1) := by decide +kernel
theorem dL_law_227 : decode cL_law 227 = .ok (.aload_n 0, 1) := by decide +kernel
theorem dL_law_228 : decode cL_law 228 = .ok (.iload_n 3, 1) := by decide +kernel
theorem dL_law_229 : decode cL_law 229 = .ok (.iconst 1, 1) := by decide +kernel
theorem dL_law_230 : decode cL_law 230 = .ok (.iadd, 1) := by decide +kernel
theorem dL_law_231 : decode cL_law 231 = .ok (.iaload, 1) := by decide +kernel
theorem dL_law_232 : decode cL_law 232 = .ok (.aload_n 0, 1) := by decide +kernel
theorem dL_law_233 : decode cL_law 233 = .ok (.iload_n 3, 1) := by decide +kernel
theorem dL_law_234 : decode cL_law 234 = .ok (.iconst 2, 1) := by decide +kernel
theorem dL_law_235 : decode cL_law 235 = .ok (.iadd, 1) := by decide +kernel
theorem dL_law_236 : decode cL_law 236 = .ok (.iaload, 1) := by decide +kernel
theorem dL_law_237 : decode cL_law 237 = .ok (.invokevirtual 23, 3) := by decide +kernel
theorem dL_law_240 : decode cL_law 240 = .ok (.aload_n 2, 1) := by decide +kernel
theorem dL_law_241 : decode cL_law 241 = .ok (.aload_n 0, 1) := by decide +kernel
theorem dL_law_242 : decode cL_law 242 = .ok (.iload_n 3, 1) := by decide +kernel
theorem dL_law_243 : decode cL_law 243 = .ok (.iconst 1, 1) := by decide +kernel
theorem dL_law_244 : decode cL_law 244 = .ok (.iadd, 1) := by decide +kernel
theorem dL_law_245 : decode cL_law 245 = .ok (.iaload, 1) := by decide +kernel
theorem dL_law_246 : decode cL_law 246 = .ok (.aload_n 0, 1) := by decide +kernel
theorem dL_law_247 : decode cL_law 247 = .ok (.iload_n 3, 1) := by decide +kernel
theorem dL_law_248 : decode cL_law 248 = .ok (.iconst 2, 1) := by decide +kernel
theorem dL_law_249 : decode cL_law 249 = .ok (.iadd, 1) := by decide +kernel
theorem dL_law_250 : decode cL_law 250 = .ok (.iaload, 1) := by decide +kernel
theorem dL_law_251 : decode cL_law 251 = .ok (.invokevirtual 27, 3) := by decide +kernel
theorem dL_law_254 : decode cL_law 254 = .ok (.if_icmp .eq 773, 3) := by decide +kernel
theorem dL_law_257 : decode cL_law 257 = .ok (.iconst 0, 1) := by decide +kernel
theorem dL_law_258 : decode cL_law 258 = .ok (.ireturn, 1) := by decide +kernel
theorem dL_law_259 : decode cL_law 259 = .ok (.aload_n 1, 1) := by decide +kernel
theorem dL_law_260 : decode cL_law 260 = .ok (.aload_n 0, 1) := by decide +kernel
theorem dL_law_261 : decode cL_law 261 = .ok (.iload_n 3, 1) := by decide +kernel
theorem dL_law_262 : decode cL_law 262 = .ok (.iconst 1, 1) := by decide +kernel
theorem dL_law_263 : decode cL_law 263 = .ok (.iadd, 1) := by decide +kernel
theorem dL_law_264 : decode cL_law 264 = .ok (.iaload, 1) := by decide +kernel
theorem dL_law_265 : decode cL_law 265 = .ok (.invokevirtual 28, 3) := by decide +kernel
theorem dL_law_268 : decode cL_law 268 = .ok (.aload_n 2, 1) := by decide +kernel
theorem dL_law_269 : decode cL_law 269 = .ok (.aload_n 0, 1) := by decide +kernel
theorem dL_law_270 : decode cL_law 270 = .ok (.iload_n 3, 1) := by decide +kernel
theorem dL_law_271 : decode cL_law 271 = .ok (.iconst 1, 1) := by decide +kernel
theorem dL_law_272 : decode cL_law 272 = .ok (.iadd, 1) := by decide +kernel
theorem dL_law_273 : decode cL_law 273 = .ok (.iaload, 1) := by decide +kernel
theorem dL_law_274 : decode cL_law 274 = .ok (.invokevirtual 31, 3) := by decide +kernel
theorem dL_law_277 : decode cL_law 277 = .ok (.if_icmp .eq 750, 3) := by decide +kernel
theorem dL_law_280 : decode cL_law 280 = .ok (.iconst 0, 1) := by decide +kernel
theorem dL_law_281 : decode cL_law 281 = .ok (.ireturn, 1) := by decide +kernel
theorem dL_law_282 : decode cL_law 282 = .ok (.aload_n 1, 1) := by decide +kernel
theorem dL_law_283 : decode cL_law 283 = .ok (.aload_n 0, 1) := by decide +kernel
theorem dL_law_284 : decode cL_law 284 = .ok (.iload_n 3, 1) := by decide +kernel
theorem dL_law_285 : decode cL_law 285 = .ok (.iconst 1, 1) := by decide +kernel
theorem dL_law_286 : decode cL_law 286 = .ok (.iadd, 1) := by decide +kernel
theorem dL_law_287 : decode cL_law 287 = .ok (.iaload, 1) := by decide +kernel
theorem dL_law_288 : decode cL_law 288 = .ok (.aload_n 0, 1) := by decide +kernel
theorem dL_law_289 : decode cL_law 289 = .ok (.iload_n 3, 1) := by decide +kernel
theorem dL_law_290 : decode cL_law 290 = .ok (.iconst 2, 1) := by decide +kernel
theorem dL_law_291 : decode cL_law 291 = .ok (.iadd, 1) := by decide +kernel
theorem dL_law_292 : decode cL_law 292 = .ok (.iaload, 1) := by decide +kernel
theorem dL_law_293 : decode cL_law 293 = .ok (.i2l, 1) := by decide +kernel
theorem dL_law_294 : decode cL_law 294 = .ok (.bipush 32, 2) := by decide +kernel
theorem dL_law_296 : decode cL_law 296 = .ok (.lshl, 1) := by decide +kernel
theorem dL_law_297 : decode cL_law 297 = .ok (.aload_n 0, 1) := by decide +kernel
theorem dL_law_298 : decode cL_law 298 = .ok (.iload_n 3, 1) := by decide +kernel
