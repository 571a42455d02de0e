theorem dX7_forgetRun_7 : decode cX7_forgetRun 7 = .ok (.if_icmp .ge 20, 3) := by decide +kernel
theorem dX7_forgetRun_10 : decode cX7_forgetRun 10 = .ok (.aload_n 0, 1) := by decide +kernel
theorem dX7_forgetRun_11 : decode cX7_forgetRun 11 = .ok (.getfield 27, 3) := by decide +kernel
theorem dX7_forgetRun_14 : decode cX7_forgetRun 14 = .ok (.iload_n 1, 1) := by decide +kernel
theorem dX7_forgetRun_15 : decode cX7_forgetRun 15 = .ok (.aaload, 1) := by decide +kernel
theorem dX7_forgetRun_16 : decode cX7_forgetRun 16 = .ok (.bipush (-9), 2) := by decide +kernel
theorem dX7_forgetRun_18 : decode cX7_forgetRun 18 = .ok (.putfield 145, 3) := by decide +kernel
theorem dX7_forgetRun_21 : decode cX7_forgetRun 21 = .ok (.iinc 1 1, 3) := by decide +kernel
theorem dX7_forgetRun_24 : decode cX7_forgetRun 24 = .ok (.goto (-22), 3) := by decide +kernel
theorem dX7_forgetRun_27 : decode cX7_forgetRun 27 = .ok (.return_, 1) := by decide +kernel
theorem dX7_doStep_0 : decode cX7_doStep 0 = .ok (.aload_n 0, 1) := by decide +kernel
theorem dX7_doStep_1 : decode cX7_doStep 1 = .ok (.getfield 11, 3) := by decide +kernel
theorem dX7_doStep_4 : decode cX7_doStep 4 = .ok (.aload_n 1, 1) := by decide +kernel
theorem dX7_doStep_5 : decode cX7_doStep 5 = .ok (.getfield 194, 3) := by decide +kernel
theorem dX7_doStep_8 : decode cX7_doStep 8 = .ok (.aaload, 1) := by decide +kernel
theorem dX7_doStep_9 : decode cX7_doStep 9 = .ok (.astore_n 2, 1) := by decide +kernel
theorem dX7_doStep_10 : decode cX7_doStep 10 = .ok (.aload_n 1, 1) := by decide +kernel
theorem dX7_doStep_11 : decode cX7_doStep 11 = .ok (.getfield 197, 3) := by decide +kernel
theorem dX7_doStep_14 : decode cX7_doStep 14 = .ok (.tableswitch 126 0 4 #[34, 47, 60, 77, 112], 34) := by decide +kernel
theorem dX7_doStep_48 : decode cX7_doStep 48 = .ok (.aload_n 2, 1) := by decide +kernel
theorem dX7_doStep_49 : decode cX7_doStep 49 = .ok (.aload_n 1, 1) := by decide +kernel
theorem dX7_doStep_50 : decode cX7_doStep 50 = .ok (.getfield 200, 3) := by decide +kernel
theorem dX7_doStep_53 : decode cX7_doStep 53 = .ok (.aload_n 0, 1) := by decide +kernel
theorem dX7_doStep_54 : decode cX7_doStep 54 = .ok (.getfield 18, 3) := by decide +kernel
theorem dX7_doStep_57 : decode cX7_doStep 57 = .ok (.invokestatic 72, 3) := by decide +kernel
theorem dX7_doStep_60 : decode cX7_doStep 60 = .ok (.ireturn, 1) := by decide +kernel
theorem dX7_doStep_61 : decode cX7_doStep 61 = .ok (.aload_n 2, 1) := by decide +kernel
theorem dX7_doStep_62 : decode cX7_doStep 62 = .ok (.aload_n 1, 1) := by decide +kernel
theorem dX7_doStep_63 : decode cX7_doStep 63 = .ok (.getfield 200, 3) := by decide +kernel
theorem dX7_doStep_66 : decode cX7_doStep 66 = .ok (.aload_n 0, 1) := by decide +kernel
theorem dX7_doStep_67 : decode cX7_doStep 67 = .ok (.getfield 18, 3) := by decide +kernel
theorem dX7_doStep_70 : decode cX7_doStep 70 = .ok (.invokestatic 83, 3) := by decide +kernel
theorem dX7_doStep_73 : decode cX7_doStep 73 = .ok (.ireturn, 1) := by decide +kernel
theorem dX7_doStep_74 : decode cX7_doStep 74 = .ok (.aload_n 2, 1) := by decide +kernel
theorem dX7_doStep_75 : decode cX7_doStep 75 = .ok (.aload_n 1, 1) := by decide +kernel
theorem dX7_doStep_76 : decode cX7_doStep 76 = .ok (.getfield 200, 3) := by decide +kernel
theorem dX7_doStep_79 : decode cX7_doStep 79 = .ok (.aload_n 1, 1) := by decide +kernel
theorem dX7_doStep_80 : decode cX7_doStep 80 = .ok (.getfield 203, 3) := by decide +kernel
theorem dX7_doStep_83 : decode cX7_doStep 83 = .ok (.aload_n 0, 1) := by decide +kernel
theorem dX7_doStep_84 : decode cX7_doStep 84 = .ok (.getfield 18, 3) := by decide +kernel
theorem dX7_doStep_87 : decode cX7_doStep 87 = .ok (.invokestatic 86, 3) := by decide +kernel
theorem dX7_doStep_90 : decode cX7_doStep 90 = .ok (.ireturn, 1) := by decide +kernel
theorem dX7_doStep_91 : decode cX7_doStep 91 = .ok (.aload_n 0, 1) := by decide +kernel
theorem dX7_doStep_92 : decode cX7_doStep 92 = .ok (.getfield 18, 3) := by decide +kernel
theorem dX7_doStep_95 : decode cX7_doStep 95 = .ok (.getfield 76, 3) := by decide +kernel
theorem dX7_doStep_98 : decode cX7_doStep 98 = .ok (.invokestatic 40, 3) := by decide +kernel
theorem dX7_doStep_101 : decode cX7_doStep 101 = .ok (.ifCond .ne 5, 3) := by decide +kernel
theorem dX7_doStep_104 : decode cX7_doStep 104 = .ok (.iconst 0, 1) := by decide +kernel
theorem dX7_doStep_105 : decode cX7_doStep 105 = .ok (.ireturn, 1) := by decide +kernel
theorem dX7_doStep_106 : decode cX7_doStep 106 = .ok (.aload_n 2, 1) := by decide +kernel
theorem dX7_doStep_107 : decode cX7_doStep 107 = .ok (.aload_n 1, 1) := by decide +kernel
theorem dX7_doStep_108 : decode cX7_doStep 108 = .ok (.getfield 200, 3) := by decide +kernel
theorem dX7_doStep_111 : decode cX7_doStep 111 = .ok (.aload_n 1, 1) := by decide +kernel
theorem dX7_doStep_112 : decode cX7_doStep 112 = .ok (.getfield 203, 3) := by decide +kernel
theorem dX7_doStep_115 : decode cX7_doStep 115 = .ok (.aload_n 0, 1) := by decide +kernel
theorem dX7_doStep_116 : decode cX7_doStep 116 = .ok (.getfield 18, 3) := by decide +kernel
theorem dX7_doStep_119 : decode cX7_doStep 119 = .ok (.getfield 90, 3) := by decide +kernel
theorem dX7_doStep_122 : decode cX7_doStep 122 = .ok (.invokestatic 94, 3) := by decide +kernel
theorem dX7_doStep_125 : decode cX7_doStep 125 = .ok (.ireturn, 1) := by decide +kernel
theorem dX7_doStep_126 : decode cX7_doStep 126 = .ok (.aload_n 0, 1) := by decide +kernel
theorem dX7_doStep_127 : decode cX7_doStep 127 = .ok (.aload_n 2, 1) := by decide +kernel
theorem dX7_doStep_128 : decode cX7_doStep 128 = .ok (.aload_n 1, 1) := by decide +kernel
theorem dX7_doStep_129 : decode cX7_doStep 129 = .ok (.getfield 200, 3) := by decide +kernel
theorem dX7_doStep_132 : decode cX7_doStep 132 = .ok (.aload_n 1, 1) := by decide +kernel
theorem dX7_doStep_133 : decode cX7_doStep 133 = .ok (.getfield 203, 3) := by decide +kernel
theorem dX7_doStep_136 : decode cX7_doStep 136 = .ok (.invokevirtual 105, 3) := by decide +kernel
theorem dX7_doStep_139 : decode cX7_doStep 139 = .ok (.ireturn, 1) := by decide +kernel
theorem dX7_doStep_140 : decode cX7_doStep 140 = .ok (.aload_n 0, 1) := by decide +kernel
theorem dX7_doStep_141 : decode cX7_doStep 141 = .ok (.aload_n 2, 1) := by decide +kernel
theorem dX7_doStep_142 : decode cX7_doStep 142 = .ok (.aload_n 1, 1) := by decide +kernel
theorem dX7_doStep_143 : decode cX7_doStep 143 = .ok (.getfield 200, 3) := by decide +kernel
theorem dX7_doStep_146 : decode cX7_doStep 146 = .ok (.aload_n 0, 1) := by decide +kernel
theorem dX7_doStep_147 : decode cX7_doStep 147 = .ok (.getfield 11, 3) := by decide +kernel
theorem dX7_doStep_150 : decode cX7_doStep 150 = .ok (.aload_n 1, 1) := by decide +kernel
theorem dX7_doStep_151 : decode cX7_doStep 151 = .ok (.getfield 206, 3) := by decide +kernel
theorem dX7_doStep_154 : decode cX7_doStep 154 = .ok (.aaload, 1) := by decide +kernel
theorem dX7_doStep_155 : decode cX7_doStep 155 = .ok (.aload_n 1, 1) := by decide +kernel
theorem dX7_doStep_156 : decode cX7_doStep 156 = .ok (.getfield 203, 3) := by decide +kernel
theorem dX7_doStep_159 : decode cX7_doStep 159 = .ok (.invokevirtual 209, 3) := by decide +kernel
theorem dX7_doStep_162 : decode cX7_doStep 162 = .ok (.ireturn, 1) := by decide +kernel
theorem dX8_init_0 : decode cX8_init 0 = .ok (.aload_n 0, 1) := by decide +kernel
theorem dX8_init_1 : decode cX8_init 1 = .ok (.invokespecial 1, 3) := by decide +kernel
theorem dX8_init_4 : decode cX8_init 4 = .ok (.aload_n 0, 1) := by decide +kernel
theorem dX8_init_5 : decode cX8_init 5 = .ok (.bipush 10, 2) := by decide +kernel
theorem dX8_init_7 : decode cX8_init 7 = .ok (.newarray .int, 2) := by decide +kernel
theorem dX8_init_9 : decode cX8_init 9 = .ok (.putfield 7, 3) := by decide +kernel
theorem dX8_init_12 : decode cX8_init 12 = .ok (.aload_n 0, 1) := by decide +kernel
theorem dX8_init_13 : decode cX8_init 13 = .ok (.bipush 10, 2) := by decide +kernel
theorem dX8_init_15 : decode cX8_init 15 = .ok (.newarray .int, 2) := by decide +kernel
theorem dX8_init_17 : decode cX8_init 17 = .ok (.putfield 13, 3) := by decide +kernel
theorem dX8_init_20 : decode cX8_init 20 = .ok (.aload_n 0, 1) := by decide +kernel
theorem dX8_init_21 : decode cX8_init 21 = .ok (.bipush 41, 2) := by decide +kernel
theorem dX8_init_23 : decode cX8_init 23 = .ok (.newarray .boolean, 2) := by decide +kernel
theorem dX8_init_25 : decode cX8_init 25 = .ok (.putfield 16, 3) := by decide +kernel
theorem dX8_init_28 : decode cX8_init 28 = .ok (.aload_n 0, 1) := by decide +kernel
theorem dX8_init_29 : decode cX8_init 29 = .ok (.sipush 5000, 3) := by decide +kernel
theorem dX8_init_32 : decode cX8_init 32 = .ok (.newarray .int, 2) := by decide +kernel
theorem dX8_init_34 : decode cX8_init 34 = .ok (.putfield 20, 3) := by decide +kernel
theorem dX8_init_37 : decode cX8_init 37 = .ok (.aload_n 0, 1) := by decide +kernel
theorem dX8_init_38 : decode cX8_init 38 = .ok (.sipush 5000, 3) := by decide +kernel
theorem dX8_init_41 : decode cX8_init 41 = .ok (.newarray .int, 2) := by decide +kernel
theorem dX8_init_43 : decode cX8_init 43 = .ok (.putfield 23, 3) := by decide +kernel
theorem dX8_init_46 : decode cX8_init 46 = .ok (.aload_n 0, 1) := by decide +kernel
theorem dX8_init_47 : decode cX8_init 47 = .ok (.ldc 26, 2) := by decide +kernel
theorem dX8_init_49 : decode cX8_init 49 = .ok (.newarray .long, 2) := by decide +kernel
theorem dX8_init_51 : decode cX8_init 51 = .ok (.putfield 27, 3) := by decide +kernel
theorem dX8_init_54 : decode cX8_init 54 = .ok (.aload_n 0, 1) := by decide +kernel
theorem dX8_init_55 : decode cX8_init 55 = .ok (.bipush 60, 2) := by decide +kernel
theorem dX8_init_57 : decode cX8_init 57 = .ok (.newarray .int, 2) := by decide +kernel
theorem dX8_init_59 : decode cX8_init 59 = .ok (.putfield 31, 3) := by decide +kernel
theorem dX8_init_62 : decode cX8_init 62 = .ok (.aload_n 0, 1) := by decide +kernel
theorem dX8_init_63 : decode cX8_init 63 = .ok (.bipush 12, 2) := by decide +kernel
theorem dX8_init_65 : decode cX8_init 65 = .ok (.newarray .int, 2) := by decide +kernel
theorem dX8_init_67 : decode cX8_init 67 = .ok (.putfield 34, 3) := by decide +kernel
theorem dX8_init_70 : decode cX8_init 70 = .ok (.aload_n 0, 1) := by decide +kernel
theorem dX8_init_71 : decode cX8_init 71 = .ok (.iconst 4, 1) := by decide +kernel
theorem dX8_init_72 : decode cX8_init 72 = .ok (.newarray .int, 2) := by decide +kernel
theorem dX8_init_74 : decode cX8_init 74 = .ok (.putfield 37, 3) := by decide +kernel
theorem dX8_init_77 : decode cX8_init 77 = .ok (.return_, 1) := by decide +kernel
theorem dX8_beyond_0 : decode cX8_beyond 0 = .ok (.lload_n 0, 1) := by decide +kernel
theorem dX8_beyond_1 : decode cX8_beyond 1 = .ok (.lload_n 2, 1) := by decide +kernel
theorem dX8_beyond_2 : decode cX8_beyond 2 = .ok (.lcmp, 1) := by decide +kernel
theorem dX8_beyond_3 : decode cX8_beyond 3 = .ok (.ifCond .lt 10, 3) := by decide +kernel
theorem dX8_beyond_6 : decode cX8_beyond 6 = .ok (.lload_n 0, 1) := by decide +kernel
theorem dX8_beyond_7 : decode cX8_beyond 7 = .ok (.lload 4, 2) := by decide +kernel
theorem dX8_beyond_9 : decode cX8_beyond 9 = .ok (.lcmp, 1) := by decide +kernel
theorem dX8_beyond_10 : decode cX8_beyond 10 = .ok (.ifCond .le 7, 3) := by decide +kernel
theorem dX8_beyond_13 : decode cX8_beyond 13 = .ok (.iconst 1, 1) := by decide +kernel
theorem dX8_beyond_14 : decode cX8_beyond 14 = .ok (.goto 4, 3) := by decide +kernel
theorem dX8_beyond_17 : decode cX8_beyond 17 = .ok (.iconst 0, 1) := by decide +kernel
theorem dX8_beyond_18 : decode cX8_beyond 18 = .ok (.ireturn, 1) := by decide +kernel
theorem dX8_no_0 : decode cX8_no 0 = .ok (.iload_n 0, 1) := by decide +kernel
theorem dX8_no_1 : decode cX8_no 1 = .ok (.i2l, 1) := by decide +kernel
theorem dX8_no_2 : decode cX8_no 2 = .ok (.lconst 0, 1) := by decide +kernel
theorem dX8_no_3 : decode cX8_no 3 = .ok (.ldc2_w 40, 3) := by decide +kernel
theorem dX8_no_6 : decode cX8_no 6 = .ok (.invokestatic 42, 3) := by decide +kernel
theorem dX8_no_9 : decode cX8_no 9 = .ok (.ireturn, 1) := by decide +kernel
theorem dX8_goes_0 : decode cX8_goes 0 = .ok (.iload_n 0, 1) := by decide +kernel
theorem dX8_goes_1 : decode cX8_goes 1 = .ok (.iload_n 1, 1) := by decide +kernel
theorem dX8_goes_2 : decode cX8_goes 2 = .ok (.if_icmp .ne 5, 3) := by decide +kernel
theorem dX8_goes_5 : decode cX8_goes 5 = .ok (.iconst 1, 1) := by decide +kernel
theorem dX8_goes_6 : decode cX8_goes 6 = .ok (.ireturn, 1) := by decide +kernel
theorem dX8_goes_7 : decode cX8_goes 7 = .ok (.iload_n 0, 1) := by decide +kernel
theorem dX8_goes_8 : decode cX8_goes 8 = .ok (.ifCond .le 33, 3) := by decide +kernel
theorem dX8_goes_11 : decode cX8_goes 11 = .ok (.iload_n 0, 1) := by decide +kernel
theorem dX8_goes_12 : decode cX8_goes 12 = .ok (.iload_n 1, 1) := by decide +kernel
theorem dX8_goes_13 : decode cX8_goes 13 = .ok (.if_icmp .ge 28, 3) := by decide +kernel
theorem dX8_goes_16 : decode cX8_goes 16 = .ok (.iload_n 1, 1) := by decide +kernel
theorem dX8_goes_17 : decode cX8_goes 17 = .ok (.bipush 8, 2) := by decide +kernel
theorem dX8_goes_19 : decode cX8_goes 19 = .ok (.if_icmp .ge 22, 3) := by decide +kernel
theorem dX8_goes_22 : decode cX8_goes 22 = .ok (.iload_n 1, 1) := by decide +kernel
theorem dX8_goes_23 : decode cX8_goes 23 = .ok (.iconst 3, 1) := by decide +kernel
theorem dX8_goes_24 : decode cX8_goes 24 = .ok (.if_icmp .gt 13, 3) := by decide +kernel
theorem dX8_goes_27 : decode cX8_goes 27 = .ok (.iload_n 1, 1) := by decide +kernel
theorem dX8_goes_28 : decode cX8_goes 28 = .ok (.iconst 3, 1) := by decide +kernel
theorem dX8_goes_29 : decode cX8_goes 29 = .ok (.if_icmp .ne 12, 3) := by decide +kernel
theorem dX8_goes_32 : decode cX8_goes 32 = .ok (.iload_n 0, 1) := by decide +kernel
theorem dX8_goes_33 : decode cX8_goes 33 = .ok (.iconst 1, 1) := by decide +kernel
theorem dX8_goes_34 : decode cX8_goes 34 = .ok (.if_icmp .ne 7, 3) := by decide +kernel
theorem dX8_goes_37 : decode cX8_goes 37 = .ok (.iconst 1, 1) := by decide +kernel
theorem dX8_goes_38 : decode cX8_goes 38 = .ok (.goto 4, 3) := by decide +kernel
theorem dX8_goes_41 : decode cX8_goes 41 = .ok (.iconst 0, 1) := by decide +kernel
theorem dX8_goes_42 : decode cX8_goes 42 = .ok (.ireturn, 1) := by decide +kernel
theorem dX8_as_0 : decode cX8_as 0 = .ok (.iload_n 0, 1) := by decide +kernel
theorem dX8_as_1 : decode cX8_as 1 = .ok (.tableswitch 80 0 6 #[43, 55, 60, 65, 70, 74, 76], 43) := by decide +kernel
theorem dX8_as_44 : decode cX8_as 44 = .ok (.lload_n 1, 1) := by decide +kernel
theorem dX8_as_45 : decode cX8_as 45 = .ok (.lconst 0, 1) := by decide +kernel
theorem dX8_as_46 : decode cX8_as 46 = .ok (.lcmp, 1) := by decide +kernel
theorem dX8_as_47 : decode cX8_as 47 = .ok (.ifCond .eq 7, 3) := by decide +kernel
theorem dX8_as_50 : decode cX8_as 50 = .ok (.lconst 1, 1) := by decide +kernel
theorem dX8_as_51 : decode cX8_as 51 = .ok (.goto 4, 3) := by decide +kernel
theorem dX8_as_54 : decode cX8_as 54 = .ok (.lconst 0, 1) := by decide +kernel
theorem dX8_as_55 : decode cX8_as 55 = .ok (.lreturn, 1) := by decide +kernel
theorem dX8_as_56 : decode cX8_as 56 = .ok (.lload_n 1, 1) := by decide +kernel
theorem dX8_as_57 : decode cX8_as 57 = .ok (.l2i, 1) := by decide +kernel
theorem dX8_as_58 : decode cX8_as 58 = .ok (.i2b, 1) := by decide +kernel
theorem dX8_as_59 : decode cX8_as 59 = .ok (.i2l, 1) := by decide +kernel
theorem dX8_as_60 : decode cX8_as 60 = .ok (.lreturn, 1) := by decide +kernel
theorem dX8_as_61 : decode cX8_as 61 = .ok (.lload_n 1, 1) := by decide +kernel
theorem dX8_as_62 : decode cX8_as 62 = .ok (.l2i, 1) := by decide +kernel
theorem dX8_as_63 : decode cX8_as 63 = .ok (.i2c, 1) := by decide +kernel
theorem dX8_as_64 : decode cX8_as 64 = .ok (.i2l, 1) := by decide +kernel
theorem dX8_as_65 : decode cX8_as 65 = .ok (.lreturn, 1) := by decide +kernel
theorem dX8_as_66 : decode cX8_as 66 = .ok (.lload_n 1, 1) := by decide +kernel
theorem dX8_as_67 : decode cX8_as 67 = .ok (.l2i, 1) := by decide +kernel
theorem dX8_as_68 : decode cX8_as 68 = .ok (.i2s, 1) := by decide +kernel
theorem dX8_as_69 : decode cX8_as 69 = .ok (.i2l, 1) := by decide +kernel
theorem dX8_as_70 : decode cX8_as 70 = .ok (.lreturn, 1) := by decide +kernel
theorem dX8_as_71 : decode cX8_as 71 = .ok (.lload_n 1, 1) := by decide +kernel
theorem dX8_as_72 : decode cX8_as 72 = .ok (.l2i, 1) := by decide +kernel
theorem dX8_as_73 : decode cX8_as 73 = .ok (.i2l, 1) := by decide +kernel
theorem dX8_as_74 : decode cX8_as 74 = .ok (.lreturn, 1) := by decide +kernel
theorem dX8_as_75 : decode cX8_as 75 = .ok (.lload_n 1, 1) := by decide +kernel
theorem dX8_as_76 : decode cX8_as 76 = .ok (.lreturn, 1) := by decide +kernel
theorem dX8_as_77 : decode cX8_as 77 = .ok (.lload_n 1, 1) := by decide +kernel
theorem dX8_as_78 : decode cX8_as 78 = .ok (.l2f, 1) := by decide +kernel
theorem dX8_as_79 : decode cX8_as 79 = .ok (.f2l, 1) := by decide +kernel
theorem dX8_as_80 : decode cX8_as 80 = .ok (.lreturn, 1) := by decide +kernel
theorem dX8_as_81 : decode cX8_as 81 = .ok (.lload_n 1, 1) := by decide +kernel
theorem dX8_as_82 : decode cX8_as 82 = .ok (.l2d, 1) := by decide +kernel
theorem dX8_as_83 : decode cX8_as 83 = .ok (.d2l, 1) := by decide +kernel
theorem dX8_as_84 : decode cX8_as 84 = .ok (.lreturn, 1) := by decide +kernel
theorem dX8_met1_0 : decode cX8_met1 0 = .ok (.aload_n 0, 1) := by decide +kernel
theorem dX8_met1_1 : decode cX8_met1 1 = .ok (.iload_n 1, 1) := by decide +kernel
theorem dX8_met1_2 : decode cX8_met1 2 = .ok (.putfield 46, 3) := by decide +kernel
theorem dX8_met1_5 : decode cX8_met1 5 = .ok (.aload_n 0, 1) := by decide +kernel
theorem dX8_met1_6 : decode cX8_met1 6 = .ok (.getfield 37, 3) := by decide +kernel
theorem dX8_met1_9 : decode cX8_met1 9 = .ok (.iload_n 1, 1) := by decide +kernel
theorem dX8_met1_10 : decode cX8_met1 10 = .ok (.dup2, 1) := by decide +kernel
theorem dX8_met1_11 : decode cX8_met1 11 = .ok (.iaload, 1) := by decide +kernel
theorem dX8_met1_12 : decode cX8_met1 12 = .ok (.iconst 1, 1) := by decide +kernel
theorem dX8_met1_13 : decode cX8_met1 13 = .ok (.iadd, 1) := by decide +kernel
theorem dX8_met1_14 : decode cX8_met1 14 = .ok (.iastore, 1) := by decide +kernel
theorem dX8_met1_15 : decode cX8_met1 15 = .ok (.aload_n 0, 1) := by decide +kernel
theorem dX8_met1_16 : decode cX8_met1 16 = .ok (.getfield 37, 3) := by decide +kernel
theorem dX8_met1_19 : decode cX8_met1 19 = .ok (.iconst 0, 1) := by decide +kernel
theorem dX8_met1_20 : decode cX8_met1 20 = .ok (.dup2, 1) := by decide +kernel
theorem dX8_met1_21 : decode cX8_met1 21 = .ok (.iaload, 1) := by decide +kernel
theorem dX8_met1_22 : decode cX8_met1 22 = .ok (.iconst 1, 1) := by decide +kernel
theorem dX8_met1_23 : decode cX8_met1 23 = .ok (.iadd, 1) := by decide +kernel
theorem dX8_met1_24 : decode cX8_met1 24 = .ok (.iastore, 1) := by decide +kernel
theorem dX8_met1_25 : decode cX8_met1 25 = .ok (.iload_n 1, 1) := by decide +kernel
theorem dX8_met1_26 : decode cX8_met1 26 = .ok (.ireturn, 1) := by decide +kernel
theorem dX8_answer_0 : decode cX8_answer 0 = .ok (.iload_n 1, 1) := by decide +kernel
theorem dX8_answer_1 : decode cX8_answer 1 = .ok (.ifCond .le 14, 3) := by decide +kernel
theorem dX8_answer_4 : decode cX8_answer 4 = .ok (.bipush (-10), 2) := by decide +kernel
theorem dX8_answer_6 : decode cX8_answer 6 = .ok (.aload_n 0, 1) := by decide +kernel
theorem dX8_answer_7 : decode cX8_answer 7 = .ok (.iload_n 1, 1) := by decide +kernel
theorem dX8_answer_8 : decode cX8_answer 8 = .ok (.invokevirtual 50, 3) := by decide +kernel
theorem dX8_answer_11 : decode cX8_answer 11 = .ok (.isub, 1) := by decide +kernel
theorem dX8_answer_12 : decode cX8_answer 12 = .ok (.goto 4, 3) := by decide +kernel
theorem dX8_answer_15 : decode cX8_answer 15 = .ok (.iload_n 2, 1) := by decide +kernel
theorem dX8_answer_16 : decode cX8_answer 16 = .ok (.ireturn, 1) := by decide +kernel
theorem dX8_newRow_0 : decode cX8_newRow 0 = .ok (.aload_n 0, 1) := by decide +kernel
theorem dX8_newRow_1 : decode cX8_newRow 1 = .ok (.getfield 20, 3) := by decide +kernel
theorem dX8_newRow_4 : decode cX8_newRow 4 = .ok (.aload_n 0, 1) := by decide +kernel
theorem dX8_newRow_5 : decode cX8_newRow 5 = .ok (.getfield 54, 3) := by decide +kernel
theorem dX8_newRow_8 : decode cX8_newRow 8 = .ok (.iload_n 1, 1) := by decide +kernel
theorem dX8_newRow_9 : decode cX8_newRow 9 = .ok (.iastore, 1) := by decide +kernel
theorem dX8_newRow_10 : decode cX8_newRow 10 = .ok (.aload_n 0, 1) := by decide +kernel
theorem dX8_newRow_11 : decode cX8_newRow 11 = .ok (.getfield 23, 3) := by decide +kernel
theorem dX8_newRow_14 : decode cX8_newRow 14 = .ok (.aload_n 0, 1) := by decide +kernel
theorem dX8_newRow_15 : decode cX8_newRow 15 = .ok (.getfield 54, 3) := by decide +kernel
theorem dX8_newRow_18 : decode cX8_newRow 18 = .ok (.iload_n 2, 1) := by decide +kernel
theorem dX8_newRow_19 : decode cX8_newRow 19 = .ok (.iastore, 1) := by decide +kernel
theorem dX8_newRow_20 : decode cX8_newRow 20 = .ok (.iconst 0, 1) := by decide +kernel
theorem dX8_newRow_21 : decode cX8_newRow 21 = .ok (.istore_n 3, 1) := by decide +kernel
theorem dX8_newRow_22 : decode cX8_newRow 22 = .ok (.iload_n 3, 1) := by decide +kernel
theorem dX8_newRow_23 : decode cX8_newRow 23 = .ok (.bipush 16, 2) := by decide +kernel
theorem dX8_newRow_25 : decode cX8_newRow 25 = .ok (.if_icmp .ge 24, 3) := by decide +kernel
theorem dX8_newRow_28 : decode cX8_newRow 28 = .ok (.aload_n 0, 1) := by decide +kernel
theorem dX8_newRow_29 : decode cX8_newRow 29 = .ok (.getfield 27, 3) := by decide +kernel
theorem dX8_newRow_32 : decode cX8_newRow 32 = .ok (.bipush 16, 2) := by decide +kernel
theorem dX8_newRow_34 : decode cX8_newRow 34 = .ok (.aload_n 0, 1) := by decide +kernel
theorem dX8_newRow_35 : decode cX8_newRow 35 = .ok (.getfield 54, 3) := by decide +kernel
theorem dX8_newRow_38 : decode cX8_newRow 38 = .ok (.imul, 1) := by decide +kernel
theorem dX8_newRow_39 : decode cX8_newRow 39 = .ok (.iload_n 3, 1) := by decide +kernel
theorem dX8_newRow_40 : decode cX8_newRow 40 = .ok (.iadd, 1) := by decide +kernel
theorem dX8_newRow_41 : decode cX8_newRow 41 = .ok (.lconst 0, 1) := by decide +kernel
theorem dX8_newRow_42 : decode cX8_newRow 42 = .ok (.lastore, 1) := by decide +kernel
theorem dX8_newRow_43 : decode cX8_newRow 43 = .ok (.iinc 3 1, 3) := by decide +kernel
theorem dX8_newRow_46 : decode cX8_newRow 46 = .ok (.goto (-24), 3) := by decide +kernel
theorem dX8_newRow_49 : decode cX8_newRow 49 = .ok (.aload_n 0, 1) := by decide +kernel
theorem dX8_newRow_50 : decode cX8_newRow 50 = .ok (.dup, 1) := by decide +kernel
theorem dX8_newRow_51 : decode cX8_newRow 51 = .ok (.getfield 54, 3) := by decide +kernel
theorem dX8_newRow_54 : decode cX8_newRow 54 = .ok (.iconst 1, 1) := by decide +kernel
theorem dX8_newRow_55 : decode cX8_newRow 55 = .ok (.iadd, 1) := by decide +kernel
theorem dX8_newRow_56 : decode cX8_newRow 56 = .ok (.putfield 54, 3) := by decide +kernel
theorem dX8_newRow_59 : decode cX8_newRow 59 = .ok (.aload_n 0, 1) := by decide +kernel
theorem dX8_newRow_60 : decode cX8_newRow 60 = .ok (.getfield 54, 3) := by decide +kernel
theorem dX8_newRow_63 : decode cX8_newRow 63 = .ok (.iconst 1, 1) := by decide +kernel
theorem dX8_newRow_64 : decode cX8_newRow 64 = .ok (.isub, 1) := by decide +kernel
theorem dX8_newRow_65 : decode cX8_newRow 65 = .ok (.ireturn, 1) := by decide +kernel
theorem dX8_rack_0 : decode cX8_rack 0 = .ok (.iload_n 1, 1) := by decide +kernel
theorem dX8_rack_1 : decode cX8_rack 1 = .ok (.invokestatic 57, 3) := by decide +kernel
theorem dX8_rack_4 : decode cX8_rack 4 = .ok (.ifCond .eq 5, 3) := by decide +kernel
theorem dX8_rack_7 : decode cX8_rack 7 = .ok (.iconst (-1), 1) := by decide +kernel
theorem dX8_rack_8 : decode cX8_rack 8 = .ok (.ireturn, 1) := by decide +kernel
theorem dX8_rack_9 : decode cX8_rack 9 = .ok (.iload_n 2, 1) := by decide +kernel
theorem dX8_rack_10 : decode cX8_rack 10 = .ok (.i2l, 1) := by decide +kernel
theorem dX8_rack_11 : decode cX8_rack 11 = .ok (.lconst 0, 1) := by decide +kernel
theorem dX8_rack_12 : decode cX8_rack 12 = .ok (.ldc2_w 61, 3) := by decide +kernel
theorem dX8_rack_15 : decode cX8_rack 15 = .ok (.invokestatic 42, 3) := by decide +kernel
theorem dX8_rack_18 : decode cX8_rack 18 = .ok (.ifCond .ne 15, 3) := by decide +kernel
theorem dX8_rack_21 : decode cX8_rack 21 = .ok (.iload_n 3, 1) := by decide +kernel
theorem dX8_rack_22 : decode cX8_rack 22 = .ok (.i2l, 1) := by decide +kernel
theorem dX8_rack_23 : decode cX8_rack 23 = .ok (.lconst 0, 1) := by decide +kernel
theorem dX8_rack_24 : decode cX8_rack 24 = .ok (.ldc2_w 63, 3) := by decide +kernel
theorem dX8_rack_27 : decode cX8_rack 27 = .ok (.invokestatic 42, 3) := by decide +kernel
theorem dX8_rack_30 : decode cX8_rack 30 = .ok (.ifCond .eq 6, 3) := by decide +kernel
theorem dX8_rack_33 : decode cX8_rack 33 = .ok (.bipush (-2), 2) := by decide +kernel
theorem dX8_rack_35 : decode cX8_rack 35 = .ok (.ireturn, 1) := by decide +kernel
theorem dX8_rack_36 : decode cX8_rack 36 = .ok (.aload_n 0, 1) := by decide +kernel
theorem dX8_rack_37 : decode cX8_rack 37 = .ok (.getfield 7, 3) := by decide +kernel
theorem dX8_rack_40 : decode cX8_rack 40 = .ok (.iload_n 1, 1) := by decide +kernel
theorem dX8_rack_41 : decode cX8_rack 41 = .ok (.iconst 3, 1) := by decide +kernel
theorem dX8_rack_42 : decode cX8_rack 42 = .ok (.iastore, 1) := by decide +kernel
theorem dX8_rack_43 : decode cX8_rack 43 = .ok (.aload_n 0, 1) := by decide +kernel
theorem dX8_rack_44 : decode cX8_rack 44 = .ok (.getfield 13, 3) := by decide +kernel
theorem dX8_rack_47 : decode cX8_rack 47 = .ok (.iload_n 1, 1) := by decide +kernel
theorem dX8_rack_48 : decode cX8_rack 48 = .ok (.aload_n 0, 1) := by decide +kernel
theorem dX8_rack_49 : decode cX8_rack 49 = .ok (.iload_n 2, 1) := by decide +kernel
theorem dX8_rack_50 : decode cX8_rack 50 = .ok (.iload_n 3, 1) := by decide +kernel
theorem dX8_rack_51 : decode cX8_rack 51 = .ok (.invokevirtual 65, 3) := by decide +kernel
theorem dX8_rack_54 : decode cX8_rack 54 = .ok (.iastore, 1) := by decide +kernel
theorem dX8_rack_55 : decode cX8_rack 55 = .ok (.iload_n 3, 1) := by decide +kernel
theorem dX8_rack_56 : decode cX8_rack 56 = .ok (.ireturn, 1) := by decide +kernel
theorem dX8_hang_0 : decode cX8_hang 0 = .ok (.iload_n 1, 1) := by decide +kernel
theorem dX8_hang_1 : decode cX8_hang 1 = .ok (.invokestatic 57, 3) := by decide +kernel
theorem dX8_hang_4 : decode cX8_hang 4 = .ok (.ifCond .eq 5, 3) := by decide +kernel
theorem dX8_hang_7 : decode cX8_hang 7 = .ok (.iconst (-1), 1) := by decide +kernel
theorem dX8_hang_8 : decode cX8_hang 8 = .ok (.ireturn, 1) := by decide +kernel
theorem dX8_hang_9 : decode cX8_hang 9 = .ok (.aload_n 0, 1) := by decide +kernel
theorem dX8_hang_10 : decode cX8_hang 10 = .ok (.getfield 69, 3) := by decide +kernel
theorem dX8_hang_13 : decode cX8_hang 13 = .ok (.iconst 2, 1) := by decide +kernel
theorem dX8_hang_14 : decode cX8_hang 14 = .ok (.if_icmp .ge 6, 3) := by decide +kernel
theorem dX8_hang_17 : decode cX8_hang 17 = .ok (.bipush (-3), 2) := by decide +kernel
theorem dX8_hang_19 : decode cX8_hang 19 = .ok (.ireturn, 1) := by decide +kernel
theorem dX8_hang_20 : decode cX8_hang 20 = .ok (.aload_n 0, 1) := by decide +kernel
theorem dX8_hang_21 : decode cX8_hang 21 = .ok (.getfield 7, 3) := by decide +kernel
theorem dX8_hang_24 : decode cX8_hang 24 = .ok (.iload_n 1, 1) := by decide +kernel
theorem dX8_hang_25 : decode cX8_hang 25 = .ok (.aload_n 0, 1) := by decide +kernel
theorem dX8_hang_26 : decode cX8_hang 26 = .ok (.getfield 69, 3) := by decide +kernel
theorem dX8_hang_29 : decode cX8_hang 29 = .ok (.iastore, 1) := by decide +kernel
theorem dX8_hang_30 : decode cX8_hang 30 = .ok (.aload_n 0, 1) := by decide +kernel
theorem dX8_hang_31 : decode cX8_hang 31 = .ok (.getfield 13, 3) := by decide +kernel
theorem dX8_hang_34 : decode cX8_hang 34 = .ok (.iload_n 1, 1) := by decide +kernel
theorem dX8_hang_35 : decode cX8_hang 35 = .ok (.aload_n 0, 1) := by decide +kernel
theorem dX8_hang_36 : decode cX8_hang 36 = .ok (.getfield 72, 3) := by decide +kernel
theorem dX8_hang_39 : decode cX8_hang 39 = .ok (.iastore, 1) := by decide +kernel
theorem dX8_hang_40 : decode cX8_hang 40 = .ok (.iconst 1, 1) := by decide +kernel
theorem dX8_hang_41 : decode cX8_hang 41 = .ok (.ireturn, 1) := by decide +kernel
theorem dX8_share_0 : decode cX8_share 0 = .ok (.iload_n 1, 1) := by decide +kernel
theorem dX8_share_1 : decode cX8_share 1 = .ok (.invokestatic 57, 3) := by decide +kernel
theorem dX8_share_4 : decode cX8_share 4 = .ok (.ifCond .ne 10, 3) := by decide +kernel
theorem dX8_share_7 : decode cX8_share 7 = .ok (.iload_n 2, 1) := by decide +kernel
theorem dX8_share_8 : decode cX8_share 8 = .ok (.invokestatic 57, 3) := by decide +kernel
theorem dX8_share_11 : decode cX8_share 11 = .ok (.ifCond .eq 5, 3) := by decide +kernel
theorem dX8_share_14 : decode cX8_share 14 = .ok (.iconst (-1), 1) := by decide +kernel
theorem dX8_share_15 : decode cX8_share 15 = .ok (.ireturn, 1) := by decide +kernel
theorem dX8_share_16 : decode cX8_share 16 = .ok (.aload_n 0, 1) := by decide +kernel
theorem dX8_share_17 : decode cX8_share 17 = .ok (.getfield 7, 3) := by decide +kernel
theorem dX8_share_20 : decode cX8_share 20 = .ok (.iload_n 1, 1) := by decide +kernel
theorem dX8_share_21 : decode cX8_share 21 = .ok (.aload_n 0, 1) := by decide +kernel
theorem dX8_share_22 : decode cX8_share 22 = .ok (.getfield 7, 3) := by decide +kernel
theorem dX8_share_25 : decode cX8_share 25 = .ok (.iload_n 2, 1) := by decide +kernel
theorem dX8_share_26 : decode cX8_share 26 = .ok (.iaload, 1) := by decide +kernel
theorem dX8_share_27 : decode cX8_share 27 = .ok (.iastore, 1) := by decide +kernel
theorem dX8_share_28 : decode cX8_share 28 = .ok (.aload_n 0, 1) := by decide +kernel
theorem dX8_share_29 : decode cX8_share 29 = .ok (.getfield 13, 3) := by decide +kernel
theorem dX8_share_32 : decode cX8_share 32 = .ok (.iload_n 1, 1) := by decide +kernel
theorem dX8_share_33 : decode cX8_share 33 = .ok (.aload_n 0, 1) := by decide +kernel
theorem dX8_share_34 : decode cX8_share 34 = .ok (.getfield 13, 3) := by decide +kernel
theorem dX8_share_37 : decode cX8_share 37 = .ok (.iload_n 2, 1) := by decide +kernel
theorem dX8_share_38 : decode cX8_share 38 = .ok (.iaload, 1) := by decide +kernel
theorem dX8_share_39 : decode cX8_share 39 = .ok (.iastore, 1) := by decide +kernel
theorem dX8_share_40 : decode cX8_share 40 = .ok (.iconst 1, 1) := by decide +kernel
theorem dX8_share_41 : decode cX8_share 41 = .ok (.ireturn, 1) := by decide +kernel
theorem dX8_empty_0 : decode cX8_empty 0 = .ok (.iload_n 1, 1) := by decide +kernel
theorem dX8_empty_1 : decode cX8_empty 1 = .ok (.invokestatic 57, 3) := by decide +kernel
theorem dX8_empty_4 : decode cX8_empty 4 = .ok (.ifCond .eq 5, 3) := by decide +kernel
theorem dX8_empty_7 : decode cX8_empty 7 = .ok (.iconst (-1), 1) := by decide +kernel
theorem dX8_empty_8 : decode cX8_empty 8 = .ok (.ireturn, 1) := by decide +kernel
theorem dX8_empty_9 : decode cX8_empty 9 = .ok (.aload_n 0, 1) := by decide +kernel
theorem dX8_empty_10 : decode cX8_empty 10 = .ok (.getfield 7, 3) := by decide +kernel
theorem dX8_empty_13 : decode cX8_empty 13 = .ok (.iload_n 1, 1) := by decide +kernel
theorem dX8_empty_14 : decode cX8_empty 14 = .ok (.iconst 0, 1) := by decide +kernel
theorem dX8_empty_15 : decode cX8_empty 15 = .ok (.iastore, 1) := by decide +kernel
theorem dX8_empty_16 : decode cX8_empty 16 = .ok (.iconst 1, 1) := by decide +kernel
theorem dX8_empty_17 : decode cX8_empty 17 = .ok (.ireturn, 1) := by decide +kernel
theorem dX8_hold_0 : decode cX8_hold 0 = .ok (.aload_n 0, 1) := by decide +kernel
theorem dX8_hold_1 : decode cX8_hold 1 = .ok (.iconst 1, 1) := by decide +kernel
theorem dX8_hold_2 : decode cX8_hold 2 = .ok (.putfield 69, 3) := by decide +kernel
theorem dX8_hold_5 : decode cX8_hold 5 = .ok (.aload_n 0, 1) := by decide +kernel
theorem dX8_hold_6 : decode cX8_hold 6 = .ok (.iload_n 1, 1) := by decide +kernel
theorem dX8_hold_7 : decode cX8_hold 7 = .ok (.putfield 75, 3) := by decide +kernel
theorem dX8_hold_10 : decode cX8_hold 10 = .ok (.aload_n 0, 1) := by decide +kernel
theorem dX8_hold_11 : decode cX8_hold 11 = .ok (.lload_n 2, 1) := by decide +kernel
theorem dX8_hold_12 : decode cX8_hold 12 = .ok (.putfield 78, 3) := by decide +kernel
theorem dX8_hold_15 : decode cX8_hold 15 = .ok (.return_, 1) := by decide +kernel
theorem dX8_gauge_0 : decode cX8_gauge 0 = .ok (.iload_n 1, 1) := by decide +kernel
theorem dX8_gauge_1 : decode cX8_gauge 1 = .ok (.i2l, 1) := by decide +kernel
theorem dX8_gauge_2 : decode cX8_gauge 2 = .ok (.lconst 0, 1) := by decide +kernel
theorem dX8_gauge_3 : decode cX8_gauge 3 = .ok (.ldc2_w 82, 3) := by decide +kernel
theorem dX8_gauge_6 : decode cX8_gauge 6 = .ok (.invokestatic 42, 3) := by decide +kernel
theorem dX8_gauge_9 : decode cX8_gauge 9 = .ok (.ifCond .eq 6, 3) := by decide +kernel
theorem dX8_gauge_12 : decode cX8_gauge 12 = .ok (.bipush (-2), 2) := by decide +kernel
theorem dX8_gauge_14 : decode cX8_gauge 14 = .ok (.ireturn, 1) := by decide +kernel
theorem dX8_gauge_15 : decode cX8_gauge 15 = .ok (.aload_n 0, 1) := by decide +kernel
theorem dX8_gauge_16 : decode cX8_gauge 16 = .ok (.iload_n 1, 1) := by decide +kernel
theorem dX8_gauge_17 : decode cX8_gauge 17 = .ok (.iload_n 1, 1) := by decide +kernel
theorem dX8_gauge_18 : decode cX8_gauge 18 = .ok (.lload_n 2, 1) := by decide +kernel
theorem dX8_gauge_19 : decode cX8_gauge 19 = .ok (.invokestatic 84, 3) := by decide +kernel
theorem dX8_gauge_22 : decode cX8_gauge 22 = .ok (.invokevirtual 88, 3) := by decide +kernel
theorem dX8_gauge_25 : decode cX8_gauge 25 = .ok (.iconst 1, 1) := by decide +kernel
theorem dX8_gauge_26 : decode cX8_gauge 26 = .ok (.ireturn, 1) := by decide +kernel
theorem dX8_probe_0 : decode cX8_probe 0 = .ok (.aload_n 0, 1) := by decide +kernel
theorem dX8_probe_1 : decode cX8_probe 1 = .ok (.getfield 92, 3) := by decide +kernel
theorem dX8_probe_4 : decode cX8_probe 4 = .ok (.bipush 40, 2) := by decide +kernel
theorem dX8_probe_6 : decode cX8_probe 6 = .ok (.if_icmp .ne 6, 3) := by decide +kernel
theorem dX8_probe_9 : decode cX8_probe 9 = .ok (.bipush (-4), 2) := by decide +kernel
theorem dX8_probe_11 : decode cX8_probe 11 = .ok (.ireturn, 1) := by decide +kernel
theorem dX8_probe_12 : decode cX8_probe 12 = .ok (.aload_n 0, 1) := by decide +kernel
theorem dX8_probe_13 : decode cX8_probe 13 = .ok (.dup, 1) := by decide +kernel
theorem dX8_probe_14 : decode cX8_probe 14 = .ok (.getfield 92, 3) := by decide +kernel
theorem dX8_probe_17 : decode cX8_probe 17 = .ok (.iconst 1, 1) := by decide +kernel
theorem dX8_probe_18 : decode cX8_probe 18 = .ok (.iadd, 1) := by decide +kernel
theorem dX8_probe_19 : decode cX8_probe 19 = .ok (.putfield 92, 3) := by decide +kernel
theorem dX8_probe_22 : decode cX8_probe 22 = .ok (.aload_n 0, 1) := by decide +kernel
theorem dX8_probe_23 : decode cX8_probe 23 = .ok (.getfield 16, 3) := by decide +kernel
theorem dX8_probe_26 : decode cX8_probe 26 = .ok (.aload_n 0, 1) := by decide +kernel
theorem dX8_probe_27 : decode cX8_probe 27 = .ok (.getfield 92, 3) := by decide +kernel
theorem dX8_probe_30 : decode cX8_probe 30 = .ok (.iload_n 1, 1) := by decide +kernel
theorem dX8_probe_31 : decode cX8_probe 31 = .ok (.bastore, 1) := by decide +kernel
theorem dX8_probe_32 : decode cX8_probe 32 = .ok (.aload_n 0, 1) := by decide +kernel
theorem dX8_probe_33 : decode cX8_probe 33 = .ok (.iconst 2, 1) := by decide +kernel
theorem dX8_probe_34 : decode cX8_probe 34 = .ok (.putfield 69, 3) := by decide +kernel
theorem dX8_probe_37 : decode cX8_probe 37 = .ok (.aload_n 0, 1) := by decide +kernel
theorem dX8_probe_38 : decode cX8_probe 38 = .ok (.aload_n 0, 1) := by decide +kernel
theorem dX8_probe_39 : decode cX8_probe 39 = .ok (.getfield 92, 3) := by decide +kernel
theorem dX8_probe_42 : decode cX8_probe 42 = .ok (.putfield 72, 3) := by decide +kernel
theorem dX8_probe_45 : decode cX8_probe 45 = .ok (.aload_n 0, 1) := by decide +kernel
theorem dX8_probe_46 : decode cX8_probe 46 = .ok (.getfield 92, 3) := by decide +kernel
theorem dX8_probe_49 : decode cX8_probe 49 = .ok (.ireturn, 1) := by decide +kernel
theorem dX8_line_0 : decode cX8_line 0 = .ok (.iload_n 1, 1) := by decide +kernel
theorem dX8_line_1 : decode cX8_line 1 = .ok (.i2l, 1) := by decide +kernel
theorem dX8_line_2 : decode cX8_line 2 = .ok (.lconst 0, 1) := by decide +kernel
theorem dX8_line_3 : decode cX8_line 3 = .ok (.ldc2_w 95, 3) := by decide +kernel
theorem dX8_line_6 : decode cX8_line 6 = .ok (.invokestatic 42, 3) := by decide +kernel
theorem dX8_line_9 : decode cX8_line 9 = .ok (.ifCond .eq 6, 3) := by decide +kernel
theorem dX8_line_12 : decode cX8_line 12 = .ok (.bipush (-2), 2) := by decide +kernel
theorem dX8_line_14 : decode cX8_line 14 = .ok (.ireturn, 1) := by decide +kernel
theorem dX8_line_15 : decode cX8_line 15 = .ok (.aload_n 0, 1) := by decide +kernel
theorem dX8_line_16 : decode cX8_line 16 = .ok (.iconst 3, 1) := by decide +kernel
theorem dX8_line_17 : decode cX8_line 17 = .ok (.putfield 69, 3) := by decide +kernel
theorem dX8_line_20 : decode cX8_line 20 = .ok (.aload_n 0, 1) := by decide +kernel
theorem dX8_line_21 : decode cX8_line 21 = .ok (.aload_n 0, 1) := by decide +kernel
theorem dX8_line_22 : decode cX8_line 22 = .ok (.iconst 4, 1) := by decide +kernel
theorem dX8_line_23 : decode cX8_line 23 = .ok (.iload_n 1, 1) := by decide +kernel
theorem dX8_line_24 : decode cX8_line 24 = .ok (.invokevirtual 65, 3) := by decide +kernel
theorem dX8_line_27 : decode cX8_line 27 = .ok (.putfield 72, 3) := by decide +kernel
theorem dX8_line_30 : decode cX8_line 30 = .ok (.iconst 1, 1) := by decide +kernel
theorem dX8_line_31 : decode cX8_line 31 = .ok (.ireturn, 1) := by decide +kernel
theorem dX8_none_0 : decode cX8_none 0 = .ok (.aload_n 0, 1) := by decide +kernel
theorem dX8_none_1 : decode cX8_none 1 = .ok (.iconst 0, 1) := by decide +kernel
theorem dX8_none_2 : decode cX8_none 2 = .ok (.putfield 69, 3) := by decide +kernel
theorem dX8_none_5 : decode cX8_none 5 = .ok (.iconst 1, 1) := by decide +kernel
theorem dX8_none_6 : decode cX8_none 6 = .ok (.ireturn, 1) := by decide +kernel
theorem dX8_getFault_0 : decode cX8_getFault 0 = .ok (.iload_n 1, 1) := by decide +kernel
theorem dX8_getFault_1 : decode cX8_getFault 1 = .ok (.ifCond .ne 7, 3) := by decide +kernel
theorem dX8_getFault_4 : decode cX8_getFault 4 = .ok (.iconst 1, 1) := by decide +kernel
theorem dX8_getFault_5 : decode cX8_getFault 5 = .ok (.goto 35, 3) := by decide +kernel
theorem dX8_getFault_8 : decode cX8_getFault 8 = .ok (.iload_n 1, 1) := by decide +kernel
theorem dX8_getFault_9 : decode cX8_getFault 9 = .ok (.iconst 3, 1) := by decide +kernel
theorem dX8_getFault_10 : decode cX8_getFault 10 = .ok (.if_icmp .eq 7, 3) := by decide +kernel
theorem dX8_getFault_13 : decode cX8_getFault 13 = .ok (.iconst 2, 1) := by decide +kernel
theorem dX8_getFault_14 : decode cX8_getFault 14 = .ok (.goto 26, 3) := by decide +kernel
theorem dX8_getFault_17 : decode cX8_getFault 17 = .ok (.iload_n 3, 1) := by decide +kernel
theorem dX8_getFault_18 : decode cX8_getFault 18 = .ok (.i2l, 1) := by decide +kernel
theorem dX8_getFault_19 : decode cX8_getFault 19 = .ok (.lconst 0, 1) := by decide +kernel
theorem dX8_getFault_20 : decode cX8_getFault 20 = .ok (.aload_n 0, 1) := by decide +kernel
theorem dX8_getFault_21 : decode cX8_getFault 21 = .ok (.getfield 23, 3) := by decide +kernel
theorem dX8_getFault_24 : decode cX8_getFault 24 = .ok (.iload_n 2, 1) := by decide +kernel
theorem dX8_getFault_25 : decode cX8_getFault 25 = .ok (.iaload, 1) := by decide +kernel
theorem dX8_getFault_26 : decode cX8_getFault 26 = .ok (.iconst 1, 1) := by decide +kernel
theorem dX8_getFault_27 : decode cX8_getFault 27 = .ok (.isub, 1) := by decide +kernel
theorem dX8_getFault_28 : decode cX8_getFault 28 = .ok (.i2l, 1) := by decide +kernel
theorem dX8_getFault_29 : decode cX8_getFault 29 = .ok (.invokestatic 42, 3) := by decide +kernel
theorem dX8_getFault_32 : decode cX8_getFault 32 = .ok (.ifCond .eq 7, 3) := by decide +kernel
theorem dX8_getFault_35 : decode cX8_getFault 35 = .ok (.iconst 3, 1) := by decide +kernel
theorem dX8_getFault_36 : decode cX8_getFault 36 = .ok (.goto 4, 3) := by decide +kernel
theorem dX8_getFault_39 : decode cX8_getFault 39 = .ok (.iconst 0, 1) := by decide +kernel
theorem dX8_getFault_40 : decode cX8_getFault 40 = .ok (.ireturn, 1) := by decide +kernel
theorem dX8_isNumbers_0 : decode cX8_isNumbers 0 = .ok (.aload_n 0, 1) := by decide +kernel
theorem dX8_isNumbers_1 : decode cX8_isNumbers 1 = .ok (.getfield 20, 3) := by decide +kernel
theorem dX8_isNumbers_4 : decode cX8_isNumbers 4 = .ok (.iload_n 1, 1) := by decide +kernel
theorem dX8_isNumbers_5 : decode cX8_isNumbers 5 = .ok (.iaload, 1) := by decide +kernel
theorem dX8_isNumbers_6 : decode cX8_isNumbers 6 = .ok (.bipush 8, 2) := by decide +kernel
theorem dX8_isNumbers_8 : decode cX8_isNumbers 8 = .ok (.if_icmp .ge 7, 3) := by decide +kernel
theorem dX8_isNumbers_11 : decode cX8_isNumbers 11 = .ok (.iconst 1, 1) := by decide +kernel
theorem dX8_isNumbers_12 : decode cX8_isNumbers 12 = .ok (.goto 4, 3) := by decide +kernel
theorem dX8_isNumbers_15 : decode cX8_isNumbers 15 = .ok (.iconst 0, 1) := by decide +kernel
theorem dX8_isNumbers_16 : decode cX8_isNumbers 16 = .ok (.ireturn, 1) := by decide +kernel
theorem dX8_readFault_0 : decode cX8_readFault 0 = .ok (.iload_n 1, 1) := by decide +kernel
theorem dX8_readFault_1 : decode cX8_readFault 1 = .ok (.ifCond .ne 7, 3) := by decide +kernel
theorem dX8_readFault_4 : decode cX8_readFault 4 = .ok (.iconst 1, 1) := by decide +kernel
theorem dX8_readFault_5 : decode cX8_readFault 5 = .ok (.goto 61, 3) := by decide +kernel
theorem dX8_readFault_8 : decode cX8_readFault 8 = .ok (.iload_n 1, 1) := by decide +kernel
theorem dX8_readFault_9 : decode cX8_readFault 9 = .ok (.iconst 3, 1) := by decide +kernel
theorem dX8_readFault_10 : decode cX8_readFault 10 = .ok (.if_icmp .ne 11, 3) := by decide +kernel
theorem dX8_readFault_13 : decode cX8_readFault 13 = .ok (.aload_n 0, 1) := by decide +kernel
theorem dX8_readFault_14 : decode cX8_readFault 14 = .ok (.iload_n 2, 1) := by decide +kernel
theorem dX8_readFault_15 : decode cX8_readFault 15 = .ok (.invokevirtual 97, 3) := by decide +kernel
theorem dX8_readFault_18 : decode cX8_readFault 18 = .ok (.ifCond .ne 7, 3) := by decide +kernel
theorem dX8_readFault_21 : decode cX8_readFault 21 = .ok (.iconst 2, 1) := by decide +kernel
theorem dX8_readFault_22 : decode cX8_readFault 22 = .ok (.goto 44, 3) := by decide +kernel
theorem dX8_readFault_25 : decode cX8_readFault 25 = .ok (.iload_n 3, 1) := by decide +kernel
theorem dX8_readFault_26 : decode cX8_readFault 26 = .ok (.i2l, 1) := by decide +kernel
theorem dX8_readFault_27 : decode cX8_readFault 27 = .ok (.lconst 0, 1) := by decide +kernel
theorem dX8_readFault_28 : decode cX8_readFault 28 = .ok (.aload_n 0, 1) := by decide +kernel
theorem dX8_readFault_29 : decode cX8_readFault 29 = .ok (.getfield 23, 3) := by decide +kernel
theorem dX8_readFault_32 : decode cX8_readFault 32 = .ok (.iload_n 2, 1) := by decide +kernel
theorem dX8_readFault_33 : decode cX8_readFault 33 = .ok (.iaload, 1) := by decide +kernel
theorem dX8_readFault_34 : decode cX8_readFault 34 = .ok (.iconst 1, 1) := by decide +kernel
theorem dX8_readFault_35 : decode cX8_readFault 35 = .ok (.isub, 1) := by decide +kernel
theorem dX8_readFault_36 : decode cX8_readFault 36 = .ok (.i2l, 1) := by decide +kernel
theorem dX8_readFault_37 : decode cX8_readFault 37 = .ok (.invokestatic 42, 3) := by decide +kernel
theorem dX8_readFault_40 : decode cX8_readFault 40 = .ok (.ifCond .eq 7, 3) := by decide +kernel
theorem dX8_readFault_43 : decode cX8_readFault 43 = .ok (.iconst 3, 1) := by decide +kernel
theorem dX8_readFault_44 : decode cX8_readFault 44 = .ok (.goto 22, 3) := by decide +kernel
theorem dX8_readFault_47 : decode cX8_readFault 47 = .ok (.aload_n 0, 1) := by decide +kernel
theorem dX8_readFault_48 : decode cX8_readFault 48 = .ok (.getfield 20, 3) := by decide +kernel
theorem dX8_readFault_51 : decode cX8_readFault 51 = .ok (.iload_n 2, 1) := by decide +kernel
theorem dX8_readFault_52 : decode cX8_readFault 52 = .ok (.iaload, 1) := by decide +kernel
theorem dX8_readFault_53 : decode cX8_readFault 53 = .ok (.iload 4, 2) := by decide +kernel
theorem dX8_readFault_55 : decode cX8_readFault 55 = .ok (.invokestatic 100, 3) := by decide +kernel
theorem dX8_readFault_58 : decode cX8_readFault 58 = .ok (.ifCond .eq 7, 3) := by decide +kernel
theorem dX8_readFault_61 : decode cX8_readFault 61 = .ok (.iconst 0, 1) := by decide +kernel
theorem dX8_readFault_62 : decode cX8_readFault 62 = .ok (.goto 4, 3) := by decide +kernel
theorem dX8_readFault_65 : decode cX8_readFault 65 = .ok (.iconst 2, 1) := by decide +kernel
theorem dX8_readFault_66 : decode cX8_readFault 66 = .ok (.ireturn, 1) := by decide +kernel
theorem dX8_writeFault_0 : decode cX8_writeFault 0 = .ok (.iload_n 1, 1) := by decide +kernel
theorem dX8_writeFault_1 : decode cX8_writeFault 1 = .ok (.ifCond .ne 7, 3) := by decide +kernel
theorem dX8_writeFault_4 : decode cX8_writeFault 4 = .ok (.iconst 1, 1) := by decide +kernel
theorem dX8_writeFault_5 : decode cX8_writeFault 5 = .ok (.goto 61, 3) := by decide +kernel
theorem dX8_writeFault_8 : decode cX8_writeFault 8 = .ok (.iload_n 1, 1) := by decide +kernel
theorem dX8_writeFault_9 : decode cX8_writeFault 9 = .ok (.iconst 3, 1) := by decide +kernel
theorem dX8_writeFault_10 : decode cX8_writeFault 10 = .ok (.if_icmp .ne 11, 3) := by decide +kernel
theorem dX8_writeFault_13 : decode cX8_writeFault 13 = .ok (.aload_n 0, 1) := by decide +kernel
theorem dX8_writeFault_14 : decode cX8_writeFault 14 = .ok (.iload_n 2, 1) := by decide +kernel
theorem dX8_writeFault_15 : decode cX8_writeFault 15 = .ok (.invokevirtual 97, 3) := by decide +kernel
theorem dX8_writeFault_18 : decode cX8_writeFault 18 = .ok (.ifCond .ne 7, 3) := by decide +kernel
theorem dX8_writeFault_21 : decode cX8_writeFault 21 = .ok (.iconst 2, 1) := by decide +kernel
theorem dX8_writeFault_22 : decode cX8_writeFault 22 = .ok (.goto 44, 3) := by decide +kernel
theorem dX8_writeFault_25 : decode cX8_writeFault 25 = .ok (.iload_n 3, 1) := by decide +kernel
theorem dX8_writeFault_26 : decode cX8_writeFault 26 = .ok (.i2l, 1) := by decide +kernel
theorem dX8_writeFault_27 : decode cX8_writeFault 27 = .ok (.lconst 0, 1) := by decide +kernel
theorem dX8_writeFault_28 : decode cX8_writeFault 28 = .ok (.aload_n 0, 1) := by decide +kernel
theorem dX8_writeFault_29 : decode cX8_writeFault 29 = .ok (.getfield 23, 3) := by decide +kernel
theorem dX8_writeFault_32 : decode cX8_writeFault 32 = .ok (.iload_n 2, 1) := by decide +kernel
theorem dX8_writeFault_33 : decode cX8_writeFault 33 = .ok (.iaload, 1) := by decide +kernel
theorem dX8_writeFault_34 : decode cX8_writeFault 34 = .ok (.iconst 1, 1) := by decide +kernel
theorem dX8_writeFault_35 : decode cX8_writeFault 35 = .ok (.isub, 1) := by decide +kernel
theorem dX8_writeFault_36 : decode cX8_writeFault 36 = .ok (.i2l, 1) := by decide +kernel
theorem dX8_writeFault_37 : decode cX8_writeFault 37 = .ok (.invokestatic 42, 3) := by decide +kernel
theorem dX8_writeFault_40 : decode cX8_writeFault 40 = .ok (.ifCond .eq 7, 3) := by decide +kernel
theorem dX8_writeFault_43 : decode cX8_writeFault 43 = .ok (.iconst 3, 1) := by decide +kernel
theorem dX8_writeFault_44 : decode cX8_writeFault 44 = .ok (.goto 22, 3) := by decide +kernel
theorem dX8_writeFault_47 : decode cX8_writeFault 47 = .ok (.iload 4, 2) := by decide +kernel
theorem dX8_writeFault_49 : decode cX8_writeFault 49 = .ok (.aload_n 0, 1) := by decide +kernel
theorem dX8_writeFault_50 : decode cX8_writeFault 50 = .ok (.getfield 20, 3) := by decide +kernel
theorem dX8_writeFault_53 : decode cX8_writeFault 53 = .ok (.iload_n 2, 1) := by decide +kernel
theorem dX8_writeFault_54 : decode cX8_writeFault 54 = .ok (.iaload, 1) := by decide +kernel
theorem dX8_writeFault_55 : decode cX8_writeFault 55 = .ok (.invokestatic 100, 3) := by decide +kernel
theorem dX8_writeFault_58 : decode cX8_writeFault 58 = .ok (.ifCond .eq 7, 3) := by decide +kernel
theorem dX8_writeFault_61 : decode cX8_writeFault 61 = .ok (.iconst 0, 1) := by decide +kernel
theorem dX8_writeFault_62 : decode cX8_writeFault 62 = .ok (.goto 4, 3) := by decide +kernel
theorem dX8_writeFault_65 : decode cX8_writeFault 65 = .ok (.iconst 2, 1) := by decide +kernel
theorem dX8_writeFault_66 : decode cX8_writeFault 66 = .ok (.ireturn, 1) := by decide +kernel
theorem dX8_unfit_0 : decode cX8_unfit 0 = .ok (.aload_n 0, 1) := by decide +kernel
theorem dX8_unfit_1 : decode cX8_unfit 1 = .ok (.getfield 20, 3) := by decide +kernel
theorem dX8_unfit_4 : decode cX8_unfit 4 = .ok (.iload_n 1, 1) := by decide +kernel
theorem dX8_unfit_5 : decode cX8_unfit 5 = .ok (.iaload, 1) := by decide +kernel
theorem dX8_unfit_6 : decode cX8_unfit 6 = .ok (.istore_n 2, 1) := by decide +kernel
theorem dX8_unfit_7 : decode cX8_unfit 7 = .ok (.iload_n 2, 1) := by decide +kernel
theorem dX8_unfit_8 : decode cX8_unfit 8 = .ok (.bipush 8, 2) := by decide +kernel
theorem dX8_unfit_10 : decode cX8_unfit 10 = .ok (.if_icmp .ge 28, 3) := by decide +kernel
theorem dX8_unfit_13 : decode cX8_unfit 13 = .ok (.aload_n 0, 1) := by decide +kernel
theorem dX8_unfit_14 : decode cX8_unfit 14 = .ok (.getfield 69, 3) := by decide +kernel
theorem dX8_unfit_17 : decode cX8_unfit 17 = .ok (.iconst 1, 1) := by decide +kernel
theorem dX8_unfit_18 : decode cX8_unfit 18 = .ok (.if_icmp .ne 14, 3) := by decide +kernel
theorem dX8_unfit_21 : decode cX8_unfit 21 = .ok (.aload_n 0, 1) := by decide +kernel
theorem dX8_unfit_22 : decode cX8_unfit 22 = .ok (.getfield 75, 3) := by decide +kernel
theorem dX8_unfit_25 : decode cX8_unfit 25 = .ok (.iload_n 2, 1) := by decide +kernel
theorem dX8_unfit_26 : decode cX8_unfit 26 = .ok (.invokestatic 100, 3) := by decide +kernel
theorem dX8_unfit_29 : decode cX8_unfit 29 = .ok (.ifCond .ne 7, 3) := by decide +kernel
theorem dX8_unfit_32 : decode cX8_unfit 32 = .ok (.iconst 1, 1) := by decide +kernel
theorem dX8_unfit_33 : decode cX8_unfit 33 = .ok (.goto 4, 3) := by decide +kernel
theorem dX8_unfit_36 : decode cX8_unfit 36 = .ok (.iconst 0, 1) := by decide +kernel
theorem dX8_unfit_37 : decode cX8_unfit 37 = .ok (.ireturn, 1) := by decide +kernel
theorem dX8_unfit_38 : decode cX8_unfit 38 = .ok (.aload_n 0, 1) := by decide +kernel
theorem dX8_unfit_39 : decode cX8_unfit 39 = .ok (.getfield 69, 3) := by decide +kernel
theorem dX8_unfit_42 : decode cX8_unfit 42 = .ok (.iconst 1, 1) := by decide +kernel
theorem dX8_unfit_43 : decode cX8_unfit 43 = .ok (.if_icmp .eq 49, 3) := by decide +kernel
theorem dX8_unfit_46 : decode cX8_unfit 46 = .ok (.aload_n 0, 1) := by decide +kernel
theorem dX8_unfit_47 : decode cX8_unfit 47 = .ok (.getfield 69, 3) := by decide +kernel
theorem dX8_unfit_50 : decode cX8_unfit 50 = .ok (.iconst 2, 1) := by decide +kernel
theorem dX8_unfit_51 : decode cX8_unfit 51 = .ok (.if_icmp .ne 27, 3) := by decide +kernel
theorem dX8_unfit_54 : decode cX8_unfit 54 = .ok (.iload_n 2, 1) := by decide +kernel
theorem dX8_unfit_55 : decode cX8_unfit 55 = .ok (.bipush 10, 2) := by decide +kernel
theorem dX8_unfit_57 : decode cX8_unfit 57 = .ok (.if_icmp .eq 35, 3) := by decide +kernel
theorem dX8_unfit_60 : decode cX8_unfit 60 = .ok (.iload_n 2, 1) := by decide +kernel
theorem dX8_unfit_61 : decode cX8_unfit 61 = .ok (.bipush 9, 2) := by decide +kernel
theorem dX8_unfit_63 : decode cX8_unfit 63 = .ok (.if_icmp .ne 15, 3) := by decide +kernel
theorem dX8_unfit_66 : decode cX8_unfit 66 = .ok (.aload_n 0, 1) := by decide +kernel
theorem dX8_unfit_67 : decode cX8_unfit 67 = .ok (.getfield 16, 3) := by decide +kernel
theorem dX8_unfit_70 : decode cX8_unfit 70 = .ok (.aload_n 0, 1) := by decide +kernel
theorem dX8_unfit_71 : decode cX8_unfit 71 = .ok (.getfield 72, 3) := by decide +kernel
theorem dX8_unfit_74 : decode cX8_unfit 74 = .ok (.baload, 1) := by decide +kernel
theorem dX8_unfit_75 : decode cX8_unfit 75 = .ok (.ifCond .eq 17, 3) := by decide +kernel
theorem dX8_unfit_78 : decode cX8_unfit 78 = .ok (.aload_n 0, 1) := by decide +kernel
theorem dX8_unfit_79 : decode cX8_unfit 79 = .ok (.getfield 69, 3) := by decide +kernel
theorem dX8_unfit_82 : decode cX8_unfit 82 = .ok (.iconst 3, 1) := by decide +kernel
theorem dX8_unfit_83 : decode cX8_unfit 83 = .ok (.if_icmp .ne 13, 3) := by decide +kernel
theorem dX8_unfit_86 : decode cX8_unfit 86 = .ok (.iload_n 2, 1) := by decide +kernel
theorem dX8_unfit_87 : decode cX8_unfit 87 = .ok (.bipush 10, 2) := by decide +kernel
theorem dX8_unfit_89 : decode cX8_unfit 89 = .ok (.if_icmp .eq 7, 3) := by decide +kernel
theorem dX8_unfit_92 : decode cX8_unfit 92 = .ok (.iconst 1, 1) := by decide +kernel
theorem dX8_unfit_93 : decode cX8_unfit 93 = .ok (.goto 4, 3) := by decide +kernel
theorem dX8_unfit_96 : decode cX8_unfit 96 = .ok (.iconst 0, 1) := by decide +kernel
theorem dX8_unfit_97 : decode cX8_unfit 97 = .ok (.ireturn, 1) := by decide +kernel
theorem dX8_setFault_0 : decode cX8_setFault 0 = .ok (.aload_n 0, 1) := by decide +kernel
theorem dX8_setFault_1 : decode cX8_setFault 1 = .ok (.getfield 13, 3) := by decide +kernel
theorem dX8_setFault_4 : decode cX8_setFault 4 = .ok (.iload_n 1, 1) := by decide +kernel
theorem dX8_setFault_5 : decode cX8_setFault 5 = .ok (.iaload, 1) := by decide +kernel
theorem dX8_setFault_6 : decode cX8_setFault 6 = .ok (.istore_n 3, 1) := by decide +kernel
theorem dX8_setFault_7 : decode cX8_setFault 7 = .ok (.aload_n 0, 1) := by decide +kernel
theorem dX8_setFault_8 : decode cX8_setFault 8 = .ok (.getfield 7, 3) := by decide +kernel
theorem dX8_setFault_11 : decode cX8_setFault 11 = .ok (.iload_n 1, 1) := by decide +kernel
theorem dX8_setFault_12 : decode cX8_setFault 12 = .ok (.iaload, 1) := by decide +kernel
