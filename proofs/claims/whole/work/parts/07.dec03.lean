theorem dX8_setFault_13 : decode cX8_setFault 13 = .ok (.iconst 3, 1) := by decide +kernel
theorem dX8_setFault_14 : decode cX8_setFault 14 = .ok (.if_icmp .eq 18, 3) := by decide +kernel
theorem dX8_setFault_17 : decode cX8_setFault 17 = .ok (.aload_n 0, 1) := by decide +kernel
theorem dX8_setFault_18 : decode cX8_setFault 18 = .ok (.getfield 7, 3) := by decide +kernel
theorem dX8_setFault_21 : decode cX8_setFault 21 = .ok (.iload_n 1, 1) := by decide +kernel
theorem dX8_setFault_22 : decode cX8_setFault 22 = .ok (.iaload, 1) := by decide +kernel
theorem dX8_setFault_23 : decode cX8_setFault 23 = .ok (.ifCond .ne 7, 3) := by decide +kernel
theorem dX8_setFault_26 : decode cX8_setFault 26 = .ok (.iconst 1, 1) := by decide +kernel
theorem dX8_setFault_27 : decode cX8_setFault 27 = .ok (.goto 4, 3) := by decide +kernel
theorem dX8_setFault_30 : decode cX8_setFault 30 = .ok (.iconst 2, 1) := by decide +kernel
theorem dX8_setFault_31 : decode cX8_setFault 31 = .ok (.ireturn, 1) := by decide +kernel
theorem dX8_setFault_32 : decode cX8_setFault 32 = .ok (.aload_n 0, 1) := by decide +kernel
theorem dX8_setFault_33 : decode cX8_setFault 33 = .ok (.iload_n 3, 1) := by decide +kernel
theorem dX8_setFault_34 : decode cX8_setFault 34 = .ok (.invokevirtual 97, 3) := by decide +kernel
theorem dX8_setFault_37 : decode cX8_setFault 37 = .ok (.ifCond .eq 14, 3) := by decide +kernel
theorem dX8_setFault_40 : decode cX8_setFault 40 = .ok (.aload_n 0, 1) := by decide +kernel
theorem dX8_setFault_41 : decode cX8_setFault 41 = .ok (.getfield 69, 3) := by decide +kernel
theorem dX8_setFault_44 : decode cX8_setFault 44 = .ok (.ifCond .ne 7, 3) := by decide +kernel
theorem dX8_setFault_47 : decode cX8_setFault 47 = .ok (.iconst 2, 1) := by decide +kernel
theorem dX8_setFault_48 : decode cX8_setFault 48 = .ok (.goto 38, 3) := by decide +kernel
theorem dX8_setFault_51 : decode cX8_setFault 51 = .ok (.iload_n 2, 1) := by decide +kernel
theorem dX8_setFault_52 : decode cX8_setFault 52 = .ok (.i2l, 1) := by decide +kernel
theorem dX8_setFault_53 : decode cX8_setFault 53 = .ok (.lconst 0, 1) := by decide +kernel
theorem dX8_setFault_54 : decode cX8_setFault 54 = .ok (.aload_n 0, 1) := by decide +kernel
theorem dX8_setFault_55 : decode cX8_setFault 55 = .ok (.getfield 23, 3) := by decide +kernel
theorem dX8_setFault_58 : decode cX8_setFault 58 = .ok (.iload_n 3, 1) := by decide +kernel
theorem dX8_setFault_59 : decode cX8_setFault 59 = .ok (.iaload, 1) := by decide +kernel
theorem dX8_setFault_60 : decode cX8_setFault 60 = .ok (.iconst 1, 1) := by decide +kernel
theorem dX8_setFault_61 : decode cX8_setFault 61 = .ok (.isub, 1) := by decide +kernel
theorem dX8_setFault_62 : decode cX8_setFault 62 = .ok (.i2l, 1) := by decide +kernel
theorem dX8_setFault_63 : decode cX8_setFault 63 = .ok (.invokestatic 42, 3) := by decide +kernel
theorem dX8_setFault_66 : decode cX8_setFault 66 = .ok (.ifCond .eq 7, 3) := by decide +kernel
theorem dX8_setFault_69 : decode cX8_setFault 69 = .ok (.iconst 3, 1) := by decide +kernel
theorem dX8_setFault_70 : decode cX8_setFault 70 = .ok (.goto 16, 3) := by decide +kernel
theorem dX8_setFault_73 : decode cX8_setFault 73 = .ok (.aload_n 0, 1) := by decide +kernel
theorem dX8_setFault_74 : decode cX8_setFault 74 = .ok (.iload_n 3, 1) := by decide +kernel
theorem dX8_setFault_75 : decode cX8_setFault 75 = .ok (.invokevirtual 104, 3) := by decide +kernel
theorem dX8_setFault_78 : decode cX8_setFault 78 = .ok (.ifCond .eq 7, 3) := by decide +kernel
theorem dX8_setFault_81 : decode cX8_setFault 81 = .ok (.iconst 2, 1) := by decide +kernel
theorem dX8_setFault_82 : decode cX8_setFault 82 = .ok (.goto 4, 3) := by decide +kernel
theorem dX8_setFault_85 : decode cX8_setFault 85 = .ok (.iconst 0, 1) := by decide +kernel
theorem dX8_setFault_86 : decode cX8_setFault 86 = .ok (.ireturn, 1) := by decide +kernel
theorem dX8_gets_0 : decode cX8_gets 0 = .ok (.aload_n 0, 1) := by decide +kernel
theorem dX8_gets_1 : decode cX8_gets 1 = .ok (.getfield 27, 3) := by decide +kernel
theorem dX8_gets_4 : decode cX8_gets 4 = .ok (.bipush 16, 2) := by decide +kernel
theorem dX8_gets_6 : decode cX8_gets 6 = .ok (.iload_n 1, 1) := by decide +kernel
theorem dX8_gets_7 : decode cX8_gets 7 = .ok (.imul, 1) := by decide +kernel
theorem dX8_gets_8 : decode cX8_gets 8 = .ok (.iload_n 2, 1) := by decide +kernel
theorem dX8_gets_9 : decode cX8_gets 9 = .ok (.iadd, 1) := by decide +kernel
theorem dX8_gets_10 : decode cX8_gets 10 = .ok (.laload, 1) := by decide +kernel
theorem dX8_gets_11 : decode cX8_gets 11 = .ok (.lstore_n 3, 1) := by decide +kernel
theorem dX8_gets_12 : decode cX8_gets 12 = .ok (.aload_n 0, 1) := by decide +kernel
theorem dX8_gets_13 : decode cX8_gets 13 = .ok (.getfield 20, 3) := by decide +kernel
theorem dX8_gets_16 : decode cX8_gets 16 = .ok (.iload_n 1, 1) := by decide +kernel
theorem dX8_gets_17 : decode cX8_gets 17 = .ok (.iaload, 1) := by decide +kernel
theorem dX8_gets_18 : decode cX8_gets 18 = .ok (.istore 5, 2) := by decide +kernel
theorem dX8_gets_20 : decode cX8_gets 20 = .ok (.iload 5, 2) := by decide +kernel
theorem dX8_gets_22 : decode cX8_gets 22 = .ok (.bipush 8, 2) := by decide +kernel
theorem dX8_gets_24 : decode cX8_gets 24 = .ok (.if_icmp .ge 13, 3) := by decide +kernel
theorem dX8_gets_27 : decode cX8_gets 27 = .ok (.aload_n 0, 1) := by decide +kernel
theorem dX8_gets_28 : decode cX8_gets 28 = .ok (.iload 5, 2) := by decide +kernel
theorem dX8_gets_30 : decode cX8_gets 30 = .ok (.lload_n 3, 1) := by decide +kernel
theorem dX8_gets_31 : decode cX8_gets 31 = .ok (.invokevirtual 88, 3) := by decide +kernel
theorem dX8_gets_34 : decode cX8_gets 34 = .ok (.goto 48, 3) := by decide +kernel
theorem dX8_gets_37 : decode cX8_gets 37 = .ok (.aload_n 0, 1) := by decide +kernel
theorem dX8_gets_38 : decode cX8_gets 38 = .ok (.lload_n 3, 1) := by decide +kernel
theorem dX8_gets_39 : decode cX8_gets 39 = .ok (.lconst 0, 1) := by decide +kernel
theorem dX8_gets_40 : decode cX8_gets 40 = .ok (.lcmp, 1) := by decide +kernel
theorem dX8_gets_41 : decode cX8_gets 41 = .ok (.ifCond .ne 7, 3) := by decide +kernel
theorem dX8_gets_44 : decode cX8_gets 44 = .ok (.iconst 0, 1) := by decide +kernel
theorem dX8_gets_45 : decode cX8_gets 45 = .ok (.goto 15, 3) := by decide +kernel
theorem dX8_gets_48 : decode cX8_gets 48 = .ok (.iload 5, 2) := by decide +kernel
theorem dX8_gets_50 : decode cX8_gets 50 = .ok (.bipush 10, 2) := by decide +kernel
theorem dX8_gets_52 : decode cX8_gets 52 = .ok (.if_icmp .ne 7, 3) := by decide +kernel
theorem dX8_gets_55 : decode cX8_gets 55 = .ok (.iconst 3, 1) := by decide +kernel
theorem dX8_gets_56 : decode cX8_gets 56 = .ok (.goto 4, 3) := by decide +kernel
theorem dX8_gets_59 : decode cX8_gets 59 = .ok (.iconst 2, 1) := by decide +kernel
theorem dX8_gets_60 : decode cX8_gets 60 = .ok (.putfield 69, 3) := by decide +kernel
theorem dX8_gets_63 : decode cX8_gets 63 = .ok (.aload_n 0, 1) := by decide +kernel
theorem dX8_gets_64 : decode cX8_gets 64 = .ok (.iload 5, 2) := by decide +kernel
theorem dX8_gets_66 : decode cX8_gets 66 = .ok (.bipush 10, 2) := by decide +kernel
theorem dX8_gets_68 : decode cX8_gets 68 = .ok (.if_icmp .ne 9, 3) := by decide +kernel
theorem dX8_gets_71 : decode cX8_gets 71 = .ok (.lload_n 3, 1) := by decide +kernel
theorem dX8_gets_72 : decode cX8_gets 72 = .ok (.lconst 1, 1) := by decide +kernel
theorem dX8_gets_73 : decode cX8_gets 73 = .ok (.lsub, 1) := by decide +kernel
theorem dX8_gets_74 : decode cX8_gets 74 = .ok (.goto 4, 3) := by decide +kernel
theorem dX8_gets_77 : decode cX8_gets 77 = .ok (.lload_n 3, 1) := by decide +kernel
theorem dX8_gets_78 : decode cX8_gets 78 = .ok (.l2i, 1) := by decide +kernel
theorem dX8_gets_79 : decode cX8_gets 79 = .ok (.putfield 72, 3) := by decide +kernel
theorem dX8_gets_82 : decode cX8_gets 82 = .ok (.return_, 1) := by decide +kernel
theorem dX8_doGet_0 : decode cX8_doGet 0 = .ok (.aload_n 0, 1) := by decide +kernel
theorem dX8_doGet_1 : decode cX8_doGet 1 = .ok (.aload_n 0, 1) := by decide +kernel
theorem dX8_doGet_2 : decode cX8_doGet 2 = .ok (.getfield 7, 3) := by decide +kernel
theorem dX8_doGet_5 : decode cX8_doGet 5 = .ok (.iload_n 1, 1) := by decide +kernel
theorem dX8_doGet_6 : decode cX8_doGet 6 = .ok (.iaload, 1) := by decide +kernel
theorem dX8_doGet_7 : decode cX8_doGet 7 = .ok (.aload_n 0, 1) := by decide +kernel
theorem dX8_doGet_8 : decode cX8_doGet 8 = .ok (.getfield 13, 3) := by decide +kernel
theorem dX8_doGet_11 : decode cX8_doGet 11 = .ok (.iload_n 1, 1) := by decide +kernel
theorem dX8_doGet_12 : decode cX8_doGet 12 = .ok (.iaload, 1) := by decide +kernel
theorem dX8_doGet_13 : decode cX8_doGet 13 = .ok (.iload_n 2, 1) := by decide +kernel
theorem dX8_doGet_14 : decode cX8_doGet 14 = .ok (.invokevirtual 107, 3) := by decide +kernel
theorem dX8_doGet_17 : decode cX8_doGet 17 = .ok (.istore_n 3, 1) := by decide +kernel
theorem dX8_doGet_18 : decode cX8_doGet 18 = .ok (.iload_n 3, 1) := by decide +kernel
theorem dX8_doGet_19 : decode cX8_doGet 19 = .ok (.ifCond .ne 14, 3) := by decide +kernel
theorem dX8_doGet_22 : decode cX8_doGet 22 = .ok (.aload_n 0, 1) := by decide +kernel
theorem dX8_doGet_23 : decode cX8_doGet 23 = .ok (.aload_n 0, 1) := by decide +kernel
theorem dX8_doGet_24 : decode cX8_doGet 24 = .ok (.getfield 13, 3) := by decide +kernel
theorem dX8_doGet_27 : decode cX8_doGet 27 = .ok (.iload_n 1, 1) := by decide +kernel
theorem dX8_doGet_28 : decode cX8_doGet 28 = .ok (.iaload, 1) := by decide +kernel
theorem dX8_doGet_29 : decode cX8_doGet 29 = .ok (.iload_n 2, 1) := by decide +kernel
theorem dX8_doGet_30 : decode cX8_doGet 30 = .ok (.invokevirtual 111, 3) := by decide +kernel
theorem dX8_doGet_33 : decode cX8_doGet 33 = .ok (.iload_n 3, 1) := by decide +kernel
theorem dX8_doGet_34 : decode cX8_doGet 34 = .ok (.ireturn, 1) := by decide +kernel
theorem dX8_get_0 : decode cX8_get 0 = .ok (.iload_n 1, 1) := by decide +kernel
theorem dX8_get_1 : decode cX8_get 1 = .ok (.invokestatic 57, 3) := by decide +kernel
theorem dX8_get_4 : decode cX8_get 4 = .ok (.ifCond .eq 5, 3) := by decide +kernel
theorem dX8_get_7 : decode cX8_get 7 = .ok (.iconst (-1), 1) := by decide +kernel
theorem dX8_get_8 : decode cX8_get 8 = .ok (.ireturn, 1) := by decide +kernel
theorem dX8_get_9 : decode cX8_get 9 = .ok (.aload_n 0, 1) := by decide +kernel
theorem dX8_get_10 : decode cX8_get 10 = .ok (.iload_n 1, 1) := by decide +kernel
theorem dX8_get_11 : decode cX8_get 11 = .ok (.iload_n 2, 1) := by decide +kernel
theorem dX8_get_12 : decode cX8_get 12 = .ok (.invokevirtual 115, 3) := by decide +kernel
theorem dX8_get_15 : decode cX8_get 15 = .ok (.istore_n 3, 1) := by decide +kernel
theorem dX8_get_16 : decode cX8_get 16 = .ok (.aload_n 0, 1) := by decide +kernel
theorem dX8_get_17 : decode cX8_get 17 = .ok (.iload_n 3, 1) := by decide +kernel
theorem dX8_get_18 : decode cX8_get 18 = .ok (.aload_n 0, 1) := by decide +kernel
theorem dX8_get_19 : decode cX8_get 19 = .ok (.invokevirtual 118, 3) := by decide +kernel
theorem dX8_get_22 : decode cX8_get 22 = .ok (.invokevirtual 121, 3) := by decide +kernel
theorem dX8_get_25 : decode cX8_get 25 = .ok (.ireturn, 1) := by decide +kernel
theorem dX8_doSet_0 : decode cX8_doSet 0 = .ok (.aload_n 0, 1) := by decide +kernel
theorem dX8_doSet_1 : decode cX8_doSet 1 = .ok (.iload_n 1, 1) := by decide +kernel
theorem dX8_doSet_2 : decode cX8_doSet 2 = .ok (.iload_n 2, 1) := by decide +kernel
theorem dX8_doSet_3 : decode cX8_doSet 3 = .ok (.invokevirtual 124, 3) := by decide +kernel
theorem dX8_doSet_6 : decode cX8_doSet 6 = .ok (.istore_n 3, 1) := by decide +kernel
theorem dX8_doSet_7 : decode cX8_doSet 7 = .ok (.iload_n 3, 1) := by decide +kernel
theorem dX8_doSet_8 : decode cX8_doSet 8 = .ok (.ifCond .ne 82, 3) := by decide +kernel
theorem dX8_doSet_11 : decode cX8_doSet 11 = .ok (.aload_n 0, 1) := by decide +kernel
theorem dX8_doSet_12 : decode cX8_doSet 12 = .ok (.getfield 13, 3) := by decide +kernel
theorem dX8_doSet_15 : decode cX8_doSet 15 = .ok (.iload_n 1, 1) := by decide +kernel
theorem dX8_doSet_16 : decode cX8_doSet 16 = .ok (.iaload, 1) := by decide +kernel
theorem dX8_doSet_17 : decode cX8_doSet 17 = .ok (.istore 4, 2) := by decide +kernel
theorem dX8_doSet_19 : decode cX8_doSet 19 = .ok (.aload_n 0, 1) := by decide +kernel
theorem dX8_doSet_20 : decode cX8_doSet 20 = .ok (.getfield 27, 3) := by decide +kernel
theorem dX8_doSet_23 : decode cX8_doSet 23 = .ok (.bipush 16, 2) := by decide +kernel
theorem dX8_doSet_25 : decode cX8_doSet 25 = .ok (.iload 4, 2) := by decide +kernel
theorem dX8_doSet_27 : decode cX8_doSet 27 = .ok (.imul, 1) := by decide +kernel
theorem dX8_doSet_28 : decode cX8_doSet 28 = .ok (.iload_n 2, 1) := by decide +kernel
theorem dX8_doSet_29 : decode cX8_doSet 29 = .ok (.iadd, 1) := by decide +kernel
theorem dX8_doSet_30 : decode cX8_doSet 30 = .ok (.aload_n 0, 1) := by decide +kernel
theorem dX8_doSet_31 : decode cX8_doSet 31 = .ok (.getfield 69, 3) := by decide +kernel
theorem dX8_doSet_34 : decode cX8_doSet 34 = .ok (.ifCond .ne 7, 3) := by decide +kernel
theorem dX8_doSet_37 : decode cX8_doSet 37 = .ok (.lconst 0, 1) := by decide +kernel
theorem dX8_doSet_38 : decode cX8_doSet 38 = .ok (.goto 51, 3) := by decide +kernel
theorem dX8_doSet_41 : decode cX8_doSet 41 = .ok (.aload_n 0, 1) := by decide +kernel
theorem dX8_doSet_42 : decode cX8_doSet 42 = .ok (.getfield 69, 3) := by decide +kernel
theorem dX8_doSet_45 : decode cX8_doSet 45 = .ok (.iconst 1, 1) := by decide +kernel
theorem dX8_doSet_46 : decode cX8_doSet 46 = .ok (.if_icmp .ne 20, 3) := by decide +kernel
theorem dX8_doSet_49 : decode cX8_doSet 49 = .ok (.aload_n 0, 1) := by decide +kernel
theorem dX8_doSet_50 : decode cX8_doSet 50 = .ok (.getfield 20, 3) := by decide +kernel
theorem dX8_doSet_53 : decode cX8_doSet 53 = .ok (.iload 4, 2) := by decide +kernel
theorem dX8_doSet_55 : decode cX8_doSet 55 = .ok (.iaload, 1) := by decide +kernel
theorem dX8_doSet_56 : decode cX8_doSet 56 = .ok (.aload_n 0, 1) := by decide +kernel
theorem dX8_doSet_57 : decode cX8_doSet 57 = .ok (.getfield 78, 3) := by decide +kernel
theorem dX8_doSet_60 : decode cX8_doSet 60 = .ok (.invokestatic 84, 3) := by decide +kernel
theorem dX8_doSet_63 : decode cX8_doSet 63 = .ok (.goto 26, 3) := by decide +kernel
theorem dX8_doSet_66 : decode cX8_doSet 66 = .ok (.aload_n 0, 1) := by decide +kernel
theorem dX8_doSet_67 : decode cX8_doSet 67 = .ok (.getfield 69, 3) := by decide +kernel
theorem dX8_doSet_70 : decode cX8_doSet 70 = .ok (.iconst 2, 1) := by decide +kernel
theorem dX8_doSet_71 : decode cX8_doSet 71 = .ok (.if_icmp .ne 11, 3) := by decide +kernel
theorem dX8_doSet_74 : decode cX8_doSet 74 = .ok (.aload_n 0, 1) := by decide +kernel
theorem dX8_doSet_75 : decode cX8_doSet 75 = .ok (.getfield 72, 3) := by decide +kernel
theorem dX8_doSet_78 : decode cX8_doSet 78 = .ok (.i2l, 1) := by decide +kernel
theorem dX8_doSet_79 : decode cX8_doSet 79 = .ok (.goto 10, 3) := by decide +kernel
theorem dX8_doSet_82 : decode cX8_doSet 82 = .ok (.aload_n 0, 1) := by decide +kernel
theorem dX8_doSet_83 : decode cX8_doSet 83 = .ok (.getfield 72, 3) := by decide +kernel
theorem dX8_doSet_86 : decode cX8_doSet 86 = .ok (.i2l, 1) := by decide +kernel
theorem dX8_doSet_87 : decode cX8_doSet 87 = .ok (.lconst 1, 1) := by decide +kernel
theorem dX8_doSet_88 : decode cX8_doSet 88 = .ok (.ladd, 1) := by decide +kernel
theorem dX8_doSet_89 : decode cX8_doSet 89 = .ok (.lastore, 1) := by decide +kernel
theorem dX8_doSet_90 : decode cX8_doSet 90 = .ok (.iload_n 3, 1) := by decide +kernel
theorem dX8_doSet_91 : decode cX8_doSet 91 = .ok (.ireturn, 1) := by decide +kernel
theorem dX8_set_0 : decode cX8_set 0 = .ok (.iload_n 1, 1) := by decide +kernel
theorem dX8_set_1 : decode cX8_set 1 = .ok (.invokestatic 57, 3) := by decide +kernel
theorem dX8_set_4 : decode cX8_set 4 = .ok (.ifCond .eq 7, 3) := by decide +kernel
theorem dX8_set_7 : decode cX8_set 7 = .ok (.iconst (-1), 1) := by decide +kernel
theorem dX8_set_8 : decode cX8_set 8 = .ok (.goto 14, 3) := by decide +kernel
theorem dX8_set_11 : decode cX8_set 11 = .ok (.aload_n 0, 1) := by decide +kernel
theorem dX8_set_12 : decode cX8_set 12 = .ok (.aload_n 0, 1) := by decide +kernel
theorem dX8_set_13 : decode cX8_set 13 = .ok (.iload_n 1, 1) := by decide +kernel
theorem dX8_set_14 : decode cX8_set 14 = .ok (.iload_n 2, 1) := by decide +kernel
theorem dX8_set_15 : decode cX8_set 15 = .ok (.invokevirtual 127, 3) := by decide +kernel
theorem dX8_set_18 : decode cX8_set 18 = .ok (.iconst 1, 1) := by decide +kernel
theorem dX8_set_19 : decode cX8_set 19 = .ok (.invokevirtual 121, 3) := by decide +kernel
theorem dX8_set_22 : decode cX8_set 22 = .ok (.ireturn, 1) := by decide +kernel
theorem dX8_doRead_0 : decode cX8_doRead 0 = .ok (.aload_n 0, 1) := by decide +kernel
theorem dX8_doRead_1 : decode cX8_doRead 1 = .ok (.iload_n 1, 1) := by decide +kernel
theorem dX8_doRead_2 : decode cX8_doRead 2 = .ok (.iload_n 2, 1) := by decide +kernel
theorem dX8_doRead_3 : decode cX8_doRead 3 = .ok (.iload_n 3, 1) := by decide +kernel
theorem dX8_doRead_4 : decode cX8_doRead 4 = .ok (.iload 4, 2) := by decide +kernel
theorem dX8_doRead_6 : decode cX8_doRead 6 = .ok (.invokevirtual 130, 3) := by decide +kernel
theorem dX8_doRead_9 : decode cX8_doRead 9 = .ok (.istore 5, 2) := by decide +kernel
theorem dX8_doRead_11 : decode cX8_doRead 11 = .ok (.iload 5, 2) := by decide +kernel
theorem dX8_doRead_13 : decode cX8_doRead 13 = .ok (.ifCond .ne 25, 3) := by decide +kernel
theorem dX8_doRead_16 : decode cX8_doRead 16 = .ok (.aload_n 0, 1) := by decide +kernel
theorem dX8_doRead_17 : decode cX8_doRead 17 = .ok (.iload 4, 2) := by decide +kernel
theorem dX8_doRead_19 : decode cX8_doRead 19 = .ok (.iload 4, 2) := by decide +kernel
theorem dX8_doRead_21 : decode cX8_doRead 21 = .ok (.aload_n 0, 1) := by decide +kernel
theorem dX8_doRead_22 : decode cX8_doRead 22 = .ok (.getfield 27, 3) := by decide +kernel
theorem dX8_doRead_25 : decode cX8_doRead 25 = .ok (.bipush 16, 2) := by decide +kernel
theorem dX8_doRead_27 : decode cX8_doRead 27 = .ok (.iload_n 2, 1) := by decide +kernel
theorem dX8_doRead_28 : decode cX8_doRead 28 = .ok (.imul, 1) := by decide +kernel
theorem dX8_doRead_29 : decode cX8_doRead 29 = .ok (.iload_n 3, 1) := by decide +kernel
theorem dX8_doRead_30 : decode cX8_doRead 30 = .ok (.iadd, 1) := by decide +kernel
theorem dX8_doRead_31 : decode cX8_doRead 31 = .ok (.laload, 1) := by decide +kernel
theorem dX8_doRead_32 : decode cX8_doRead 32 = .ok (.invokestatic 84, 3) := by decide +kernel
theorem dX8_doRead_35 : decode cX8_doRead 35 = .ok (.invokevirtual 88, 3) := by decide +kernel
theorem dX8_doRead_38 : decode cX8_doRead 38 = .ok (.iload 5, 2) := by decide +kernel
theorem dX8_doRead_40 : decode cX8_doRead 40 = .ok (.ireturn, 1) := by decide +kernel
theorem dX8_read_0 : decode cX8_read 0 = .ok (.iload_n 1, 1) := by decide +kernel
theorem dX8_read_1 : decode cX8_read 1 = .ok (.invokestatic 57, 3) := by decide +kernel
theorem dX8_read_4 : decode cX8_read 4 = .ok (.ifCond .eq 5, 3) := by decide +kernel
theorem dX8_read_7 : decode cX8_read 7 = .ok (.iconst (-1), 1) := by decide +kernel
theorem dX8_read_8 : decode cX8_read 8 = .ok (.ireturn, 1) := by decide +kernel
theorem dX8_read_9 : decode cX8_read 9 = .ok (.iload_n 3, 1) := by decide +kernel
theorem dX8_read_10 : decode cX8_read 10 = .ok (.i2l, 1) := by decide +kernel
theorem dX8_read_11 : decode cX8_read 11 = .ok (.lconst 0, 1) := by decide +kernel
theorem dX8_read_12 : decode cX8_read 12 = .ok (.ldc2_w 82, 3) := by decide +kernel
theorem dX8_read_15 : decode cX8_read 15 = .ok (.invokestatic 42, 3) := by decide +kernel
theorem dX8_read_18 : decode cX8_read 18 = .ok (.ifCond .eq 8, 3) := by decide +kernel
theorem dX8_read_21 : decode cX8_read 21 = .ok (.bipush (-2), 2) := by decide +kernel
theorem dX8_read_23 : decode cX8_read 23 = .ok (.goto 26, 3) := by decide +kernel
theorem dX8_read_26 : decode cX8_read 26 = .ok (.aload_n 0, 1) := by decide +kernel
theorem dX8_read_27 : decode cX8_read 27 = .ok (.aload_n 0, 1) := by decide +kernel
theorem dX8_read_28 : decode cX8_read 28 = .ok (.aload_n 0, 1) := by decide +kernel
theorem dX8_read_29 : decode cX8_read 29 = .ok (.getfield 7, 3) := by decide +kernel
theorem dX8_read_32 : decode cX8_read 32 = .ok (.iload_n 1, 1) := by decide +kernel
theorem dX8_read_33 : decode cX8_read 33 = .ok (.iaload, 1) := by decide +kernel
theorem dX8_read_34 : decode cX8_read 34 = .ok (.aload_n 0, 1) := by decide +kernel
theorem dX8_read_35 : decode cX8_read 35 = .ok (.getfield 13, 3) := by decide +kernel
theorem dX8_read_38 : decode cX8_read 38 = .ok (.iload_n 1, 1) := by decide +kernel
theorem dX8_read_39 : decode cX8_read 39 = .ok (.iaload, 1) := by decide +kernel
theorem dX8_read_40 : decode cX8_read 40 = .ok (.iload_n 2, 1) := by decide +kernel
theorem dX8_read_41 : decode cX8_read 41 = .ok (.iload_n 3, 1) := by decide +kernel
theorem dX8_read_42 : decode cX8_read 42 = .ok (.invokevirtual 134, 3) := by decide +kernel
theorem dX8_read_45 : decode cX8_read 45 = .ok (.iconst 1, 1) := by decide +kernel
theorem dX8_read_46 : decode cX8_read 46 = .ok (.invokevirtual 121, 3) := by decide +kernel
theorem dX8_read_49 : decode cX8_read 49 = .ok (.ireturn, 1) := by decide +kernel
theorem dX8_doWrite_0 : decode cX8_doWrite 0 = .ok (.aload_n 0, 1) := by decide +kernel
theorem dX8_doWrite_1 : decode cX8_doWrite 1 = .ok (.iload_n 1, 1) := by decide +kernel
theorem dX8_doWrite_2 : decode cX8_doWrite 2 = .ok (.iload_n 2, 1) := by decide +kernel
theorem dX8_doWrite_3 : decode cX8_doWrite 3 = .ok (.iload_n 3, 1) := by decide +kernel
theorem dX8_doWrite_4 : decode cX8_doWrite 4 = .ok (.iload 4, 2) := by decide +kernel
theorem dX8_doWrite_6 : decode cX8_doWrite 6 = .ok (.invokevirtual 137, 3) := by decide +kernel
theorem dX8_doWrite_9 : decode cX8_doWrite 9 = .ok (.istore 7, 2) := by decide +kernel
theorem dX8_doWrite_11 : decode cX8_doWrite 11 = .ok (.iload 7, 2) := by decide +kernel
theorem dX8_doWrite_13 : decode cX8_doWrite 13 = .ok (.ifCond .ne 30, 3) := by decide +kernel
theorem dX8_doWrite_16 : decode cX8_doWrite 16 = .ok (.aload_n 0, 1) := by decide +kernel
theorem dX8_doWrite_17 : decode cX8_doWrite 17 = .ok (.getfield 27, 3) := by decide +kernel
theorem dX8_doWrite_20 : decode cX8_doWrite 20 = .ok (.bipush 16, 2) := by decide +kernel
theorem dX8_doWrite_22 : decode cX8_doWrite 22 = .ok (.iload_n 2, 1) := by decide +kernel
theorem dX8_doWrite_23 : decode cX8_doWrite 23 = .ok (.imul, 1) := by decide +kernel
theorem dX8_doWrite_24 : decode cX8_doWrite 24 = .ok (.iload_n 3, 1) := by decide +kernel
theorem dX8_doWrite_25 : decode cX8_doWrite 25 = .ok (.iadd, 1) := by decide +kernel
theorem dX8_doWrite_26 : decode cX8_doWrite 26 = .ok (.aload_n 0, 1) := by decide +kernel
theorem dX8_doWrite_27 : decode cX8_doWrite 27 = .ok (.getfield 20, 3) := by decide +kernel
theorem dX8_doWrite_30 : decode cX8_doWrite 30 = .ok (.iload_n 2, 1) := by decide +kernel
theorem dX8_doWrite_31 : decode cX8_doWrite 31 = .ok (.iaload, 1) := by decide +kernel
theorem dX8_doWrite_32 : decode cX8_doWrite 32 = .ok (.iload 4, 2) := by decide +kernel
theorem dX8_doWrite_34 : decode cX8_doWrite 34 = .ok (.lload 5, 2) := by decide +kernel
theorem dX8_doWrite_36 : decode cX8_doWrite 36 = .ok (.invokestatic 84, 3) := by decide +kernel
theorem dX8_doWrite_39 : decode cX8_doWrite 39 = .ok (.invokestatic 84, 3) := by decide +kernel
theorem dX8_doWrite_42 : decode cX8_doWrite 42 = .ok (.lastore, 1) := by decide +kernel
theorem dX8_doWrite_43 : decode cX8_doWrite 43 = .ok (.iload 7, 2) := by decide +kernel
theorem dX8_doWrite_45 : decode cX8_doWrite 45 = .ok (.ireturn, 1) := by decide +kernel
theorem dX8_write_0 : decode cX8_write 0 = .ok (.iload_n 1, 1) := by decide +kernel
theorem dX8_write_1 : decode cX8_write 1 = .ok (.invokestatic 57, 3) := by decide +kernel
theorem dX8_write_4 : decode cX8_write 4 = .ok (.ifCond .eq 5, 3) := by decide +kernel
theorem dX8_write_7 : decode cX8_write 7 = .ok (.iconst (-1), 1) := by decide +kernel
theorem dX8_write_8 : decode cX8_write 8 = .ok (.ireturn, 1) := by decide +kernel
theorem dX8_write_9 : decode cX8_write 9 = .ok (.iload_n 3, 1) := by decide +kernel
theorem dX8_write_10 : decode cX8_write 10 = .ok (.i2l, 1) := by decide +kernel
theorem dX8_write_11 : decode cX8_write 11 = .ok (.lconst 0, 1) := by decide +kernel
theorem dX8_write_12 : decode cX8_write 12 = .ok (.ldc2_w 82, 3) := by decide +kernel
theorem dX8_write_15 : decode cX8_write 15 = .ok (.invokestatic 42, 3) := by decide +kernel
theorem dX8_write_18 : decode cX8_write 18 = .ok (.ifCond .eq 6, 3) := by decide +kernel
theorem dX8_write_21 : decode cX8_write 21 = .ok (.bipush (-2), 2) := by decide +kernel
theorem dX8_write_23 : decode cX8_write 23 = .ok (.ireturn, 1) := by decide +kernel
theorem dX8_write_24 : decode cX8_write 24 = .ok (.aload_n 0, 1) := by decide +kernel
theorem dX8_write_25 : decode cX8_write 25 = .ok (.getfield 69, 3) := by decide +kernel
theorem dX8_write_28 : decode cX8_write 28 = .ok (.iconst 1, 1) := by decide +kernel
theorem dX8_write_29 : decode cX8_write 29 = .ok (.if_icmp .eq 8, 3) := by decide +kernel
theorem dX8_write_32 : decode cX8_write 32 = .ok (.bipush (-3), 2) := by decide +kernel
theorem dX8_write_34 : decode cX8_write 34 = .ok (.goto 30, 3) := by decide +kernel
theorem dX8_write_37 : decode cX8_write 37 = .ok (.aload_n 0, 1) := by decide +kernel
theorem dX8_write_38 : decode cX8_write 38 = .ok (.aload_n 0, 1) := by decide +kernel
theorem dX8_write_39 : decode cX8_write 39 = .ok (.aload_n 0, 1) := by decide +kernel
theorem dX8_write_40 : decode cX8_write 40 = .ok (.getfield 7, 3) := by decide +kernel
theorem dX8_write_43 : decode cX8_write 43 = .ok (.iload_n 1, 1) := by decide +kernel
theorem dX8_write_44 : decode cX8_write 44 = .ok (.iaload, 1) := by decide +kernel
theorem dX8_write_45 : decode cX8_write 45 = .ok (.aload_n 0, 1) := by decide +kernel
theorem dX8_write_46 : decode cX8_write 46 = .ok (.getfield 13, 3) := by decide +kernel
theorem dX8_write_49 : decode cX8_write 49 = .ok (.iload_n 1, 1) := by decide +kernel
theorem dX8_write_50 : decode cX8_write 50 = .ok (.iaload, 1) := by decide +kernel
theorem dX8_write_51 : decode cX8_write 51 = .ok (.iload_n 2, 1) := by decide +kernel
theorem dX8_write_52 : decode cX8_write 52 = .ok (.iload_n 3, 1) := by decide +kernel
theorem dX8_write_53 : decode cX8_write 53 = .ok (.aload_n 0, 1) := by decide +kernel
theorem dX8_write_54 : decode cX8_write 54 = .ok (.getfield 78, 3) := by decide +kernel
theorem dX8_write_57 : decode cX8_write 57 = .ok (.invokevirtual 140, 3) := by decide +kernel
theorem dX8_write_60 : decode cX8_write 60 = .ok (.iconst 1, 1) := by decide +kernel
theorem dX8_write_61 : decode cX8_write 61 = .ok (.invokevirtual 121, 3) := by decide +kernel
theorem dX8_write_64 : decode cX8_write 64 = .ok (.ireturn, 1) := by decide +kernel
theorem dX8_sizeFault_0 : decode cX8_sizeFault 0 = .ok (.aload_n 0, 1) := by decide +kernel
theorem dX8_sizeFault_1 : decode cX8_sizeFault 1 = .ok (.getfield 7, 3) := by decide +kernel
theorem dX8_sizeFault_4 : decode cX8_sizeFault 4 = .ok (.iload_n 1, 1) := by decide +kernel
theorem dX8_sizeFault_5 : decode cX8_sizeFault 5 = .ok (.iaload, 1) := by decide +kernel
theorem dX8_sizeFault_6 : decode cX8_sizeFault 6 = .ok (.ifCond .ne 7, 3) := by decide +kernel
theorem dX8_sizeFault_9 : decode cX8_sizeFault 9 = .ok (.iconst 1, 1) := by decide +kernel
theorem dX8_sizeFault_10 : decode cX8_sizeFault 10 = .ok (.goto 18, 3) := by decide +kernel
theorem dX8_sizeFault_13 : decode cX8_sizeFault 13 = .ok (.aload_n 0, 1) := by decide +kernel
theorem dX8_sizeFault_14 : decode cX8_sizeFault 14 = .ok (.getfield 7, 3) := by decide +kernel
theorem dX8_sizeFault_17 : decode cX8_sizeFault 17 = .ok (.iload_n 1, 1) := by decide +kernel
theorem dX8_sizeFault_18 : decode cX8_sizeFault 18 = .ok (.iaload, 1) := by decide +kernel
theorem dX8_sizeFault_19 : decode cX8_sizeFault 19 = .ok (.iconst 3, 1) := by decide +kernel
theorem dX8_sizeFault_20 : decode cX8_sizeFault 20 = .ok (.if_icmp .eq 7, 3) := by decide +kernel
theorem dX8_sizeFault_23 : decode cX8_sizeFault 23 = .ok (.iconst 2, 1) := by decide +kernel
theorem dX8_sizeFault_24 : decode cX8_sizeFault 24 = .ok (.goto 4, 3) := by decide +kernel
theorem dX8_sizeFault_27 : decode cX8_sizeFault 27 = .ok (.iconst 0, 1) := by decide +kernel
theorem dX8_sizeFault_28 : decode cX8_sizeFault 28 = .ok (.ireturn, 1) := by decide +kernel
theorem dX8_size_0 : decode cX8_size 0 = .ok (.iload_n 1, 1) := by decide +kernel
theorem dX8_size_1 : decode cX8_size 1 = .ok (.invokestatic 57, 3) := by decide +kernel
theorem dX8_size_4 : decode cX8_size 4 = .ok (.ifCond .eq 5, 3) := by decide +kernel
theorem dX8_size_7 : decode cX8_size 7 = .ok (.iconst (-1), 1) := by decide +kernel
theorem dX8_size_8 : decode cX8_size 8 = .ok (.ireturn, 1) := by decide +kernel
theorem dX8_size_9 : decode cX8_size 9 = .ok (.aload_n 0, 1) := by decide +kernel
theorem dX8_size_10 : decode cX8_size 10 = .ok (.iload_n 1, 1) := by decide +kernel
theorem dX8_size_11 : decode cX8_size 11 = .ok (.invokevirtual 144, 3) := by decide +kernel
theorem dX8_size_14 : decode cX8_size 14 = .ok (.istore_n 2, 1) := by decide +kernel
theorem dX8_size_15 : decode cX8_size 15 = .ok (.aload_n 0, 1) := by decide +kernel
theorem dX8_size_16 : decode cX8_size 16 = .ok (.iload_n 2, 1) := by decide +kernel
theorem dX8_size_17 : decode cX8_size 17 = .ok (.iload_n 2, 1) := by decide +kernel
theorem dX8_size_18 : decode cX8_size 18 = .ok (.ifCond .le 7, 3) := by decide +kernel
theorem dX8_size_21 : decode cX8_size 21 = .ok (.iconst 0, 1) := by decide +kernel
theorem dX8_size_22 : decode cX8_size 22 = .ok (.goto 14, 3) := by decide +kernel
theorem dX8_size_25 : decode cX8_size 25 = .ok (.aload_n 0, 1) := by decide +kernel
theorem dX8_size_26 : decode cX8_size 26 = .ok (.getfield 23, 3) := by decide +kernel
theorem dX8_size_29 : decode cX8_size 29 = .ok (.aload_n 0, 1) := by decide +kernel
theorem dX8_size_30 : decode cX8_size 30 = .ok (.getfield 13, 3) := by decide +kernel
theorem dX8_size_33 : decode cX8_size 33 = .ok (.iload_n 1, 1) := by decide +kernel
theorem dX8_size_34 : decode cX8_size 34 = .ok (.iaload, 1) := by decide +kernel
theorem dX8_size_35 : decode cX8_size 35 = .ok (.iaload, 1) := by decide +kernel
theorem dX8_size_36 : decode cX8_size 36 = .ok (.invokevirtual 121, 3) := by decide +kernel
theorem dX8_size_39 : decode cX8_size 39 = .ok (.ireturn, 1) := by decide +kernel
theorem dX8_finds_0 : decode cX8_finds 0 = .ok (.aload_n 0, 1) := by decide +kernel
theorem dX8_finds_1 : decode cX8_finds 1 = .ok (.aload_n 0, 1) := by decide +kernel
theorem dX8_finds_2 : decode cX8_finds 2 = .ok (.getfield 7, 3) := by decide +kernel
theorem dX8_finds_5 : decode cX8_finds 5 = .ok (.iload_n 1, 1) := by decide +kernel
theorem dX8_finds_6 : decode cX8_finds 6 = .ok (.iaload, 1) := by decide +kernel
theorem dX8_finds_7 : decode cX8_finds 7 = .ok (.aload_n 0, 1) := by decide +kernel
theorem dX8_finds_8 : decode cX8_finds 8 = .ok (.getfield 13, 3) := by decide +kernel
theorem dX8_finds_11 : decode cX8_finds 11 = .ok (.iload_n 1, 1) := by decide +kernel
theorem dX8_finds_12 : decode cX8_finds 12 = .ok (.iaload, 1) := by decide +kernel
theorem dX8_finds_13 : decode cX8_finds 13 = .ok (.iload_n 2, 1) := by decide +kernel
theorem dX8_finds_14 : decode cX8_finds 14 = .ok (.invokevirtual 107, 3) := by decide +kernel
theorem dX8_finds_17 : decode cX8_finds 17 = .ok (.istore_n 3, 1) := by decide +kernel
theorem dX8_finds_18 : decode cX8_finds 18 = .ok (.iload_n 3, 1) := by decide +kernel
theorem dX8_finds_19 : decode cX8_finds 19 = .ok (.ifCond .ne 94, 3) := by decide +kernel
theorem dX8_finds_22 : decode cX8_finds 22 = .ok (.aload_n 0, 1) := by decide +kernel
theorem dX8_finds_23 : decode cX8_finds 23 = .ok (.getfield 13, 3) := by decide +kernel
theorem dX8_finds_26 : decode cX8_finds 26 = .ok (.iload_n 1, 1) := by decide +kernel
theorem dX8_finds_27 : decode cX8_finds 27 = .ok (.iaload, 1) := by decide +kernel
theorem dX8_finds_28 : decode cX8_finds 28 = .ok (.istore 4, 2) := by decide +kernel
theorem dX8_finds_30 : decode cX8_finds 30 = .ok (.aload_n 0, 1) := by decide +kernel
theorem dX8_finds_31 : decode cX8_finds 31 = .ok (.getfield 27, 3) := by decide +kernel
theorem dX8_finds_34 : decode cX8_finds 34 = .ok (.bipush 16, 2) := by decide +kernel
theorem dX8_finds_36 : decode cX8_finds 36 = .ok (.iload 4, 2) := by decide +kernel
theorem dX8_finds_38 : decode cX8_finds 38 = .ok (.imul, 1) := by decide +kernel
theorem dX8_finds_39 : decode cX8_finds 39 = .ok (.iload_n 2, 1) := by decide +kernel
theorem dX8_finds_40 : decode cX8_finds 40 = .ok (.iadd, 1) := by decide +kernel
theorem dX8_finds_41 : decode cX8_finds 41 = .ok (.laload, 1) := by decide +kernel
theorem dX8_finds_42 : decode cX8_finds 42 = .ok (.lstore 5, 2) := by decide +kernel
theorem dX8_finds_44 : decode cX8_finds 44 = .ok (.aload_n 0, 1) := by decide +kernel
theorem dX8_finds_45 : decode cX8_finds 45 = .ok (.aload_n 0, 1) := by decide +kernel
theorem dX8_finds_46 : decode cX8_finds 46 = .ok (.getfield 20, 3) := by decide +kernel
theorem dX8_finds_49 : decode cX8_finds 49 = .ok (.iload 4, 2) := by decide +kernel
theorem dX8_finds_51 : decode cX8_finds 51 = .ok (.iaload, 1) := by decide +kernel
theorem dX8_finds_52 : decode cX8_finds 52 = .ok (.bipush 8, 2) := by decide +kernel
theorem dX8_finds_54 : decode cX8_finds 54 = .ok (.if_icmp .ge 7, 3) := by decide +kernel
theorem dX8_finds_57 : decode cX8_finds 57 = .ok (.iconst 1, 1) := by decide +kernel
theorem dX8_finds_58 : decode cX8_finds 58 = .ok (.goto 31, 3) := by decide +kernel
theorem dX8_finds_61 : decode cX8_finds 61 = .ok (.lload 5, 2) := by decide +kernel
theorem dX8_finds_63 : decode cX8_finds 63 = .ok (.lconst 0, 1) := by decide +kernel
theorem dX8_finds_64 : decode cX8_finds 64 = .ok (.lcmp, 1) := by decide +kernel
theorem dX8_finds_65 : decode cX8_finds 65 = .ok (.ifCond .ne 7, 3) := by decide +kernel
theorem dX8_finds_68 : decode cX8_finds 68 = .ok (.iconst 0, 1) := by decide +kernel
theorem dX8_finds_69 : decode cX8_finds 69 = .ok (.goto 20, 3) := by decide +kernel
theorem dX8_finds_72 : decode cX8_finds 72 = .ok (.aload_n 0, 1) := by decide +kernel
theorem dX8_finds_73 : decode cX8_finds 73 = .ok (.getfield 20, 3) := by decide +kernel
theorem dX8_finds_76 : decode cX8_finds 76 = .ok (.iload 4, 2) := by decide +kernel
theorem dX8_finds_78 : decode cX8_finds 78 = .ok (.iaload, 1) := by decide +kernel
theorem dX8_finds_79 : decode cX8_finds 79 = .ok (.bipush 10, 2) := by decide +kernel
theorem dX8_finds_81 : decode cX8_finds 81 = .ok (.if_icmp .ne 7, 3) := by decide +kernel
theorem dX8_finds_84 : decode cX8_finds 84 = .ok (.iconst 3, 1) := by decide +kernel
theorem dX8_finds_85 : decode cX8_finds 85 = .ok (.goto 4, 3) := by decide +kernel
theorem dX8_finds_88 : decode cX8_finds 88 = .ok (.iconst 2, 1) := by decide +kernel
theorem dX8_finds_89 : decode cX8_finds 89 = .ok (.putfield 147, 3) := by decide +kernel
theorem dX8_finds_92 : decode cX8_finds 92 = .ok (.aload_n 0, 1) := by decide +kernel
theorem dX8_finds_93 : decode cX8_finds 93 = .ok (.aload_n 0, 1) := by decide +kernel
theorem dX8_finds_94 : decode cX8_finds 94 = .ok (.getfield 147, 3) := by decide +kernel
theorem dX8_finds_97 : decode cX8_finds 97 = .ok (.iconst 3, 1) := by decide +kernel
theorem dX8_finds_98 : decode cX8_finds 98 = .ok (.if_icmp .ne 11, 3) := by decide +kernel
theorem dX8_finds_101 : decode cX8_finds 101 = .ok (.lload 5, 2) := by decide +kernel
theorem dX8_finds_103 : decode cX8_finds 103 = .ok (.l2i, 1) := by decide +kernel
theorem dX8_finds_104 : decode cX8_finds 104 = .ok (.iconst 1, 1) := by decide +kernel
theorem dX8_finds_105 : decode cX8_finds 105 = .ok (.isub, 1) := by decide +kernel
theorem dX8_finds_106 : decode cX8_finds 106 = .ok (.goto 4, 3) := by decide +kernel
theorem dX8_finds_109 : decode cX8_finds 109 = .ok (.iconst 0, 1) := by decide +kernel
theorem dX8_finds_110 : decode cX8_finds 110 = .ok (.putfield 150, 3) := by decide +kernel
theorem dX8_finds_113 : decode cX8_finds 113 = .ok (.iload_n 3, 1) := by decide +kernel
theorem dX8_finds_114 : decode cX8_finds 114 = .ok (.ireturn, 1) := by decide +kernel
theorem dX8_doWithin_0 : decode cX8_doWithin 0 = .ok (.aload_n 0, 1) := by decide +kernel
theorem dX8_doWithin_1 : decode cX8_doWithin 1 = .ok (.iload_n 1, 1) := by decide +kernel
theorem dX8_doWithin_2 : decode cX8_doWithin 2 = .ok (.iload_n 2, 1) := by decide +kernel
theorem dX8_doWithin_3 : decode cX8_doWithin 3 = .ok (.invokevirtual 153, 3) := by decide +kernel
theorem dX8_doWithin_6 : decode cX8_doWithin 6 = .ok (.istore 4, 2) := by decide +kernel
theorem dX8_doWithin_8 : decode cX8_doWithin 8 = .ok (.iload 4, 2) := by decide +kernel
theorem dX8_doWithin_10 : decode cX8_doWithin 10 = .ok (.ifCond .le 8, 3) := by decide +kernel
theorem dX8_doWithin_13 : decode cX8_doWithin 13 = .ok (.iload 4, 2) := by decide +kernel
theorem dX8_doWithin_15 : decode cX8_doWithin 15 = .ok (.goto 17, 3) := by decide +kernel
theorem dX8_doWithin_18 : decode cX8_doWithin 18 = .ok (.aload_n 0, 1) := by decide +kernel
theorem dX8_doWithin_19 : decode cX8_doWithin 19 = .ok (.aload_n 0, 1) := by decide +kernel
theorem dX8_doWithin_20 : decode cX8_doWithin 20 = .ok (.getfield 147, 3) := by decide +kernel
theorem dX8_doWithin_23 : decode cX8_doWithin 23 = .ok (.aload_n 0, 1) := by decide +kernel
theorem dX8_doWithin_24 : decode cX8_doWithin 24 = .ok (.getfield 150, 3) := by decide +kernel
theorem dX8_doWithin_27 : decode cX8_doWithin 27 = .ok (.iload_n 3, 1) := by decide +kernel
theorem dX8_doWithin_28 : decode cX8_doWithin 28 = .ok (.iconst 5, 1) := by decide +kernel
theorem dX8_doWithin_29 : decode cX8_doWithin 29 = .ok (.invokevirtual 134, 3) := by decide +kernel
theorem dX8_doWithin_32 : decode cX8_doWithin 32 = .ok (.ireturn, 1) := by decide +kernel
theorem dX8_within_0 : decode cX8_within 0 = .ok (.iload_n 1, 1) := by decide +kernel
theorem dX8_within_1 : decode cX8_within 1 = .ok (.invokestatic 57, 3) := by decide +kernel
theorem dX8_within_4 : decode cX8_within 4 = .ok (.ifCond .eq 7, 3) := by decide +kernel
theorem dX8_within_7 : decode cX8_within 7 = .ok (.iconst (-1), 1) := by decide +kernel
theorem dX8_within_8 : decode cX8_within 8 = .ok (.goto 15, 3) := by decide +kernel
theorem dX8_within_11 : decode cX8_within 11 = .ok (.aload_n 0, 1) := by decide +kernel
theorem dX8_within_12 : decode cX8_within 12 = .ok (.aload_n 0, 1) := by decide +kernel
theorem dX8_within_13 : decode cX8_within 13 = .ok (.iload_n 1, 1) := by decide +kernel
theorem dX8_within_14 : decode cX8_within 14 = .ok (.iload_n 2, 1) := by decide +kernel
theorem dX8_within_15 : decode cX8_within 15 = .ok (.iload_n 3, 1) := by decide +kernel
theorem dX8_within_16 : decode cX8_within 16 = .ok (.invokevirtual 156, 3) := by decide +kernel
theorem dX8_within_19 : decode cX8_within 19 = .ok (.iconst 1, 1) := by decide +kernel
theorem dX8_within_20 : decode cX8_within 20 = .ok (.invokevirtual 121, 3) := by decide +kernel
theorem dX8_within_23 : decode cX8_within 23 = .ok (.ireturn, 1) := by decide +kernel
theorem dX8_into_0 : decode cX8_into 0 = .ok (.iload_n 1, 1) := by decide +kernel
theorem dX8_into_1 : decode cX8_into 1 = .ok (.invokestatic 57, 3) := by decide +kernel
theorem dX8_into_4 : decode cX8_into 4 = .ok (.ifCond .eq 5, 3) := by decide +kernel
theorem dX8_into_7 : decode cX8_into 7 = .ok (.iconst (-1), 1) := by decide +kernel
theorem dX8_into_8 : decode cX8_into 8 = .ok (.ireturn, 1) := by decide +kernel
theorem dX8_into_9 : decode cX8_into 9 = .ok (.aload_n 0, 1) := by decide +kernel
theorem dX8_into_10 : decode cX8_into 10 = .ok (.iload_n 1, 1) := by decide +kernel
theorem dX8_into_11 : decode cX8_into 11 = .ok (.iload_n 2, 1) := by decide +kernel
theorem dX8_into_12 : decode cX8_into 12 = .ok (.invokevirtual 153, 3) := by decide +kernel
theorem dX8_into_15 : decode cX8_into 15 = .ok (.istore 5, 2) := by decide +kernel
theorem dX8_into_17 : decode cX8_into 17 = .ok (.iload 5, 2) := by decide +kernel
theorem dX8_into_19 : decode cX8_into 19 = .ok (.ifCond .le 8, 3) := by decide +kernel
theorem dX8_into_22 : decode cX8_into 22 = .ok (.iload 5, 2) := by decide +kernel
theorem dX8_into_24 : decode cX8_into 24 = .ok (.goto 20, 3) := by decide +kernel
theorem dX8_into_27 : decode cX8_into 27 = .ok (.aload_n 0, 1) := by decide +kernel
theorem dX8_into_28 : decode cX8_into 28 = .ok (.aload_n 0, 1) := by decide +kernel
theorem dX8_into_29 : decode cX8_into 29 = .ok (.getfield 147, 3) := by decide +kernel
theorem dX8_into_32 : decode cX8_into 32 = .ok (.aload_n 0, 1) := by decide +kernel
theorem dX8_into_33 : decode cX8_into 33 = .ok (.getfield 150, 3) := by decide +kernel
theorem dX8_into_36 : decode cX8_into 36 = .ok (.iload_n 3, 1) := by decide +kernel
theorem dX8_into_37 : decode cX8_into 37 = .ok (.iconst 4, 1) := by decide +kernel
theorem dX8_into_38 : decode cX8_into 38 = .ok (.iload 4, 2) := by decide +kernel
theorem dX8_into_40 : decode cX8_into 40 = .ok (.i2l, 1) := by decide +kernel
theorem dX8_into_41 : decode cX8_into 41 = .ok (.invokevirtual 140, 3) := by decide +kernel
theorem dX8_into_44 : decode cX8_into 44 = .ok (.istore 5, 2) := by decide +kernel
theorem dX8_into_46 : decode cX8_into 46 = .ok (.aload_n 0, 1) := by decide +kernel
theorem dX8_into_47 : decode cX8_into 47 = .ok (.iload 5, 2) := by decide +kernel
theorem dX8_into_49 : decode cX8_into 49 = .ok (.iconst 1, 1) := by decide +kernel
theorem dX8_into_50 : decode cX8_into 50 = .ok (.invokevirtual 121, 3) := by decide +kernel
theorem dX8_into_53 : decode cX8_into 53 = .ok (.ireturn, 1) := by decide +kernel
theorem dX8_pass_0 : decode cX8_pass 0 = .ok (.iload_n 1, 1) := by decide +kernel
theorem dX8_pass_1 : decode cX8_pass 1 = .ok (.invokestatic 57, 3) := by decide +kernel
theorem dX8_pass_4 : decode cX8_pass 4 = .ok (.ifCond .ne 10, 3) := by decide +kernel
theorem dX8_pass_7 : decode cX8_pass 7 = .ok (.iload_n 2, 1) := by decide +kernel
theorem dX8_pass_8 : decode cX8_pass 8 = .ok (.invokestatic 57, 3) := by decide +kernel
theorem dX8_pass_11 : decode cX8_pass 11 = .ok (.ifCond .eq 5, 3) := by decide +kernel
theorem dX8_pass_14 : decode cX8_pass 14 = .ok (.iconst (-1), 1) := by decide +kernel
theorem dX8_pass_15 : decode cX8_pass 15 = .ok (.ireturn, 1) := by decide +kernel
theorem dX8_pass_16 : decode cX8_pass 16 = .ok (.iload_n 3, 1) := by decide +kernel
theorem dX8_pass_17 : decode cX8_pass 17 = .ok (.i2l, 1) := by decide +kernel
theorem dX8_pass_18 : decode cX8_pass 18 = .ok (.lconst 0, 1) := by decide +kernel
theorem dX8_pass_19 : decode cX8_pass 19 = .ok (.ldc2_w 82, 3) := by decide +kernel
theorem dX8_pass_22 : decode cX8_pass 22 = .ok (.invokestatic 42, 3) := by decide +kernel
theorem dX8_pass_25 : decode cX8_pass 25 = .ok (.ifCond .eq 6, 3) := by decide +kernel
theorem dX8_pass_28 : decode cX8_pass 28 = .ok (.bipush (-2), 2) := by decide +kernel
theorem dX8_pass_30 : decode cX8_pass 30 = .ok (.ireturn, 1) := by decide +kernel
theorem dX8_pass_31 : decode cX8_pass 31 = .ok (.aload_n 0, 1) := by decide +kernel
theorem dX8_pass_32 : decode cX8_pass 32 = .ok (.iload_n 1, 1) := by decide +kernel
theorem dX8_pass_33 : decode cX8_pass 33 = .ok (.invokevirtual 144, 3) := by decide +kernel
theorem dX8_pass_36 : decode cX8_pass 36 = .ok (.istore 4, 2) := by decide +kernel
theorem dX8_pass_38 : decode cX8_pass 38 = .ok (.iload 4, 2) := by decide +kernel
theorem dX8_pass_40 : decode cX8_pass 40 = .ok (.ifCond .le 11, 3) := by decide +kernel
theorem dX8_pass_43 : decode cX8_pass 43 = .ok (.aload_n 0, 1) := by decide +kernel
theorem dX8_pass_44 : decode cX8_pass 44 = .ok (.iload 4, 2) := by decide +kernel
theorem dX8_pass_46 : decode cX8_pass 46 = .ok (.iconst 0, 1) := by decide +kernel
theorem dX8_pass_47 : decode cX8_pass 47 = .ok (.invokevirtual 121, 3) := by decide +kernel
theorem dX8_pass_50 : decode cX8_pass 50 = .ok (.ireturn, 1) := by decide +kernel
theorem dX8_pass_51 : decode cX8_pass 51 = .ok (.aload_n 0, 1) := by decide +kernel
theorem dX8_pass_52 : decode cX8_pass 52 = .ok (.getfield 13, 3) := by decide +kernel
theorem dX8_pass_55 : decode cX8_pass 55 = .ok (.iload_n 1, 1) := by decide +kernel
theorem dX8_pass_56 : decode cX8_pass 56 = .ok (.iaload, 1) := by decide +kernel
theorem dX8_pass_57 : decode cX8_pass 57 = .ok (.istore 5, 2) := by decide +kernel
theorem dX8_pass_59 : decode cX8_pass 59 = .ok (.iconst 0, 1) := by decide +kernel
theorem dX8_pass_60 : decode cX8_pass 60 = .ok (.istore 6, 2) := by decide +kernel
theorem dX8_pass_62 : decode cX8_pass 62 = .ok (.iload 6, 2) := by decide +kernel
theorem dX8_pass_64 : decode cX8_pass 64 = .ok (.aload_n 0, 1) := by decide +kernel
theorem dX8_pass_65 : decode cX8_pass 65 = .ok (.getfield 23, 3) := by decide +kernel
theorem dX8_pass_68 : decode cX8_pass 68 = .ok (.iload 5, 2) := by decide +kernel
theorem dX8_pass_70 : decode cX8_pass 70 = .ok (.iaload, 1) := by decide +kernel
theorem dX8_pass_71 : decode cX8_pass 71 = .ok (.if_icmp .ge 81, 3) := by decide +kernel
theorem dX8_pass_74 : decode cX8_pass 74 = .ok (.aload_n 0, 1) := by decide +kernel
theorem dX8_pass_75 : decode cX8_pass 75 = .ok (.iconst 3, 1) := by decide +kernel
theorem dX8_pass_76 : decode cX8_pass 76 = .ok (.iload 5, 2) := by decide +kernel
theorem dX8_pass_78 : decode cX8_pass 78 = .ok (.iload 6, 2) := by decide +kernel
theorem dX8_pass_80 : decode cX8_pass 80 = .ok (.iload_n 3, 1) := by decide +kernel
theorem dX8_pass_81 : decode cX8_pass 81 = .ok (.invokevirtual 130, 3) := by decide +kernel
theorem dX8_pass_84 : decode cX8_pass 84 = .ok (.istore 4, 2) := by decide +kernel
theorem dX8_pass_86 : decode cX8_pass 86 = .ok (.iload 4, 2) := by decide +kernel
theorem dX8_pass_88 : decode cX8_pass 88 = .ok (.ifCond .le 8, 3) := by decide +kernel
theorem dX8_pass_91 : decode cX8_pass 91 = .ok (.iload 4, 2) := by decide +kernel
theorem dX8_pass_93 : decode cX8_pass 93 = .ok (.goto 35, 3) := by decide +kernel
theorem dX8_pass_96 : decode cX8_pass 96 = .ok (.aload_n 0, 1) := by decide +kernel
theorem dX8_pass_97 : decode cX8_pass 97 = .ok (.aload_n 0, 1) := by decide +kernel
theorem dX8_pass_98 : decode cX8_pass 98 = .ok (.getfield 7, 3) := by decide +kernel
theorem dX8_pass_101 : decode cX8_pass 101 = .ok (.iload_n 2, 1) := by decide +kernel
theorem dX8_pass_102 : decode cX8_pass 102 = .ok (.iaload, 1) := by decide +kernel
theorem dX8_pass_103 : decode cX8_pass 103 = .ok (.aload_n 0, 1) := by decide +kernel
theorem dX8_pass_104 : decode cX8_pass 104 = .ok (.getfield 13, 3) := by decide +kernel
theorem dX8_pass_107 : decode cX8_pass 107 = .ok (.iload_n 2, 1) := by decide +kernel
theorem dX8_pass_108 : decode cX8_pass 108 = .ok (.iaload, 1) := by decide +kernel
theorem dX8_pass_109 : decode cX8_pass 109 = .ok (.iload 6, 2) := by decide +kernel
theorem dX8_pass_111 : decode cX8_pass 111 = .ok (.iload_n 3, 1) := by decide +kernel
theorem dX8_pass_112 : decode cX8_pass 112 = .ok (.aload_n 0, 1) := by decide +kernel
theorem dX8_pass_113 : decode cX8_pass 113 = .ok (.getfield 27, 3) := by decide +kernel
theorem dX8_pass_116 : decode cX8_pass 116 = .ok (.bipush 16, 2) := by decide +kernel
theorem dX8_pass_118 : decode cX8_pass 118 = .ok (.iload 5, 2) := by decide +kernel
theorem dX8_pass_120 : decode cX8_pass 120 = .ok (.imul, 1) := by decide +kernel
theorem dX8_pass_121 : decode cX8_pass 121 = .ok (.iload 6, 2) := by decide +kernel
theorem dX8_pass_123 : decode cX8_pass 123 = .ok (.iadd, 1) := by decide +kernel
theorem dX8_pass_124 : decode cX8_pass 124 = .ok (.laload, 1) := by decide +kernel
theorem dX8_pass_125 : decode cX8_pass 125 = .ok (.invokevirtual 140, 3) := by decide +kernel
theorem dX8_pass_128 : decode cX8_pass 128 = .ok (.istore 4, 2) := by decide +kernel
theorem dX8_pass_130 : decode cX8_pass 130 = .ok (.iload 4, 2) := by decide +kernel
theorem dX8_pass_132 : decode cX8_pass 132 = .ok (.ifCond .le 14, 3) := by decide +kernel
theorem dX8_pass_135 : decode cX8_pass 135 = .ok (.aload_n 0, 1) := by decide +kernel
theorem dX8_pass_136 : decode cX8_pass 136 = .ok (.iload 4, 2) := by decide +kernel
theorem dX8_pass_138 : decode cX8_pass 138 = .ok (.invokevirtual 50, 3) := by decide +kernel
theorem dX8_pass_141 : decode cX8_pass 141 = .ok (.istore 4, 2) := by decide +kernel
theorem dX8_pass_143 : decode cX8_pass 143 = .ok (.iload 6, 2) := by decide +kernel
theorem dX8_pass_145 : decode cX8_pass 145 = .ok (.ireturn, 1) := by decide +kernel
theorem dX8_pass_146 : decode cX8_pass 146 = .ok (.iinc 6 1, 3) := by decide +kernel
theorem dX8_pass_149 : decode cX8_pass 149 = .ok (.goto (-87), 3) := by decide +kernel
theorem dX8_pass_152 : decode cX8_pass 152 = .ok (.aload_n 0, 1) := by decide +kernel
theorem dX8_pass_153 : decode cX8_pass 153 = .ok (.getfield 23, 3) := by decide +kernel
theorem dX8_pass_156 : decode cX8_pass 156 = .ok (.iload 5, 2) := by decide +kernel
theorem dX8_pass_158 : decode cX8_pass 158 = .ok (.iaload, 1) := by decide +kernel
theorem dX8_pass_159 : decode cX8_pass 159 = .ok (.ireturn, 1) := by decide +kernel
theorem dX8_firstFault_0 : decode cX8_firstFault 0 = .ok (.aload_n 0, 1) := by decide +kernel
theorem dX8_firstFault_1 : decode cX8_firstFault 1 = .ok (.iload_n 1, 1) := by decide +kernel
theorem dX8_firstFault_2 : decode cX8_firstFault 2 = .ok (.invokevirtual 144, 3) := by decide +kernel
theorem dX8_firstFault_5 : decode cX8_firstFault 5 = .ok (.istore_n 2, 1) := by decide +kernel
theorem dX8_firstFault_6 : decode cX8_firstFault 6 = .ok (.iload_n 2, 1) := by decide +kernel
theorem dX8_firstFault_7 : decode cX8_firstFault 7 = .ok (.ifCond .le 7, 3) := by decide +kernel
theorem dX8_firstFault_10 : decode cX8_firstFault 10 = .ok (.iload_n 2, 1) := by decide +kernel
theorem dX8_firstFault_11 : decode cX8_firstFault 11 = .ok (.goto 22, 3) := by decide +kernel
theorem dX8_firstFault_14 : decode cX8_firstFault 14 = .ok (.aload_n 0, 1) := by decide +kernel
theorem dX8_firstFault_15 : decode cX8_firstFault 15 = .ok (.getfield 23, 3) := by decide +kernel
theorem dX8_firstFault_18 : decode cX8_firstFault 18 = .ok (.aload_n 0, 1) := by decide +kernel
theorem dX8_firstFault_19 : decode cX8_firstFault 19 = .ok (.getfield 13, 3) := by decide +kernel
theorem dX8_firstFault_22 : decode cX8_firstFault 22 = .ok (.iload_n 1, 1) := by decide +kernel
theorem dX8_firstFault_23 : decode cX8_firstFault 23 = .ok (.iaload, 1) := by decide +kernel
theorem dX8_firstFault_24 : decode cX8_firstFault 24 = .ok (.iaload, 1) := by decide +kernel
theorem dX8_firstFault_25 : decode cX8_firstFault 25 = .ok (.ifCond .ne 7, 3) := by decide +kernel
theorem dX8_firstFault_28 : decode cX8_firstFault 28 = .ok (.iconst 3, 1) := by decide +kernel
theorem dX8_firstFault_29 : decode cX8_firstFault 29 = .ok (.goto 4, 3) := by decide +kernel
theorem dX8_firstFault_32 : decode cX8_firstFault 32 = .ok (.iconst 0, 1) := by decide +kernel
theorem dX8_firstFault_33 : decode cX8_firstFault 33 = .ok (.ireturn, 1) := by decide +kernel
theorem dX8_kinds_0 : decode cX8_kinds 0 = .ok (.aload_n 0, 1) := by decide +kernel
theorem dX8_kinds_1 : decode cX8_kinds 1 = .ok (.iload_n 1, 1) := by decide +kernel
theorem dX8_kinds_2 : decode cX8_kinds 2 = .ok (.invokevirtual 159, 3) := by decide +kernel
theorem dX8_kinds_5 : decode cX8_kinds 5 = .ok (.istore_n 3, 1) := by decide +kernel
theorem dX8_kinds_6 : decode cX8_kinds 6 = .ok (.iconst 0, 1) := by decide +kernel
theorem dX8_kinds_7 : decode cX8_kinds 7 = .ok (.istore 4, 2) := by decide +kernel
theorem dX8_kinds_9 : decode cX8_kinds 9 = .ok (.iconst 0, 1) := by decide +kernel
theorem dX8_kinds_10 : decode cX8_kinds 10 = .ok (.istore 5, 2) := by decide +kernel
theorem dX8_kinds_12 : decode cX8_kinds 12 = .ok (.iload 5, 2) := by decide +kernel
theorem dX8_kinds_14 : decode cX8_kinds 14 = .ok (.bipush 8, 2) := by decide +kernel
theorem dX8_kinds_16 : decode cX8_kinds 16 = .ok (.if_icmp .ge 73, 3) := by decide +kernel
theorem dX8_kinds_19 : decode cX8_kinds 19 = .ok (.iload_n 3, 1) := by decide +kernel
theorem dX8_kinds_20 : decode cX8_kinds 20 = .ok (.ifCond .ne 69, 3) := by decide +kernel
theorem dX8_kinds_23 : decode cX8_kinds 23 = .ok (.aload_n 0, 1) := by decide +kernel
theorem dX8_kinds_24 : decode cX8_kinds 24 = .ok (.getfield 20, 3) := by decide +kernel
theorem dX8_kinds_27 : decode cX8_kinds 27 = .ok (.aload_n 0, 1) := by decide +kernel
theorem dX8_kinds_28 : decode cX8_kinds 28 = .ok (.getfield 13, 3) := by decide +kernel
theorem dX8_kinds_31 : decode cX8_kinds 31 = .ok (.iload_n 1, 1) := by decide +kernel
theorem dX8_kinds_32 : decode cX8_kinds 32 = .ok (.iaload, 1) := by decide +kernel
theorem dX8_kinds_33 : decode cX8_kinds 33 = .ok (.iaload, 1) := by decide +kernel
theorem dX8_kinds_34 : decode cX8_kinds 34 = .ok (.istore 6, 2) := by decide +kernel
theorem dX8_kinds_36 : decode cX8_kinds 36 = .ok (.iload 4, 2) := by decide +kernel
theorem dX8_kinds_38 : decode cX8_kinds 38 = .ok (.iload 6, 2) := by decide +kernel
theorem dX8_kinds_40 : decode cX8_kinds 40 = .ok (.bipush 8, 2) := by decide +kernel
theorem dX8_kinds_42 : decode cX8_kinds 42 = .ok (.if_icmp .ge 37, 3) := by decide +kernel
theorem dX8_kinds_45 : decode cX8_kinds 45 = .ok (.iload_n 2, 1) := by decide +kernel
theorem dX8_kinds_46 : decode cX8_kinds 46 = .ok (.ifCond .eq 16, 3) := by decide +kernel
theorem dX8_kinds_49 : decode cX8_kinds 49 = .ok (.iload 5, 2) := by decide +kernel
theorem dX8_kinds_51 : decode cX8_kinds 51 = .ok (.iload 6, 2) := by decide +kernel
theorem dX8_kinds_53 : decode cX8_kinds 53 = .ok (.invokestatic 100, 3) := by decide +kernel
theorem dX8_kinds_56 : decode cX8_kinds 56 = .ok (.ifCond .eq 23, 3) := by decide +kernel
theorem dX8_kinds_59 : decode cX8_kinds 59 = .ok (.goto 13, 3) := by decide +kernel
