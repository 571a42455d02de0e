theorem dX0_init_0 : decode cX0_init 0 = .ok (.aload_n 0, 1) := by decide +kernel
theorem dX0_init_1 : decode cX0_init 1 = .ok (.invokespecial 3, 3) := by decide +kernel
theorem dX0_init_4 : decode cX0_init 4 = .ok (.aload_n 0, 1) := by decide +kernel
theorem dX0_init_5 : decode cX0_init 5 = .ok (.bipush (-9), 2) := by decide +kernel
theorem dX0_init_7 : decode cX0_init 7 = .ok (.putfield 9, 3) := by decide +kernel
theorem dX0_init_10 : decode cX0_init 10 = .ok (.return_, 1) := by decide +kernel
theorem dX0_holdNumber_0 : decode cX0_holdNumber 0 = .ok (.aload_n 0, 1) := by decide +kernel
theorem dX0_holdNumber_1 : decode cX0_holdNumber 1 = .ok (.iload_n 1, 1) := by decide +kernel
theorem dX0_holdNumber_2 : decode cX0_holdNumber 2 = .ok (.putfield 9, 3) := by decide +kernel
theorem dX0_holdNumber_5 : decode cX0_holdNumber 5 = .ok (.aload_n 0, 1) := by decide +kernel
theorem dX0_holdNumber_6 : decode cX0_holdNumber 6 = .ok (.iload_n 1, 1) := by decide +kernel
theorem dX0_holdNumber_7 : decode cX0_holdNumber 7 = .ok (.lload_n 2, 1) := by decide +kernel
theorem dX0_holdNumber_8 : decode cX0_holdNumber 8 = .ok (.invokestatic 15, 3) := by decide +kernel
theorem dX0_holdNumber_11 : decode cX0_holdNumber 11 = .ok (.putfield 19, 3) := by decide +kernel
theorem dX0_holdNumber_14 : decode cX0_holdNumber 14 = .ok (.aload_n 0, 1) := by decide +kernel
theorem dX0_holdNumber_15 : decode cX0_holdNumber 15 = .ok (.aconst_null, 1) := by decide +kernel
theorem dX0_holdNumber_16 : decode cX0_holdNumber 16 = .ok (.putfield 23, 3) := by decide +kernel
theorem dX0_holdNumber_19 : decode cX0_holdNumber 19 = .ok (.return_, 1) := by decide +kernel
theorem dX0_holdThing_0 : decode cX0_holdThing 0 = .ok (.aload_n 0, 1) := by decide +kernel
theorem dX0_holdThing_1 : decode cX0_holdThing 1 = .ok (.aload_n 1, 1) := by decide +kernel
theorem dX0_holdThing_2 : decode cX0_holdThing 2 = .ok (.putfield 23, 3) := by decide +kernel
theorem dX0_holdThing_5 : decode cX0_holdThing 5 = .ok (.aload_n 1, 1) := by decide +kernel
theorem dX0_holdThing_6 : decode cX0_holdThing 6 = .ok (.instanceof 27, 3) := by decide +kernel
theorem dX0_holdThing_9 : decode cX0_holdThing 9 = .ok (.ifCond .eq 38, 3) := by decide +kernel
theorem dX0_holdThing_12 : decode cX0_holdThing 12 = .ok (.aload_n 1, 1) := by decide +kernel
theorem dX0_holdThing_13 : decode cX0_holdThing 13 = .ok (.checkcast 27, 3) := by decide +kernel
theorem dX0_holdThing_16 : decode cX0_holdThing 16 = .ok (.astore_n 2, 1) := by decide +kernel
theorem dX0_holdThing_17 : decode cX0_holdThing 17 = .ok (.aload_n 0, 1) := by decide +kernel
theorem dX0_holdThing_18 : decode cX0_holdThing 18 = .ok (.aload_n 2, 1) := by decide +kernel
theorem dX0_holdThing_19 : decode cX0_holdThing 19 = .ok (.getfield 29, 3) := by decide +kernel
theorem dX0_holdThing_22 : decode cX0_holdThing 22 = .ok (.ifCond .eq 8, 3) := by decide +kernel
theorem dX0_holdThing_25 : decode cX0_holdThing 25 = .ok (.bipush 9, 2) := by decide +kernel
theorem dX0_holdThing_27 : decode cX0_holdThing 27 = .ok (.goto 5, 3) := by decide +kernel
theorem dX0_holdThing_30 : decode cX0_holdThing 30 = .ok (.bipush 8, 2) := by decide +kernel
theorem dX0_holdThing_32 : decode cX0_holdThing 32 = .ok (.putfield 9, 3) := by decide +kernel
theorem dX0_holdThing_35 : decode cX0_holdThing 35 = .ok (.aload_n 0, 1) := by decide +kernel
theorem dX0_holdThing_36 : decode cX0_holdThing 36 = .ok (.aload_n 2, 1) := by decide +kernel
theorem dX0_holdThing_37 : decode cX0_holdThing 37 = .ok (.getfield 33, 3) := by decide +kernel
theorem dX0_holdThing_40 : decode cX0_holdThing 40 = .ok (.i2l, 1) := by decide +kernel
theorem dX0_holdThing_41 : decode cX0_holdThing 41 = .ok (.putfield 19, 3) := by decide +kernel
theorem dX0_holdThing_44 : decode cX0_holdThing 44 = .ok (.goto 44, 3) := by decide +kernel
theorem dX0_holdThing_47 : decode cX0_holdThing 47 = .ok (.aload_n 1, 1) := by decide +kernel
theorem dX0_holdThing_48 : decode cX0_holdThing 48 = .ok (.instanceof 36, 3) := by decide +kernel
theorem dX0_holdThing_51 : decode cX0_holdThing 51 = .ok (.ifCond .eq 26, 3) := by decide +kernel
theorem dX0_holdThing_54 : decode cX0_holdThing 54 = .ok (.aload_n 1, 1) := by decide +kernel
theorem dX0_holdThing_55 : decode cX0_holdThing 55 = .ok (.checkcast 36, 3) := by decide +kernel
theorem dX0_holdThing_58 : decode cX0_holdThing 58 = .ok (.astore_n 3, 1) := by decide +kernel
theorem dX0_holdThing_59 : decode cX0_holdThing 59 = .ok (.aload_n 0, 1) := by decide +kernel
theorem dX0_holdThing_60 : decode cX0_holdThing 60 = .ok (.bipush 10, 2) := by decide +kernel
theorem dX0_holdThing_62 : decode cX0_holdThing 62 = .ok (.putfield 9, 3) := by decide +kernel
theorem dX0_holdThing_65 : decode cX0_holdThing 65 = .ok (.aload_n 0, 1) := by decide +kernel
theorem dX0_holdThing_66 : decode cX0_holdThing 66 = .ok (.aload_n 3, 1) := by decide +kernel
theorem dX0_holdThing_67 : decode cX0_holdThing 67 = .ok (.getfield 38, 3) := by decide +kernel
theorem dX0_holdThing_70 : decode cX0_holdThing 70 = .ok (.i2l, 1) := by decide +kernel
theorem dX0_holdThing_71 : decode cX0_holdThing 71 = .ok (.putfield 19, 3) := by decide +kernel
theorem dX0_holdThing_74 : decode cX0_holdThing 74 = .ok (.goto 14, 3) := by decide +kernel
theorem dX0_holdThing_77 : decode cX0_holdThing 77 = .ok (.aload_n 0, 1) := by decide +kernel
theorem dX0_holdThing_78 : decode cX0_holdThing 78 = .ok (.bipush (-9), 2) := by decide +kernel
theorem dX0_holdThing_80 : decode cX0_holdThing 80 = .ok (.putfield 9, 3) := by decide +kernel
theorem dX0_holdThing_83 : decode cX0_holdThing 83 = .ok (.aload_n 0, 1) := by decide +kernel
theorem dX0_holdThing_84 : decode cX0_holdThing 84 = .ok (.lconst 0, 1) := by decide +kernel
theorem dX0_holdThing_85 : decode cX0_holdThing 85 = .ok (.putfield 19, 3) := by decide +kernel
theorem dX0_holdThing_88 : decode cX0_holdThing 88 = .ok (.return_, 1) := by decide +kernel
theorem dX1_init_0 : decode cX1_init 0 = .ok (.aload_n 0, 1) := by decide +kernel
theorem dX1_init_1 : decode cX1_init 1 = .ok (.iload_n 1, 1) := by decide +kernel
theorem dX1_init_2 : decode cX1_init 2 = .ok (.iload_n 2, 1) := by decide +kernel
theorem dX1_init_3 : decode cX1_init 3 = .ok (.invokespecial 1, 3) := by decide +kernel
theorem dX1_init_6 : decode cX1_init 6 = .ok (.aload_n 0, 1) := by decide +kernel
theorem dX1_init_7 : decode cX1_init 7 = .ok (.iload_n 2, 1) := by decide +kernel
theorem dX1_init_8 : decode cX1_init 8 = .ok (.newarray .long, 2) := by decide +kernel
theorem dX1_init_10 : decode cX1_init 10 = .ok (.putfield 7, 3) := by decide +kernel
theorem dX1_init_13 : decode cX1_init 13 = .ok (.return_, 1) := by decide +kernel
theorem dX2_init_0 : decode cX2_init 0 = .ok (.aload_n 0, 1) := by decide +kernel
theorem dX2_init_1 : decode cX2_init 1 = .ok (.invokespecial 1, 3) := by decide +kernel
theorem dX2_init_4 : decode cX2_init 4 = .ok (.aload_n 0, 1) := by decide +kernel
theorem dX2_init_5 : decode cX2_init 5 = .ok (.iload_n 1, 1) := by decide +kernel
theorem dX2_init_6 : decode cX2_init 6 = .ok (.putfield 7, 3) := by decide +kernel
theorem dX2_init_9 : decode cX2_init 9 = .ok (.aload_n 0, 1) := by decide +kernel
theorem dX2_init_10 : decode cX2_init 10 = .ok (.iload_n 2, 1) := by decide +kernel
theorem dX2_init_11 : decode cX2_init 11 = .ok (.putfield 13, 3) := by decide +kernel
theorem dX2_init_14 : decode cX2_init 14 = .ok (.return_, 1) := by decide +kernel
theorem dX3_init_0 : decode cX3_init 0 = .ok (.aload_n 0, 1) := by decide +kernel
theorem dX3_init_1 : decode cX3_init 1 = .ok (.invokespecial 1, 3) := by decide +kernel
theorem dX3_init_4 : decode cX3_init 4 = .ok (.aload_n 0, 1) := by decide +kernel
theorem dX3_init_5 : decode cX3_init 5 = .ok (.iload_n 1, 1) := by decide +kernel
theorem dX3_init_6 : decode cX3_init 6 = .ok (.putfield 7, 3) := by decide +kernel
theorem dX3_init_9 : decode cX3_init 9 = .ok (.aload_n 0, 1) := by decide +kernel
theorem dX3_init_10 : decode cX3_init 10 = .ok (.iload_n 2, 1) := by decide +kernel
theorem dX3_init_11 : decode cX3_init 11 = .ok (.putfield 13, 3) := by decide +kernel
theorem dX3_init_14 : decode cX3_init 14 = .ok (.return_, 1) := by decide +kernel
theorem dX4_init_0 : decode cX4_init 0 = .ok (.aload_n 0, 1) := by decide +kernel
theorem dX4_init_1 : decode cX4_init 1 = .ok (.invokespecial 3, 3) := by decide +kernel
theorem dX4_init_4 : decode cX4_init 4 = .ok (.return_, 1) := by decide +kernel
theorem dX4_become_0 : decode cX4_become 0 = .ok (.aload_n 0, 1) := by decide +kernel
theorem dX4_become_1 : decode cX4_become 1 = .ok (.iload_n 1, 1) := by decide +kernel
theorem dX4_become_2 : decode cX4_become 2 = .ok (.putfield 9, 3) := by decide +kernel
theorem dX4_become_5 : decode cX4_become 5 = .ok (.aload_n 0, 1) := by decide +kernel
theorem dX4_become_6 : decode cX4_become 6 = .ok (.iload_n 2, 1) := by decide +kernel
theorem dX4_become_7 : decode cX4_become 7 = .ok (.putfield 15, 3) := by decide +kernel
theorem dX4_become_10 : decode cX4_become 10 = .ok (.aload_n 0, 1) := by decide +kernel
theorem dX4_become_11 : decode cX4_become 11 = .ok (.iload_n 3, 1) := by decide +kernel
theorem dX4_become_12 : decode cX4_become 12 = .ok (.putfield 18, 3) := by decide +kernel
theorem dX4_become_15 : decode cX4_become 15 = .ok (.aload_n 0, 1) := by decide +kernel
theorem dX4_become_16 : decode cX4_become 16 = .ok (.iload 4, 2) := by decide +kernel
theorem dX4_become_18 : decode cX4_become 18 = .ok (.putfield 21, 3) := by decide +kernel
theorem dX4_become_21 : decode cX4_become 21 = .ok (.aload_n 0, 1) := by decide +kernel
theorem dX4_become_22 : decode cX4_become 22 = .ok (.iload 5, 2) := by decide +kernel
theorem dX4_become_24 : decode cX4_become 24 = .ok (.putfield 24, 3) := by decide +kernel
theorem dX4_become_27 : decode cX4_become 27 = .ok (.aload_n 0, 1) := by decide +kernel
theorem dX4_become_28 : decode cX4_become 28 = .ok (.bipush (-9), 2) := by decide +kernel
theorem dX4_become_30 : decode cX4_become 30 = .ok (.putfield 27, 3) := by decide +kernel
theorem dX4_become_33 : decode cX4_become 33 = .ok (.return_, 1) := by decide +kernel
theorem dX5_init_0 : decode cX5_init 0 = .ok (.aload_n 0, 1) := by decide +kernel
theorem dX5_init_1 : decode cX5_init 1 = .ok (.invokespecial 1, 3) := by decide +kernel
theorem dX5_init_4 : decode cX5_init 4 = .ok (.return_, 1) := by decide +kernel
theorem dX6_init_0 : decode cX6_init 0 = .ok (.aload_n 0, 1) := by decide +kernel
theorem dX6_init_1 : decode cX6_init 1 = .ok (.iload_n 1, 1) := by decide +kernel
theorem dX6_init_2 : decode cX6_init 2 = .ok (.iload_n 2, 1) := by decide +kernel
theorem dX6_init_3 : decode cX6_init 3 = .ok (.invokespecial 1, 3) := by decide +kernel
theorem dX6_init_6 : decode cX6_init 6 = .ok (.aload_n 0, 1) := by decide +kernel
theorem dX6_init_7 : decode cX6_init 7 = .ok (.iload_n 2, 1) := by decide +kernel
theorem dX6_init_8 : decode cX6_init 8 = .ok (.anewarray 7, 3) := by decide +kernel
theorem dX6_init_11 : decode cX6_init 11 = .ok (.putfield 9, 3) := by decide +kernel
theorem dX6_init_14 : decode cX6_init 14 = .ok (.return_, 1) := by decide +kernel
theorem dX7_init_0 : decode cX7_init 0 = .ok (.aload_n 0, 1) := by decide +kernel
theorem dX7_init_1 : decode cX7_init 1 = .ok (.invokespecial 1, 3) := by decide +kernel
theorem dX7_init_4 : decode cX7_init 4 = .ok (.aload_n 0, 1) := by decide +kernel
theorem dX7_init_5 : decode cX7_init 5 = .ok (.bipush 10, 2) := by decide +kernel
theorem dX7_init_7 : decode cX7_init 7 = .ok (.anewarray 9, 3) := by decide +kernel
theorem dX7_init_10 : decode cX7_init 10 = .ok (.putfield 11, 3) := by decide +kernel
theorem dX7_init_13 : decode cX7_init 13 = .ok (.aload_n 0, 1) := by decide +kernel
theorem dX7_init_14 : decode cX7_init 14 = .ok (.new 15, 3) := by decide +kernel
theorem dX7_init_17 : decode cX7_init 17 = .ok (.dup, 1) := by decide +kernel
theorem dX7_init_18 : decode cX7_init 18 = .ok (.invokespecial 17, 3) := by decide +kernel
theorem dX7_init_21 : decode cX7_init 21 = .ok (.putfield 18, 3) := by decide +kernel
theorem dX7_init_24 : decode cX7_init 24 = .ok (.aload_n 0, 1) := by decide +kernel
theorem dX7_init_25 : decode cX7_init 25 = .ok (.new 15, 3) := by decide +kernel
theorem dX7_init_28 : decode cX7_init 28 = .ok (.dup, 1) := by decide +kernel
theorem dX7_init_29 : decode cX7_init 29 = .ok (.invokespecial 17, 3) := by decide +kernel
theorem dX7_init_32 : decode cX7_init 32 = .ok (.putfield 22, 3) := by decide +kernel
theorem dX7_init_35 : decode cX7_init 35 = .ok (.aload_n 0, 1) := by decide +kernel
theorem dX7_init_36 : decode cX7_init 36 = .ok (.bipush 12, 2) := by decide +kernel
theorem dX7_init_38 : decode cX7_init 38 = .ok (.anewarray 25, 3) := by decide +kernel
theorem dX7_init_41 : decode cX7_init 41 = .ok (.putfield 27, 3) := by decide +kernel
theorem dX7_init_44 : decode cX7_init 44 = .ok (.iconst 0, 1) := by decide +kernel
theorem dX7_init_45 : decode cX7_init 45 = .ok (.istore_n 1, 1) := by decide +kernel
theorem dX7_init_46 : decode cX7_init 46 = .ok (.iload_n 1, 1) := by decide +kernel
theorem dX7_init_47 : decode cX7_init 47 = .ok (.bipush 12, 2) := by decide +kernel
theorem dX7_init_49 : decode cX7_init 49 = .ok (.if_icmp .ge 22, 3) := by decide +kernel
theorem dX7_init_52 : decode cX7_init 52 = .ok (.aload_n 0, 1) := by decide +kernel
theorem dX7_init_53 : decode cX7_init 53 = .ok (.getfield 27, 3) := by decide +kernel
theorem dX7_init_56 : decode cX7_init 56 = .ok (.iload_n 1, 1) := by decide +kernel
theorem dX7_init_57 : decode cX7_init 57 = .ok (.new 25, 3) := by decide +kernel
theorem dX7_init_60 : decode cX7_init 60 = .ok (.dup, 1) := by decide +kernel
theorem dX7_init_61 : decode cX7_init 61 = .ok (.invokespecial 31, 3) := by decide +kernel
theorem dX7_init_64 : decode cX7_init 64 = .ok (.aastore, 1) := by decide +kernel
theorem dX7_init_65 : decode cX7_init 65 = .ok (.iinc 1 1, 3) := by decide +kernel
theorem dX7_init_68 : decode cX7_init 68 = .ok (.goto (-22), 3) := by decide +kernel
theorem dX7_init_71 : decode cX7_init 71 = .ok (.aload_n 0, 1) := by decide +kernel
theorem dX7_init_72 : decode cX7_init 72 = .ok (.iconst 4, 1) := by decide +kernel
theorem dX7_init_73 : decode cX7_init 73 = .ok (.newarray .int, 2) := by decide +kernel
theorem dX7_init_75 : decode cX7_init 75 = .ok (.putfield 32, 3) := by decide +kernel
theorem dX7_init_78 : decode cX7_init 78 = .ok (.return_, 1) := by decide +kernel
theorem dX7_rack_0 : decode cX7_rack 0 = .ok (.iload_n 1, 1) := by decide +kernel
theorem dX7_rack_1 : decode cX7_rack 1 = .ok (.invokestatic 36, 3) := by decide +kernel
theorem dX7_rack_4 : decode cX7_rack 4 = .ok (.ifCond .ne 5, 3) := by decide +kernel
theorem dX7_rack_7 : decode cX7_rack 7 = .ok (.iconst (-1), 1) := by decide +kernel
theorem dX7_rack_8 : decode cX7_rack 8 = .ok (.ireturn, 1) := by decide +kernel
theorem dX7_rack_9 : decode cX7_rack 9 = .ok (.iload_n 2, 1) := by decide +kernel
theorem dX7_rack_10 : decode cX7_rack 10 = .ok (.ifCond .lt 19, 3) := by decide +kernel
theorem dX7_rack_13 : decode cX7_rack 13 = .ok (.iload_n 2, 1) := by decide +kernel
theorem dX7_rack_14 : decode cX7_rack 14 = .ok (.bipush 11, 2) := by decide +kernel
theorem dX7_rack_16 : decode cX7_rack 16 = .ok (.if_icmp .ge 13, 3) := by decide +kernel
theorem dX7_rack_19 : decode cX7_rack 19 = .ok (.iload_n 3, 1) := by decide +kernel
theorem dX7_rack_20 : decode cX7_rack 20 = .ok (.ifCond .lt 9, 3) := by decide +kernel
theorem dX7_rack_23 : decode cX7_rack 23 = .ok (.iload_n 3, 1) := by decide +kernel
theorem dX7_rack_24 : decode cX7_rack 24 = .ok (.bipush 16, 2) := by decide +kernel
theorem dX7_rack_26 : decode cX7_rack 26 = .ok (.if_icmp .le 6, 3) := by decide +kernel
theorem dX7_rack_29 : decode cX7_rack 29 = .ok (.bipush (-2), 2) := by decide +kernel
theorem dX7_rack_31 : decode cX7_rack 31 = .ok (.ireturn, 1) := by decide +kernel
theorem dX7_rack_32 : decode cX7_rack 32 = .ok (.iload_n 2, 1) := by decide +kernel
theorem dX7_rack_33 : decode cX7_rack 33 = .ok (.invokestatic 40, 3) := by decide +kernel
theorem dX7_rack_36 : decode cX7_rack 36 = .ok (.ifCond .eq 21, 3) := by decide +kernel
theorem dX7_rack_39 : decode cX7_rack 39 = .ok (.aload_n 0, 1) := by decide +kernel
theorem dX7_rack_40 : decode cX7_rack 40 = .ok (.getfield 11, 3) := by decide +kernel
theorem dX7_rack_43 : decode cX7_rack 43 = .ok (.iload_n 1, 1) := by decide +kernel
theorem dX7_rack_44 : decode cX7_rack 44 = .ok (.new 43, 3) := by decide +kernel
theorem dX7_rack_47 : decode cX7_rack 47 = .ok (.dup, 1) := by decide +kernel
theorem dX7_rack_48 : decode cX7_rack 48 = .ok (.iload_n 2, 1) := by decide +kernel
theorem dX7_rack_49 : decode cX7_rack 49 = .ok (.iload_n 3, 1) := by decide +kernel
theorem dX7_rack_50 : decode cX7_rack 50 = .ok (.invokespecial 45, 3) := by decide +kernel
theorem dX7_rack_53 : decode cX7_rack 53 = .ok (.aastore, 1) := by decide +kernel
theorem dX7_rack_54 : decode cX7_rack 54 = .ok (.goto 18, 3) := by decide +kernel
theorem dX7_rack_57 : decode cX7_rack 57 = .ok (.aload_n 0, 1) := by decide +kernel
theorem dX7_rack_58 : decode cX7_rack 58 = .ok (.getfield 11, 3) := by decide +kernel
theorem dX7_rack_61 : decode cX7_rack 61 = .ok (.iload_n 1, 1) := by decide +kernel
theorem dX7_rack_62 : decode cX7_rack 62 = .ok (.new 48, 3) := by decide +kernel
theorem dX7_rack_65 : decode cX7_rack 65 = .ok (.dup, 1) := by decide +kernel
theorem dX7_rack_66 : decode cX7_rack 66 = .ok (.iload_n 2, 1) := by decide +kernel
theorem dX7_rack_67 : decode cX7_rack 67 = .ok (.iload_n 3, 1) := by decide +kernel
theorem dX7_rack_68 : decode cX7_rack 68 = .ok (.invokespecial 50, 3) := by decide +kernel
theorem dX7_rack_71 : decode cX7_rack 71 = .ok (.aastore, 1) := by decide +kernel
theorem dX7_rack_72 : decode cX7_rack 72 = .ok (.iload_n 3, 1) := by decide +kernel
theorem dX7_rack_73 : decode cX7_rack 73 = .ok (.ireturn, 1) := by decide +kernel
theorem dX7_hang_0 : decode cX7_hang 0 = .ok (.iload_n 1, 1) := by decide +kernel
theorem dX7_hang_1 : decode cX7_hang 1 = .ok (.invokestatic 36, 3) := by decide +kernel
theorem dX7_hang_4 : decode cX7_hang 4 = .ok (.ifCond .ne 5, 3) := by decide +kernel
theorem dX7_hang_7 : decode cX7_hang 7 = .ok (.iconst (-1), 1) := by decide +kernel
theorem dX7_hang_8 : decode cX7_hang 8 = .ok (.ireturn, 1) := by decide +kernel
theorem dX7_hang_9 : decode cX7_hang 9 = .ok (.aload_n 0, 1) := by decide +kernel
theorem dX7_hang_10 : decode cX7_hang 10 = .ok (.getfield 18, 3) := by decide +kernel
theorem dX7_hang_13 : decode cX7_hang 13 = .ok (.getfield 51, 3) := by decide +kernel
theorem dX7_hang_16 : decode cX7_hang 16 = .ok (.ifnonnull 6, 3) := by decide +kernel
theorem dX7_hang_19 : decode cX7_hang 19 = .ok (.bipush (-3), 2) := by decide +kernel
theorem dX7_hang_21 : decode cX7_hang 21 = .ok (.ireturn, 1) := by decide +kernel
theorem dX7_hang_22 : decode cX7_hang 22 = .ok (.aload_n 0, 1) := by decide +kernel
theorem dX7_hang_23 : decode cX7_hang 23 = .ok (.getfield 11, 3) := by decide +kernel
theorem dX7_hang_26 : decode cX7_hang 26 = .ok (.iload_n 1, 1) := by decide +kernel
theorem dX7_hang_27 : decode cX7_hang 27 = .ok (.aload_n 0, 1) := by decide +kernel
theorem dX7_hang_28 : decode cX7_hang 28 = .ok (.getfield 18, 3) := by decide +kernel
theorem dX7_hang_31 : decode cX7_hang 31 = .ok (.getfield 51, 3) := by decide +kernel
theorem dX7_hang_34 : decode cX7_hang 34 = .ok (.aastore, 1) := by decide +kernel
theorem dX7_hang_35 : decode cX7_hang 35 = .ok (.iconst 1, 1) := by decide +kernel
theorem dX7_hang_36 : decode cX7_hang 36 = .ok (.ireturn, 1) := by decide +kernel
theorem dX7_share_0 : decode cX7_share 0 = .ok (.iload_n 1, 1) := by decide +kernel
theorem dX7_share_1 : decode cX7_share 1 = .ok (.invokestatic 36, 3) := by decide +kernel
theorem dX7_share_4 : decode cX7_share 4 = .ok (.ifCond .eq 10, 3) := by decide +kernel
theorem dX7_share_7 : decode cX7_share 7 = .ok (.iload_n 2, 1) := by decide +kernel
theorem dX7_share_8 : decode cX7_share 8 = .ok (.invokestatic 36, 3) := by decide +kernel
theorem dX7_share_11 : decode cX7_share 11 = .ok (.ifCond .ne 5, 3) := by decide +kernel
theorem dX7_share_14 : decode cX7_share 14 = .ok (.iconst (-1), 1) := by decide +kernel
theorem dX7_share_15 : decode cX7_share 15 = .ok (.ireturn, 1) := by decide +kernel
theorem dX7_share_16 : decode cX7_share 16 = .ok (.aload_n 0, 1) := by decide +kernel
theorem dX7_share_17 : decode cX7_share 17 = .ok (.getfield 11, 3) := by decide +kernel
theorem dX7_share_20 : decode cX7_share 20 = .ok (.iload_n 1, 1) := by decide +kernel
theorem dX7_share_21 : decode cX7_share 21 = .ok (.aload_n 0, 1) := by decide +kernel
theorem dX7_share_22 : decode cX7_share 22 = .ok (.getfield 11, 3) := by decide +kernel
theorem dX7_share_25 : decode cX7_share 25 = .ok (.iload_n 2, 1) := by decide +kernel
theorem dX7_share_26 : decode cX7_share 26 = .ok (.aaload, 1) := by decide +kernel
theorem dX7_share_27 : decode cX7_share 27 = .ok (.aastore, 1) := by decide +kernel
theorem dX7_share_28 : decode cX7_share 28 = .ok (.iconst 1, 1) := by decide +kernel
theorem dX7_share_29 : decode cX7_share 29 = .ok (.ireturn, 1) := by decide +kernel
theorem dX7_empty_0 : decode cX7_empty 0 = .ok (.iload_n 1, 1) := by decide +kernel
theorem dX7_empty_1 : decode cX7_empty 1 = .ok (.invokestatic 36, 3) := by decide +kernel
theorem dX7_empty_4 : decode cX7_empty 4 = .ok (.ifCond .ne 5, 3) := by decide +kernel
theorem dX7_empty_7 : decode cX7_empty 7 = .ok (.iconst (-1), 1) := by decide +kernel
theorem dX7_empty_8 : decode cX7_empty 8 = .ok (.ireturn, 1) := by decide +kernel
theorem dX7_empty_9 : decode cX7_empty 9 = .ok (.aload_n 0, 1) := by decide +kernel
theorem dX7_empty_10 : decode cX7_empty 10 = .ok (.getfield 11, 3) := by decide +kernel
theorem dX7_empty_13 : decode cX7_empty 13 = .ok (.iload_n 1, 1) := by decide +kernel
theorem dX7_empty_14 : decode cX7_empty 14 = .ok (.aconst_null, 1) := by decide +kernel
theorem dX7_empty_15 : decode cX7_empty 15 = .ok (.aastore, 1) := by decide +kernel
theorem dX7_empty_16 : decode cX7_empty 16 = .ok (.iconst 1, 1) := by decide +kernel
theorem dX7_empty_17 : decode cX7_empty 17 = .ok (.ireturn, 1) := by decide +kernel
theorem dX7_gauge_0 : decode cX7_gauge 0 = .ok (.iload_n 1, 1) := by decide +kernel
theorem dX7_gauge_1 : decode cX7_gauge 1 = .ok (.invokestatic 40, 3) := by decide +kernel
theorem dX7_gauge_4 : decode cX7_gauge 4 = .ok (.ifCond .ne 6, 3) := by decide +kernel
theorem dX7_gauge_7 : decode cX7_gauge 7 = .ok (.bipush (-2), 2) := by decide +kernel
theorem dX7_gauge_9 : decode cX7_gauge 9 = .ok (.ireturn, 1) := by decide +kernel
theorem dX7_gauge_10 : decode cX7_gauge 10 = .ok (.aload_n 0, 1) := by decide +kernel
theorem dX7_gauge_11 : decode cX7_gauge 11 = .ok (.getfield 18, 3) := by decide +kernel
theorem dX7_gauge_14 : decode cX7_gauge 14 = .ok (.iload_n 1, 1) := by decide +kernel
theorem dX7_gauge_15 : decode cX7_gauge 15 = .ok (.lload_n 2, 1) := by decide +kernel
theorem dX7_gauge_16 : decode cX7_gauge 16 = .ok (.invokevirtual 55, 3) := by decide +kernel
theorem dX7_gauge_19 : decode cX7_gauge 19 = .ok (.iconst 1, 1) := by decide +kernel
theorem dX7_gauge_20 : decode cX7_gauge 20 = .ok (.ireturn, 1) := by decide +kernel
theorem dX7_probe_0 : decode cX7_probe 0 = .ok (.aload_n 0, 1) := by decide +kernel
theorem dX7_probe_1 : decode cX7_probe 1 = .ok (.getfield 59, 3) := by decide +kernel
theorem dX7_probe_4 : decode cX7_probe 4 = .ok (.bipush 40, 2) := by decide +kernel
theorem dX7_probe_6 : decode cX7_probe 6 = .ok (.if_icmp .lt 6, 3) := by decide +kernel
theorem dX7_probe_9 : decode cX7_probe 9 = .ok (.bipush (-4), 2) := by decide +kernel
theorem dX7_probe_11 : decode cX7_probe 11 = .ok (.ireturn, 1) := by decide +kernel
theorem dX7_probe_12 : decode cX7_probe 12 = .ok (.aload_n 0, 1) := by decide +kernel
theorem dX7_probe_13 : decode cX7_probe 13 = .ok (.dup, 1) := by decide +kernel
theorem dX7_probe_14 : decode cX7_probe 14 = .ok (.getfield 59, 3) := by decide +kernel
theorem dX7_probe_17 : decode cX7_probe 17 = .ok (.iconst 1, 1) := by decide +kernel
theorem dX7_probe_18 : decode cX7_probe 18 = .ok (.iadd, 1) := by decide +kernel
theorem dX7_probe_19 : decode cX7_probe 19 = .ok (.putfield 59, 3) := by decide +kernel
theorem dX7_probe_22 : decode cX7_probe 22 = .ok (.aload_n 0, 1) := by decide +kernel
theorem dX7_probe_23 : decode cX7_probe 23 = .ok (.getfield 18, 3) := by decide +kernel
theorem dX7_probe_26 : decode cX7_probe 26 = .ok (.new 63, 3) := by decide +kernel
theorem dX7_probe_29 : decode cX7_probe 29 = .ok (.dup, 1) := by decide +kernel
theorem dX7_probe_30 : decode cX7_probe 30 = .ok (.aload_n 0, 1) := by decide +kernel
theorem dX7_probe_31 : decode cX7_probe 31 = .ok (.getfield 59, 3) := by decide +kernel
theorem dX7_probe_34 : decode cX7_probe 34 = .ok (.iload_n 1, 1) := by decide +kernel
theorem dX7_probe_35 : decode cX7_probe 35 = .ok (.invokespecial 65, 3) := by decide +kernel
theorem dX7_probe_38 : decode cX7_probe 38 = .ok (.invokevirtual 68, 3) := by decide +kernel
theorem dX7_probe_41 : decode cX7_probe 41 = .ok (.aload_n 0, 1) := by decide +kernel
theorem dX7_probe_42 : decode cX7_probe 42 = .ok (.getfield 59, 3) := by decide +kernel
theorem dX7_probe_45 : decode cX7_probe 45 = .ok (.ireturn, 1) := by decide +kernel
theorem dX7_line_0 : decode cX7_line 0 = .ok (.iload_n 1, 1) := by decide +kernel
theorem dX7_line_1 : decode cX7_line 1 = .ok (.ifCond .lt 8, 3) := by decide +kernel
theorem dX7_line_4 : decode cX7_line 4 = .ok (.iload_n 1, 1) := by decide +kernel
theorem dX7_line_5 : decode cX7_line 5 = .ok (.iconst 4, 1) := by decide +kernel
theorem dX7_line_6 : decode cX7_line 6 = .ok (.if_icmp .le 6, 3) := by decide +kernel
theorem dX7_line_9 : decode cX7_line 9 = .ok (.bipush (-2), 2) := by decide +kernel
theorem dX7_line_11 : decode cX7_line 11 = .ok (.ireturn, 1) := by decide +kernel
theorem dX7_line_12 : decode cX7_line 12 = .ok (.aload_n 0, 1) := by decide +kernel
theorem dX7_line_13 : decode cX7_line 13 = .ok (.getfield 18, 3) := by decide +kernel
theorem dX7_line_16 : decode cX7_line 16 = .ok (.new 43, 3) := by decide +kernel
theorem dX7_line_19 : decode cX7_line 19 = .ok (.dup, 1) := by decide +kernel
theorem dX7_line_20 : decode cX7_line 20 = .ok (.iconst 4, 1) := by decide +kernel
theorem dX7_line_21 : decode cX7_line 21 = .ok (.iload_n 1, 1) := by decide +kernel
theorem dX7_line_22 : decode cX7_line 22 = .ok (.invokespecial 45, 3) := by decide +kernel
theorem dX7_line_25 : decode cX7_line 25 = .ok (.invokevirtual 68, 3) := by decide +kernel
theorem dX7_line_28 : decode cX7_line 28 = .ok (.iconst 1, 1) := by decide +kernel
theorem dX7_line_29 : decode cX7_line 29 = .ok (.ireturn, 1) := by decide +kernel
theorem dX7_none_0 : decode cX7_none 0 = .ok (.aload_n 0, 1) := by decide +kernel
theorem dX7_none_1 : decode cX7_none 1 = .ok (.getfield 18, 3) := by decide +kernel
theorem dX7_none_4 : decode cX7_none 4 = .ok (.aconst_null, 1) := by decide +kernel
theorem dX7_none_5 : decode cX7_none 5 = .ok (.invokevirtual 68, 3) := by decide +kernel
theorem dX7_none_8 : decode cX7_none 8 = .ok (.iconst 1, 1) := by decide +kernel
theorem dX7_none_9 : decode cX7_none 9 = .ok (.ireturn, 1) := by decide +kernel
theorem dX7_get_0 : decode cX7_get 0 = .ok (.iload_n 1, 1) := by decide +kernel
theorem dX7_get_1 : decode cX7_get 1 = .ok (.invokestatic 36, 3) := by decide +kernel
theorem dX7_get_4 : decode cX7_get 4 = .ok (.ifCond .ne 5, 3) := by decide +kernel
theorem dX7_get_7 : decode cX7_get 7 = .ok (.iconst (-1), 1) := by decide +kernel
theorem dX7_get_8 : decode cX7_get 8 = .ok (.ireturn, 1) := by decide +kernel
theorem dX7_get_9 : decode cX7_get 9 = .ok (.aload_n 0, 1) := by decide +kernel
theorem dX7_get_10 : decode cX7_get 10 = .ok (.getfield 11, 3) := by decide +kernel
theorem dX7_get_13 : decode cX7_get 13 = .ok (.iload_n 1, 1) := by decide +kernel
theorem dX7_get_14 : decode cX7_get 14 = .ok (.aaload, 1) := by decide +kernel
theorem dX7_get_15 : decode cX7_get 15 = .ok (.iload_n 2, 1) := by decide +kernel
theorem dX7_get_16 : decode cX7_get 16 = .ok (.aload_n 0, 1) := by decide +kernel
theorem dX7_get_17 : decode cX7_get 17 = .ok (.getfield 18, 3) := by decide +kernel
theorem dX7_get_20 : decode cX7_get 20 = .ok (.invokestatic 72, 3) := by decide +kernel
theorem dX7_get_23 : decode cX7_get 23 = .ok (.istore_n 3, 1) := by decide +kernel
theorem dX7_get_24 : decode cX7_get 24 = .ok (.aload_n 0, 1) := by decide +kernel
theorem dX7_get_25 : decode cX7_get 25 = .ok (.iload_n 3, 1) := by decide +kernel
theorem dX7_get_26 : decode cX7_get 26 = .ok (.aload_n 0, 1) := by decide +kernel
theorem dX7_get_27 : decode cX7_get 27 = .ok (.getfield 18, 3) := by decide +kernel
theorem dX7_get_30 : decode cX7_get 30 = .ok (.getfield 76, 3) := by decide +kernel
theorem dX7_get_33 : decode cX7_get 33 = .ok (.invokevirtual 79, 3) := by decide +kernel
theorem dX7_get_36 : decode cX7_get 36 = .ok (.ireturn, 1) := by decide +kernel
theorem dX7_set_0 : decode cX7_set 0 = .ok (.iload_n 1, 1) := by decide +kernel
theorem dX7_set_1 : decode cX7_set 1 = .ok (.invokestatic 36, 3) := by decide +kernel
theorem dX7_set_4 : decode cX7_set 4 = .ok (.ifCond .ne 5, 3) := by decide +kernel
theorem dX7_set_7 : decode cX7_set 7 = .ok (.iconst (-1), 1) := by decide +kernel
theorem dX7_set_8 : decode cX7_set 8 = .ok (.ireturn, 1) := by decide +kernel
theorem dX7_set_9 : decode cX7_set 9 = .ok (.aload_n 0, 1) := by decide +kernel
theorem dX7_set_10 : decode cX7_set 10 = .ok (.aload_n 0, 1) := by decide +kernel
theorem dX7_set_11 : decode cX7_set 11 = .ok (.getfield 11, 3) := by decide +kernel
theorem dX7_set_14 : decode cX7_set 14 = .ok (.iload_n 1, 1) := by decide +kernel
theorem dX7_set_15 : decode cX7_set 15 = .ok (.aaload, 1) := by decide +kernel
theorem dX7_set_16 : decode cX7_set 16 = .ok (.iload_n 2, 1) := by decide +kernel
theorem dX7_set_17 : decode cX7_set 17 = .ok (.aload_n 0, 1) := by decide +kernel
theorem dX7_set_18 : decode cX7_set 18 = .ok (.getfield 18, 3) := by decide +kernel
theorem dX7_set_21 : decode cX7_set 21 = .ok (.invokestatic 83, 3) := by decide +kernel
theorem dX7_set_24 : decode cX7_set 24 = .ok (.iconst 1, 1) := by decide +kernel
theorem dX7_set_25 : decode cX7_set 25 = .ok (.invokevirtual 79, 3) := by decide +kernel
theorem dX7_set_28 : decode cX7_set 28 = .ok (.ireturn, 1) := by decide +kernel
theorem dX7_read_0 : decode cX7_read 0 = .ok (.iload_n 1, 1) := by decide +kernel
theorem dX7_read_1 : decode cX7_read 1 = .ok (.invokestatic 36, 3) := by decide +kernel
theorem dX7_read_4 : decode cX7_read 4 = .ok (.ifCond .ne 5, 3) := by decide +kernel
theorem dX7_read_7 : decode cX7_read 7 = .ok (.iconst (-1), 1) := by decide +kernel
theorem dX7_read_8 : decode cX7_read 8 = .ok (.ireturn, 1) := by decide +kernel
theorem dX7_read_9 : decode cX7_read 9 = .ok (.iload_n 3, 1) := by decide +kernel
theorem dX7_read_10 : decode cX7_read 10 = .ok (.invokestatic 40, 3) := by decide +kernel
theorem dX7_read_13 : decode cX7_read 13 = .ok (.ifCond .ne 6, 3) := by decide +kernel
theorem dX7_read_16 : decode cX7_read 16 = .ok (.bipush (-2), 2) := by decide +kernel
theorem dX7_read_18 : decode cX7_read 18 = .ok (.ireturn, 1) := by decide +kernel
theorem dX7_read_19 : decode cX7_read 19 = .ok (.aload_n 0, 1) := by decide +kernel
theorem dX7_read_20 : decode cX7_read 20 = .ok (.aload_n 0, 1) := by decide +kernel
theorem dX7_read_21 : decode cX7_read 21 = .ok (.getfield 11, 3) := by decide +kernel
theorem dX7_read_24 : decode cX7_read 24 = .ok (.iload_n 1, 1) := by decide +kernel
theorem dX7_read_25 : decode cX7_read 25 = .ok (.aaload, 1) := by decide +kernel
theorem dX7_read_26 : decode cX7_read 26 = .ok (.iload_n 2, 1) := by decide +kernel
theorem dX7_read_27 : decode cX7_read 27 = .ok (.iload_n 3, 1) := by decide +kernel
theorem dX7_read_28 : decode cX7_read 28 = .ok (.aload_n 0, 1) := by decide +kernel
theorem dX7_read_29 : decode cX7_read 29 = .ok (.getfield 18, 3) := by decide +kernel
theorem dX7_read_32 : decode cX7_read 32 = .ok (.invokestatic 86, 3) := by decide +kernel
theorem dX7_read_35 : decode cX7_read 35 = .ok (.iconst 1, 1) := by decide +kernel
theorem dX7_read_36 : decode cX7_read 36 = .ok (.invokevirtual 79, 3) := by decide +kernel
theorem dX7_read_39 : decode cX7_read 39 = .ok (.ireturn, 1) := by decide +kernel
theorem dX7_write_0 : decode cX7_write 0 = .ok (.iload_n 1, 1) := by decide +kernel
theorem dX7_write_1 : decode cX7_write 1 = .ok (.invokestatic 36, 3) := by decide +kernel
theorem dX7_write_4 : decode cX7_write 4 = .ok (.ifCond .ne 5, 3) := by decide +kernel
theorem dX7_write_7 : decode cX7_write 7 = .ok (.iconst (-1), 1) := by decide +kernel
theorem dX7_write_8 : decode cX7_write 8 = .ok (.ireturn, 1) := by decide +kernel
theorem dX7_write_9 : decode cX7_write 9 = .ok (.iload_n 3, 1) := by decide +kernel
theorem dX7_write_10 : decode cX7_write 10 = .ok (.invokestatic 40, 3) := by decide +kernel
theorem dX7_write_13 : decode cX7_write 13 = .ok (.ifCond .ne 6, 3) := by decide +kernel
theorem dX7_write_16 : decode cX7_write 16 = .ok (.bipush (-2), 2) := by decide +kernel
theorem dX7_write_18 : decode cX7_write 18 = .ok (.ireturn, 1) := by decide +kernel
theorem dX7_write_19 : decode cX7_write 19 = .ok (.aload_n 0, 1) := by decide +kernel
theorem dX7_write_20 : decode cX7_write 20 = .ok (.getfield 18, 3) := by decide +kernel
theorem dX7_write_23 : decode cX7_write 23 = .ok (.getfield 76, 3) := by decide +kernel
theorem dX7_write_26 : decode cX7_write 26 = .ok (.invokestatic 40, 3) := by decide +kernel
theorem dX7_write_29 : decode cX7_write 29 = .ok (.ifCond .ne 6, 3) := by decide +kernel
theorem dX7_write_32 : decode cX7_write 32 = .ok (.bipush (-3), 2) := by decide +kernel
theorem dX7_write_34 : decode cX7_write 34 = .ok (.ireturn, 1) := by decide +kernel
theorem dX7_write_35 : decode cX7_write 35 = .ok (.aload_n 0, 1) := by decide +kernel
theorem dX7_write_36 : decode cX7_write 36 = .ok (.aload_n 0, 1) := by decide +kernel
theorem dX7_write_37 : decode cX7_write 37 = .ok (.getfield 11, 3) := by decide +kernel
theorem dX7_write_40 : decode cX7_write 40 = .ok (.iload_n 1, 1) := by decide +kernel
theorem dX7_write_41 : decode cX7_write 41 = .ok (.aaload, 1) := by decide +kernel
theorem dX7_write_42 : decode cX7_write 42 = .ok (.iload_n 2, 1) := by decide +kernel
theorem dX7_write_43 : decode cX7_write 43 = .ok (.iload_n 3, 1) := by decide +kernel
theorem dX7_write_44 : decode cX7_write 44 = .ok (.aload_n 0, 1) := by decide +kernel
theorem dX7_write_45 : decode cX7_write 45 = .ok (.getfield 18, 3) := by decide +kernel
theorem dX7_write_48 : decode cX7_write 48 = .ok (.getfield 90, 3) := by decide +kernel
theorem dX7_write_51 : decode cX7_write 51 = .ok (.invokestatic 94, 3) := by decide +kernel
theorem dX7_write_54 : decode cX7_write 54 = .ok (.iconst 1, 1) := by decide +kernel
theorem dX7_write_55 : decode cX7_write 55 = .ok (.invokevirtual 79, 3) := by decide +kernel
theorem dX7_write_58 : decode cX7_write 58 = .ok (.ireturn, 1) := by decide +kernel
theorem dX7_size_0 : decode cX7_size 0 = .ok (.iload_n 1, 1) := by decide +kernel
theorem dX7_size_1 : decode cX7_size 1 = .ok (.invokestatic 36, 3) := by decide +kernel
theorem dX7_size_4 : decode cX7_size 4 = .ok (.ifCond .ne 5, 3) := by decide +kernel
theorem dX7_size_7 : decode cX7_size 7 = .ok (.iconst (-1), 1) := by decide +kernel
theorem dX7_size_8 : decode cX7_size 8 = .ok (.ireturn, 1) := by decide +kernel
theorem dX7_size_9 : decode cX7_size 9 = .ok (.aload_n 0, 1) := by decide +kernel
theorem dX7_size_10 : decode cX7_size 10 = .ok (.aload_n 0, 1) := by decide +kernel
theorem dX7_size_11 : decode cX7_size 11 = .ok (.getfield 11, 3) := by decide +kernel
theorem dX7_size_14 : decode cX7_size 14 = .ok (.iload_n 1, 1) := by decide +kernel
theorem dX7_size_15 : decode cX7_size 15 = .ok (.aaload, 1) := by decide +kernel
theorem dX7_size_16 : decode cX7_size 16 = .ok (.invokestatic 98, 3) := by decide +kernel
theorem dX7_size_19 : decode cX7_size 19 = .ok (.aload_n 0, 1) := by decide +kernel
theorem dX7_size_20 : decode cX7_size 20 = .ok (.getfield 11, 3) := by decide +kernel
theorem dX7_size_23 : decode cX7_size 23 = .ok (.iload_n 1, 1) := by decide +kernel
theorem dX7_size_24 : decode cX7_size 24 = .ok (.aaload, 1) := by decide +kernel
theorem dX7_size_25 : decode cX7_size 25 = .ok (.invokestatic 102, 3) := by decide +kernel
theorem dX7_size_28 : decode cX7_size 28 = .ok (.invokevirtual 79, 3) := by decide +kernel
theorem dX7_size_31 : decode cX7_size 31 = .ok (.ireturn, 1) := by decide +kernel
theorem dX7_within_0 : decode cX7_within 0 = .ok (.iload_n 1, 1) := by decide +kernel
theorem dX7_within_1 : decode cX7_within 1 = .ok (.invokestatic 36, 3) := by decide +kernel
theorem dX7_within_4 : decode cX7_within 4 = .ok (.ifCond .ne 5, 3) := by decide +kernel
theorem dX7_within_7 : decode cX7_within 7 = .ok (.iconst (-1), 1) := by decide +kernel
theorem dX7_within_8 : decode cX7_within 8 = .ok (.ireturn, 1) := by decide +kernel
theorem dX7_within_9 : decode cX7_within 9 = .ok (.aload_n 0, 1) := by decide +kernel
theorem dX7_within_10 : decode cX7_within 10 = .ok (.aload_n 0, 1) := by decide +kernel
theorem dX7_within_11 : decode cX7_within 11 = .ok (.aload_n 0, 1) := by decide +kernel
theorem dX7_within_12 : decode cX7_within 12 = .ok (.getfield 11, 3) := by decide +kernel
theorem dX7_within_15 : decode cX7_within 15 = .ok (.iload_n 1, 1) := by decide +kernel
theorem dX7_within_16 : decode cX7_within 16 = .ok (.aaload, 1) := by decide +kernel
theorem dX7_within_17 : decode cX7_within 17 = .ok (.iload_n 2, 1) := by decide +kernel
theorem dX7_within_18 : decode cX7_within 18 = .ok (.iload_n 3, 1) := by decide +kernel
theorem dX7_within_19 : decode cX7_within 19 = .ok (.invokevirtual 105, 3) := by decide +kernel
theorem dX7_within_22 : decode cX7_within 22 = .ok (.iconst 1, 1) := by decide +kernel
theorem dX7_within_23 : decode cX7_within 23 = .ok (.invokevirtual 79, 3) := by decide +kernel
theorem dX7_within_26 : decode cX7_within 26 = .ok (.ireturn, 1) := by decide +kernel
theorem dX7_into_0 : decode cX7_into 0 = .ok (.iload_n 1, 1) := by decide +kernel
theorem dX7_into_1 : decode cX7_into 1 = .ok (.invokestatic 36, 3) := by decide +kernel
theorem dX7_into_4 : decode cX7_into 4 = .ok (.ifCond .ne 5, 3) := by decide +kernel
theorem dX7_into_7 : decode cX7_into 7 = .ok (.iconst (-1), 1) := by decide +kernel
theorem dX7_into_8 : decode cX7_into 8 = .ok (.ireturn, 1) := by decide +kernel
theorem dX7_into_9 : decode cX7_into 9 = .ok (.aload_n 0, 1) := by decide +kernel
theorem dX7_into_10 : decode cX7_into 10 = .ok (.aload_n 0, 1) := by decide +kernel
theorem dX7_into_11 : decode cX7_into 11 = .ok (.aload_n 0, 1) := by decide +kernel
theorem dX7_into_12 : decode cX7_into 12 = .ok (.getfield 11, 3) := by decide +kernel
theorem dX7_into_15 : decode cX7_into 15 = .ok (.iload_n 1, 1) := by decide +kernel
theorem dX7_into_16 : decode cX7_into 16 = .ok (.aaload, 1) := by decide +kernel
theorem dX7_into_17 : decode cX7_into 17 = .ok (.iload_n 2, 1) := by decide +kernel
theorem dX7_into_18 : decode cX7_into 18 = .ok (.iload_n 3, 1) := by decide +kernel
theorem dX7_into_19 : decode cX7_into 19 = .ok (.iload 4, 2) := by decide +kernel
theorem dX7_into_21 : decode cX7_into 21 = .ok (.invokevirtual 109, 3) := by decide +kernel
theorem dX7_into_24 : decode cX7_into 24 = .ok (.iconst 1, 1) := by decide +kernel
theorem dX7_into_25 : decode cX7_into 25 = .ok (.invokevirtual 79, 3) := by decide +kernel
theorem dX7_into_28 : decode cX7_into 28 = .ok (.ireturn, 1) := by decide +kernel
theorem dX7_pass_0 : decode cX7_pass 0 = .ok (.iload_n 1, 1) := by decide +kernel
theorem dX7_pass_1 : decode cX7_pass 1 = .ok (.invokestatic 36, 3) := by decide +kernel
theorem dX7_pass_4 : decode cX7_pass 4 = .ok (.ifCond .eq 10, 3) := by decide +kernel
theorem dX7_pass_7 : decode cX7_pass 7 = .ok (.iload_n 2, 1) := by decide +kernel
theorem dX7_pass_8 : decode cX7_pass 8 = .ok (.invokestatic 36, 3) := by decide +kernel
theorem dX7_pass_11 : decode cX7_pass 11 = .ok (.ifCond .ne 5, 3) := by decide +kernel
theorem dX7_pass_14 : decode cX7_pass 14 = .ok (.iconst (-1), 1) := by decide +kernel
theorem dX7_pass_15 : decode cX7_pass 15 = .ok (.ireturn, 1) := by decide +kernel
theorem dX7_pass_16 : decode cX7_pass 16 = .ok (.iload_n 3, 1) := by decide +kernel
theorem dX7_pass_17 : decode cX7_pass 17 = .ok (.invokestatic 40, 3) := by decide +kernel
theorem dX7_pass_20 : decode cX7_pass 20 = .ok (.ifCond .ne 6, 3) := by decide +kernel
theorem dX7_pass_23 : decode cX7_pass 23 = .ok (.bipush (-2), 2) := by decide +kernel
theorem dX7_pass_25 : decode cX7_pass 25 = .ok (.ireturn, 1) := by decide +kernel
theorem dX7_pass_26 : decode cX7_pass 26 = .ok (.aload_n 0, 1) := by decide +kernel
theorem dX7_pass_27 : decode cX7_pass 27 = .ok (.getfield 11, 3) := by decide +kernel
theorem dX7_pass_30 : decode cX7_pass 30 = .ok (.iload_n 1, 1) := by decide +kernel
theorem dX7_pass_31 : decode cX7_pass 31 = .ok (.aaload, 1) := by decide +kernel
theorem dX7_pass_32 : decode cX7_pass 32 = .ok (.invokestatic 98, 3) := by decide +kernel
theorem dX7_pass_35 : decode cX7_pass 35 = .ok (.istore 4, 2) := by decide +kernel
theorem dX7_pass_37 : decode cX7_pass 37 = .ok (.iload 4, 2) := by decide +kernel
theorem dX7_pass_39 : decode cX7_pass 39 = .ok (.ifCond .eq 11, 3) := by decide +kernel
theorem dX7_pass_42 : decode cX7_pass 42 = .ok (.aload_n 0, 1) := by decide +kernel
theorem dX7_pass_43 : decode cX7_pass 43 = .ok (.iload 4, 2) := by decide +kernel
theorem dX7_pass_45 : decode cX7_pass 45 = .ok (.iconst 0, 1) := by decide +kernel
theorem dX7_pass_46 : decode cX7_pass 46 = .ok (.invokevirtual 79, 3) := by decide +kernel
theorem dX7_pass_49 : decode cX7_pass 49 = .ok (.ireturn, 1) := by decide +kernel
theorem dX7_pass_50 : decode cX7_pass 50 = .ok (.aload_n 0, 1) := by decide +kernel
theorem dX7_pass_51 : decode cX7_pass 51 = .ok (.getfield 11, 3) := by decide +kernel
theorem dX7_pass_54 : decode cX7_pass 54 = .ok (.iload_n 1, 1) := by decide +kernel
theorem dX7_pass_55 : decode cX7_pass 55 = .ok (.aaload, 1) := by decide +kernel
theorem dX7_pass_56 : decode cX7_pass 56 = .ok (.invokestatic 102, 3) := by decide +kernel
theorem dX7_pass_59 : decode cX7_pass 59 = .ok (.istore 5, 2) := by decide +kernel
theorem dX7_pass_61 : decode cX7_pass 61 = .ok (.iconst 0, 1) := by decide +kernel
theorem dX7_pass_62 : decode cX7_pass 62 = .ok (.istore 6, 2) := by decide +kernel
theorem dX7_pass_64 : decode cX7_pass 64 = .ok (.iload 6, 2) := by decide +kernel
theorem dX7_pass_66 : decode cX7_pass 66 = .ok (.iload 5, 2) := by decide +kernel
theorem dX7_pass_68 : decode cX7_pass 68 = .ok (.if_icmp .ge 44, 3) := by decide +kernel
theorem dX7_pass_71 : decode cX7_pass 71 = .ok (.aload_n 0, 1) := by decide +kernel
theorem dX7_pass_72 : decode cX7_pass 72 = .ok (.aload_n 0, 1) := by decide +kernel
theorem dX7_pass_73 : decode cX7_pass 73 = .ok (.getfield 11, 3) := by decide +kernel
theorem dX7_pass_76 : decode cX7_pass 76 = .ok (.iload_n 1, 1) := by decide +kernel
theorem dX7_pass_77 : decode cX7_pass 77 = .ok (.aaload, 1) := by decide +kernel
theorem dX7_pass_78 : decode cX7_pass 78 = .ok (.aload_n 0, 1) := by decide +kernel
theorem dX7_pass_79 : decode cX7_pass 79 = .ok (.getfield 11, 3) := by decide +kernel
theorem dX7_pass_82 : decode cX7_pass 82 = .ok (.iload_n 2, 1) := by decide +kernel
theorem dX7_pass_83 : decode cX7_pass 83 = .ok (.aaload, 1) := by decide +kernel
theorem dX7_pass_84 : decode cX7_pass 84 = .ok (.iload 6, 2) := by decide +kernel
theorem dX7_pass_86 : decode cX7_pass 86 = .ok (.iload_n 3, 1) := by decide +kernel
theorem dX7_pass_87 : decode cX7_pass 87 = .ok (.invokevirtual 113, 3) := by decide +kernel
theorem dX7_pass_90 : decode cX7_pass 90 = .ok (.istore 4, 2) := by decide +kernel
theorem dX7_pass_92 : decode cX7_pass 92 = .ok (.iload 4, 2) := by decide +kernel
theorem dX7_pass_94 : decode cX7_pass 94 = .ok (.ifCond .eq 12, 3) := by decide +kernel
theorem dX7_pass_97 : decode cX7_pass 97 = .ok (.aload_n 0, 1) := by decide +kernel
theorem dX7_pass_98 : decode cX7_pass 98 = .ok (.iload 4, 2) := by decide +kernel
theorem dX7_pass_100 : decode cX7_pass 100 = .ok (.invokevirtual 117, 3) := by decide +kernel
theorem dX7_pass_103 : decode cX7_pass 103 = .ok (.iload 6, 2) := by decide +kernel
theorem dX7_pass_105 : decode cX7_pass 105 = .ok (.ireturn, 1) := by decide +kernel
theorem dX7_pass_106 : decode cX7_pass 106 = .ok (.iinc 6 1, 3) := by decide +kernel
theorem dX7_pass_109 : decode cX7_pass 109 = .ok (.goto (-45), 3) := by decide +kernel
theorem dX7_pass_112 : decode cX7_pass 112 = .ok (.iload 5, 2) := by decide +kernel
theorem dX7_pass_114 : decode cX7_pass 114 = .ok (.ireturn, 1) := by decide +kernel
theorem dX7_takes_0 : decode cX7_takes 0 = .ok (.iload_n 1, 1) := by decide +kernel
theorem dX7_takes_1 : decode cX7_takes 1 = .ok (.invokestatic 36, 3) := by decide +kernel
theorem dX7_takes_4 : decode cX7_takes 4 = .ok (.ifCond .ne 5, 3) := by decide +kernel
theorem dX7_takes_7 : decode cX7_takes 7 = .ok (.iconst (-1), 1) := by decide +kernel
theorem dX7_takes_8 : decode cX7_takes 8 = .ok (.ireturn, 1) := by decide +kernel
theorem dX7_takes_9 : decode cX7_takes 9 = .ok (.aload_n 0, 1) := by decide +kernel
theorem dX7_takes_10 : decode cX7_takes 10 = .ok (.aload_n 0, 1) := by decide +kernel
theorem dX7_takes_11 : decode cX7_takes 11 = .ok (.getfield 11, 3) := by decide +kernel
theorem dX7_takes_14 : decode cX7_takes 14 = .ok (.iload_n 1, 1) := by decide +kernel
theorem dX7_takes_15 : decode cX7_takes 15 = .ok (.aaload, 1) := by decide +kernel
theorem dX7_takes_16 : decode cX7_takes 16 = .ok (.iconst 0, 1) := by decide +kernel
theorem dX7_takes_17 : decode cX7_takes 17 = .ok (.invokestatic 121, 3) := by decide +kernel
theorem dX7_takes_20 : decode cX7_takes 20 = .ok (.aload_n 0, 1) := by decide +kernel
theorem dX7_takes_21 : decode cX7_takes 21 = .ok (.getfield 11, 3) := by decide +kernel
theorem dX7_takes_24 : decode cX7_takes 24 = .ok (.iload_n 1, 1) := by decide +kernel
theorem dX7_takes_25 : decode cX7_takes 25 = .ok (.aaload, 1) := by decide +kernel
theorem dX7_takes_26 : decode cX7_takes 26 = .ok (.invokestatic 125, 3) := by decide +kernel
theorem dX7_takes_29 : decode cX7_takes 29 = .ok (.invokevirtual 79, 3) := by decide +kernel
theorem dX7_takes_32 : decode cX7_takes 32 = .ok (.ireturn, 1) := by decide +kernel
theorem dX7_gives_0 : decode cX7_gives 0 = .ok (.iload_n 1, 1) := by decide +kernel
theorem dX7_gives_1 : decode cX7_gives 1 = .ok (.invokestatic 36, 3) := by decide +kernel
theorem dX7_gives_4 : decode cX7_gives 4 = .ok (.ifCond .ne 5, 3) := by decide +kernel
theorem dX7_gives_7 : decode cX7_gives 7 = .ok (.iconst (-1), 1) := by decide +kernel
theorem dX7_gives_8 : decode cX7_gives 8 = .ok (.ireturn, 1) := by decide +kernel
theorem dX7_gives_9 : decode cX7_gives 9 = .ok (.aload_n 0, 1) := by decide +kernel
theorem dX7_gives_10 : decode cX7_gives 10 = .ok (.aload_n 0, 1) := by decide +kernel
theorem dX7_gives_11 : decode cX7_gives 11 = .ok (.getfield 11, 3) := by decide +kernel
theorem dX7_gives_14 : decode cX7_gives 14 = .ok (.iload_n 1, 1) := by decide +kernel
theorem dX7_gives_15 : decode cX7_gives 15 = .ok (.aaload, 1) := by decide +kernel
theorem dX7_gives_16 : decode cX7_gives 16 = .ok (.iconst 0, 1) := by decide +kernel
theorem dX7_gives_17 : decode cX7_gives 17 = .ok (.invokestatic 121, 3) := by decide +kernel
theorem dX7_gives_20 : decode cX7_gives 20 = .ok (.aload_n 0, 1) := by decide +kernel
theorem dX7_gives_21 : decode cX7_gives 21 = .ok (.getfield 11, 3) := by decide +kernel
theorem dX7_gives_24 : decode cX7_gives 24 = .ok (.iload_n 1, 1) := by decide +kernel
theorem dX7_gives_25 : decode cX7_gives 25 = .ok (.aaload, 1) := by decide +kernel
theorem dX7_gives_26 : decode cX7_gives 26 = .ok (.invokestatic 128, 3) := by decide +kernel
theorem dX7_gives_29 : decode cX7_gives 29 = .ok (.invokevirtual 79, 3) := by decide +kernel
theorem dX7_gives_32 : decode cX7_gives 32 = .ok (.ireturn, 1) := by decide +kernel
theorem dX7_step_0 : decode cX7_step 0 = .ok (.iload_n 2, 1) := by decide +kernel
theorem dX7_step_1 : decode cX7_step 1 = .ok (.invokestatic 36, 3) := by decide +kernel
theorem dX7_step_4 : decode cX7_step 4 = .ok (.ifCond .eq 11, 3) := by decide +kernel
theorem dX7_step_7 : decode cX7_step 7 = .ok (.iload 4, 2) := by decide +kernel
theorem dX7_step_9 : decode cX7_step 9 = .ok (.invokestatic 36, 3) := by decide +kernel
theorem dX7_step_12 : decode cX7_step 12 = .ok (.ifCond .ne 5, 3) := by decide +kernel
theorem dX7_step_15 : decode cX7_step 15 = .ok (.iconst (-1), 1) := by decide +kernel
theorem dX7_step_16 : decode cX7_step 16 = .ok (.ireturn, 1) := by decide +kernel
theorem dX7_step_17 : decode cX7_step 17 = .ok (.iload_n 1, 1) := by decide +kernel
theorem dX7_step_18 : decode cX7_step 18 = .ok (.ifCond .lt 27, 3) := by decide +kernel
theorem dX7_step_21 : decode cX7_step 21 = .ok (.iload_n 1, 1) := by decide +kernel
theorem dX7_step_22 : decode cX7_step 22 = .ok (.iconst 5, 1) := by decide +kernel
theorem dX7_step_23 : decode cX7_step 23 = .ok (.if_icmp .gt 22, 3) := by decide +kernel
theorem dX7_step_26 : decode cX7_step 26 = .ok (.iload_n 3, 1) := by decide +kernel
theorem dX7_step_27 : decode cX7_step 27 = .ok (.iconst (-1), 1) := by decide +kernel
theorem dX7_step_28 : decode cX7_step 28 = .ok (.if_icmp .lt 17, 3) := by decide +kernel
theorem dX7_step_31 : decode cX7_step 31 = .ok (.iload_n 3, 1) := by decide +kernel
theorem dX7_step_32 : decode cX7_step 32 = .ok (.bipush 16, 2) := by decide +kernel
theorem dX7_step_34 : decode cX7_step 34 = .ok (.if_icmp .gt 11, 3) := by decide +kernel
theorem dX7_step_37 : decode cX7_step 37 = .ok (.iload 5, 2) := by decide +kernel
theorem dX7_step_39 : decode cX7_step 39 = .ok (.invokestatic 40, 3) := by decide +kernel
theorem dX7_step_42 : decode cX7_step 42 = .ok (.ifCond .ne 6, 3) := by decide +kernel
theorem dX7_step_45 : decode cX7_step 45 = .ok (.bipush (-2), 2) := by decide +kernel
theorem dX7_step_47 : decode cX7_step 47 = .ok (.ireturn, 1) := by decide +kernel
theorem dX7_step_48 : decode cX7_step 48 = .ok (.aload_n 0, 1) := by decide +kernel
theorem dX7_step_49 : decode cX7_step 49 = .ok (.getfield 131, 3) := by decide +kernel
theorem dX7_step_52 : decode cX7_step 52 = .ok (.bipush 12, 2) := by decide +kernel
theorem dX7_step_54 : decode cX7_step 54 = .ok (.if_icmp .lt 6, 3) := by decide +kernel
theorem dX7_step_57 : decode cX7_step 57 = .ok (.bipush (-4), 2) := by decide +kernel
theorem dX7_step_59 : decode cX7_step 59 = .ok (.ireturn, 1) := by decide +kernel
theorem dX7_step_60 : decode cX7_step 60 = .ok (.aload_n 0, 1) := by decide +kernel
theorem dX7_step_61 : decode cX7_step 61 = .ok (.getfield 27, 3) := by decide +kernel
theorem dX7_step_64 : decode cX7_step 64 = .ok (.aload_n 0, 1) := by decide +kernel
theorem dX7_step_65 : decode cX7_step 65 = .ok (.getfield 131, 3) := by decide +kernel
theorem dX7_step_68 : decode cX7_step 68 = .ok (.aaload, 1) := by decide +kernel
theorem dX7_step_69 : decode cX7_step 69 = .ok (.iload_n 1, 1) := by decide +kernel
theorem dX7_step_70 : decode cX7_step 70 = .ok (.iload_n 2, 1) := by decide +kernel
theorem dX7_step_71 : decode cX7_step 71 = .ok (.iload_n 3, 1) := by decide +kernel
theorem dX7_step_72 : decode cX7_step 72 = .ok (.iload 4, 2) := by decide +kernel
theorem dX7_step_74 : decode cX7_step 74 = .ok (.iload 5, 2) := by decide +kernel
theorem dX7_step_76 : decode cX7_step 76 = .ok (.invokevirtual 134, 3) := by decide +kernel
theorem dX7_step_79 : decode cX7_step 79 = .ok (.aload_n 0, 1) := by decide +kernel
theorem dX7_step_80 : decode cX7_step 80 = .ok (.dup, 1) := by decide +kernel
theorem dX7_step_81 : decode cX7_step 81 = .ok (.getfield 131, 3) := by decide +kernel
theorem dX7_step_84 : decode cX7_step 84 = .ok (.iconst 1, 1) := by decide +kernel
theorem dX7_step_85 : decode cX7_step 85 = .ok (.iadd, 1) := by decide +kernel
theorem dX7_step_86 : decode cX7_step 86 = .ok (.putfield 131, 3) := by decide +kernel
theorem dX7_step_89 : decode cX7_step 89 = .ok (.aload_n 0, 1) := by decide +kernel
theorem dX7_step_90 : decode cX7_step 90 = .ok (.getfield 131, 3) := by decide +kernel
theorem dX7_step_93 : decode cX7_step 93 = .ok (.ireturn, 1) := by decide +kernel
theorem dX7_run_0 : decode cX7_run 0 = .ok (.aload_n 0, 1) := by decide +kernel
theorem dX7_run_1 : decode cX7_run 1 = .ok (.invokevirtual 138, 3) := by decide +kernel
theorem dX7_run_4 : decode cX7_run 4 = .ok (.iconst 0, 1) := by decide +kernel
theorem dX7_run_5 : decode cX7_run 5 = .ok (.istore_n 2, 1) := by decide +kernel
theorem dX7_run_6 : decode cX7_run 6 = .ok (.iconst 0, 1) := by decide +kernel
theorem dX7_run_7 : decode cX7_run 7 = .ok (.istore_n 3, 1) := by decide +kernel
theorem dX7_run_8 : decode cX7_run 8 = .ok (.iload_n 3, 1) := by decide +kernel
theorem dX7_run_9 : decode cX7_run 9 = .ok (.aload_n 0, 1) := by decide +kernel
theorem dX7_run_10 : decode cX7_run 10 = .ok (.getfield 131, 3) := by decide +kernel
theorem dX7_run_13 : decode cX7_run 13 = .ok (.if_icmp .ge 55, 3) := by decide +kernel
theorem dX7_run_16 : decode cX7_run 16 = .ok (.aload_n 0, 1) := by decide +kernel
theorem dX7_run_17 : decode cX7_run 17 = .ok (.aload_n 0, 1) := by decide +kernel
theorem dX7_run_18 : decode cX7_run 18 = .ok (.getfield 27, 3) := by decide +kernel
