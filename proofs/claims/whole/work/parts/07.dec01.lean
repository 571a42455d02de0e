theorem dX7_run_21 : decode cX7_run 21 = .ok (.iload_n 3, 1) := by decide +kernel
theorem dX7_run_22 : decode cX7_run 22 = .ok (.aaload, 1) := by decide +kernel
theorem dX7_run_23 : decode cX7_run 23 = .ok (.invokevirtual 141, 3) := by decide +kernel
theorem dX7_run_26 : decode cX7_run 26 = .ok (.istore 4, 2) := by decide +kernel
theorem dX7_run_28 : decode cX7_run 28 = .ok (.aload_n 0, 1) := by decide +kernel
theorem dX7_run_29 : decode cX7_run 29 = .ok (.getfield 27, 3) := by decide +kernel
theorem dX7_run_32 : decode cX7_run 32 = .ok (.iload_n 3, 1) := by decide +kernel
theorem dX7_run_33 : decode cX7_run 33 = .ok (.aaload, 1) := by decide +kernel
theorem dX7_run_34 : decode cX7_run 34 = .ok (.iload 4, 2) := by decide +kernel
theorem dX7_run_36 : decode cX7_run 36 = .ok (.putfield 145, 3) := by decide +kernel
theorem dX7_run_39 : decode cX7_run 39 = .ok (.iload 4, 2) := by decide +kernel
theorem dX7_run_41 : decode cX7_run 41 = .ok (.ifCond .ne 9, 3) := by decide +kernel
theorem dX7_run_44 : decode cX7_run 44 = .ok (.iinc 2 1, 3) := by decide +kernel
theorem dX7_run_47 : decode cX7_run 47 = .ok (.goto 15, 3) := by decide +kernel
theorem dX7_run_50 : decode cX7_run 50 = .ok (.aload_n 0, 1) := by decide +kernel
theorem dX7_run_51 : decode cX7_run 51 = .ok (.iload 4, 2) := by decide +kernel
theorem dX7_run_53 : decode cX7_run 53 = .ok (.invokevirtual 117, 3) := by decide +kernel
theorem dX7_run_56 : decode cX7_run 56 = .ok (.iload_n 1, 1) := by decide +kernel
theorem dX7_run_57 : decode cX7_run 57 = .ok (.ifCond .eq 5, 3) := by decide +kernel
theorem dX7_run_60 : decode cX7_run 60 = .ok (.iload_n 2, 1) := by decide +kernel
theorem dX7_run_61 : decode cX7_run 61 = .ok (.ireturn, 1) := by decide +kernel
theorem dX7_run_62 : decode cX7_run 62 = .ok (.iinc 3 1, 3) := by decide +kernel
theorem dX7_run_65 : decode cX7_run 65 = .ok (.goto (-57), 3) := by decide +kernel
theorem dX7_run_68 : decode cX7_run 68 = .ok (.iload_n 2, 1) := by decide +kernel
theorem dX7_run_69 : decode cX7_run 69 = .ok (.ireturn, 1) := by decide +kernel
theorem dX7_met_0 : decode cX7_met 0 = .ok (.iload_n 1, 1) := by decide +kernel
theorem dX7_met_1 : decode cX7_met 1 = .ok (.ifCond .lt 11, 3) := by decide +kernel
theorem dX7_met_4 : decode cX7_met 4 = .ok (.iload_n 1, 1) := by decide +kernel
theorem dX7_met_5 : decode cX7_met 5 = .ok (.aload_n 0, 1) := by decide +kernel
theorem dX7_met_6 : decode cX7_met 6 = .ok (.getfield 131, 3) := by decide +kernel
theorem dX7_met_9 : decode cX7_met 9 = .ok (.if_icmp .lt 8, 3) := by decide +kernel
theorem dX7_met_12 : decode cX7_met 12 = .ok (.bipush (-9), 2) := by decide +kernel
theorem dX7_met_14 : decode cX7_met 14 = .ok (.goto 12, 3) := by decide +kernel
theorem dX7_met_17 : decode cX7_met 17 = .ok (.aload_n 0, 1) := by decide +kernel
theorem dX7_met_18 : decode cX7_met 18 = .ok (.getfield 27, 3) := by decide +kernel
theorem dX7_met_21 : decode cX7_met 21 = .ok (.iload_n 1, 1) := by decide +kernel
theorem dX7_met_22 : decode cX7_met 22 = .ok (.aaload, 1) := by decide +kernel
theorem dX7_met_23 : decode cX7_met 23 = .ok (.getfield 145, 3) := by decide +kernel
theorem dX7_met_26 : decode cX7_met 26 = .ok (.ireturn, 1) := by decide +kernel
theorem dX7_clear_0 : decode cX7_clear 0 = .ok (.aload_n 0, 1) := by decide +kernel
theorem dX7_clear_1 : decode cX7_clear 1 = .ok (.getfield 131, 3) := by decide +kernel
theorem dX7_clear_4 : decode cX7_clear 4 = .ok (.istore_n 1, 1) := by decide +kernel
theorem dX7_clear_5 : decode cX7_clear 5 = .ok (.aload_n 0, 1) := by decide +kernel
theorem dX7_clear_6 : decode cX7_clear 6 = .ok (.iconst 0, 1) := by decide +kernel
theorem dX7_clear_7 : decode cX7_clear 7 = .ok (.putfield 131, 3) := by decide +kernel
theorem dX7_clear_10 : decode cX7_clear 10 = .ok (.iload_n 1, 1) := by decide +kernel
theorem dX7_clear_11 : decode cX7_clear 11 = .ok (.ireturn, 1) := by decide +kernel
theorem dX7_fault_0 : decode cX7_fault 0 = .ok (.aload_n 0, 1) := by decide +kernel
theorem dX7_fault_1 : decode cX7_fault 1 = .ok (.getfield 148, 3) := by decide +kernel
theorem dX7_fault_4 : decode cX7_fault 4 = .ok (.ireturn, 1) := by decide +kernel
theorem dX7_faults_0 : decode cX7_faults 0 = .ok (.iload_n 1, 1) := by decide +kernel
theorem dX7_faults_1 : decode cX7_faults 1 = .ok (.ifCond .lt 8, 3) := by decide +kernel
theorem dX7_faults_4 : decode cX7_faults 4 = .ok (.iload_n 1, 1) := by decide +kernel
theorem dX7_faults_5 : decode cX7_faults 5 = .ok (.iconst 3, 1) := by decide +kernel
theorem dX7_faults_6 : decode cX7_faults 6 = .ok (.if_icmp .le 8, 3) := by decide +kernel
theorem dX7_faults_9 : decode cX7_faults 9 = .ok (.bipush (-9), 2) := by decide +kernel
theorem dX7_faults_11 : decode cX7_faults 11 = .ok (.goto 9, 3) := by decide +kernel
theorem dX7_faults_14 : decode cX7_faults 14 = .ok (.aload_n 0, 1) := by decide +kernel
theorem dX7_faults_15 : decode cX7_faults 15 = .ok (.getfield 32, 3) := by decide +kernel
theorem dX7_faults_18 : decode cX7_faults 18 = .ok (.iload_n 1, 1) := by decide +kernel
theorem dX7_faults_19 : decode cX7_faults 19 = .ok (.iaload, 1) := by decide +kernel
theorem dX7_faults_20 : decode cX7_faults 20 = .ok (.ireturn, 1) := by decide +kernel
theorem dX7_has_0 : decode cX7_has 0 = .ok (.aload_n 0, 1) := by decide +kernel
theorem dX7_has_1 : decode cX7_has 1 = .ok (.getfield 18, 3) := by decide +kernel
theorem dX7_has_4 : decode cX7_has 4 = .ok (.getfield 76, 3) := by decide +kernel
theorem dX7_has_7 : decode cX7_has 7 = .ok (.ireturn, 1) := by decide +kernel
theorem dX7_value_0 : decode cX7_value 0 = .ok (.aload_n 0, 1) := by decide +kernel
theorem dX7_value_1 : decode cX7_value 1 = .ok (.getfield 18, 3) := by decide +kernel
theorem dX7_value_4 : decode cX7_value 4 = .ok (.getfield 90, 3) := by decide +kernel
theorem dX7_value_7 : decode cX7_value 7 = .ok (.lreturn, 1) := by decide +kernel
theorem dX7_told_0 : decode cX7_told 0 = .ok (.iload_n 1, 1) := by decide +kernel
theorem dX7_told_1 : decode cX7_told 1 = .ok (.invokestatic 36, 3) := by decide +kernel
theorem dX7_told_4 : decode cX7_told 4 = .ok (.ifCond .ne 5, 3) := by decide +kernel
theorem dX7_told_7 : decode cX7_told 7 = .ok (.iconst (-1), 1) := by decide +kernel
theorem dX7_told_8 : decode cX7_told 8 = .ok (.ireturn, 1) := by decide +kernel
theorem dX7_told_9 : decode cX7_told 9 = .ok (.aload_n 0, 1) := by decide +kernel
theorem dX7_told_10 : decode cX7_told 10 = .ok (.getfield 11, 3) := by decide +kernel
theorem dX7_told_13 : decode cX7_told 13 = .ok (.iload_n 1, 1) := by decide +kernel
theorem dX7_told_14 : decode cX7_told 14 = .ok (.aaload, 1) := by decide +kernel
theorem dX7_told_15 : decode cX7_told 15 = .ok (.astore_n 3, 1) := by decide +kernel
theorem dX7_told_16 : decode cX7_told 16 = .ok (.aload_n 3, 1) := by decide +kernel
theorem dX7_told_17 : decode cX7_told 17 = .ok (.instanceof 151, 3) := by decide +kernel
theorem dX7_told_20 : decode cX7_told 20 = .ok (.ifCond .eq 13, 3) := by decide +kernel
theorem dX7_told_23 : decode cX7_told 23 = .ok (.aload_n 3, 1) := by decide +kernel
theorem dX7_told_24 : decode cX7_told 24 = .ok (.checkcast 151, 3) := by decide +kernel
theorem dX7_told_27 : decode cX7_told 27 = .ok (.astore_n 2, 1) := by decide +kernel
theorem dX7_told_28 : decode cX7_told 28 = .ok (.aload_n 2, 1) := by decide +kernel
theorem dX7_told_29 : decode cX7_told 29 = .ok (.getfield 153, 3) := by decide +kernel
theorem dX7_told_32 : decode cX7_told 32 = .ok (.ireturn, 1) := by decide +kernel
theorem dX7_told_33 : decode cX7_told 33 = .ok (.aload_n 0, 1) := by decide +kernel
theorem dX7_told_34 : decode cX7_told 34 = .ok (.getfield 11, 3) := by decide +kernel
theorem dX7_told_37 : decode cX7_told 37 = .ok (.iload_n 1, 1) := by decide +kernel
theorem dX7_told_38 : decode cX7_told 38 = .ok (.aaload, 1) := by decide +kernel
theorem dX7_told_39 : decode cX7_told 39 = .ok (.astore_n 3, 1) := by decide +kernel
theorem dX7_told_40 : decode cX7_told 40 = .ok (.aload_n 3, 1) := by decide +kernel
theorem dX7_told_41 : decode cX7_told 41 = .ok (.instanceof 63, 3) := by decide +kernel
theorem dX7_told_44 : decode cX7_told 44 = .ok (.ifCond .eq 23, 3) := by decide +kernel
theorem dX7_told_47 : decode cX7_told 47 = .ok (.aload_n 3, 1) := by decide +kernel
theorem dX7_told_48 : decode cX7_told 48 = .ok (.checkcast 63, 3) := by decide +kernel
theorem dX7_told_51 : decode cX7_told 51 = .ok (.astore_n 2, 1) := by decide +kernel
theorem dX7_told_52 : decode cX7_told 52 = .ok (.aload_n 2, 1) := by decide +kernel
theorem dX7_told_53 : decode cX7_told 53 = .ok (.getfield 154, 3) := by decide +kernel
theorem dX7_told_56 : decode cX7_told 56 = .ok (.ifCond .eq 8, 3) := by decide +kernel
theorem dX7_told_59 : decode cX7_told 59 = .ok (.bipush 12, 2) := by decide +kernel
theorem dX7_told_61 : decode cX7_told 61 = .ok (.goto 5, 3) := by decide +kernel
theorem dX7_told_64 : decode cX7_told 64 = .ok (.bipush 11, 2) := by decide +kernel
theorem dX7_told_66 : decode cX7_told 66 = .ok (.ireturn, 1) := by decide +kernel
theorem dX7_told_67 : decode cX7_told 67 = .ok (.bipush (-9), 2) := by decide +kernel
theorem dX7_told_69 : decode cX7_told 69 = .ok (.ireturn, 1) := by decide +kernel
theorem dX7_same_0 : decode cX7_same 0 = .ok (.iload_n 1, 1) := by decide +kernel
theorem dX7_same_1 : decode cX7_same 1 = .ok (.invokestatic 36, 3) := by decide +kernel
theorem dX7_same_4 : decode cX7_same 4 = .ok (.ifCond .ne 5, 3) := by decide +kernel
theorem dX7_same_7 : decode cX7_same 7 = .ok (.iconst (-1), 1) := by decide +kernel
theorem dX7_same_8 : decode cX7_same 8 = .ok (.ireturn, 1) := by decide +kernel
theorem dX7_same_9 : decode cX7_same 9 = .ok (.aload_n 0, 1) := by decide +kernel
theorem dX7_same_10 : decode cX7_same 10 = .ok (.getfield 11, 3) := by decide +kernel
theorem dX7_same_13 : decode cX7_same 13 = .ok (.iload_n 1, 1) := by decide +kernel
theorem dX7_same_14 : decode cX7_same 14 = .ok (.aaload, 1) := by decide +kernel
theorem dX7_same_15 : decode cX7_same 15 = .ok (.ifnonnull 5, 3) := by decide +kernel
theorem dX7_same_18 : decode cX7_same 18 = .ok (.iconst 0, 1) := by decide +kernel
theorem dX7_same_19 : decode cX7_same 19 = .ok (.ireturn, 1) := by decide +kernel
theorem dX7_same_20 : decode cX7_same 20 = .ok (.iconst 0, 1) := by decide +kernel
theorem dX7_same_21 : decode cX7_same 21 = .ok (.istore_n 2, 1) := by decide +kernel
theorem dX7_same_22 : decode cX7_same 22 = .ok (.iconst 0, 1) := by decide +kernel
theorem dX7_same_23 : decode cX7_same 23 = .ok (.istore_n 3, 1) := by decide +kernel
theorem dX7_same_24 : decode cX7_same 24 = .ok (.iload_n 3, 1) := by decide +kernel
theorem dX7_same_25 : decode cX7_same 25 = .ok (.bipush 10, 2) := by decide +kernel
theorem dX7_same_27 : decode cX7_same 27 = .ok (.if_icmp .ge 27, 3) := by decide +kernel
theorem dX7_same_30 : decode cX7_same 30 = .ok (.aload_n 0, 1) := by decide +kernel
theorem dX7_same_31 : decode cX7_same 31 = .ok (.getfield 11, 3) := by decide +kernel
theorem dX7_same_34 : decode cX7_same 34 = .ok (.iload_n 3, 1) := by decide +kernel
theorem dX7_same_35 : decode cX7_same 35 = .ok (.aaload, 1) := by decide +kernel
theorem dX7_same_36 : decode cX7_same 36 = .ok (.aload_n 0, 1) := by decide +kernel
theorem dX7_same_37 : decode cX7_same 37 = .ok (.getfield 11, 3) := by decide +kernel
theorem dX7_same_40 : decode cX7_same 40 = .ok (.iload_n 1, 1) := by decide +kernel
theorem dX7_same_41 : decode cX7_same 41 = .ok (.aaload, 1) := by decide +kernel
theorem dX7_same_42 : decode cX7_same 42 = .ok (.if_acmp .ne 6, 3) := by decide +kernel
theorem dX7_same_45 : decode cX7_same 45 = .ok (.iinc 2 1, 3) := by decide +kernel
theorem dX7_same_48 : decode cX7_same 48 = .ok (.iinc 3 1, 3) := by decide +kernel
theorem dX7_same_51 : decode cX7_same 51 = .ok (.goto (-27), 3) := by decide +kernel
theorem dX7_same_54 : decode cX7_same 54 = .ok (.iload_n 2, 1) := by decide +kernel
theorem dX7_same_55 : decode cX7_same 55 = .ok (.ireturn, 1) := by decide +kernel
theorem dX7_isRack_0 : decode cX7_isRack 0 = .ok (.iload_n 0, 1) := by decide +kernel
theorem dX7_isRack_1 : decode cX7_isRack 1 = .ok (.ifCond .lt 13, 3) := by decide +kernel
theorem dX7_isRack_4 : decode cX7_isRack 4 = .ok (.iload_n 0, 1) := by decide +kernel
theorem dX7_isRack_5 : decode cX7_isRack 5 = .ok (.bipush 10, 2) := by decide +kernel
theorem dX7_isRack_7 : decode cX7_isRack 7 = .ok (.if_icmp .ge 7, 3) := by decide +kernel
theorem dX7_isRack_10 : decode cX7_isRack 10 = .ok (.iconst 1, 1) := by decide +kernel
theorem dX7_isRack_11 : decode cX7_isRack 11 = .ok (.goto 4, 3) := by decide +kernel
theorem dX7_isRack_14 : decode cX7_isRack 14 = .ok (.iconst 0, 1) := by decide +kernel
theorem dX7_isRack_15 : decode cX7_isRack 15 = .ok (.ireturn, 1) := by decide +kernel
theorem dX7_isNumberKind_0 : decode cX7_isNumberKind 0 = .ok (.iload_n 0, 1) := by decide +kernel
theorem dX7_isNumberKind_1 : decode cX7_isNumberKind 1 = .ok (.ifCond .lt 13, 3) := by decide +kernel
theorem dX7_isNumberKind_4 : decode cX7_isNumberKind 4 = .ok (.iload_n 0, 1) := by decide +kernel
theorem dX7_isNumberKind_5 : decode cX7_isNumberKind 5 = .ok (.bipush 8, 2) := by decide +kernel
theorem dX7_isNumberKind_7 : decode cX7_isNumberKind 7 = .ok (.if_icmp .ge 7, 3) := by decide +kernel
theorem dX7_isNumberKind_10 : decode cX7_isNumberKind 10 = .ok (.iconst 1, 1) := by decide +kernel
theorem dX7_isNumberKind_11 : decode cX7_isNumberKind 11 = .ok (.goto 4, 3) := by decide +kernel
theorem dX7_isNumberKind_14 : decode cX7_isNumberKind 14 = .ok (.iconst 0, 1) := by decide +kernel
theorem dX7_isNumberKind_15 : decode cX7_isNumberKind 15 = .ok (.ireturn, 1) := by decide +kernel
theorem dX7_goesInto_0 : decode cX7_goesInto 0 = .ok (.iload_n 0, 1) := by decide +kernel
theorem dX7_goesInto_1 : decode cX7_goesInto 1 = .ok (.ifCond .lt 26, 3) := by decide +kernel
theorem dX7_goesInto_4 : decode cX7_goesInto 4 = .ok (.iload_n 0, 1) := by decide +kernel
theorem dX7_goesInto_5 : decode cX7_goesInto 5 = .ok (.bipush 11, 2) := by decide +kernel
theorem dX7_goesInto_7 : decode cX7_goesInto 7 = .ok (.if_icmp .ge 20, 3) := by decide +kernel
theorem dX7_goesInto_10 : decode cX7_goesInto 10 = .ok (.getstatic 158, 3) := by decide +kernel
theorem dX7_goesInto_13 : decode cX7_goesInto 13 = .ok (.iload_n 0, 1) := by decide +kernel
theorem dX7_goesInto_14 : decode cX7_goesInto 14 = .ok (.iaload, 1) := by decide +kernel
theorem dX7_goesInto_15 : decode cX7_goesInto 15 = .ok (.iload_n 1, 1) := by decide +kernel
theorem dX7_goesInto_16 : decode cX7_goesInto 16 = .ok (.ishr, 1) := by decide +kernel
theorem dX7_goesInto_17 : decode cX7_goesInto 17 = .ok (.iconst 1, 1) := by decide +kernel
theorem dX7_goesInto_18 : decode cX7_goesInto 18 = .ok (.iand, 1) := by decide +kernel
theorem dX7_goesInto_19 : decode cX7_goesInto 19 = .ok (.iconst 1, 1) := by decide +kernel
theorem dX7_goesInto_20 : decode cX7_goesInto 20 = .ok (.if_icmp .ne 7, 3) := by decide +kernel
theorem dX7_goesInto_23 : decode cX7_goesInto 23 = .ok (.iconst 1, 1) := by decide +kernel
theorem dX7_goesInto_24 : decode cX7_goesInto 24 = .ok (.goto 4, 3) := by decide +kernel
theorem dX7_goesInto_27 : decode cX7_goesInto 27 = .ok (.iconst 0, 1) := by decide +kernel
theorem dX7_goesInto_28 : decode cX7_goesInto 28 = .ok (.ireturn, 1) := by decide +kernel
theorem dX7_asKind_0 : decode cX7_asKind 0 = .ok (.iload_n 0, 1) := by decide +kernel
theorem dX7_asKind_1 : decode cX7_asKind 1 = .ok (.tableswitch 80 0 6 #[43, 55, 60, 65, 70, 74, 76], 43) := by decide +kernel
theorem dX7_asKind_44 : decode cX7_asKind 44 = .ok (.lload_n 1, 1) := by decide +kernel
theorem dX7_asKind_45 : decode cX7_asKind 45 = .ok (.lconst 0, 1) := by decide +kernel
theorem dX7_asKind_46 : decode cX7_asKind 46 = .ok (.lcmp, 1) := by decide +kernel
theorem dX7_asKind_47 : decode cX7_asKind 47 = .ok (.ifCond .eq 7, 3) := by decide +kernel
theorem dX7_asKind_50 : decode cX7_asKind 50 = .ok (.lconst 1, 1) := by decide +kernel
theorem dX7_asKind_51 : decode cX7_asKind 51 = .ok (.goto 4, 3) := by decide +kernel
theorem dX7_asKind_54 : decode cX7_asKind 54 = .ok (.lconst 0, 1) := by decide +kernel
theorem dX7_asKind_55 : decode cX7_asKind 55 = .ok (.lreturn, 1) := by decide +kernel
theorem dX7_asKind_56 : decode cX7_asKind 56 = .ok (.lload_n 1, 1) := by decide +kernel
theorem dX7_asKind_57 : decode cX7_asKind 57 = .ok (.l2i, 1) := by decide +kernel
theorem dX7_asKind_58 : decode cX7_asKind 58 = .ok (.i2b, 1) := by decide +kernel
theorem dX7_asKind_59 : decode cX7_asKind 59 = .ok (.i2l, 1) := by decide +kernel
theorem dX7_asKind_60 : decode cX7_asKind 60 = .ok (.lreturn, 1) := by decide +kernel
theorem dX7_asKind_61 : decode cX7_asKind 61 = .ok (.lload_n 1, 1) := by decide +kernel
theorem dX7_asKind_62 : decode cX7_asKind 62 = .ok (.l2i, 1) := by decide +kernel
theorem dX7_asKind_63 : decode cX7_asKind 63 = .ok (.i2c, 1) := by decide +kernel
theorem dX7_asKind_64 : decode cX7_asKind 64 = .ok (.i2l, 1) := by decide +kernel
theorem dX7_asKind_65 : decode cX7_asKind 65 = .ok (.lreturn, 1) := by decide +kernel
theorem dX7_asKind_66 : decode cX7_asKind 66 = .ok (.lload_n 1, 1) := by decide +kernel
theorem dX7_asKind_67 : decode cX7_asKind 67 = .ok (.l2i, 1) := by decide +kernel
theorem dX7_asKind_68 : decode cX7_asKind 68 = .ok (.i2s, 1) := by decide +kernel
theorem dX7_asKind_69 : decode cX7_asKind 69 = .ok (.i2l, 1) := by decide +kernel
theorem dX7_asKind_70 : decode cX7_asKind 70 = .ok (.lreturn, 1) := by decide +kernel
theorem dX7_asKind_71 : decode cX7_asKind 71 = .ok (.lload_n 1, 1) := by decide +kernel
theorem dX7_asKind_72 : decode cX7_asKind 72 = .ok (.l2i, 1) := by decide +kernel
theorem dX7_asKind_73 : decode cX7_asKind 73 = .ok (.i2l, 1) := by decide +kernel
theorem dX7_asKind_74 : decode cX7_asKind 74 = .ok (.lreturn, 1) := by decide +kernel
theorem dX7_asKind_75 : decode cX7_asKind 75 = .ok (.lload_n 1, 1) := by decide +kernel
theorem dX7_asKind_76 : decode cX7_asKind 76 = .ok (.lreturn, 1) := by decide +kernel
theorem dX7_asKind_77 : decode cX7_asKind 77 = .ok (.lload_n 1, 1) := by decide +kernel
theorem dX7_asKind_78 : decode cX7_asKind 78 = .ok (.l2f, 1) := by decide +kernel
theorem dX7_asKind_79 : decode cX7_asKind 79 = .ok (.f2l, 1) := by decide +kernel
theorem dX7_asKind_80 : decode cX7_asKind 80 = .ok (.lreturn, 1) := by decide +kernel
theorem dX7_asKind_81 : decode cX7_asKind 81 = .ok (.lload_n 1, 1) := by decide +kernel
theorem dX7_asKind_82 : decode cX7_asKind 82 = .ok (.l2d, 1) := by decide +kernel
theorem dX7_asKind_83 : decode cX7_asKind 83 = .ok (.d2l, 1) := by decide +kernel
theorem dX7_asKind_84 : decode cX7_asKind 84 = .ok (.lreturn, 1) := by decide +kernel
theorem dX7_answer_0 : decode cX7_answer 0 = .ok (.iload_n 1, 1) := by decide +kernel
theorem dX7_answer_1 : decode cX7_answer 1 = .ok (.ifCond .ne 5, 3) := by decide +kernel
theorem dX7_answer_4 : decode cX7_answer 4 = .ok (.iload_n 2, 1) := by decide +kernel
theorem dX7_answer_5 : decode cX7_answer 5 = .ok (.ireturn, 1) := by decide +kernel
theorem dX7_answer_6 : decode cX7_answer 6 = .ok (.aload_n 0, 1) := by decide +kernel
theorem dX7_answer_7 : decode cX7_answer 7 = .ok (.iload_n 1, 1) := by decide +kernel
theorem dX7_answer_8 : decode cX7_answer 8 = .ok (.invokevirtual 117, 3) := by decide +kernel
theorem dX7_answer_11 : decode cX7_answer 11 = .ok (.bipush (-10), 2) := by decide +kernel
theorem dX7_answer_13 : decode cX7_answer 13 = .ok (.iload_n 1, 1) := by decide +kernel
theorem dX7_answer_14 : decode cX7_answer 14 = .ok (.isub, 1) := by decide +kernel
theorem dX7_answer_15 : decode cX7_answer 15 = .ok (.ireturn, 1) := by decide +kernel
theorem dX7_countFault_0 : decode cX7_countFault 0 = .ok (.aload_n 0, 1) := by decide +kernel
theorem dX7_countFault_1 : decode cX7_countFault 1 = .ok (.iload_n 1, 1) := by decide +kernel
theorem dX7_countFault_2 : decode cX7_countFault 2 = .ok (.putfield 148, 3) := by decide +kernel
theorem dX7_countFault_5 : decode cX7_countFault 5 = .ok (.aload_n 0, 1) := by decide +kernel
theorem dX7_countFault_6 : decode cX7_countFault 6 = .ok (.getfield 32, 3) := by decide +kernel
theorem dX7_countFault_9 : decode cX7_countFault 9 = .ok (.iload_n 1, 1) := by decide +kernel
theorem dX7_countFault_10 : decode cX7_countFault 10 = .ok (.dup2, 1) := by decide +kernel
theorem dX7_countFault_11 : decode cX7_countFault 11 = .ok (.iaload, 1) := by decide +kernel
theorem dX7_countFault_12 : decode cX7_countFault 12 = .ok (.iconst 1, 1) := by decide +kernel
theorem dX7_countFault_13 : decode cX7_countFault 13 = .ok (.iadd, 1) := by decide +kernel
theorem dX7_countFault_14 : decode cX7_countFault 14 = .ok (.iastore, 1) := by decide +kernel
theorem dX7_countFault_15 : decode cX7_countFault 15 = .ok (.aload_n 0, 1) := by decide +kernel
theorem dX7_countFault_16 : decode cX7_countFault 16 = .ok (.getfield 32, 3) := by decide +kernel
theorem dX7_countFault_19 : decode cX7_countFault 19 = .ok (.iconst 0, 1) := by decide +kernel
theorem dX7_countFault_20 : decode cX7_countFault 20 = .ok (.dup2, 1) := by decide +kernel
theorem dX7_countFault_21 : decode cX7_countFault 21 = .ok (.iaload, 1) := by decide +kernel
theorem dX7_countFault_22 : decode cX7_countFault 22 = .ok (.iconst 1, 1) := by decide +kernel
theorem dX7_countFault_23 : decode cX7_countFault 23 = .ok (.iadd, 1) := by decide +kernel
theorem dX7_countFault_24 : decode cX7_countFault 24 = .ok (.iastore, 1) := by decide +kernel
theorem dX7_countFault_25 : decode cX7_countFault 25 = .ok (.return_, 1) := by decide +kernel
theorem dX7_rowFault_0 : decode cX7_rowFault 0 = .ok (.aload_n 0, 1) := by decide +kernel
theorem dX7_rowFault_1 : decode cX7_rowFault 1 = .ok (.ifnonnull 5, 3) := by decide +kernel
theorem dX7_rowFault_4 : decode cX7_rowFault 4 = .ok (.iconst 1, 1) := by decide +kernel
theorem dX7_rowFault_5 : decode cX7_rowFault 5 = .ok (.ireturn, 1) := by decide +kernel
theorem dX7_rowFault_6 : decode cX7_rowFault 6 = .ok (.aload_n 0, 1) := by decide +kernel
theorem dX7_rowFault_7 : decode cX7_rowFault 7 = .ok (.instanceof 151, 3) := by decide +kernel
theorem dX7_rowFault_10 : decode cX7_rowFault 10 = .ok (.ifCond .eq 7, 3) := by decide +kernel
theorem dX7_rowFault_13 : decode cX7_rowFault 13 = .ok (.iconst 0, 1) := by decide +kernel
theorem dX7_rowFault_14 : decode cX7_rowFault 14 = .ok (.goto 4, 3) := by decide +kernel
theorem dX7_rowFault_17 : decode cX7_rowFault 17 = .ok (.iconst 2, 1) := by decide +kernel
theorem dX7_rowFault_18 : decode cX7_rowFault 18 = .ok (.ireturn, 1) := by decide +kernel
theorem dX7_placeFault_0 : decode cX7_placeFault 0 = .ok (.aload_n 0, 1) := by decide +kernel
theorem dX7_placeFault_1 : decode cX7_placeFault 1 = .ok (.invokestatic 98, 3) := by decide +kernel
theorem dX7_placeFault_4 : decode cX7_placeFault 4 = .ok (.istore_n 2, 1) := by decide +kernel
theorem dX7_placeFault_5 : decode cX7_placeFault 5 = .ok (.iload_n 2, 1) := by decide +kernel
theorem dX7_placeFault_6 : decode cX7_placeFault 6 = .ok (.ifCond .eq 5, 3) := by decide +kernel
theorem dX7_placeFault_9 : decode cX7_placeFault 9 = .ok (.iload_n 2, 1) := by decide +kernel
theorem dX7_placeFault_10 : decode cX7_placeFault 10 = .ok (.ireturn, 1) := by decide +kernel
theorem dX7_placeFault_11 : decode cX7_placeFault 11 = .ok (.iload_n 1, 1) := by decide +kernel
theorem dX7_placeFault_12 : decode cX7_placeFault 12 = .ok (.ifCond .lt 11, 3) := by decide +kernel
theorem dX7_placeFault_15 : decode cX7_placeFault 15 = .ok (.iload_n 1, 1) := by decide +kernel
theorem dX7_placeFault_16 : decode cX7_placeFault 16 = .ok (.aload_n 0, 1) := by decide +kernel
theorem dX7_placeFault_17 : decode cX7_placeFault 17 = .ok (.invokestatic 102, 3) := by decide +kernel
theorem dX7_placeFault_20 : decode cX7_placeFault 20 = .ok (.if_icmp .lt 7, 3) := by decide +kernel
theorem dX7_placeFault_23 : decode cX7_placeFault 23 = .ok (.iconst 3, 1) := by decide +kernel
theorem dX7_placeFault_24 : decode cX7_placeFault 24 = .ok (.goto 4, 3) := by decide +kernel
theorem dX7_placeFault_27 : decode cX7_placeFault 27 = .ok (.iconst 0, 1) := by decide +kernel
theorem dX7_placeFault_28 : decode cX7_placeFault 28 = .ok (.ireturn, 1) := by decide +kernel
theorem dX7_placesOf_0 : decode cX7_placesOf 0 = .ok (.aload_n 0, 1) := by decide +kernel
theorem dX7_placesOf_1 : decode cX7_placesOf 1 = .ok (.instanceof 151, 3) := by decide +kernel
theorem dX7_placesOf_4 : decode cX7_placesOf 4 = .ok (.ifCond .eq 15, 3) := by decide +kernel
theorem dX7_placesOf_7 : decode cX7_placesOf 7 = .ok (.aload_n 0, 1) := by decide +kernel
theorem dX7_placesOf_8 : decode cX7_placesOf 8 = .ok (.checkcast 151, 3) := by decide +kernel
theorem dX7_placesOf_11 : decode cX7_placesOf 11 = .ok (.astore_n 1, 1) := by decide +kernel
theorem dX7_placesOf_12 : decode cX7_placesOf 12 = .ok (.aload_n 1, 1) := by decide +kernel
theorem dX7_placesOf_13 : decode cX7_placesOf 13 = .ok (.getfield 161, 3) := by decide +kernel
theorem dX7_placesOf_16 : decode cX7_placesOf 16 = .ok (.goto 4, 3) := by decide +kernel
theorem dX7_placesOf_19 : decode cX7_placesOf 19 = .ok (.iconst 0, 1) := by decide +kernel
theorem dX7_placesOf_20 : decode cX7_placesOf 20 = .ok (.ireturn, 1) := by decide +kernel
theorem dX7_getPlace_0 : decode cX7_getPlace 0 = .ok (.aload_n 0, 1) := by decide +kernel
theorem dX7_getPlace_1 : decode cX7_getPlace 1 = .ok (.iload_n 1, 1) := by decide +kernel
theorem dX7_getPlace_2 : decode cX7_getPlace 2 = .ok (.invokestatic 121, 3) := by decide +kernel
theorem dX7_getPlace_5 : decode cX7_getPlace 5 = .ok (.istore_n 3, 1) := by decide +kernel
theorem dX7_getPlace_6 : decode cX7_getPlace 6 = .ok (.iload_n 3, 1) := by decide +kernel
theorem dX7_getPlace_7 : decode cX7_getPlace 7 = .ok (.ifCond .eq 5, 3) := by decide +kernel
theorem dX7_getPlace_10 : decode cX7_getPlace 10 = .ok (.iload_n 3, 1) := by decide +kernel
theorem dX7_getPlace_11 : decode cX7_getPlace 11 = .ok (.ireturn, 1) := by decide +kernel
theorem dX7_getPlace_12 : decode cX7_getPlace 12 = .ok (.aload_n 0, 1) := by decide +kernel
theorem dX7_getPlace_13 : decode cX7_getPlace 13 = .ok (.instanceof 43, 3) := by decide +kernel
theorem dX7_getPlace_16 : decode cX7_getPlace 16 = .ok (.ifCond .eq 28, 3) := by decide +kernel
theorem dX7_getPlace_19 : decode cX7_getPlace 19 = .ok (.aload_n 0, 1) := by decide +kernel
theorem dX7_getPlace_20 : decode cX7_getPlace 20 = .ok (.checkcast 43, 3) := by decide +kernel
theorem dX7_getPlace_23 : decode cX7_getPlace 23 = .ok (.astore 4, 2) := by decide +kernel
theorem dX7_getPlace_25 : decode cX7_getPlace 25 = .ok (.aload_n 2, 1) := by decide +kernel
theorem dX7_getPlace_26 : decode cX7_getPlace 26 = .ok (.aload 4, 2) := by decide +kernel
theorem dX7_getPlace_28 : decode cX7_getPlace 28 = .ok (.getfield 164, 3) := by decide +kernel
theorem dX7_getPlace_31 : decode cX7_getPlace 31 = .ok (.aload 4, 2) := by decide +kernel
theorem dX7_getPlace_33 : decode cX7_getPlace 33 = .ok (.getfield 165, 3) := by decide +kernel
theorem dX7_getPlace_36 : decode cX7_getPlace 36 = .ok (.iload_n 1, 1) := by decide +kernel
theorem dX7_getPlace_37 : decode cX7_getPlace 37 = .ok (.laload, 1) := by decide +kernel
theorem dX7_getPlace_38 : decode cX7_getPlace 38 = .ok (.invokevirtual 55, 3) := by decide +kernel
theorem dX7_getPlace_41 : decode cX7_getPlace 41 = .ok (.goto 27, 3) := by decide +kernel
theorem dX7_getPlace_44 : decode cX7_getPlace 44 = .ok (.aload_n 0, 1) := by decide +kernel
theorem dX7_getPlace_45 : decode cX7_getPlace 45 = .ok (.instanceof 48, 3) := by decide +kernel
theorem dX7_getPlace_48 : decode cX7_getPlace 48 = .ok (.ifCond .eq 20, 3) := by decide +kernel
theorem dX7_getPlace_51 : decode cX7_getPlace 51 = .ok (.aload_n 0, 1) := by decide +kernel
theorem dX7_getPlace_52 : decode cX7_getPlace 52 = .ok (.checkcast 48, 3) := by decide +kernel
theorem dX7_getPlace_55 : decode cX7_getPlace 55 = .ok (.astore 5, 2) := by decide +kernel
theorem dX7_getPlace_57 : decode cX7_getPlace 57 = .ok (.aload_n 2, 1) := by decide +kernel
theorem dX7_getPlace_58 : decode cX7_getPlace 58 = .ok (.aload 5, 2) := by decide +kernel
theorem dX7_getPlace_60 : decode cX7_getPlace 60 = .ok (.getfield 169, 3) := by decide +kernel
theorem dX7_getPlace_63 : decode cX7_getPlace 63 = .ok (.iload_n 1, 1) := by decide +kernel
theorem dX7_getPlace_64 : decode cX7_getPlace 64 = .ok (.aaload, 1) := by decide +kernel
theorem dX7_getPlace_65 : decode cX7_getPlace 65 = .ok (.invokevirtual 68, 3) := by decide +kernel
theorem dX7_getPlace_68 : decode cX7_getPlace 68 = .ok (.iconst 0, 1) := by decide +kernel
theorem dX7_getPlace_69 : decode cX7_getPlace 69 = .ok (.ireturn, 1) := by decide +kernel
theorem dX7_setPlace_0 : decode cX7_setPlace 0 = .ok (.aload_n 0, 1) := by decide +kernel
theorem dX7_setPlace_1 : decode cX7_setPlace 1 = .ok (.ifnonnull 5, 3) := by decide +kernel
theorem dX7_setPlace_4 : decode cX7_setPlace 4 = .ok (.iconst 1, 1) := by decide +kernel
theorem dX7_setPlace_5 : decode cX7_setPlace 5 = .ok (.ireturn, 1) := by decide +kernel
theorem dX7_setPlace_6 : decode cX7_setPlace 6 = .ok (.aload_n 0, 1) := by decide +kernel
theorem dX7_setPlace_7 : decode cX7_setPlace 7 = .ok (.instanceof 43, 3) := by decide +kernel
theorem dX7_setPlace_10 : decode cX7_setPlace 10 = .ok (.ifCond .eq 15, 3) := by decide +kernel
theorem dX7_setPlace_13 : decode cX7_setPlace 13 = .ok (.aload_n 0, 1) := by decide +kernel
theorem dX7_setPlace_14 : decode cX7_setPlace 14 = .ok (.checkcast 43, 3) := by decide +kernel
theorem dX7_setPlace_17 : decode cX7_setPlace 17 = .ok (.astore_n 3, 1) := by decide +kernel
theorem dX7_setPlace_18 : decode cX7_setPlace 18 = .ok (.aload_n 3, 1) := by decide +kernel
theorem dX7_setPlace_19 : decode cX7_setPlace 19 = .ok (.iload_n 1, 1) := by decide +kernel
theorem dX7_setPlace_20 : decode cX7_setPlace 20 = .ok (.aload_n 2, 1) := by decide +kernel
theorem dX7_setPlace_21 : decode cX7_setPlace 21 = .ok (.invokestatic 172, 3) := by decide +kernel
theorem dX7_setPlace_24 : decode cX7_setPlace 24 = .ok (.ireturn, 1) := by decide +kernel
theorem dX7_setPlace_25 : decode cX7_setPlace 25 = .ok (.aload_n 0, 1) := by decide +kernel
theorem dX7_setPlace_26 : decode cX7_setPlace 26 = .ok (.instanceof 48, 3) := by decide +kernel
theorem dX7_setPlace_29 : decode cX7_setPlace 29 = .ok (.ifCond .eq 15, 3) := by decide +kernel
theorem dX7_setPlace_32 : decode cX7_setPlace 32 = .ok (.aload_n 0, 1) := by decide +kernel
theorem dX7_setPlace_33 : decode cX7_setPlace 33 = .ok (.checkcast 48, 3) := by decide +kernel
theorem dX7_setPlace_36 : decode cX7_setPlace 36 = .ok (.astore_n 3, 1) := by decide +kernel
theorem dX7_setPlace_37 : decode cX7_setPlace 37 = .ok (.aload_n 3, 1) := by decide +kernel
theorem dX7_setPlace_38 : decode cX7_setPlace 38 = .ok (.iload_n 1, 1) := by decide +kernel
theorem dX7_setPlace_39 : decode cX7_setPlace 39 = .ok (.aload_n 2, 1) := by decide +kernel
theorem dX7_setPlace_40 : decode cX7_setPlace 40 = .ok (.invokestatic 176, 3) := by decide +kernel
theorem dX7_setPlace_43 : decode cX7_setPlace 43 = .ok (.ireturn, 1) := by decide +kernel
theorem dX7_setPlace_44 : decode cX7_setPlace 44 = .ok (.iconst 2, 1) := by decide +kernel
theorem dX7_setPlace_45 : decode cX7_setPlace 45 = .ok (.ireturn, 1) := by decide +kernel
theorem dX7_setNumber_0 : decode cX7_setNumber 0 = .ok (.aload_n 2, 1) := by decide +kernel
theorem dX7_setNumber_1 : decode cX7_setNumber 1 = .ok (.getfield 76, 3) := by decide +kernel
theorem dX7_setNumber_4 : decode cX7_setNumber 4 = .ok (.bipush (-9), 2) := by decide +kernel
theorem dX7_setNumber_6 : decode cX7_setNumber 6 = .ok (.if_icmp .ne 5, 3) := by decide +kernel
theorem dX7_setNumber_9 : decode cX7_setNumber 9 = .ok (.iconst 2, 1) := by decide +kernel
theorem dX7_setNumber_10 : decode cX7_setNumber 10 = .ok (.ireturn, 1) := by decide +kernel
theorem dX7_setNumber_11 : decode cX7_setNumber 11 = .ok (.aload_n 0, 1) := by decide +kernel
theorem dX7_setNumber_12 : decode cX7_setNumber 12 = .ok (.iload_n 1, 1) := by decide +kernel
theorem dX7_setNumber_13 : decode cX7_setNumber 13 = .ok (.aload_n 2, 1) := by decide +kernel
theorem dX7_setNumber_14 : decode cX7_setNumber 14 = .ok (.getfield 76, 3) := by decide +kernel
theorem dX7_setNumber_17 : decode cX7_setNumber 17 = .ok (.aload_n 2, 1) := by decide +kernel
theorem dX7_setNumber_18 : decode cX7_setNumber 18 = .ok (.getfield 90, 3) := by decide +kernel
theorem dX7_setNumber_21 : decode cX7_setNumber 21 = .ok (.invokestatic 94, 3) := by decide +kernel
theorem dX7_setNumber_24 : decode cX7_setNumber 24 = .ok (.ireturn, 1) := by decide +kernel
theorem dX7_setThing_0 : decode cX7_setThing 0 = .ok (.iload_n 1, 1) := by decide +kernel
theorem dX7_setThing_1 : decode cX7_setThing 1 = .ok (.ifCond .lt 11, 3) := by decide +kernel
theorem dX7_setThing_4 : decode cX7_setThing 4 = .ok (.iload_n 1, 1) := by decide +kernel
theorem dX7_setThing_5 : decode cX7_setThing 5 = .ok (.aload_n 0, 1) := by decide +kernel
theorem dX7_setThing_6 : decode cX7_setThing 6 = .ok (.getfield 180, 3) := by decide +kernel
theorem dX7_setThing_9 : decode cX7_setThing 9 = .ok (.if_icmp .lt 5, 3) := by decide +kernel
theorem dX7_setThing_12 : decode cX7_setThing 12 = .ok (.iconst 3, 1) := by decide +kernel
theorem dX7_setThing_13 : decode cX7_setThing 13 = .ok (.ireturn, 1) := by decide +kernel
theorem dX7_setThing_14 : decode cX7_setThing 14 = .ok (.aload_n 2, 1) := by decide +kernel
theorem dX7_setThing_15 : decode cX7_setThing 15 = .ok (.getfield 76, 3) := by decide +kernel
theorem dX7_setThing_18 : decode cX7_setThing 18 = .ok (.bipush (-9), 2) := by decide +kernel
theorem dX7_setThing_20 : decode cX7_setThing 20 = .ok (.if_icmp .eq 19, 3) := by decide +kernel
theorem dX7_setThing_23 : decode cX7_setThing 23 = .ok (.aload_n 2, 1) := by decide +kernel
theorem dX7_setThing_24 : decode cX7_setThing 24 = .ok (.getfield 76, 3) := by decide +kernel
theorem dX7_setThing_27 : decode cX7_setThing 27 = .ok (.aload_n 0, 1) := by decide +kernel
theorem dX7_setThing_28 : decode cX7_setThing 28 = .ok (.getfield 181, 3) := by decide +kernel
theorem dX7_setThing_31 : decode cX7_setThing 31 = .ok (.invokestatic 182, 3) := by decide +kernel
theorem dX7_setThing_34 : decode cX7_setThing 34 = .ok (.ifCond .ne 5, 3) := by decide +kernel
theorem dX7_setThing_37 : decode cX7_setThing 37 = .ok (.iconst 2, 1) := by decide +kernel
theorem dX7_setThing_38 : decode cX7_setThing 38 = .ok (.ireturn, 1) := by decide +kernel
theorem dX7_setThing_39 : decode cX7_setThing 39 = .ok (.aload_n 0, 1) := by decide +kernel
theorem dX7_setThing_40 : decode cX7_setThing 40 = .ok (.getfield 169, 3) := by decide +kernel
theorem dX7_setThing_43 : decode cX7_setThing 43 = .ok (.iload_n 1, 1) := by decide +kernel
theorem dX7_setThing_44 : decode cX7_setThing 44 = .ok (.aload_n 2, 1) := by decide +kernel
theorem dX7_setThing_45 : decode cX7_setThing 45 = .ok (.getfield 51, 3) := by decide +kernel
theorem dX7_setThing_48 : decode cX7_setThing 48 = .ok (.aastore, 1) := by decide +kernel
theorem dX7_setThing_49 : decode cX7_setThing 49 = .ok (.iconst 0, 1) := by decide +kernel
theorem dX7_setThing_50 : decode cX7_setThing 50 = .ok (.ireturn, 1) := by decide +kernel
theorem dX7_readPlace_0 : decode cX7_readPlace 0 = .ok (.aload_n 0, 1) := by decide +kernel
theorem dX7_readPlace_1 : decode cX7_readPlace 1 = .ok (.ifnonnull 5, 3) := by decide +kernel
theorem dX7_readPlace_4 : decode cX7_readPlace 4 = .ok (.iconst 1, 1) := by decide +kernel
theorem dX7_readPlace_5 : decode cX7_readPlace 5 = .ok (.ireturn, 1) := by decide +kernel
theorem dX7_readPlace_6 : decode cX7_readPlace 6 = .ok (.aload_n 0, 1) := by decide +kernel
theorem dX7_readPlace_7 : decode cX7_readPlace 7 = .ok (.instanceof 43, 3) := by decide +kernel
theorem dX7_readPlace_10 : decode cX7_readPlace 10 = .ok (.ifCond .eq 52, 3) := by decide +kernel
theorem dX7_readPlace_13 : decode cX7_readPlace 13 = .ok (.aload_n 0, 1) := by decide +kernel
theorem dX7_readPlace_14 : decode cX7_readPlace 14 = .ok (.checkcast 43, 3) := by decide +kernel
theorem dX7_readPlace_17 : decode cX7_readPlace 17 = .ok (.astore 4, 2) := by decide +kernel
theorem dX7_readPlace_19 : decode cX7_readPlace 19 = .ok (.iload_n 1, 1) := by decide +kernel
theorem dX7_readPlace_20 : decode cX7_readPlace 20 = .ok (.ifCond .lt 12, 3) := by decide +kernel
theorem dX7_readPlace_23 : decode cX7_readPlace 23 = .ok (.iload_n 1, 1) := by decide +kernel
theorem dX7_readPlace_24 : decode cX7_readPlace 24 = .ok (.aload 4, 2) := by decide +kernel
theorem dX7_readPlace_26 : decode cX7_readPlace 26 = .ok (.getfield 186, 3) := by decide +kernel
theorem dX7_readPlace_29 : decode cX7_readPlace 29 = .ok (.if_icmp .lt 5, 3) := by decide +kernel
theorem dX7_readPlace_32 : decode cX7_readPlace 32 = .ok (.iconst 3, 1) := by decide +kernel
theorem dX7_readPlace_33 : decode cX7_readPlace 33 = .ok (.ireturn, 1) := by decide +kernel
theorem dX7_readPlace_34 : decode cX7_readPlace 34 = .ok (.aload 4, 2) := by decide +kernel
theorem dX7_readPlace_36 : decode cX7_readPlace 36 = .ok (.getfield 164, 3) := by decide +kernel
theorem dX7_readPlace_39 : decode cX7_readPlace 39 = .ok (.iload_n 2, 1) := by decide +kernel
theorem dX7_readPlace_40 : decode cX7_readPlace 40 = .ok (.invokestatic 182, 3) := by decide +kernel
theorem dX7_readPlace_43 : decode cX7_readPlace 43 = .ok (.ifCond .ne 5, 3) := by decide +kernel
theorem dX7_readPlace_46 : decode cX7_readPlace 46 = .ok (.iconst 2, 1) := by decide +kernel
theorem dX7_readPlace_47 : decode cX7_readPlace 47 = .ok (.ireturn, 1) := by decide +kernel
theorem dX7_readPlace_48 : decode cX7_readPlace 48 = .ok (.aload_n 3, 1) := by decide +kernel
theorem dX7_readPlace_49 : decode cX7_readPlace 49 = .ok (.iload_n 2, 1) := by decide +kernel
theorem dX7_readPlace_50 : decode cX7_readPlace 50 = .ok (.aload 4, 2) := by decide +kernel
theorem dX7_readPlace_52 : decode cX7_readPlace 52 = .ok (.getfield 165, 3) := by decide +kernel
theorem dX7_readPlace_55 : decode cX7_readPlace 55 = .ok (.iload_n 1, 1) := by decide +kernel
theorem dX7_readPlace_56 : decode cX7_readPlace 56 = .ok (.laload, 1) := by decide +kernel
theorem dX7_readPlace_57 : decode cX7_readPlace 57 = .ok (.invokevirtual 55, 3) := by decide +kernel
theorem dX7_readPlace_60 : decode cX7_readPlace 60 = .ok (.iconst 0, 1) := by decide +kernel
theorem dX7_readPlace_61 : decode cX7_readPlace 61 = .ok (.ireturn, 1) := by decide +kernel
theorem dX7_readPlace_62 : decode cX7_readPlace 62 = .ok (.iconst 2, 1) := by decide +kernel
theorem dX7_readPlace_63 : decode cX7_readPlace 63 = .ok (.ireturn, 1) := by decide +kernel
theorem dX7_writePlace_0 : decode cX7_writePlace 0 = .ok (.aload_n 0, 1) := by decide +kernel
theorem dX7_writePlace_1 : decode cX7_writePlace 1 = .ok (.ifnonnull 5, 3) := by decide +kernel
theorem dX7_writePlace_4 : decode cX7_writePlace 4 = .ok (.iconst 1, 1) := by decide +kernel
theorem dX7_writePlace_5 : decode cX7_writePlace 5 = .ok (.ireturn, 1) := by decide +kernel
theorem dX7_writePlace_6 : decode cX7_writePlace 6 = .ok (.aload_n 0, 1) := by decide +kernel
theorem dX7_writePlace_7 : decode cX7_writePlace 7 = .ok (.instanceof 43, 3) := by decide +kernel
theorem dX7_writePlace_10 : decode cX7_writePlace 10 = .ok (.ifCond .eq 60, 3) := by decide +kernel
theorem dX7_writePlace_13 : decode cX7_writePlace 13 = .ok (.aload_n 0, 1) := by decide +kernel
theorem dX7_writePlace_14 : decode cX7_writePlace 14 = .ok (.checkcast 43, 3) := by decide +kernel
theorem dX7_writePlace_17 : decode cX7_writePlace 17 = .ok (.astore 5, 2) := by decide +kernel
theorem dX7_writePlace_19 : decode cX7_writePlace 19 = .ok (.iload_n 1, 1) := by decide +kernel
theorem dX7_writePlace_20 : decode cX7_writePlace 20 = .ok (.ifCond .lt 12, 3) := by decide +kernel
theorem dX7_writePlace_23 : decode cX7_writePlace 23 = .ok (.iload_n 1, 1) := by decide +kernel
theorem dX7_writePlace_24 : decode cX7_writePlace 24 = .ok (.aload 5, 2) := by decide +kernel
theorem dX7_writePlace_26 : decode cX7_writePlace 26 = .ok (.getfield 186, 3) := by decide +kernel
theorem dX7_writePlace_29 : decode cX7_writePlace 29 = .ok (.if_icmp .lt 5, 3) := by decide +kernel
theorem dX7_writePlace_32 : decode cX7_writePlace 32 = .ok (.iconst 3, 1) := by decide +kernel
theorem dX7_writePlace_33 : decode cX7_writePlace 33 = .ok (.ireturn, 1) := by decide +kernel
theorem dX7_writePlace_34 : decode cX7_writePlace 34 = .ok (.iload_n 2, 1) := by decide +kernel
theorem dX7_writePlace_35 : decode cX7_writePlace 35 = .ok (.aload 5, 2) := by decide +kernel
theorem dX7_writePlace_37 : decode cX7_writePlace 37 = .ok (.getfield 164, 3) := by decide +kernel
theorem dX7_writePlace_40 : decode cX7_writePlace 40 = .ok (.invokestatic 182, 3) := by decide +kernel
theorem dX7_writePlace_43 : decode cX7_writePlace 43 = .ok (.ifCond .ne 5, 3) := by decide +kernel
theorem dX7_writePlace_46 : decode cX7_writePlace 46 = .ok (.iconst 2, 1) := by decide +kernel
theorem dX7_writePlace_47 : decode cX7_writePlace 47 = .ok (.ireturn, 1) := by decide +kernel
theorem dX7_writePlace_48 : decode cX7_writePlace 48 = .ok (.aload 5, 2) := by decide +kernel
theorem dX7_writePlace_50 : decode cX7_writePlace 50 = .ok (.getfield 165, 3) := by decide +kernel
theorem dX7_writePlace_53 : decode cX7_writePlace 53 = .ok (.iload_n 1, 1) := by decide +kernel
theorem dX7_writePlace_54 : decode cX7_writePlace 54 = .ok (.aload 5, 2) := by decide +kernel
theorem dX7_writePlace_56 : decode cX7_writePlace 56 = .ok (.getfield 164, 3) := by decide +kernel
theorem dX7_writePlace_59 : decode cX7_writePlace 59 = .ok (.iload_n 2, 1) := by decide +kernel
theorem dX7_writePlace_60 : decode cX7_writePlace 60 = .ok (.lload_n 3, 1) := by decide +kernel
theorem dX7_writePlace_61 : decode cX7_writePlace 61 = .ok (.invokestatic 187, 3) := by decide +kernel
theorem dX7_writePlace_64 : decode cX7_writePlace 64 = .ok (.invokestatic 187, 3) := by decide +kernel
theorem dX7_writePlace_67 : decode cX7_writePlace 67 = .ok (.lastore, 1) := by decide +kernel
theorem dX7_writePlace_68 : decode cX7_writePlace 68 = .ok (.iconst 0, 1) := by decide +kernel
theorem dX7_writePlace_69 : decode cX7_writePlace 69 = .ok (.ireturn, 1) := by decide +kernel
theorem dX7_writePlace_70 : decode cX7_writePlace 70 = .ok (.iconst 2, 1) := by decide +kernel
theorem dX7_writePlace_71 : decode cX7_writePlace 71 = .ok (.ireturn, 1) := by decide +kernel
theorem dX7_readWithin_0 : decode cX7_readWithin 0 = .ok (.aload_n 0, 1) := by decide +kernel
theorem dX7_readWithin_1 : decode cX7_readWithin 1 = .ok (.aload_n 1, 1) := by decide +kernel
theorem dX7_readWithin_2 : decode cX7_readWithin 2 = .ok (.iload_n 2, 1) := by decide +kernel
theorem dX7_readWithin_3 : decode cX7_readWithin 3 = .ok (.invokevirtual 191, 3) := by decide +kernel
theorem dX7_readWithin_6 : decode cX7_readWithin 6 = .ok (.istore 4, 2) := by decide +kernel
theorem dX7_readWithin_8 : decode cX7_readWithin 8 = .ok (.iload 4, 2) := by decide +kernel
theorem dX7_readWithin_10 : decode cX7_readWithin 10 = .ok (.ifCond .eq 8, 3) := by decide +kernel
theorem dX7_readWithin_13 : decode cX7_readWithin 13 = .ok (.iload 4, 2) := by decide +kernel
theorem dX7_readWithin_15 : decode cX7_readWithin 15 = .ok (.goto 19, 3) := by decide +kernel
theorem dX7_readWithin_18 : decode cX7_readWithin 18 = .ok (.aload_n 0, 1) := by decide +kernel
theorem dX7_readWithin_19 : decode cX7_readWithin 19 = .ok (.getfield 22, 3) := by decide +kernel
theorem dX7_readWithin_22 : decode cX7_readWithin 22 = .ok (.getfield 51, 3) := by decide +kernel
theorem dX7_readWithin_25 : decode cX7_readWithin 25 = .ok (.iload_n 3, 1) := by decide +kernel
theorem dX7_readWithin_26 : decode cX7_readWithin 26 = .ok (.iconst 5, 1) := by decide +kernel
theorem dX7_readWithin_27 : decode cX7_readWithin 27 = .ok (.aload_n 0, 1) := by decide +kernel
theorem dX7_readWithin_28 : decode cX7_readWithin 28 = .ok (.getfield 18, 3) := by decide +kernel
theorem dX7_readWithin_31 : decode cX7_readWithin 31 = .ok (.invokestatic 86, 3) := by decide +kernel
theorem dX7_readWithin_34 : decode cX7_readWithin 34 = .ok (.ireturn, 1) := by decide +kernel
theorem dX7_writeWithin_0 : decode cX7_writeWithin 0 = .ok (.aload_n 0, 1) := by decide +kernel
theorem dX7_writeWithin_1 : decode cX7_writeWithin 1 = .ok (.aload_n 1, 1) := by decide +kernel
theorem dX7_writeWithin_2 : decode cX7_writeWithin 2 = .ok (.iload_n 2, 1) := by decide +kernel
theorem dX7_writeWithin_3 : decode cX7_writeWithin 3 = .ok (.invokevirtual 191, 3) := by decide +kernel
theorem dX7_writeWithin_6 : decode cX7_writeWithin 6 = .ok (.istore 5, 2) := by decide +kernel
theorem dX7_writeWithin_8 : decode cX7_writeWithin 8 = .ok (.iload 5, 2) := by decide +kernel
theorem dX7_writeWithin_10 : decode cX7_writeWithin 10 = .ok (.ifCond .eq 8, 3) := by decide +kernel
theorem dX7_writeWithin_13 : decode cX7_writeWithin 13 = .ok (.iload 5, 2) := by decide +kernel
theorem dX7_writeWithin_15 : decode cX7_writeWithin 15 = .ok (.goto 18, 3) := by decide +kernel
theorem dX7_writeWithin_18 : decode cX7_writeWithin 18 = .ok (.aload_n 0, 1) := by decide +kernel
theorem dX7_writeWithin_19 : decode cX7_writeWithin 19 = .ok (.getfield 22, 3) := by decide +kernel
theorem dX7_writeWithin_22 : decode cX7_writeWithin 22 = .ok (.getfield 51, 3) := by decide +kernel
theorem dX7_writeWithin_25 : decode cX7_writeWithin 25 = .ok (.iload_n 3, 1) := by decide +kernel
theorem dX7_writeWithin_26 : decode cX7_writeWithin 26 = .ok (.iconst 4, 1) := by decide +kernel
theorem dX7_writeWithin_27 : decode cX7_writeWithin 27 = .ok (.iload 4, 2) := by decide +kernel
theorem dX7_writeWithin_29 : decode cX7_writeWithin 29 = .ok (.i2l, 1) := by decide +kernel
theorem dX7_writeWithin_30 : decode cX7_writeWithin 30 = .ok (.invokestatic 94, 3) := by decide +kernel
theorem dX7_writeWithin_33 : decode cX7_writeWithin 33 = .ok (.ireturn, 1) := by decide +kernel
theorem dX7_takeInner_0 : decode cX7_takeInner 0 = .ok (.aload_n 1, 1) := by decide +kernel
theorem dX7_takeInner_1 : decode cX7_takeInner 1 = .ok (.iload_n 2, 1) := by decide +kernel
theorem dX7_takeInner_2 : decode cX7_takeInner 2 = .ok (.aload_n 0, 1) := by decide +kernel
theorem dX7_takeInner_3 : decode cX7_takeInner 3 = .ok (.getfield 22, 3) := by decide +kernel
theorem dX7_takeInner_6 : decode cX7_takeInner 6 = .ok (.invokestatic 72, 3) := by decide +kernel
theorem dX7_takeInner_9 : decode cX7_takeInner 9 = .ok (.istore_n 3, 1) := by decide +kernel
theorem dX7_takeInner_10 : decode cX7_takeInner 10 = .ok (.iload_n 3, 1) := by decide +kernel
theorem dX7_takeInner_11 : decode cX7_takeInner 11 = .ok (.ifCond .eq 5, 3) := by decide +kernel
theorem dX7_takeInner_14 : decode cX7_takeInner 14 = .ok (.iload_n 3, 1) := by decide +kernel
theorem dX7_takeInner_15 : decode cX7_takeInner 15 = .ok (.ireturn, 1) := by decide +kernel
theorem dX7_takeInner_16 : decode cX7_takeInner 16 = .ok (.aload_n 0, 1) := by decide +kernel
theorem dX7_takeInner_17 : decode cX7_takeInner 17 = .ok (.getfield 22, 3) := by decide +kernel
theorem dX7_takeInner_20 : decode cX7_takeInner 20 = .ok (.getfield 76, 3) := by decide +kernel
theorem dX7_takeInner_23 : decode cX7_takeInner 23 = .ok (.invokestatic 40, 3) := by decide +kernel
theorem dX7_takeInner_26 : decode cX7_takeInner 26 = .ok (.ifCond .eq 7, 3) := by decide +kernel
theorem dX7_takeInner_29 : decode cX7_takeInner 29 = .ok (.iconst 2, 1) := by decide +kernel
theorem dX7_takeInner_30 : decode cX7_takeInner 30 = .ok (.goto 4, 3) := by decide +kernel
theorem dX7_takeInner_33 : decode cX7_takeInner 33 = .ok (.iconst 0, 1) := by decide +kernel
theorem dX7_takeInner_34 : decode cX7_takeInner 34 = .ok (.ireturn, 1) := by decide +kernel
theorem dX7_passPlace_0 : decode cX7_passPlace 0 = .ok (.aload_n 1, 1) := by decide +kernel
theorem dX7_passPlace_1 : decode cX7_passPlace 1 = .ok (.iload_n 3, 1) := by decide +kernel
theorem dX7_passPlace_2 : decode cX7_passPlace 2 = .ok (.iload 4, 2) := by decide +kernel
theorem dX7_passPlace_4 : decode cX7_passPlace 4 = .ok (.aload_n 0, 1) := by decide +kernel
theorem dX7_passPlace_5 : decode cX7_passPlace 5 = .ok (.getfield 22, 3) := by decide +kernel
theorem dX7_passPlace_8 : decode cX7_passPlace 8 = .ok (.invokestatic 86, 3) := by decide +kernel
theorem dX7_passPlace_11 : decode cX7_passPlace 11 = .ok (.istore 5, 2) := by decide +kernel
theorem dX7_passPlace_13 : decode cX7_passPlace 13 = .ok (.iload 5, 2) := by decide +kernel
theorem dX7_passPlace_15 : decode cX7_passPlace 15 = .ok (.ifCond .eq 8, 3) := by decide +kernel
theorem dX7_passPlace_18 : decode cX7_passPlace 18 = .ok (.iload 5, 2) := by decide +kernel
theorem dX7_passPlace_20 : decode cX7_passPlace 20 = .ok (.goto 17, 3) := by decide +kernel
theorem dX7_passPlace_23 : decode cX7_passPlace 23 = .ok (.aload_n 2, 1) := by decide +kernel
theorem dX7_passPlace_24 : decode cX7_passPlace 24 = .ok (.iload_n 3, 1) := by decide +kernel
theorem dX7_passPlace_25 : decode cX7_passPlace 25 = .ok (.iload 4, 2) := by decide +kernel
theorem dX7_passPlace_27 : decode cX7_passPlace 27 = .ok (.aload_n 0, 1) := by decide +kernel
theorem dX7_passPlace_28 : decode cX7_passPlace 28 = .ok (.getfield 22, 3) := by decide +kernel
theorem dX7_passPlace_31 : decode cX7_passPlace 31 = .ok (.getfield 90, 3) := by decide +kernel
theorem dX7_passPlace_34 : decode cX7_passPlace 34 = .ok (.invokestatic 94, 3) := by decide +kernel
theorem dX7_passPlace_37 : decode cX7_passPlace 37 = .ok (.ireturn, 1) := by decide +kernel
theorem dX7_movePlace_0 : decode cX7_movePlace 0 = .ok (.aload_n 1, 1) := by decide +kernel
theorem dX7_movePlace_1 : decode cX7_movePlace 1 = .ok (.iload_n 2, 1) := by decide +kernel
theorem dX7_movePlace_2 : decode cX7_movePlace 2 = .ok (.aload_n 0, 1) := by decide +kernel
theorem dX7_movePlace_3 : decode cX7_movePlace 3 = .ok (.getfield 22, 3) := by decide +kernel
theorem dX7_movePlace_6 : decode cX7_movePlace 6 = .ok (.invokestatic 72, 3) := by decide +kernel
theorem dX7_movePlace_9 : decode cX7_movePlace 9 = .ok (.istore 5, 2) := by decide +kernel
theorem dX7_movePlace_11 : decode cX7_movePlace 11 = .ok (.iload 5, 2) := by decide +kernel
theorem dX7_movePlace_13 : decode cX7_movePlace 13 = .ok (.ifCond .eq 8, 3) := by decide +kernel
theorem dX7_movePlace_16 : decode cX7_movePlace 16 = .ok (.iload 5, 2) := by decide +kernel
theorem dX7_movePlace_18 : decode cX7_movePlace 18 = .ok (.goto 13, 3) := by decide +kernel
theorem dX7_movePlace_21 : decode cX7_movePlace 21 = .ok (.aload_n 3, 1) := by decide +kernel
theorem dX7_movePlace_22 : decode cX7_movePlace 22 = .ok (.iload 4, 2) := by decide +kernel
theorem dX7_movePlace_24 : decode cX7_movePlace 24 = .ok (.aload_n 0, 1) := by decide +kernel
theorem dX7_movePlace_25 : decode cX7_movePlace 25 = .ok (.getfield 22, 3) := by decide +kernel
theorem dX7_movePlace_28 : decode cX7_movePlace 28 = .ok (.invokestatic 83, 3) := by decide +kernel
theorem dX7_movePlace_31 : decode cX7_movePlace 31 = .ok (.ireturn, 1) := by decide +kernel
theorem dX7_kindsTaken_0 : decode cX7_kindsTaken 0 = .ok (.iconst 0, 1) := by decide +kernel
theorem dX7_kindsTaken_1 : decode cX7_kindsTaken 1 = .ok (.istore_n 1, 1) := by decide +kernel
theorem dX7_kindsTaken_2 : decode cX7_kindsTaken 2 = .ok (.aload_n 0, 1) := by decide +kernel
theorem dX7_kindsTaken_3 : decode cX7_kindsTaken 3 = .ok (.instanceof 43, 3) := by decide +kernel
theorem dX7_kindsTaken_6 : decode cX7_kindsTaken 6 = .ok (.ifCond .eq 39, 3) := by decide +kernel
theorem dX7_kindsTaken_9 : decode cX7_kindsTaken 9 = .ok (.aload_n 0, 1) := by decide +kernel
theorem dX7_kindsTaken_10 : decode cX7_kindsTaken 10 = .ok (.checkcast 43, 3) := by decide +kernel
theorem dX7_kindsTaken_13 : decode cX7_kindsTaken 13 = .ok (.astore_n 2, 1) := by decide +kernel
theorem dX7_kindsTaken_14 : decode cX7_kindsTaken 14 = .ok (.iconst 0, 1) := by decide +kernel
theorem dX7_kindsTaken_15 : decode cX7_kindsTaken 15 = .ok (.istore_n 3, 1) := by decide +kernel
theorem dX7_kindsTaken_16 : decode cX7_kindsTaken 16 = .ok (.iload_n 3, 1) := by decide +kernel
theorem dX7_kindsTaken_17 : decode cX7_kindsTaken 17 = .ok (.bipush 8, 2) := by decide +kernel
theorem dX7_kindsTaken_19 : decode cX7_kindsTaken 19 = .ok (.if_icmp .ge 26, 3) := by decide +kernel
theorem dX7_kindsTaken_22 : decode cX7_kindsTaken 22 = .ok (.iload_n 3, 1) := by decide +kernel
theorem dX7_kindsTaken_23 : decode cX7_kindsTaken 23 = .ok (.aload_n 2, 1) := by decide +kernel
theorem dX7_kindsTaken_24 : decode cX7_kindsTaken 24 = .ok (.getfield 164, 3) := by decide +kernel
theorem dX7_kindsTaken_27 : decode cX7_kindsTaken 27 = .ok (.invokestatic 182, 3) := by decide +kernel
theorem dX7_kindsTaken_30 : decode cX7_kindsTaken 30 = .ok (.ifCond .eq 9, 3) := by decide +kernel
theorem dX7_kindsTaken_33 : decode cX7_kindsTaken 33 = .ok (.iload_n 1, 1) := by decide +kernel
theorem dX7_kindsTaken_34 : decode cX7_kindsTaken 34 = .ok (.iconst 1, 1) := by decide +kernel
theorem dX7_kindsTaken_35 : decode cX7_kindsTaken 35 = .ok (.iload_n 3, 1) := by decide +kernel
theorem dX7_kindsTaken_36 : decode cX7_kindsTaken 36 = .ok (.ishl, 1) := by decide +kernel
theorem dX7_kindsTaken_37 : decode cX7_kindsTaken 37 = .ok (.ior, 1) := by decide +kernel
theorem dX7_kindsTaken_38 : decode cX7_kindsTaken 38 = .ok (.istore_n 1, 1) := by decide +kernel
theorem dX7_kindsTaken_39 : decode cX7_kindsTaken 39 = .ok (.iinc 3 1, 3) := by decide +kernel
theorem dX7_kindsTaken_42 : decode cX7_kindsTaken 42 = .ok (.goto (-26), 3) := by decide +kernel
theorem dX7_kindsTaken_45 : decode cX7_kindsTaken 45 = .ok (.iload_n 1, 1) := by decide +kernel
theorem dX7_kindsTaken_46 : decode cX7_kindsTaken 46 = .ok (.ireturn, 1) := by decide +kernel
theorem dX7_kindsGiven_0 : decode cX7_kindsGiven 0 = .ok (.iconst 0, 1) := by decide +kernel
theorem dX7_kindsGiven_1 : decode cX7_kindsGiven 1 = .ok (.istore_n 1, 1) := by decide +kernel
theorem dX7_kindsGiven_2 : decode cX7_kindsGiven 2 = .ok (.aload_n 0, 1) := by decide +kernel
theorem dX7_kindsGiven_3 : decode cX7_kindsGiven 3 = .ok (.instanceof 43, 3) := by decide +kernel
theorem dX7_kindsGiven_6 : decode cX7_kindsGiven 6 = .ok (.ifCond .eq 39, 3) := by decide +kernel
theorem dX7_kindsGiven_9 : decode cX7_kindsGiven 9 = .ok (.aload_n 0, 1) := by decide +kernel
theorem dX7_kindsGiven_10 : decode cX7_kindsGiven 10 = .ok (.checkcast 43, 3) := by decide +kernel
theorem dX7_kindsGiven_13 : decode cX7_kindsGiven 13 = .ok (.astore_n 2, 1) := by decide +kernel
theorem dX7_kindsGiven_14 : decode cX7_kindsGiven 14 = .ok (.iconst 0, 1) := by decide +kernel
theorem dX7_kindsGiven_15 : decode cX7_kindsGiven 15 = .ok (.istore_n 3, 1) := by decide +kernel
theorem dX7_kindsGiven_16 : decode cX7_kindsGiven 16 = .ok (.iload_n 3, 1) := by decide +kernel
theorem dX7_kindsGiven_17 : decode cX7_kindsGiven 17 = .ok (.bipush 8, 2) := by decide +kernel
theorem dX7_kindsGiven_19 : decode cX7_kindsGiven 19 = .ok (.if_icmp .ge 26, 3) := by decide +kernel
theorem dX7_kindsGiven_22 : decode cX7_kindsGiven 22 = .ok (.aload_n 2, 1) := by decide +kernel
theorem dX7_kindsGiven_23 : decode cX7_kindsGiven 23 = .ok (.getfield 164, 3) := by decide +kernel
theorem dX7_kindsGiven_26 : decode cX7_kindsGiven 26 = .ok (.iload_n 3, 1) := by decide +kernel
theorem dX7_kindsGiven_27 : decode cX7_kindsGiven 27 = .ok (.invokestatic 182, 3) := by decide +kernel
theorem dX7_kindsGiven_30 : decode cX7_kindsGiven 30 = .ok (.ifCond .eq 9, 3) := by decide +kernel
theorem dX7_kindsGiven_33 : decode cX7_kindsGiven 33 = .ok (.iload_n 1, 1) := by decide +kernel
theorem dX7_kindsGiven_34 : decode cX7_kindsGiven 34 = .ok (.iconst 1, 1) := by decide +kernel
theorem dX7_kindsGiven_35 : decode cX7_kindsGiven 35 = .ok (.iload_n 3, 1) := by decide +kernel
theorem dX7_kindsGiven_36 : decode cX7_kindsGiven 36 = .ok (.ishl, 1) := by decide +kernel
theorem dX7_kindsGiven_37 : decode cX7_kindsGiven 37 = .ok (.ior, 1) := by decide +kernel
theorem dX7_kindsGiven_38 : decode cX7_kindsGiven 38 = .ok (.istore_n 1, 1) := by decide +kernel
theorem dX7_kindsGiven_39 : decode cX7_kindsGiven 39 = .ok (.iinc 3 1, 3) := by decide +kernel
theorem dX7_kindsGiven_42 : decode cX7_kindsGiven 42 = .ok (.goto (-26), 3) := by decide +kernel
theorem dX7_kindsGiven_45 : decode cX7_kindsGiven 45 = .ok (.iload_n 1, 1) := by decide +kernel
theorem dX7_kindsGiven_46 : decode cX7_kindsGiven 46 = .ok (.ireturn, 1) := by decide +kernel
theorem dX7_forgetRun_0 : decode cX7_forgetRun 0 = .ok (.iconst 0, 1) := by decide +kernel
theorem dX7_forgetRun_1 : decode cX7_forgetRun 1 = .ok (.istore_n 1, 1) := by decide +kernel
theorem dX7_forgetRun_2 : decode cX7_forgetRun 2 = .ok (.iload_n 1, 1) := by decide +kernel
theorem dX7_forgetRun_3 : decode cX7_forgetRun 3 = .ok (.aload_n 0, 1) := by decide +kernel
theorem dX7_forgetRun_4 : decode cX7_forgetRun 4 = .ok (.getfield 131, 3) := by decide +kernel
