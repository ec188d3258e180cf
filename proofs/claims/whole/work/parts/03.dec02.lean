theorem dT_copyFrom_12 : decode cT_copyFrom 12 = .ok (.getfield 33, 3) := by decide +kernel
theorem dT_copyFrom_15 : decode cT_copyFrom 15 = .ok (.if_icmp .ge 33, 3) := by decide +kernel
theorem dT_copyFrom_18 : decode cT_copyFrom 18 = .ok (.aload_n 0, 1) := by decide +kernel
theorem dT_copyFrom_19 : decode cT_copyFrom 19 = .ok (.getfield 15, 3) := by decide +kernel
theorem dT_copyFrom_22 : decode cT_copyFrom 22 = .ok (.iload_n 2, 1) := by decide +kernel
theorem dT_copyFrom_23 : decode cT_copyFrom 23 = .ok (.aload_n 1, 1) := by decide +kernel
theorem dT_copyFrom_24 : decode cT_copyFrom 24 = .ok (.getfield 15, 3) := by decide +kernel
theorem dT_copyFrom_27 : decode cT_copyFrom 27 = .ok (.iload_n 2, 1) := by decide +kernel
theorem dT_copyFrom_28 : decode cT_copyFrom 28 = .ok (.iaload, 1) := by decide +kernel
theorem dT_copyFrom_29 : decode cT_copyFrom 29 = .ok (.iastore, 1) := by decide +kernel
theorem dT_copyFrom_30 : decode cT_copyFrom 30 = .ok (.aload_n 0, 1) := by decide +kernel
theorem dT_copyFrom_31 : decode cT_copyFrom 31 = .ok (.getfield 19, 3) := by decide +kernel
theorem dT_copyFrom_34 : decode cT_copyFrom 34 = .ok (.iload_n 2, 1) := by decide +kernel
theorem dT_copyFrom_35 : decode cT_copyFrom 35 = .ok (.aload_n 1, 1) := by decide +kernel
theorem dT_copyFrom_36 : decode cT_copyFrom 36 = .ok (.getfield 19, 3) := by decide +kernel
theorem dT_copyFrom_39 : decode cT_copyFrom 39 = .ok (.iload_n 2, 1) := by decide +kernel
theorem dT_copyFrom_40 : decode cT_copyFrom 40 = .ok (.baload, 1) := by decide +kernel
theorem dT_copyFrom_41 : decode cT_copyFrom 41 = .ok (.bastore, 1) := by decide +kernel
theorem dT_copyFrom_42 : decode cT_copyFrom 42 = .ok (.iinc 2 1, 3) := by decide +kernel
theorem dT_copyFrom_45 : decode cT_copyFrom 45 = .ok (.goto (-35), 3) := by decide +kernel
theorem dT_copyFrom_48 : decode cT_copyFrom 48 = .ok (.aload_n 1, 1) := by decide +kernel
theorem dT_copyFrom_49 : decode cT_copyFrom 49 = .ok (.getfield 11, 3) := by decide +kernel
theorem dT_copyFrom_52 : decode cT_copyFrom 52 = .ok (.iconst 0, 1) := by decide +kernel
theorem dT_copyFrom_53 : decode cT_copyFrom 53 = .ok (.aload_n 0, 1) := by decide +kernel
theorem dT_copyFrom_54 : decode cT_copyFrom 54 = .ok (.getfield 11, 3) := by decide +kernel
theorem dT_copyFrom_57 : decode cT_copyFrom 57 = .ok (.iconst 0, 1) := by decide +kernel
theorem dT_copyFrom_58 : decode cT_copyFrom 58 = .ok (.aload_n 0, 1) := by decide +kernel
theorem dT_copyFrom_59 : decode cT_copyFrom 59 = .ok (.getfield 11, 3) := by decide +kernel
theorem dT_copyFrom_62 : decode cT_copyFrom 62 = .ok (.arraylength, 1) := by decide +kernel
theorem dT_copyFrom_63 : decode cT_copyFrom 63 = .ok (.invokestatic 42, 3) := by decide +kernel
theorem dT_copyFrom_66 : decode cT_copyFrom 66 = .ok (.aload_n 1, 1) := by decide +kernel
theorem dT_copyFrom_67 : decode cT_copyFrom 67 = .ok (.getfield 23, 3) := by decide +kernel
theorem dT_copyFrom_70 : decode cT_copyFrom 70 = .ok (.iconst 0, 1) := by decide +kernel
theorem dT_copyFrom_71 : decode cT_copyFrom 71 = .ok (.aload_n 0, 1) := by decide +kernel
theorem dT_copyFrom_72 : decode cT_copyFrom 72 = .ok (.getfield 23, 3) := by decide +kernel
theorem dT_copyFrom_75 : decode cT_copyFrom 75 = .ok (.iconst 0, 1) := by decide +kernel
theorem dT_copyFrom_76 : decode cT_copyFrom 76 = .ok (.aload_n 0, 1) := by decide +kernel
theorem dT_copyFrom_77 : decode cT_copyFrom 77 = .ok (.getfield 23, 3) := by decide +kernel
theorem dT_copyFrom_80 : decode cT_copyFrom 80 = .ok (.arraylength, 1) := by decide +kernel
theorem dT_copyFrom_81 : decode cT_copyFrom 81 = .ok (.invokestatic 42, 3) := by decide +kernel
theorem dT_copyFrom_84 : decode cT_copyFrom 84 = .ok (.aload_n 0, 1) := by decide +kernel
theorem dT_copyFrom_85 : decode cT_copyFrom 85 = .ok (.aload_n 1, 1) := by decide +kernel
theorem dT_copyFrom_86 : decode cT_copyFrom 86 = .ok (.getfield 26, 3) := by decide +kernel
theorem dT_copyFrom_89 : decode cT_copyFrom 89 = .ok (.putfield 26, 3) := by decide +kernel
theorem dT_copyFrom_92 : decode cT_copyFrom 92 = .ok (.aload_n 0, 1) := by decide +kernel
theorem dT_copyFrom_93 : decode cT_copyFrom 93 = .ok (.aload_n 1, 1) := by decide +kernel
theorem dT_copyFrom_94 : decode cT_copyFrom 94 = .ok (.getfield 30, 3) := by decide +kernel
theorem dT_copyFrom_97 : decode cT_copyFrom 97 = .ok (.putfield 30, 3) := by decide +kernel
theorem dT_copyFrom_100 : decode cT_copyFrom 100 = .ok (.return_, 1) := by decide +kernel
theorem dY_appendants_0 : decode cY_appendants 0 = .ok (.iconst 2, 1) := by decide +kernel
theorem dY_appendants_1 : decode cY_appendants 1 = .ok (.aload_n 0, 1) := by decide +kernel
theorem dY_appendants_2 : decode cY_appendants 2 = .ok (.getfield 12, 3) := by decide +kernel
theorem dY_appendants_5 : decode cY_appendants 5 = .ok (.getfield 30, 3) := by decide +kernel
theorem dY_appendants_8 : decode cY_appendants 8 = .ok (.imul, 1) := by decide +kernel
theorem dY_appendants_9 : decode cY_appendants 9 = .ok (.ireturn, 1) := by decide +kernel
theorem dX_appendant_0 : decode cX_appendant 0 = .ok (.aload_n 0, 1) := by decide +kernel
theorem dX_appendant_1 : decode cX_appendant 1 = .ok (.getfield 26, 3) := by decide +kernel
theorem dX_appendant_4 : decode cX_appendant 4 = .ok (.iload_n 1, 1) := by decide +kernel
theorem dX_appendant_5 : decode cX_appendant 5 = .ok (.iload_n 2, 1) := by decide +kernel
theorem dX_appendant_6 : decode cX_appendant 6 = .ok (.invokevirtual 104, 3) := by decide +kernel
theorem dX_appendant_9 : decode cX_appendant 9 = .ok (.ireturn, 1) := by decide +kernel
theorem dY_appendantBit_0 : decode cY_appendantBit 0 = .ok (.aload_n 0, 1) := by decide +kernel
theorem dY_appendantBit_1 : decode cY_appendantBit 1 = .ok (.getfield 12, 3) := by decide +kernel
theorem dY_appendantBit_4 : decode cY_appendantBit 4 = .ok (.getfield 30, 3) := by decide +kernel
theorem dY_appendantBit_7 : decode cY_appendantBit 7 = .ok (.istore_n 3, 1) := by decide +kernel
theorem dY_appendantBit_8 : decode cY_appendantBit 8 = .ok (.iload_n 3, 1) := by decide +kernel
theorem dY_appendantBit_9 : decode cY_appendantBit 9 = .ok (.ifCond .eq 21, 3) := by decide +kernel
theorem dY_appendantBit_12 : decode cY_appendantBit 12 = .ok (.iload_n 2, 1) := by decide +kernel
theorem dY_appendantBit_13 : decode cY_appendantBit 13 = .ok (.ifCond .lt 17, 3) := by decide +kernel
theorem dY_appendantBit_16 : decode cY_appendantBit 16 = .ok (.iload_n 2, 1) := by decide +kernel
theorem dY_appendantBit_17 : decode cY_appendantBit 17 = .ok (.aload_n 0, 1) := by decide +kernel
theorem dY_appendantBit_18 : decode cY_appendantBit 18 = .ok (.getfield 12, 3) := by decide +kernel
theorem dY_appendantBit_21 : decode cY_appendantBit 21 = .ok (.iload_n 1, 1) := by decide +kernel
theorem dY_appendantBit_22 : decode cY_appendantBit 22 = .ok (.invokevirtual 36, 3) := by decide +kernel
theorem dY_appendantBit_25 : decode cY_appendantBit 25 = .ok (.iload_n 3, 1) := by decide +kernel
theorem dY_appendantBit_26 : decode cY_appendantBit 26 = .ok (.imul, 1) := by decide +kernel
theorem dY_appendantBit_27 : decode cY_appendantBit 27 = .ok (.if_icmp .lt 5, 3) := by decide +kernel
theorem dY_appendantBit_30 : decode cY_appendantBit 30 = .ok (.iconst (-1), 1) := by decide +kernel
theorem dY_appendantBit_31 : decode cY_appendantBit 31 = .ok (.ireturn, 1) := by decide +kernel
theorem dY_appendantBit_32 : decode cY_appendantBit 32 = .ok (.aload_n 0, 1) := by decide +kernel
theorem dY_appendantBit_33 : decode cY_appendantBit 33 = .ok (.getfield 12, 3) := by decide +kernel
theorem dY_appendantBit_36 : decode cY_appendantBit 36 = .ok (.iload_n 1, 1) := by decide +kernel
theorem dY_appendantBit_37 : decode cY_appendantBit 37 = .ok (.iload_n 2, 1) := by decide +kernel
theorem dY_appendantBit_38 : decode cY_appendantBit 38 = .ok (.iload_n 3, 1) := by decide +kernel
theorem dY_appendantBit_39 : decode cY_appendantBit 39 = .ok (.idiv, 1) := by decide +kernel
theorem dY_appendantBit_40 : decode cY_appendantBit 40 = .ok (.invokevirtual 40, 3) := by decide +kernel
theorem dY_appendantBit_43 : decode cY_appendantBit 43 = .ok (.iload_n 2, 1) := by decide +kernel
theorem dY_appendantBit_44 : decode cY_appendantBit 44 = .ok (.iload_n 3, 1) := by decide +kernel
theorem dY_appendantBit_45 : decode cY_appendantBit 45 = .ok (.irem, 1) := by decide +kernel
theorem dY_appendantBit_46 : decode cY_appendantBit 46 = .ok (.invokestatic 44, 3) := by decide +kernel
theorem dY_appendantBit_49 : decode cY_appendantBit 49 = .ok (.ireturn, 1) := by decide +kernel
theorem dY_bitOf_0 : decode cY_bitOf 0 = .ok (.iload_n 0, 1) := by decide +kernel
theorem dY_bitOf_1 : decode cY_bitOf 1 = .ok (.iload_n 1, 1) := by decide +kernel
theorem dY_bitOf_2 : decode cY_bitOf 2 = .ok (.if_icmp .ne 7, 3) := by decide +kernel
theorem dY_bitOf_5 : decode cY_bitOf 5 = .ok (.iconst 1, 1) := by decide +kernel
theorem dY_bitOf_6 : decode cY_bitOf 6 = .ok (.goto 4, 3) := by decide +kernel
theorem dY_bitOf_9 : decode cY_bitOf 9 = .ok (.iconst 0, 1) := by decide +kernel
theorem dY_bitOf_10 : decode cY_bitOf 10 = .ok (.ireturn, 1) := by decide +kernel
theorem dX_stepTape_0 : decode cX_stepTape 0 = .ok (.aload_n 0, 1) := by decide +kernel
theorem dX_stepTape_1 : decode cX_stepTape 1 = .ok (.getfield 10, 3) := by decide +kernel
theorem dX_stepTape_4 : decode cX_stepTape 4 = .ok (.iload_n 1, 1) := by decide +kernel
theorem dX_stepTape_5 : decode cX_stepTape 5 = .ok (.invokevirtual 107, 3) := by decide +kernel
theorem dX_stepTape_8 : decode cX_stepTape 8 = .ok (.ireturn, 1) := by decide +kernel
theorem dK_makeSteps_0 : decode cK_makeSteps 0 = .ok (.iload_n 1, 1) := by decide +kernel
theorem dK_makeSteps_1 : decode cK_makeSteps 1 = .ok (.sipush 20000, 3) := by decide +kernel
theorem dK_makeSteps_4 : decode cK_makeSteps 4 = .ok (.invokestatic 9, 3) := by decide +kernel
theorem dK_makeSteps_7 : decode cK_makeSteps 7 = .ok (.istore_n 2, 1) := by decide +kernel
theorem dK_makeSteps_8 : decode cK_makeSteps 8 = .ok (.iconst 0, 1) := by decide +kernel
theorem dK_makeSteps_9 : decode cK_makeSteps 9 = .ok (.istore_n 3, 1) := by decide +kernel
theorem dK_makeSteps_10 : decode cK_makeSteps 10 = .ok (.iload_n 3, 1) := by decide +kernel
theorem dK_makeSteps_11 : decode cK_makeSteps 11 = .ok (.iload_n 2, 1) := by decide +kernel
theorem dK_makeSteps_12 : decode cK_makeSteps 12 = .ok (.if_icmp .ge 23, 3) := by decide +kernel
theorem dK_makeSteps_15 : decode cK_makeSteps 15 = .ok (.aload_n 0, 1) := by decide +kernel
theorem dK_makeSteps_16 : decode cK_makeSteps 16 = .ok (.invokevirtual 13, 3) := by decide +kernel
theorem dK_makeSteps_19 : decode cK_makeSteps 19 = .ok (.iconst 1, 1) := by decide +kernel
theorem dK_makeSteps_20 : decode cK_makeSteps 20 = .ok (.if_icmp .eq 5, 3) := by decide +kernel
theorem dK_makeSteps_23 : decode cK_makeSteps 23 = .ok (.iload_n 3, 1) := by decide +kernel
theorem dK_makeSteps_24 : decode cK_makeSteps 24 = .ok (.ireturn, 1) := by decide +kernel
theorem dK_makeSteps_25 : decode cK_makeSteps 25 = .ok (.aload_n 0, 1) := by decide +kernel
theorem dK_makeSteps_26 : decode cK_makeSteps 26 = .ok (.invokevirtual 19, 3) := by decide +kernel
theorem dK_makeSteps_29 : decode cK_makeSteps 29 = .ok (.iinc 3 1, 3) := by decide +kernel
theorem dK_makeSteps_32 : decode cK_makeSteps 32 = .ok (.goto (-22), 3) := by decide +kernel
theorem dK_makeSteps_35 : decode cK_makeSteps 35 = .ok (.iload_n 2, 1) := by decide +kernel
theorem dK_makeSteps_36 : decode cK_makeSteps 36 = .ok (.ireturn, 1) := by decide +kernel
theorem dX_within_0 : decode cX_within 0 = .ok (.iconst 0, 1) := by decide +kernel
theorem dX_within_1 : decode cX_within 1 = .ok (.iload_n 0, 1) := by decide +kernel
theorem dX_within_2 : decode cX_within 2 = .ok (.iload_n 1, 1) := by decide +kernel
theorem dX_within_3 : decode cX_within 3 = .ok (.invokestatic 173, 3) := by decide +kernel
theorem dX_within_6 : decode cX_within 6 = .ok (.invokestatic 178, 3) := by decide +kernel
theorem dX_within_9 : decode cX_within 9 = .ok (.ireturn, 1) := by decide +kernel
theorem dY_canGoOn_0 : decode cY_canGoOn 0 = .ok (.aload_n 0, 1) := by decide +kernel
theorem dY_canGoOn_1 : decode cY_canGoOn 1 = .ok (.getfield 18, 3) := by decide +kernel
theorem dY_canGoOn_4 : decode cY_canGoOn 4 = .ok (.ifCond .ne 13, 3) := by decide +kernel
theorem dY_canGoOn_7 : decode cY_canGoOn 7 = .ok (.aload_n 0, 1) := by decide +kernel
theorem dY_canGoOn_8 : decode cY_canGoOn 8 = .ok (.getfield 12, 3) := by decide +kernel
theorem dY_canGoOn_11 : decode cY_canGoOn 11 = .ok (.invokevirtual 54, 3) := by decide +kernel
theorem dY_canGoOn_14 : decode cY_canGoOn 14 = .ok (.goto 4, 3) := by decide +kernel
theorem dY_canGoOn_17 : decode cY_canGoOn 17 = .ok (.iconst 1, 1) := by decide +kernel
theorem dY_canGoOn_18 : decode cY_canGoOn 18 = .ok (.ireturn, 1) := by decide +kernel
theorem dT_canGoOn_0 : decode cT_canGoOn 0 = .ok (.aload_n 0, 1) := by decide +kernel
theorem dT_canGoOn_1 : decode cT_canGoOn 1 = .ok (.getfield 30, 3) := by decide +kernel
theorem dT_canGoOn_4 : decode cT_canGoOn 4 = .ok (.iconst 2, 1) := by decide +kernel
theorem dT_canGoOn_5 : decode cT_canGoOn 5 = .ok (.if_icmp .lt 20, 3) := by decide +kernel
theorem dT_canGoOn_8 : decode cT_canGoOn 8 = .ok (.aload_n 0, 1) := by decide +kernel
theorem dT_canGoOn_9 : decode cT_canGoOn 9 = .ok (.getfield 19, 3) := by decide +kernel
theorem dT_canGoOn_12 : decode cT_canGoOn 12 = .ok (.aload_n 0, 1) := by decide +kernel
theorem dT_canGoOn_13 : decode cT_canGoOn 13 = .ok (.getfield 23, 3) := by decide +kernel
theorem dT_canGoOn_16 : decode cT_canGoOn 16 = .ok (.aload_n 0, 1) := by decide +kernel
theorem dT_canGoOn_17 : decode cT_canGoOn 17 = .ok (.getfield 26, 3) := by decide +kernel
theorem dT_canGoOn_20 : decode cT_canGoOn 20 = .ok (.iaload, 1) := by decide +kernel
theorem dT_canGoOn_21 : decode cT_canGoOn 21 = .ok (.baload, 1) := by decide +kernel
theorem dT_canGoOn_22 : decode cT_canGoOn 22 = .ok (.ifCond .eq 5, 3) := by decide +kernel
theorem dT_canGoOn_25 : decode cT_canGoOn 25 = .ok (.iconst 0, 1) := by decide +kernel
theorem dT_canGoOn_26 : decode cT_canGoOn 26 = .ok (.ireturn, 1) := by decide +kernel
theorem dT_canGoOn_27 : decode cT_canGoOn 27 = .ok (.aload_n 0, 1) := by decide +kernel
theorem dT_canGoOn_28 : decode cT_canGoOn 28 = .ok (.getfield 30, 3) := by decide +kernel
theorem dT_canGoOn_31 : decode cT_canGoOn 31 = .ok (.iconst 2, 1) := by decide +kernel
theorem dT_canGoOn_32 : decode cT_canGoOn 32 = .ok (.isub, 1) := by decide +kernel
theorem dT_canGoOn_33 : decode cT_canGoOn 33 = .ok (.aload_n 0, 1) := by decide +kernel
theorem dT_canGoOn_34 : decode cT_canGoOn 34 = .ok (.getfield 15, 3) := by decide +kernel
theorem dT_canGoOn_37 : decode cT_canGoOn 37 = .ok (.aload_n 0, 1) := by decide +kernel
theorem dT_canGoOn_38 : decode cT_canGoOn 38 = .ok (.getfield 23, 3) := by decide +kernel
theorem dT_canGoOn_41 : decode cT_canGoOn 41 = .ok (.aload_n 0, 1) := by decide +kernel
theorem dT_canGoOn_42 : decode cT_canGoOn 42 = .ok (.getfield 26, 3) := by decide +kernel
theorem dT_canGoOn_45 : decode cT_canGoOn 45 = .ok (.iaload, 1) := by decide +kernel
theorem dT_canGoOn_46 : decode cT_canGoOn 46 = .ok (.iaload, 1) := by decide +kernel
theorem dT_canGoOn_47 : decode cT_canGoOn 47 = .ok (.iadd, 1) := by decide +kernel
theorem dT_canGoOn_48 : decode cT_canGoOn 48 = .ok (.sipush 4000, 3) := by decide +kernel
theorem dT_canGoOn_51 : decode cT_canGoOn 51 = .ok (.if_icmp .le 8, 3) := by decide +kernel
theorem dT_canGoOn_54 : decode cT_canGoOn 54 = .ok (.bipush (-2), 2) := by decide +kernel
theorem dT_canGoOn_56 : decode cT_canGoOn 56 = .ok (.goto 4, 3) := by decide +kernel
theorem dT_canGoOn_59 : decode cT_canGoOn 59 = .ok (.iconst 1, 1) := by decide +kernel
theorem dT_canGoOn_60 : decode cT_canGoOn 60 = .ok (.ireturn, 1) := by decide +kernel
theorem dM_canGoOn_0 : decode cM_canGoOn 0 = .ok (.aload_n 0, 1) := by decide +kernel
theorem dM_canGoOn_1 : decode cM_canGoOn 1 = .ok (.aload_n 0, 1) := by decide +kernel
theorem dM_canGoOn_2 : decode cM_canGoOn 2 = .ok (.getfield 21, 3) := by decide +kernel
theorem dM_canGoOn_5 : decode cM_canGoOn 5 = .ok (.aload_n 0, 1) := by decide +kernel
theorem dM_canGoOn_6 : decode cM_canGoOn 6 = .ok (.getfield 25, 3) := by decide +kernel
theorem dM_canGoOn_9 : decode cM_canGoOn 9 = .ok (.invokevirtual 52, 3) := by decide +kernel
theorem dM_canGoOn_12 : decode cM_canGoOn 12 = .ok (.ifCond .ne 5, 3) := by decide +kernel
theorem dM_canGoOn_15 : decode cM_canGoOn 15 = .ok (.iconst 0, 1) := by decide +kernel
theorem dM_canGoOn_16 : decode cM_canGoOn 16 = .ok (.ireturn, 1) := by decide +kernel
theorem dM_canGoOn_17 : decode cM_canGoOn 17 = .ok (.aload_n 0, 1) := by decide +kernel
theorem dM_canGoOn_18 : decode cM_canGoOn 18 = .ok (.aload_n 0, 1) := by decide +kernel
theorem dM_canGoOn_19 : decode cM_canGoOn 19 = .ok (.getfield 21, 3) := by decide +kernel
theorem dM_canGoOn_22 : decode cM_canGoOn 22 = .ok (.aload_n 0, 1) := by decide +kernel
theorem dM_canGoOn_23 : decode cM_canGoOn 23 = .ok (.getfield 25, 3) := by decide +kernel
theorem dM_canGoOn_26 : decode cM_canGoOn 26 = .ok (.invokevirtual 56, 3) := by decide +kernel
theorem dM_canGoOn_29 : decode cM_canGoOn 29 = .ok (.iconst 1, 1) := by decide +kernel
theorem dM_canGoOn_30 : decode cM_canGoOn 30 = .ok (.if_icmp .ne 10, 3) := by decide +kernel
theorem dM_canGoOn_33 : decode cM_canGoOn 33 = .ok (.aload_n 0, 1) := by decide +kernel
theorem dM_canGoOn_34 : decode cM_canGoOn 34 = .ok (.getfield 28, 3) := by decide +kernel
theorem dM_canGoOn_37 : decode cM_canGoOn 37 = .ok (.goto 7, 3) := by decide +kernel
theorem dM_canGoOn_40 : decode cM_canGoOn 40 = .ok (.aload_n 0, 1) := by decide +kernel
theorem dM_canGoOn_41 : decode cM_canGoOn 41 = .ok (.getfield 31, 3) := by decide +kernel
theorem dM_canGoOn_44 : decode cM_canGoOn 44 = .ok (.istore_n 1, 1) := by decide +kernel
theorem dM_canGoOn_45 : decode cM_canGoOn 45 = .ok (.iconst 2, 1) := by decide +kernel
theorem dM_canGoOn_46 : decode cM_canGoOn 46 = .ok (.iload_n 1, 1) := by decide +kernel
theorem dM_canGoOn_47 : decode cM_canGoOn 47 = .ok (.imul, 1) := by decide +kernel
theorem dM_canGoOn_48 : decode cM_canGoOn 48 = .ok (.aload_n 0, 1) := by decide +kernel
theorem dM_canGoOn_49 : decode cM_canGoOn 49 = .ok (.aload_n 0, 1) := by decide +kernel
theorem dM_canGoOn_50 : decode cM_canGoOn 50 = .ok (.getfield 21, 3) := by decide +kernel
theorem dM_canGoOn_53 : decode cM_canGoOn 53 = .ok (.aload_n 0, 1) := by decide +kernel
theorem dM_canGoOn_54 : decode cM_canGoOn 54 = .ok (.getfield 25, 3) := by decide +kernel
theorem dM_canGoOn_57 : decode cM_canGoOn 57 = .ok (.invokevirtual 59, 3) := by decide +kernel
theorem dM_canGoOn_60 : decode cM_canGoOn 60 = .ok (.iadd, 1) := by decide +kernel
theorem dM_canGoOn_61 : decode cM_canGoOn 61 = .ok (.sipush 255, 3) := by decide +kernel
theorem dM_canGoOn_64 : decode cM_canGoOn 64 = .ok (.if_icmp .le 8, 3) := by decide +kernel
theorem dM_canGoOn_67 : decode cM_canGoOn 67 = .ok (.bipush (-2), 2) := by decide +kernel
theorem dM_canGoOn_69 : decode cM_canGoOn 69 = .ok (.goto 4, 3) := by decide +kernel
theorem dM_canGoOn_72 : decode cM_canGoOn 72 = .ok (.iconst 1, 1) := by decide +kernel
theorem dM_canGoOn_73 : decode cM_canGoOn 73 = .ok (.ireturn, 1) := by decide +kernel
theorem dY_step_0 : decode cY_step 0 = .ok (.aload_n 0, 1) := by decide +kernel
theorem dY_step_1 : decode cY_step 1 = .ok (.getfield 12, 3) := by decide +kernel
theorem dY_step_4 : decode cY_step 4 = .ok (.iconst 0, 1) := by decide +kernel
theorem dY_step_5 : decode cY_step 5 = .ok (.invokevirtual 51, 3) := by decide +kernel
theorem dY_step_8 : decode cY_step 8 = .ok (.istore_n 1, 1) := by decide +kernel
theorem dY_step_9 : decode cY_step 9 = .ok (.aload_n 0, 1) := by decide +kernel
theorem dY_step_10 : decode cY_step 10 = .ok (.getfield 18, 3) := by decide +kernel
theorem dY_step_13 : decode cY_step 13 = .ok (.iload_n 1, 1) := by decide +kernel
theorem dY_step_14 : decode cY_step 14 = .ok (.if_icmp .ne 11, 3) := by decide +kernel
theorem dY_step_17 : decode cY_step 17 = .ok (.aload_n 0, 1) := by decide +kernel
theorem dY_step_18 : decode cY_step 18 = .ok (.getfield 12, 3) := by decide +kernel
theorem dY_step_21 : decode cY_step 21 = .ok (.iload_n 1, 1) := by decide +kernel
theorem dY_step_22 : decode cY_step 22 = .ok (.invokevirtual 57, 3) := by decide +kernel
theorem dY_step_25 : decode cY_step 25 = .ok (.aload_n 0, 1) := by decide +kernel
theorem dY_step_26 : decode cY_step 26 = .ok (.dup, 1) := by decide +kernel
theorem dY_step_27 : decode cY_step 27 = .ok (.getfield 18, 3) := by decide +kernel
theorem dY_step_30 : decode cY_step 30 = .ok (.iconst 1, 1) := by decide +kernel
theorem dY_step_31 : decode cY_step 31 = .ok (.iadd, 1) := by decide +kernel
theorem dY_step_32 : decode cY_step 32 = .ok (.putfield 18, 3) := by decide +kernel
theorem dY_step_35 : decode cY_step 35 = .ok (.aload_n 0, 1) := by decide +kernel
theorem dY_step_36 : decode cY_step 36 = .ok (.getfield 18, 3) := by decide +kernel
theorem dY_step_39 : decode cY_step 39 = .ok (.aload_n 0, 1) := by decide +kernel
theorem dY_step_40 : decode cY_step 40 = .ok (.invokevirtual 61, 3) := by decide +kernel
theorem dY_step_43 : decode cY_step 43 = .ok (.if_icmp .ne 15, 3) := by decide +kernel
theorem dY_step_46 : decode cY_step 46 = .ok (.aload_n 0, 1) := by decide +kernel
theorem dY_step_47 : decode cY_step 47 = .ok (.iconst 0, 1) := by decide +kernel
theorem dY_step_48 : decode cY_step 48 = .ok (.putfield 18, 3) := by decide +kernel
theorem dY_step_51 : decode cY_step 51 = .ok (.aload_n 0, 1) := by decide +kernel
theorem dY_step_52 : decode cY_step 52 = .ok (.getfield 12, 3) := by decide +kernel
theorem dY_step_55 : decode cY_step 55 = .ok (.invokevirtual 64, 3) := by decide +kernel
theorem dY_step_58 : decode cY_step 58 = .ok (.return_, 1) := by decide +kernel
theorem dT_wordLetter_0 : decode cT_wordLetter 0 = .ok (.iload_n 1, 1) := by decide +kernel
theorem dT_wordLetter_1 : decode cT_wordLetter 1 = .ok (.ifCond .lt 29, 3) := by decide +kernel
theorem dT_wordLetter_4 : decode cT_wordLetter 4 = .ok (.iload_n 1, 1) := by decide +kernel
theorem dT_wordLetter_5 : decode cT_wordLetter 5 = .ok (.aload_n 0, 1) := by decide +kernel
theorem dT_wordLetter_6 : decode cT_wordLetter 6 = .ok (.getfield 30, 3) := by decide +kernel
theorem dT_wordLetter_9 : decode cT_wordLetter 9 = .ok (.if_icmp .ge 21, 3) := by decide +kernel
theorem dT_wordLetter_12 : decode cT_wordLetter 12 = .ok (.aload_n 0, 1) := by decide +kernel
theorem dT_wordLetter_13 : decode cT_wordLetter 13 = .ok (.getfield 23, 3) := by decide +kernel
theorem dT_wordLetter_16 : decode cT_wordLetter 16 = .ok (.aload_n 0, 1) := by decide +kernel
theorem dT_wordLetter_17 : decode cT_wordLetter 17 = .ok (.getfield 26, 3) := by decide +kernel
theorem dT_wordLetter_20 : decode cT_wordLetter 20 = .ok (.iload_n 1, 1) := by decide +kernel
theorem dT_wordLetter_21 : decode cT_wordLetter 21 = .ok (.iadd, 1) := by decide +kernel
theorem dT_wordLetter_22 : decode cT_wordLetter 22 = .ok (.sipush 4095, 3) := by decide +kernel
theorem dT_wordLetter_25 : decode cT_wordLetter 25 = .ok (.iand, 1) := by decide +kernel
theorem dT_wordLetter_26 : decode cT_wordLetter 26 = .ok (.iaload, 1) := by decide +kernel
theorem dT_wordLetter_27 : decode cT_wordLetter 27 = .ok (.goto 4, 3) := by decide +kernel
theorem dT_wordLetter_30 : decode cT_wordLetter 30 = .ok (.iconst (-1), 1) := by decide +kernel
theorem dT_wordLetter_31 : decode cT_wordLetter 31 = .ok (.ireturn, 1) := by decide +kernel
theorem dT_appendProduction_0 : decode cT_appendProduction 0 = .ok (.aload_n 0, 1) := by decide +kernel
theorem dT_appendProduction_1 : decode cT_appendProduction 1 = .ok (.iload_n 1, 1) := by decide +kernel
theorem dT_appendProduction_2 : decode cT_appendProduction 2 = .ok (.invokevirtual 56, 3) := by decide +kernel
theorem dT_appendProduction_5 : decode cT_appendProduction 5 = .ok (.istore_n 2, 1) := by decide +kernel
theorem dT_appendProduction_6 : decode cT_appendProduction 6 = .ok (.iconst 0, 1) := by decide +kernel
theorem dT_appendProduction_7 : decode cT_appendProduction 7 = .ok (.istore_n 3, 1) := by decide +kernel
theorem dT_appendProduction_8 : decode cT_appendProduction 8 = .ok (.iload_n 3, 1) := by decide +kernel
theorem dT_appendProduction_9 : decode cT_appendProduction 9 = .ok (.iload_n 2, 1) := by decide +kernel
theorem dT_appendProduction_10 : decode cT_appendProduction 10 = .ok (.if_icmp .ge 19, 3) := by decide +kernel
theorem dT_appendProduction_13 : decode cT_appendProduction 13 = .ok (.aload_n 0, 1) := by decide +kernel
theorem dT_appendProduction_14 : decode cT_appendProduction 14 = .ok (.aload_n 0, 1) := by decide +kernel
theorem dT_appendProduction_15 : decode cT_appendProduction 15 = .ok (.iload_n 1, 1) := by decide +kernel
theorem dT_appendProduction_16 : decode cT_appendProduction 16 = .ok (.iload_n 3, 1) := by decide +kernel
theorem dT_appendProduction_17 : decode cT_appendProduction 17 = .ok (.invokevirtual 60, 3) := by decide +kernel
theorem dT_appendProduction_20 : decode cT_appendProduction 20 = .ok (.invokevirtual 71, 3) := by decide +kernel
theorem dT_appendProduction_23 : decode cT_appendProduction 23 = .ok (.iinc 3 1, 3) := by decide +kernel
theorem dT_appendProduction_26 : decode cT_appendProduction 26 = .ok (.goto (-18), 3) := by decide +kernel
theorem dT_appendProduction_29 : decode cT_appendProduction 29 = .ok (.return_, 1) := by decide +kernel
theorem dT_takeTwo_0 : decode cT_takeTwo 0 = .ok (.aload_n 0, 1) := by decide +kernel
theorem dT_takeTwo_1 : decode cT_takeTwo 1 = .ok (.aload_n 0, 1) := by decide +kernel
theorem dT_takeTwo_2 : decode cT_takeTwo 2 = .ok (.getfield 26, 3) := by decide +kernel
theorem dT_takeTwo_5 : decode cT_takeTwo 5 = .ok (.iconst 2, 1) := by decide +kernel
theorem dT_takeTwo_6 : decode cT_takeTwo 6 = .ok (.iadd, 1) := by decide +kernel
theorem dT_takeTwo_7 : decode cT_takeTwo 7 = .ok (.sipush 4095, 3) := by decide +kernel
theorem dT_takeTwo_10 : decode cT_takeTwo 10 = .ok (.iand, 1) := by decide +kernel
theorem dT_takeTwo_11 : decode cT_takeTwo 11 = .ok (.putfield 26, 3) := by decide +kernel
theorem dT_takeTwo_14 : decode cT_takeTwo 14 = .ok (.aload_n 0, 1) := by decide +kernel
theorem dT_takeTwo_15 : decode cT_takeTwo 15 = .ok (.dup, 1) := by decide +kernel
theorem dT_takeTwo_16 : decode cT_takeTwo 16 = .ok (.getfield 30, 3) := by decide +kernel
theorem dT_takeTwo_19 : decode cT_takeTwo 19 = .ok (.iconst 2, 1) := by decide +kernel
theorem dT_takeTwo_20 : decode cT_takeTwo 20 = .ok (.isub, 1) := by decide +kernel
theorem dT_takeTwo_21 : decode cT_takeTwo 21 = .ok (.putfield 30, 3) := by decide +kernel
theorem dT_takeTwo_24 : decode cT_takeTwo 24 = .ok (.return_, 1) := by decide +kernel
theorem dT_step_0 : decode cT_step 0 = .ok (.aload_n 0, 1) := by decide +kernel
theorem dT_step_1 : decode cT_step 1 = .ok (.getfield 23, 3) := by decide +kernel
theorem dT_step_4 : decode cT_step 4 = .ok (.aload_n 0, 1) := by decide +kernel
theorem dT_step_5 : decode cT_step 5 = .ok (.getfield 26, 3) := by decide +kernel
theorem dT_step_8 : decode cT_step 8 = .ok (.iaload, 1) := by decide +kernel
theorem dT_step_9 : decode cT_step 9 = .ok (.istore_n 1, 1) := by decide +kernel
theorem dT_step_10 : decode cT_step 10 = .ok (.aload_n 0, 1) := by decide +kernel
theorem dT_step_11 : decode cT_step 11 = .ok (.invokevirtual 75, 3) := by decide +kernel
theorem dT_step_14 : decode cT_step 14 = .ok (.aload_n 0, 1) := by decide +kernel
theorem dT_step_15 : decode cT_step 15 = .ok (.iload_n 1, 1) := by decide +kernel
theorem dT_step_16 : decode cT_step 16 = .ok (.invokevirtual 78, 3) := by decide +kernel
theorem dT_step_19 : decode cT_step 19 = .ok (.return_, 1) := by decide +kernel
theorem dM_step_0 : decode cM_step 0 = .ok (.aload_n 0, 1) := by decide +kernel
theorem dM_step_1 : decode cM_step 1 = .ok (.getfield 21, 3) := by decide +kernel
theorem dM_step_4 : decode cM_step 4 = .ok (.aload_n 0, 1) := by decide +kernel
theorem dM_step_5 : decode cM_step 5 = .ok (.getfield 25, 3) := by decide +kernel
theorem dM_step_8 : decode cM_step 8 = .ok (.invokestatic 44, 3) := by decide +kernel
theorem dM_step_11 : decode cM_step 11 = .ok (.istore_n 1, 1) := by decide +kernel
theorem dM_step_12 : decode cM_step 12 = .ok (.aload_n 0, 1) := by decide +kernel
theorem dM_step_13 : decode cM_step 13 = .ok (.getfield 15, 3) := by decide +kernel
theorem dM_step_16 : decode cM_step 16 = .ok (.iload_n 1, 1) := by decide +kernel
theorem dM_step_17 : decode cM_step 17 = .ok (.iaload, 1) := by decide +kernel
theorem dM_step_18 : decode cM_step 18 = .ok (.iconst 1, 1) := by decide +kernel
theorem dM_step_19 : decode cM_step 19 = .ok (.if_icmp .ne 43, 3) := by decide +kernel
theorem dM_step_22 : decode cM_step 22 = .ok (.aload_n 0, 1) := by decide +kernel
theorem dM_step_23 : decode cM_step 23 = .ok (.iconst 2, 1) := by decide +kernel
theorem dM_step_24 : decode cM_step 24 = .ok (.aload_n 0, 1) := by decide +kernel
theorem dM_step_25 : decode cM_step 25 = .ok (.getfield 28, 3) := by decide +kernel
theorem dM_step_28 : decode cM_step 28 = .ok (.imul, 1) := by decide +kernel
theorem dM_step_29 : decode cM_step 29 = .ok (.aload_n 0, 1) := by decide +kernel
theorem dM_step_30 : decode cM_step 30 = .ok (.getfield 11, 3) := by decide +kernel
theorem dM_step_33 : decode cM_step 33 = .ok (.iload_n 1, 1) := by decide +kernel
theorem dM_step_34 : decode cM_step 34 = .ok (.iaload, 1) := by decide +kernel
theorem dM_step_35 : decode cM_step 35 = .ok (.iadd, 1) := by decide +kernel
theorem dM_step_36 : decode cM_step 36 = .ok (.putfield 28, 3) := by decide +kernel
theorem dM_step_39 : decode cM_step 39 = .ok (.aload_n 0, 1) := by decide +kernel
theorem dM_step_40 : decode cM_step 40 = .ok (.aload_n 0, 1) := by decide +kernel
theorem dM_step_41 : decode cM_step 41 = .ok (.getfield 31, 3) := by decide +kernel
theorem dM_step_44 : decode cM_step 44 = .ok (.iconst 2, 1) := by decide +kernel
theorem dM_step_45 : decode cM_step 45 = .ok (.irem, 1) := by decide +kernel
theorem dM_step_46 : decode cM_step 46 = .ok (.putfield 25, 3) := by decide +kernel
theorem dM_step_49 : decode cM_step 49 = .ok (.aload_n 0, 1) := by decide +kernel
theorem dM_step_50 : decode cM_step 50 = .ok (.aload_n 0, 1) := by decide +kernel
theorem dM_step_51 : decode cM_step 51 = .ok (.getfield 31, 3) := by decide +kernel
theorem dM_step_54 : decode cM_step 54 = .ok (.iconst 2, 1) := by decide +kernel
theorem dM_step_55 : decode cM_step 55 = .ok (.idiv, 1) := by decide +kernel
theorem dM_step_56 : decode cM_step 56 = .ok (.putfield 31, 3) := by decide +kernel
theorem dM_step_59 : decode cM_step 59 = .ok (.goto 40, 3) := by decide +kernel
theorem dM_step_62 : decode cM_step 62 = .ok (.aload_n 0, 1) := by decide +kernel
theorem dM_step_63 : decode cM_step 63 = .ok (.iconst 2, 1) := by decide +kernel
theorem dM_step_64 : decode cM_step 64 = .ok (.aload_n 0, 1) := by decide +kernel
theorem dM_step_65 : decode cM_step 65 = .ok (.getfield 31, 3) := by decide +kernel
theorem dM_step_68 : decode cM_step 68 = .ok (.imul, 1) := by decide +kernel
theorem dM_step_69 : decode cM_step 69 = .ok (.aload_n 0, 1) := by decide +kernel
theorem dM_step_70 : decode cM_step 70 = .ok (.getfield 11, 3) := by decide +kernel
theorem dM_step_73 : decode cM_step 73 = .ok (.iload_n 1, 1) := by decide +kernel
theorem dM_step_74 : decode cM_step 74 = .ok (.iaload, 1) := by decide +kernel
theorem dM_step_75 : decode cM_step 75 = .ok (.iadd, 1) := by decide +kernel
theorem dM_step_76 : decode cM_step 76 = .ok (.putfield 31, 3) := by decide +kernel
theorem dM_step_79 : decode cM_step 79 = .ok (.aload_n 0, 1) := by decide +kernel
theorem dM_step_80 : decode cM_step 80 = .ok (.aload_n 0, 1) := by decide +kernel
theorem dM_step_81 : decode cM_step 81 = .ok (.getfield 28, 3) := by decide +kernel
theorem dM_step_84 : decode cM_step 84 = .ok (.iconst 2, 1) := by decide +kernel
theorem dM_step_85 : decode cM_step 85 = .ok (.irem, 1) := by decide +kernel
theorem dM_step_86 : decode cM_step 86 = .ok (.putfield 25, 3) := by decide +kernel
theorem dM_step_89 : decode cM_step 89 = .ok (.aload_n 0, 1) := by decide +kernel
theorem dM_step_90 : decode cM_step 90 = .ok (.aload_n 0, 1) := by decide +kernel
theorem dM_step_91 : decode cM_step 91 = .ok (.getfield 28, 3) := by decide +kernel
theorem dM_step_94 : decode cM_step 94 = .ok (.iconst 2, 1) := by decide +kernel
theorem dM_step_95 : decode cM_step 95 = .ok (.idiv, 1) := by decide +kernel
theorem dM_step_96 : decode cM_step 96 = .ok (.putfield 28, 3) := by decide +kernel
theorem dM_step_99 : decode cM_step 99 = .ok (.aload_n 0, 1) := by decide +kernel
theorem dM_step_100 : decode cM_step 100 = .ok (.aload_n 0, 1) := by decide +kernel
theorem dM_step_101 : decode cM_step 101 = .ok (.getfield 18, 3) := by decide +kernel
theorem dM_step_104 : decode cM_step 104 = .ok (.iload_n 1, 1) := by decide +kernel
theorem dM_step_105 : decode cM_step 105 = .ok (.iaload, 1) := by decide +kernel
theorem dM_step_106 : decode cM_step 106 = .ok (.putfield 21, 3) := by decide +kernel
theorem dM_step_109 : decode cM_step 109 = .ok (.return_, 1) := by decide +kernel
theorem dX_stepTag_0 : decode cX_stepTag 0 = .ok (.aload_n 0, 1) := by decide +kernel
theorem dX_stepTag_1 : decode cX_stepTag 1 = .ok (.getfield 19, 3) := by decide +kernel
theorem dX_stepTag_4 : decode cX_stepTag 4 = .ok (.iload_n 1, 1) := by decide +kernel
theorem dX_stepTag_5 : decode cX_stepTag 5 = .ok (.invokevirtual 111, 3) := by decide +kernel
theorem dX_stepTag_8 : decode cX_stepTag 8 = .ok (.ireturn, 1) := by decide +kernel
theorem dX_stepCyclic_0 : decode cX_stepCyclic 0 = .ok (.aload_n 0, 1) := by decide +kernel
theorem dX_stepCyclic_1 : decode cX_stepCyclic 1 = .ok (.getfield 26, 3) := by decide +kernel
theorem dX_stepCyclic_4 : decode cX_stepCyclic 4 = .ok (.iload_n 1, 1) := by decide +kernel
theorem dX_stepCyclic_5 : decode cX_stepCyclic 5 = .ok (.invokevirtual 112, 3) := by decide +kernel
theorem dX_stepCyclic_8 : decode cX_stepCyclic 8 = .ok (.ireturn, 1) := by decide +kernel
theorem dX_tapeNow_0 : decode cX_tapeNow 0 = .ok (.iload_n 1, 1) := by decide +kernel
theorem dX_tapeNow_1 : decode cX_tapeNow 1 = .ok (.tableswitch 75 0 4 #[35, 43, 51, 59, 67], 35) := by decide +kernel
theorem dX_tapeNow_36 : decode cX_tapeNow 36 = .ok (.aload_n 0, 1) := by decide +kernel
theorem dX_tapeNow_37 : decode cX_tapeNow 37 = .ok (.getfield 10, 3) := by decide +kernel
theorem dX_tapeNow_40 : decode cX_tapeNow 40 = .ok (.getfield 113, 3) := by decide +kernel
theorem dX_tapeNow_43 : decode cX_tapeNow 43 = .ok (.ireturn, 1) := by decide +kernel
theorem dX_tapeNow_44 : decode cX_tapeNow 44 = .ok (.aload_n 0, 1) := by decide +kernel
theorem dX_tapeNow_45 : decode cX_tapeNow 45 = .ok (.getfield 10, 3) := by decide +kernel
theorem dX_tapeNow_48 : decode cX_tapeNow 48 = .ok (.getfield 116, 3) := by decide +kernel
theorem dX_tapeNow_51 : decode cX_tapeNow 51 = .ok (.ireturn, 1) := by decide +kernel
theorem dX_tapeNow_52 : decode cX_tapeNow 52 = .ok (.aload_n 0, 1) := by decide +kernel
theorem dX_tapeNow_53 : decode cX_tapeNow 53 = .ok (.getfield 10, 3) := by decide +kernel
theorem dX_tapeNow_56 : decode cX_tapeNow 56 = .ok (.getfield 119, 3) := by decide +kernel
theorem dX_tapeNow_59 : decode cX_tapeNow 59 = .ok (.ireturn, 1) := by decide +kernel
theorem dX_tapeNow_60 : decode cX_tapeNow 60 = .ok (.aload_n 0, 1) := by decide +kernel
theorem dX_tapeNow_61 : decode cX_tapeNow 61 = .ok (.getfield 10, 3) := by decide +kernel
theorem dX_tapeNow_64 : decode cX_tapeNow 64 = .ok (.getfield 122, 3) := by decide +kernel
theorem dX_tapeNow_67 : decode cX_tapeNow 67 = .ok (.ireturn, 1) := by decide +kernel
theorem dX_tapeNow_68 : decode cX_tapeNow 68 = .ok (.aload_n 0, 1) := by decide +kernel
theorem dX_tapeNow_69 : decode cX_tapeNow 69 = .ok (.getfield 10, 3) := by decide +kernel
theorem dX_tapeNow_72 : decode cX_tapeNow 72 = .ok (.invokevirtual 125, 3) := by decide +kernel
theorem dX_tapeNow_75 : decode cX_tapeNow 75 = .ok (.ireturn, 1) := by decide +kernel
theorem dX_tapeNow_76 : decode cX_tapeNow 76 = .ok (.iconst (-1), 1) := by decide +kernel
theorem dX_tapeNow_77 : decode cX_tapeNow 77 = .ok (.ireturn, 1) := by decide +kernel
theorem dX_tagNow_0 : decode cX_tagNow 0 = .ok (.iload_n 1, 1) := by decide +kernel
theorem dX_tagNow_1 : decode cX_tagNow 1 = .ok (.tableswitch 51 0 2 #[27, 35, 43], 27) := by decide +kernel
theorem dX_tagNow_28 : decode cX_tagNow 28 = .ok (.aload_n 0, 1) := by decide +kernel
theorem dX_tagNow_29 : decode cX_tagNow 29 = .ok (.getfield 19, 3) := by decide +kernel
theorem dX_tagNow_32 : decode cX_tagNow 32 = .ok (.getfield 61, 3) := by decide +kernel
theorem dX_tagNow_35 : decode cX_tagNow 35 = .ok (.ireturn, 1) := by decide +kernel
theorem dX_tagNow_36 : decode cX_tagNow 36 = .ok (.aload_n 0, 1) := by decide +kernel
theorem dX_tagNow_37 : decode cX_tagNow 37 = .ok (.getfield 19, 3) := by decide +kernel
theorem dX_tagNow_40 : decode cX_tagNow 40 = .ok (.getfield 85, 3) := by decide +kernel
theorem dX_tagNow_43 : decode cX_tagNow 43 = .ok (.ireturn, 1) := by decide +kernel
theorem dX_tagNow_44 : decode cX_tagNow 44 = .ok (.aload_n 0, 1) := by decide +kernel
theorem dX_tagNow_45 : decode cX_tagNow 45 = .ok (.getfield 19, 3) := by decide +kernel
theorem dX_tagNow_48 : decode cX_tagNow 48 = .ok (.invokevirtual 128, 3) := by decide +kernel
theorem dX_tagNow_51 : decode cX_tagNow 51 = .ok (.ireturn, 1) := by decide +kernel
theorem dX_tagNow_52 : decode cX_tagNow 52 = .ok (.iconst (-1), 1) := by decide +kernel
theorem dX_tagNow_53 : decode cX_tagNow 53 = .ok (.ireturn, 1) := by decide +kernel
theorem dX_cyclicNow_0 : decode cX_cyclicNow 0 = .ok (.iload_n 1, 1) := by decide +kernel
theorem dX_cyclicNow_1 : decode cX_cyclicNow 1 = .ok (.tableswitch 63 0 3 #[31, 39, 47, 55], 31) := by decide +kernel
theorem dX_cyclicNow_32 : decode cX_cyclicNow 32 = .ok (.aload_n 0, 1) := by decide +kernel
theorem dX_cyclicNow_33 : decode cX_cyclicNow 33 = .ok (.getfield 26, 3) := by decide +kernel
theorem dX_cyclicNow_36 : decode cX_cyclicNow 36 = .ok (.invokevirtual 100, 3) := by decide +kernel
theorem dX_cyclicNow_39 : decode cX_cyclicNow 39 = .ok (.ireturn, 1) := by decide +kernel
theorem dX_cyclicNow_40 : decode cX_cyclicNow 40 = .ok (.aload_n 0, 1) := by decide +kernel
theorem dX_cyclicNow_41 : decode cX_cyclicNow 41 = .ok (.getfield 26, 3) := by decide +kernel
theorem dX_cyclicNow_44 : decode cX_cyclicNow 44 = .ok (.invokevirtual 129, 3) := by decide +kernel
theorem dX_cyclicNow_47 : decode cX_cyclicNow 47 = .ok (.ireturn, 1) := by decide +kernel
theorem dX_cyclicNow_48 : decode cX_cyclicNow 48 = .ok (.aload_n 0, 1) := by decide +kernel
theorem dX_cyclicNow_49 : decode cX_cyclicNow 49 = .ok (.getfield 26, 3) := by decide +kernel
theorem dX_cyclicNow_52 : decode cX_cyclicNow 52 = .ok (.invokevirtual 132, 3) := by decide +kernel
theorem dX_cyclicNow_55 : decode cX_cyclicNow 55 = .ok (.ireturn, 1) := by decide +kernel
theorem dX_cyclicNow_56 : decode cX_cyclicNow 56 = .ok (.aload_n 0, 1) := by decide +kernel
theorem dX_cyclicNow_57 : decode cX_cyclicNow 57 = .ok (.getfield 26, 3) := by decide +kernel
theorem dX_cyclicNow_60 : decode cX_cyclicNow 60 = .ok (.getfield 133, 3) := by decide +kernel
theorem dX_cyclicNow_63 : decode cX_cyclicNow 63 = .ok (.ireturn, 1) := by decide +kernel
theorem dX_cyclicNow_64 : decode cX_cyclicNow 64 = .ok (.iconst (-1), 1) := by decide +kernel
theorem dX_cyclicNow_65 : decode cX_cyclicNow 65 = .ok (.ireturn, 1) := by decide +kernel
theorem dY_bits_0 : decode cY_bits 0 = .ok (.aload_n 0, 1) := by decide +kernel
theorem dY_bits_1 : decode cY_bits 1 = .ok (.getfield 12, 3) := by decide +kernel
theorem dY_bits_4 : decode cY_bits 4 = .ok (.getfield 33, 3) := by decide +kernel
theorem dY_bits_7 : decode cY_bits 7 = .ok (.aload_n 0, 1) := by decide +kernel
theorem dY_bits_8 : decode cY_bits 8 = .ok (.getfield 12, 3) := by decide +kernel
theorem dY_bits_11 : decode cY_bits 11 = .ok (.getfield 30, 3) := by decide +kernel
theorem dY_bits_14 : decode cY_bits 14 = .ok (.imul, 1) := by decide +kernel
theorem dY_bits_15 : decode cY_bits 15 = .ok (.aload_n 0, 1) := by decide +kernel
