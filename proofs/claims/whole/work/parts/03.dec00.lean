theorem dX_init_0 : decode cX_init 0 = .ok (.aload_n 0, 1) := by decide +kernel
theorem dX_init_1 : decode cX_init 1 = .ok (.invokespecial 1, 3) := by decide +kernel
theorem dX_init_4 : decode cX_init 4 = .ok (.aload_n 0, 1) := by decide +kernel
theorem dX_init_5 : decode cX_init 5 = .ok (.new 7, 3) := by decide +kernel
theorem dX_init_8 : decode cX_init 8 = .ok (.dup, 1) := by decide +kernel
theorem dX_init_9 : decode cX_init 9 = .ok (.invokespecial 9, 3) := by decide +kernel
theorem dX_init_12 : decode cX_init 12 = .ok (.putfield 10, 3) := by decide +kernel
theorem dX_init_15 : decode cX_init 15 = .ok (.aload_n 0, 1) := by decide +kernel
theorem dX_init_16 : decode cX_init 16 = .ok (.new 16, 3) := by decide +kernel
theorem dX_init_19 : decode cX_init 19 = .ok (.dup, 1) := by decide +kernel
theorem dX_init_20 : decode cX_init 20 = .ok (.invokespecial 18, 3) := by decide +kernel
theorem dX_init_23 : decode cX_init 23 = .ok (.putfield 19, 3) := by decide +kernel
theorem dX_init_26 : decode cX_init 26 = .ok (.aload_n 0, 1) := by decide +kernel
theorem dX_init_27 : decode cX_init 27 = .ok (.new 23, 3) := by decide +kernel
theorem dX_init_30 : decode cX_init 30 = .ok (.dup, 1) := by decide +kernel
theorem dX_init_31 : decode cX_init 31 = .ok (.invokespecial 25, 3) := by decide +kernel
theorem dX_init_34 : decode cX_init 34 = .ok (.putfield 26, 3) := by decide +kernel
theorem dX_init_37 : decode cX_init 37 = .ok (.aload_n 0, 1) := by decide +kernel
theorem dX_init_38 : decode cX_init 38 = .ok (.new 30, 3) := by decide +kernel
theorem dX_init_41 : decode cX_init 41 = .ok (.dup, 1) := by decide +kernel
theorem dX_init_42 : decode cX_init 42 = .ok (.invokespecial 32, 3) := by decide +kernel
theorem dX_init_45 : decode cX_init 45 = .ok (.putfield 33, 3) := by decide +kernel
theorem dX_init_48 : decode cX_init 48 = .ok (.return_, 1) := by decide +kernel
theorem dM_init_0 : decode cM_init 0 = .ok (.aload_n 0, 1) := by decide +kernel
theorem dM_init_1 : decode cM_init 1 = .ok (.invokespecial 3, 3) := by decide +kernel
theorem dM_init_4 : decode cM_init 4 = .ok (.aload_n 0, 1) := by decide +kernel
theorem dM_init_5 : decode cM_init 5 = .ok (.bipush 16, 2) := by decide +kernel
theorem dM_init_7 : decode cM_init 7 = .ok (.newarray .int, 2) := by decide +kernel
theorem dM_init_9 : decode cM_init 9 = .ok (.putfield 11, 3) := by decide +kernel
theorem dM_init_12 : decode cM_init 12 = .ok (.aload_n 0, 1) := by decide +kernel
theorem dM_init_13 : decode cM_init 13 = .ok (.bipush 16, 2) := by decide +kernel
theorem dM_init_15 : decode cM_init 15 = .ok (.newarray .int, 2) := by decide +kernel
theorem dM_init_17 : decode cM_init 17 = .ok (.putfield 15, 3) := by decide +kernel
theorem dM_init_20 : decode cM_init 20 = .ok (.aload_n 0, 1) := by decide +kernel
theorem dM_init_21 : decode cM_init 21 = .ok (.bipush 16, 2) := by decide +kernel
theorem dM_init_23 : decode cM_init 23 = .ok (.newarray .int, 2) := by decide +kernel
theorem dM_init_25 : decode cM_init 25 = .ok (.putfield 18, 3) := by decide +kernel
theorem dM_init_28 : decode cM_init 28 = .ok (.aload_n 0, 1) := by decide +kernel
theorem dM_init_29 : decode cM_init 29 = .ok (.iconst 1, 1) := by decide +kernel
theorem dM_init_30 : decode cM_init 30 = .ok (.putfield 21, 3) := by decide +kernel
theorem dM_init_33 : decode cM_init 33 = .ok (.aload_n 0, 1) := by decide +kernel
theorem dM_init_34 : decode cM_init 34 = .ok (.iconst 0, 1) := by decide +kernel
theorem dM_init_35 : decode cM_init 35 = .ok (.putfield 25, 3) := by decide +kernel
theorem dM_init_38 : decode cM_init 38 = .ok (.aload_n 0, 1) := by decide +kernel
theorem dM_init_39 : decode cM_init 39 = .ok (.iconst 0, 1) := by decide +kernel
theorem dM_init_40 : decode cM_init 40 = .ok (.putfield 28, 3) := by decide +kernel
theorem dM_init_43 : decode cM_init 43 = .ok (.aload_n 0, 1) := by decide +kernel
theorem dM_init_44 : decode cM_init 44 = .ok (.iconst 0, 1) := by decide +kernel
theorem dM_init_45 : decode cM_init 45 = .ok (.putfield 31, 3) := by decide +kernel
theorem dM_init_48 : decode cM_init 48 = .ok (.iconst 0, 1) := by decide +kernel
theorem dM_init_49 : decode cM_init 49 = .ok (.istore_n 1, 1) := by decide +kernel
theorem dM_init_50 : decode cM_init 50 = .ok (.iload_n 1, 1) := by decide +kernel
theorem dM_init_51 : decode cM_init 51 = .ok (.aload_n 0, 1) := by decide +kernel
theorem dM_init_52 : decode cM_init 52 = .ok (.getfield 18, 3) := by decide +kernel
theorem dM_init_55 : decode cM_init 55 = .ok (.arraylength, 1) := by decide +kernel
theorem dM_init_56 : decode cM_init 56 = .ok (.if_icmp .ge 16, 3) := by decide +kernel
theorem dM_init_59 : decode cM_init 59 = .ok (.aload_n 0, 1) := by decide +kernel
theorem dM_init_60 : decode cM_init 60 = .ok (.getfield 18, 3) := by decide +kernel
theorem dM_init_63 : decode cM_init 63 = .ok (.iload_n 1, 1) := by decide +kernel
theorem dM_init_64 : decode cM_init 64 = .ok (.iconst (-1), 1) := by decide +kernel
theorem dM_init_65 : decode cM_init 65 = .ok (.iastore, 1) := by decide +kernel
theorem dM_init_66 : decode cM_init 66 = .ok (.iinc 1 1, 3) := by decide +kernel
theorem dM_init_69 : decode cM_init 69 = .ok (.goto (-19), 3) := by decide +kernel
theorem dM_init_72 : decode cM_init 72 = .ok (.return_, 1) := by decide +kernel
theorem dK_init_0 : decode cK_init 0 = .ok (.aload_n 0, 1) := by decide +kernel
theorem dK_init_1 : decode cK_init 1 = .ok (.invokespecial 3, 3) := by decide +kernel
theorem dK_init_4 : decode cK_init 4 = .ok (.return_, 1) := by decide +kernel
theorem dT_init_0 : decode cT_init 0 = .ok (.aload_n 0, 1) := by decide +kernel
theorem dT_init_1 : decode cT_init 1 = .ok (.invokespecial 5, 3) := by decide +kernel
theorem dT_init_4 : decode cT_init 4 = .ok (.aload_n 0, 1) := by decide +kernel
theorem dT_init_5 : decode cT_init 5 = .ok (.sipush 600, 3) := by decide +kernel
theorem dT_init_8 : decode cT_init 8 = .ok (.newarray .long, 2) := by decide +kernel
theorem dT_init_10 : decode cT_init 10 = .ok (.putfield 11, 3) := by decide +kernel
theorem dT_init_13 : decode cT_init 13 = .ok (.aload_n 0, 1) := by decide +kernel
theorem dT_init_14 : decode cT_init 14 = .ok (.sipush 300, 3) := by decide +kernel
theorem dT_init_17 : decode cT_init 17 = .ok (.newarray .int, 2) := by decide +kernel
theorem dT_init_19 : decode cT_init 19 = .ok (.putfield 15, 3) := by decide +kernel
theorem dT_init_22 : decode cT_init 22 = .ok (.aload_n 0, 1) := by decide +kernel
theorem dT_init_23 : decode cT_init 23 = .ok (.sipush 300, 3) := by decide +kernel
theorem dT_init_26 : decode cT_init 26 = .ok (.newarray .boolean, 2) := by decide +kernel
theorem dT_init_28 : decode cT_init 28 = .ok (.putfield 19, 3) := by decide +kernel
theorem dT_init_31 : decode cT_init 31 = .ok (.aload_n 0, 1) := by decide +kernel
theorem dT_init_32 : decode cT_init 32 = .ok (.sipush 4096, 3) := by decide +kernel
theorem dT_init_35 : decode cT_init 35 = .ok (.newarray .int, 2) := by decide +kernel
theorem dT_init_37 : decode cT_init 37 = .ok (.putfield 23, 3) := by decide +kernel
theorem dT_init_40 : decode cT_init 40 = .ok (.aload_n 0, 1) := by decide +kernel
theorem dT_init_41 : decode cT_init 41 = .ok (.iconst 0, 1) := by decide +kernel
theorem dT_init_42 : decode cT_init 42 = .ok (.putfield 26, 3) := by decide +kernel
theorem dT_init_45 : decode cT_init 45 = .ok (.aload_n 0, 1) := by decide +kernel
theorem dT_init_46 : decode cT_init 46 = .ok (.iconst 0, 1) := by decide +kernel
theorem dT_init_47 : decode cT_init 47 = .ok (.putfield 30, 3) := by decide +kernel
theorem dT_init_50 : decode cT_init 50 = .ok (.aload_n 0, 1) := by decide +kernel
theorem dT_init_51 : decode cT_init 51 = .ok (.iconst 0, 1) := by decide +kernel
theorem dT_init_52 : decode cT_init 52 = .ok (.putfield 33, 3) := by decide +kernel
theorem dT_init_55 : decode cT_init 55 = .ok (.aload_n 0, 1) := by decide +kernel
theorem dT_init_56 : decode cT_init 56 = .ok (.iconst 0, 1) := by decide +kernel
theorem dT_init_57 : decode cT_init 57 = .ok (.putfield 36, 3) := by decide +kernel
theorem dT_init_60 : decode cT_init 60 = .ok (.return_, 1) := by decide +kernel
theorem dY_init_0 : decode cY_init 0 = .ok (.aload_n 0, 1) := by decide +kernel
theorem dY_init_1 : decode cY_init 1 = .ok (.invokespecial 3, 3) := by decide +kernel
theorem dY_init_4 : decode cY_init 4 = .ok (.aload_n 0, 1) := by decide +kernel
theorem dY_init_5 : decode cY_init 5 = .ok (.new 9, 3) := by decide +kernel
theorem dY_init_8 : decode cY_init 8 = .ok (.dup, 1) := by decide +kernel
theorem dY_init_9 : decode cY_init 9 = .ok (.invokespecial 11, 3) := by decide +kernel
theorem dY_init_12 : decode cY_init 12 = .ok (.putfield 12, 3) := by decide +kernel
theorem dY_init_15 : decode cY_init 15 = .ok (.aload_n 0, 1) := by decide +kernel
theorem dY_init_16 : decode cY_init 16 = .ok (.iconst 0, 1) := by decide +kernel
theorem dY_init_17 : decode cY_init 17 = .ok (.putfield 18, 3) := by decide +kernel
theorem dY_init_20 : decode cY_init 20 = .ok (.return_, 1) := by decide +kernel
theorem dC_init_0 : decode cC_init 0 = .ok (.aload_n 0, 1) := by decide +kernel
theorem dC_init_1 : decode cC_init 1 = .ok (.invokespecial 1, 3) := by decide +kernel
theorem dC_init_4 : decode cC_init 4 = .ok (.aload_n 0, 1) := by decide +kernel
theorem dC_init_5 : decode cC_init 5 = .ok (.iconst 0, 1) := by decide +kernel
theorem dC_init_6 : decode cC_init 6 = .ok (.putfield 7, 3) := by decide +kernel
theorem dC_init_9 : decode cC_init 9 = .ok (.aload_n 0, 1) := by decide +kernel
theorem dC_init_10 : decode cC_init 10 = .ok (.iconst 0, 1) := by decide +kernel
theorem dC_init_11 : decode cC_init 11 = .ok (.putfield 13, 3) := by decide +kernel
theorem dC_init_14 : decode cC_init 14 = .ok (.aload_n 0, 1) := by decide +kernel
theorem dC_init_15 : decode cC_init 15 = .ok (.iconst 0, 1) := by decide +kernel
theorem dC_init_16 : decode cC_init 16 = .ok (.putfield 16, 3) := by decide +kernel
theorem dC_init_19 : decode cC_init 19 = .ok (.aload_n 0, 1) := by decide +kernel
theorem dC_init_20 : decode cC_init 20 = .ok (.iconst 0, 1) := by decide +kernel
theorem dC_init_21 : decode cC_init 21 = .ok (.putfield 19, 3) := by decide +kernel
theorem dC_init_24 : decode cC_init 24 = .ok (.return_, 1) := by decide +kernel
theorem dX_rule_0 : decode cX_rule 0 = .ok (.aload_n 0, 1) := by decide +kernel
theorem dX_rule_1 : decode cX_rule 1 = .ok (.getfield 10, 3) := by decide +kernel
theorem dX_rule_4 : decode cX_rule 4 = .ok (.iload_n 1, 1) := by decide +kernel
theorem dX_rule_5 : decode cX_rule 5 = .ok (.iload_n 2, 1) := by decide +kernel
theorem dX_rule_6 : decode cX_rule 6 = .ok (.iload_n 3, 1) := by decide +kernel
theorem dX_rule_7 : decode cX_rule 7 = .ok (.iload 4, 2) := by decide +kernel
theorem dX_rule_9 : decode cX_rule 9 = .ok (.iload 5, 2) := by decide +kernel
theorem dX_rule_11 : decode cX_rule 11 = .ok (.invokevirtual 37, 3) := by decide +kernel
theorem dX_rule_14 : decode cX_rule 14 = .ok (.ireturn, 1) := by decide +kernel
theorem dM_setRule_0 : decode cM_setRule 0 = .ok (.iload_n 1, 1) := by decide +kernel
theorem dM_setRule_1 : decode cM_setRule 1 = .ok (.invokestatic 34, 3) := by decide +kernel
theorem dM_setRule_4 : decode cM_setRule 4 = .ok (.ifCond .eq 25, 3) := by decide +kernel
theorem dM_setRule_7 : decode cM_setRule 7 = .ok (.iload_n 2, 1) := by decide +kernel
theorem dM_setRule_8 : decode cM_setRule 8 = .ok (.invokestatic 38, 3) := by decide +kernel
theorem dM_setRule_11 : decode cM_setRule 11 = .ok (.ifCond .eq 18, 3) := by decide +kernel
theorem dM_setRule_14 : decode cM_setRule 14 = .ok (.iload_n 3, 1) := by decide +kernel
theorem dM_setRule_15 : decode cM_setRule 15 = .ok (.invokestatic 38, 3) := by decide +kernel
theorem dM_setRule_18 : decode cM_setRule 18 = .ok (.ifCond .eq 11, 3) := by decide +kernel
theorem dM_setRule_21 : decode cM_setRule 21 = .ok (.iload 4, 2) := by decide +kernel
theorem dM_setRule_23 : decode cM_setRule 23 = .ok (.invokestatic 38, 3) := by decide +kernel
theorem dM_setRule_26 : decode cM_setRule 26 = .ok (.ifCond .ne 5, 3) := by decide +kernel
theorem dM_setRule_29 : decode cM_setRule 29 = .ok (.iconst 0, 1) := by decide +kernel
theorem dM_setRule_30 : decode cM_setRule 30 = .ok (.ireturn, 1) := by decide +kernel
theorem dM_setRule_31 : decode cM_setRule 31 = .ok (.iload 5, 2) := by decide +kernel
theorem dM_setRule_33 : decode cM_setRule 33 = .ok (.ifCond .eq 13, 3) := by decide +kernel
theorem dM_setRule_36 : decode cM_setRule 36 = .ok (.iload 5, 2) := by decide +kernel
theorem dM_setRule_38 : decode cM_setRule 38 = .ok (.invokestatic 34, 3) := by decide +kernel
theorem dM_setRule_41 : decode cM_setRule 41 = .ok (.ifCond .ne 5, 3) := by decide +kernel
theorem dM_setRule_44 : decode cM_setRule 44 = .ok (.iconst 0, 1) := by decide +kernel
theorem dM_setRule_45 : decode cM_setRule 45 = .ok (.ireturn, 1) := by decide +kernel
theorem dM_setRule_46 : decode cM_setRule 46 = .ok (.iload_n 1, 1) := by decide +kernel
theorem dM_setRule_47 : decode cM_setRule 47 = .ok (.iload_n 2, 1) := by decide +kernel
theorem dM_setRule_48 : decode cM_setRule 48 = .ok (.invokestatic 44, 3) := by decide +kernel
theorem dM_setRule_51 : decode cM_setRule 51 = .ok (.istore 6, 2) := by decide +kernel
theorem dM_setRule_53 : decode cM_setRule 53 = .ok (.aload_n 0, 1) := by decide +kernel
theorem dM_setRule_54 : decode cM_setRule 54 = .ok (.getfield 11, 3) := by decide +kernel
theorem dM_setRule_57 : decode cM_setRule 57 = .ok (.iload 6, 2) := by decide +kernel
theorem dM_setRule_59 : decode cM_setRule 59 = .ok (.iload_n 3, 1) := by decide +kernel
theorem dM_setRule_60 : decode cM_setRule 60 = .ok (.iastore, 1) := by decide +kernel
theorem dM_setRule_61 : decode cM_setRule 61 = .ok (.aload_n 0, 1) := by decide +kernel
theorem dM_setRule_62 : decode cM_setRule 62 = .ok (.getfield 15, 3) := by decide +kernel
theorem dM_setRule_65 : decode cM_setRule 65 = .ok (.iload 6, 2) := by decide +kernel
theorem dM_setRule_67 : decode cM_setRule 67 = .ok (.iload 4, 2) := by decide +kernel
theorem dM_setRule_69 : decode cM_setRule 69 = .ok (.iastore, 1) := by decide +kernel
theorem dM_setRule_70 : decode cM_setRule 70 = .ok (.aload_n 0, 1) := by decide +kernel
theorem dM_setRule_71 : decode cM_setRule 71 = .ok (.getfield 18, 3) := by decide +kernel
theorem dM_setRule_74 : decode cM_setRule 74 = .ok (.iload 6, 2) := by decide +kernel
theorem dM_setRule_76 : decode cM_setRule 76 = .ok (.iload 5, 2) := by decide +kernel
theorem dM_setRule_78 : decode cM_setRule 78 = .ok (.iastore, 1) := by decide +kernel
theorem dM_setRule_79 : decode cM_setRule 79 = .ok (.iconst 1, 1) := by decide +kernel
theorem dM_setRule_80 : decode cM_setRule 80 = .ok (.ireturn, 1) := by decide +kernel
theorem dM_isState_0 : decode cM_isState 0 = .ok (.iload_n 0, 1) := by decide +kernel
theorem dM_isState_1 : decode cM_isState 1 = .ok (.iconst 1, 1) := by decide +kernel
theorem dM_isState_2 : decode cM_isState 2 = .ok (.if_icmp .lt 13, 3) := by decide +kernel
theorem dM_isState_5 : decode cM_isState 5 = .ok (.iload_n 0, 1) := by decide +kernel
theorem dM_isState_6 : decode cM_isState 6 = .ok (.bipush 8, 2) := by decide +kernel
theorem dM_isState_8 : decode cM_isState 8 = .ok (.if_icmp .gt 7, 3) := by decide +kernel
theorem dM_isState_11 : decode cM_isState 11 = .ok (.iconst 1, 1) := by decide +kernel
theorem dM_isState_12 : decode cM_isState 12 = .ok (.goto 4, 3) := by decide +kernel
theorem dM_isState_15 : decode cM_isState 15 = .ok (.iconst 0, 1) := by decide +kernel
theorem dM_isState_16 : decode cM_isState 16 = .ok (.ireturn, 1) := by decide +kernel
theorem dM_isBit_0 : decode cM_isBit 0 = .ok (.iload_n 0, 1) := by decide +kernel
theorem dM_isBit_1 : decode cM_isBit 1 = .ok (.ifCond .eq 8, 3) := by decide +kernel
theorem dM_isBit_4 : decode cM_isBit 4 = .ok (.iload_n 0, 1) := by decide +kernel
theorem dM_isBit_5 : decode cM_isBit 5 = .ok (.iconst 1, 1) := by decide +kernel
theorem dM_isBit_6 : decode cM_isBit 6 = .ok (.if_icmp .ne 7, 3) := by decide +kernel
theorem dM_isBit_9 : decode cM_isBit 9 = .ok (.iconst 1, 1) := by decide +kernel
theorem dM_isBit_10 : decode cM_isBit 10 = .ok (.goto 4, 3) := by decide +kernel
theorem dM_isBit_13 : decode cM_isBit 13 = .ok (.iconst 0, 1) := by decide +kernel
theorem dM_isBit_14 : decode cM_isBit 14 = .ok (.ireturn, 1) := by decide +kernel
theorem dM_place_0 : decode cM_place 0 = .ok (.iconst 2, 1) := by decide +kernel
theorem dM_place_1 : decode cM_place 1 = .ok (.iload_n 0, 1) := by decide +kernel
theorem dM_place_2 : decode cM_place 2 = .ok (.iconst 1, 1) := by decide +kernel
theorem dM_place_3 : decode cM_place 3 = .ok (.isub, 1) := by decide +kernel
theorem dM_place_4 : decode cM_place 4 = .ok (.imul, 1) := by decide +kernel
theorem dM_place_5 : decode cM_place 5 = .ok (.iload_n 1, 1) := by decide +kernel
theorem dM_place_6 : decode cM_place 6 = .ok (.iadd, 1) := by decide +kernel
theorem dM_place_7 : decode cM_place 7 = .ok (.ireturn, 1) := by decide +kernel
theorem dX_tape_0 : decode cX_tape 0 = .ok (.aload_n 0, 1) := by decide +kernel
theorem dX_tape_1 : decode cX_tape 1 = .ok (.getfield 10, 3) := by decide +kernel
theorem dX_tape_4 : decode cX_tape 4 = .ok (.iload_n 1, 1) := by decide +kernel
theorem dX_tape_5 : decode cX_tape 5 = .ok (.iload_n 2, 1) := by decide +kernel
theorem dX_tape_6 : decode cX_tape 6 = .ok (.iload_n 3, 1) := by decide +kernel
theorem dX_tape_7 : decode cX_tape 7 = .ok (.iload 4, 2) := by decide +kernel
theorem dX_tape_9 : decode cX_tape 9 = .ok (.invokevirtual 41, 3) := by decide +kernel
theorem dX_tape_12 : decode cX_tape 12 = .ok (.ireturn, 1) := by decide +kernel
theorem dM_setConfiguration_0 : decode cM_setConfiguration 0 = .ok (.iload_n 1, 1) := by decide +kernel
theorem dM_setConfiguration_1 : decode cM_setConfiguration 1 = .ok (.iload_n 2, 1) := by decide +kernel
theorem dM_setConfiguration_2 : decode cM_setConfiguration 2 = .ok (.iload_n 3, 1) := by decide +kernel
theorem dM_setConfiguration_3 : decode cM_setConfiguration 3 = .ok (.iload 4, 2) := by decide +kernel
theorem dM_setConfiguration_5 : decode cM_setConfiguration 5 = .ok (.invokestatic 48, 3) := by decide +kernel
theorem dM_setConfiguration_8 : decode cM_setConfiguration 8 = .ok (.ifCond .ne 5, 3) := by decide +kernel
theorem dM_setConfiguration_11 : decode cM_setConfiguration 11 = .ok (.iconst 0, 1) := by decide +kernel
theorem dM_setConfiguration_12 : decode cM_setConfiguration 12 = .ok (.ireturn, 1) := by decide +kernel
theorem dM_setConfiguration_13 : decode cM_setConfiguration 13 = .ok (.aload_n 0, 1) := by decide +kernel
theorem dM_setConfiguration_14 : decode cM_setConfiguration 14 = .ok (.iload_n 1, 1) := by decide +kernel
theorem dM_setConfiguration_15 : decode cM_setConfiguration 15 = .ok (.putfield 21, 3) := by decide +kernel
theorem dM_setConfiguration_18 : decode cM_setConfiguration 18 = .ok (.aload_n 0, 1) := by decide +kernel
theorem dM_setConfiguration_19 : decode cM_setConfiguration 19 = .ok (.iload_n 2, 1) := by decide +kernel
theorem dM_setConfiguration_20 : decode cM_setConfiguration 20 = .ok (.putfield 25, 3) := by decide +kernel
theorem dM_setConfiguration_23 : decode cM_setConfiguration 23 = .ok (.aload_n 0, 1) := by decide +kernel
theorem dM_setConfiguration_24 : decode cM_setConfiguration 24 = .ok (.iload_n 3, 1) := by decide +kernel
theorem dM_setConfiguration_25 : decode cM_setConfiguration 25 = .ok (.putfield 28, 3) := by decide +kernel
theorem dM_setConfiguration_28 : decode cM_setConfiguration 28 = .ok (.aload_n 0, 1) := by decide +kernel
theorem dM_setConfiguration_29 : decode cM_setConfiguration 29 = .ok (.iload 4, 2) := by decide +kernel
theorem dM_setConfiguration_31 : decode cM_setConfiguration 31 = .ok (.putfield 31, 3) := by decide +kernel
theorem dM_setConfiguration_34 : decode cM_setConfiguration 34 = .ok (.iconst 1, 1) := by decide +kernel
theorem dM_setConfiguration_35 : decode cM_setConfiguration 35 = .ok (.ireturn, 1) := by decide +kernel
theorem dM_isConfiguration_0 : decode cM_isConfiguration 0 = .ok (.iload_n 0, 1) := by decide +kernel
theorem dM_isConfiguration_1 : decode cM_isConfiguration 1 = .ok (.invokestatic 34, 3) := by decide +kernel
theorem dM_isConfiguration_4 : decode cM_isConfiguration 4 = .ok (.ifCond .eq 28, 3) := by decide +kernel
theorem dM_isConfiguration_7 : decode cM_isConfiguration 7 = .ok (.iload_n 1, 1) := by decide +kernel
theorem dM_isConfiguration_8 : decode cM_isConfiguration 8 = .ok (.invokestatic 38, 3) := by decide +kernel
theorem dM_isConfiguration_11 : decode cM_isConfiguration 11 = .ok (.ifCond .eq 21, 3) := by decide +kernel
theorem dM_isConfiguration_14 : decode cM_isConfiguration 14 = .ok (.iload_n 2, 1) := by decide +kernel
theorem dM_isConfiguration_15 : decode cM_isConfiguration 15 = .ok (.invokestatic 41, 3) := by decide +kernel
theorem dM_isConfiguration_18 : decode cM_isConfiguration 18 = .ok (.ifCond .eq 14, 3) := by decide +kernel
theorem dM_isConfiguration_21 : decode cM_isConfiguration 21 = .ok (.iload_n 3, 1) := by decide +kernel
theorem dM_isConfiguration_22 : decode cM_isConfiguration 22 = .ok (.invokestatic 41, 3) := by decide +kernel
theorem dM_isConfiguration_25 : decode cM_isConfiguration 25 = .ok (.ifCond .eq 7, 3) := by decide +kernel
theorem dM_isConfiguration_28 : decode cM_isConfiguration 28 = .ok (.iconst 1, 1) := by decide +kernel
theorem dM_isConfiguration_29 : decode cM_isConfiguration 29 = .ok (.goto 4, 3) := by decide +kernel
theorem dM_isConfiguration_32 : decode cM_isConfiguration 32 = .ok (.iconst 0, 1) := by decide +kernel
theorem dM_isConfiguration_33 : decode cM_isConfiguration 33 = .ok (.ireturn, 1) := by decide +kernel
theorem dM_isCells_0 : decode cM_isCells 0 = .ok (.iload_n 0, 1) := by decide +kernel
theorem dM_isCells_1 : decode cM_isCells 1 = .ok (.ifCond .lt 14, 3) := by decide +kernel
theorem dM_isCells_4 : decode cM_isCells 4 = .ok (.iload_n 0, 1) := by decide +kernel
theorem dM_isCells_5 : decode cM_isCells 5 = .ok (.sipush 255, 3) := by decide +kernel
theorem dM_isCells_8 : decode cM_isCells 8 = .ok (.if_icmp .gt 7, 3) := by decide +kernel
theorem dM_isCells_11 : decode cM_isCells 11 = .ok (.iconst 1, 1) := by decide +kernel
theorem dM_isCells_12 : decode cM_isCells 12 = .ok (.goto 4, 3) := by decide +kernel
theorem dM_isCells_15 : decode cM_isCells 15 = .ok (.iconst 0, 1) := by decide +kernel
theorem dM_isCells_16 : decode cM_isCells 16 = .ok (.ireturn, 1) := by decide +kernel
theorem dX_compileTag_0 : decode cX_compileTag 0 = .ok (.aload_n 0, 1) := by decide +kernel
theorem dX_compileTag_1 : decode cX_compileTag 1 = .ok (.getfield 10, 3) := by decide +kernel
theorem dX_compileTag_4 : decode cX_compileTag 4 = .ok (.invokevirtual 45, 3) := by decide +kernel
theorem dX_compileTag_7 : decode cX_compileTag 7 = .ok (.ifCond .ne 5, 3) := by decide +kernel
theorem dX_compileTag_10 : decode cX_compileTag 10 = .ok (.iconst 0, 1) := by decide +kernel
theorem dX_compileTag_11 : decode cX_compileTag 11 = .ok (.ireturn, 1) := by decide +kernel
theorem dX_compileTag_12 : decode cX_compileTag 12 = .ok (.aload_n 0, 1) := by decide +kernel
theorem dX_compileTag_13 : decode cX_compileTag 13 = .ok (.getfield 19, 3) := by decide +kernel
theorem dX_compileTag_16 : decode cX_compileTag 16 = .ok (.aload_n 0, 1) := by decide +kernel
theorem dX_compileTag_17 : decode cX_compileTag 17 = .ok (.getfield 10, 3) := by decide +kernel
theorem dX_compileTag_20 : decode cX_compileTag 20 = .ok (.invokestatic 49, 3) := by decide +kernel
theorem dX_compileTag_23 : decode cX_compileTag 23 = .ok (.aload_n 0, 1) := by decide +kernel
theorem dX_compileTag_24 : decode cX_compileTag 24 = .ok (.getfield 19, 3) := by decide +kernel
theorem dX_compileTag_27 : decode cX_compileTag 27 = .ok (.aload_n 0, 1) := by decide +kernel
theorem dX_compileTag_28 : decode cX_compileTag 28 = .ok (.getfield 10, 3) := by decide +kernel
theorem dX_compileTag_31 : decode cX_compileTag 31 = .ok (.invokestatic 55, 3) := by decide +kernel
theorem dX_compileTag_34 : decode cX_compileTag 34 = .ok (.aload_n 0, 1) := by decide +kernel
theorem dX_compileTag_35 : decode cX_compileTag 35 = .ok (.getfield 26, 3) := by decide +kernel
theorem dX_compileTag_38 : decode cX_compileTag 38 = .ok (.invokevirtual 58, 3) := by decide +kernel
theorem dX_compileTag_41 : decode cX_compileTag 41 = .ok (.aload_n 0, 1) := by decide +kernel
theorem dX_compileTag_42 : decode cX_compileTag 42 = .ok (.getfield 19, 3) := by decide +kernel
theorem dX_compileTag_45 : decode cX_compileTag 45 = .ok (.getfield 61, 3) := by decide +kernel
theorem dX_compileTag_48 : decode cX_compileTag 48 = .ok (.ireturn, 1) := by decide +kernel
theorem dM_hasAllRules_0 : decode cM_hasAllRules 0 = .ok (.aload_n 0, 1) := by decide +kernel
theorem dM_hasAllRules_1 : decode cM_hasAllRules 1 = .ok (.aload_n 0, 1) := by decide +kernel
theorem dM_hasAllRules_2 : decode cM_hasAllRules 2 = .ok (.getfield 21, 3) := by decide +kernel
theorem dM_hasAllRules_5 : decode cM_hasAllRules 5 = .ok (.invokevirtual 62, 3) := by decide +kernel
theorem dM_hasAllRules_8 : decode cM_hasAllRules 8 = .ok (.ifCond .ne 5, 3) := by decide +kernel
theorem dM_hasAllRules_11 : decode cM_hasAllRules 11 = .ok (.iconst 0, 1) := by decide +kernel
theorem dM_hasAllRules_12 : decode cM_hasAllRules 12 = .ok (.ireturn, 1) := by decide +kernel
theorem dM_hasAllRules_13 : decode cM_hasAllRules 13 = .ok (.iconst 0, 1) := by decide +kernel
theorem dM_hasAllRules_14 : decode cM_hasAllRules 14 = .ok (.istore_n 1, 1) := by decide +kernel
theorem dM_hasAllRules_15 : decode cM_hasAllRules 15 = .ok (.iload_n 1, 1) := by decide +kernel
theorem dM_hasAllRules_16 : decode cM_hasAllRules 16 = .ok (.aload_n 0, 1) := by decide +kernel
theorem dM_hasAllRules_17 : decode cM_hasAllRules 17 = .ok (.getfield 18, 3) := by decide +kernel
theorem dM_hasAllRules_20 : decode cM_hasAllRules 20 = .ok (.arraylength, 1) := by decide +kernel
theorem dM_hasAllRules_21 : decode cM_hasAllRules 21 = .ok (.if_icmp .ge 36, 3) := by decide +kernel
theorem dM_hasAllRules_24 : decode cM_hasAllRules 24 = .ok (.aload_n 0, 1) := by decide +kernel
theorem dM_hasAllRules_25 : decode cM_hasAllRules 25 = .ok (.getfield 18, 3) := by decide +kernel
theorem dM_hasAllRules_28 : decode cM_hasAllRules 28 = .ok (.iload_n 1, 1) := by decide +kernel
theorem dM_hasAllRules_29 : decode cM_hasAllRules 29 = .ok (.iaload, 1) := by decide +kernel
theorem dM_hasAllRules_30 : decode cM_hasAllRules 30 = .ok (.invokestatic 34, 3) := by decide +kernel
theorem dM_hasAllRules_33 : decode cM_hasAllRules 33 = .ok (.ifCond .eq 18, 3) := by decide +kernel
theorem dM_hasAllRules_36 : decode cM_hasAllRules 36 = .ok (.aload_n 0, 1) := by decide +kernel
theorem dM_hasAllRules_37 : decode cM_hasAllRules 37 = .ok (.aload_n 0, 1) := by decide +kernel
theorem dM_hasAllRules_38 : decode cM_hasAllRules 38 = .ok (.getfield 18, 3) := by decide +kernel
theorem dM_hasAllRules_41 : decode cM_hasAllRules 41 = .ok (.iload_n 1, 1) := by decide +kernel
theorem dM_hasAllRules_42 : decode cM_hasAllRules 42 = .ok (.iaload, 1) := by decide +kernel
theorem dM_hasAllRules_43 : decode cM_hasAllRules 43 = .ok (.invokevirtual 62, 3) := by decide +kernel
theorem dM_hasAllRules_46 : decode cM_hasAllRules 46 = .ok (.ifCond .ne 5, 3) := by decide +kernel
theorem dM_hasAllRules_49 : decode cM_hasAllRules 49 = .ok (.iconst 0, 1) := by decide +kernel
theorem dM_hasAllRules_50 : decode cM_hasAllRules 50 = .ok (.ireturn, 1) := by decide +kernel
theorem dM_hasAllRules_51 : decode cM_hasAllRules 51 = .ok (.iinc 1 1, 3) := by decide +kernel
theorem dM_hasAllRules_54 : decode cM_hasAllRules 54 = .ok (.goto (-39), 3) := by decide +kernel
theorem dM_hasAllRules_57 : decode cM_hasAllRules 57 = .ok (.iconst 1, 1) := by decide +kernel
theorem dM_hasAllRules_58 : decode cM_hasAllRules 58 = .ok (.ireturn, 1) := by decide +kernel
theorem dM_hasBothRules_0 : decode cM_hasBothRules 0 = .ok (.aload_n 0, 1) := by decide +kernel
theorem dM_hasBothRules_1 : decode cM_hasBothRules 1 = .ok (.getfield 18, 3) := by decide +kernel
theorem dM_hasBothRules_4 : decode cM_hasBothRules 4 = .ok (.iload_n 1, 1) := by decide +kernel
theorem dM_hasBothRules_5 : decode cM_hasBothRules 5 = .ok (.iconst 0, 1) := by decide +kernel
theorem dM_hasBothRules_6 : decode cM_hasBothRules 6 = .ok (.invokestatic 44, 3) := by decide +kernel
theorem dM_hasBothRules_9 : decode cM_hasBothRules 9 = .ok (.iaload, 1) := by decide +kernel
theorem dM_hasBothRules_10 : decode cM_hasBothRules 10 = .ok (.iconst (-1), 1) := by decide +kernel
theorem dM_hasBothRules_11 : decode cM_hasBothRules 11 = .ok (.if_icmp .eq 21, 3) := by decide +kernel
theorem dM_hasBothRules_14 : decode cM_hasBothRules 14 = .ok (.aload_n 0, 1) := by decide +kernel
theorem dM_hasBothRules_15 : decode cM_hasBothRules 15 = .ok (.getfield 18, 3) := by decide +kernel
theorem dM_hasBothRules_18 : decode cM_hasBothRules 18 = .ok (.iload_n 1, 1) := by decide +kernel
theorem dM_hasBothRules_19 : decode cM_hasBothRules 19 = .ok (.iconst 1, 1) := by decide +kernel
theorem dM_hasBothRules_20 : decode cM_hasBothRules 20 = .ok (.invokestatic 44, 3) := by decide +kernel
theorem dM_hasBothRules_23 : decode cM_hasBothRules 23 = .ok (.iaload, 1) := by decide +kernel
theorem dM_hasBothRules_24 : decode cM_hasBothRules 24 = .ok (.iconst (-1), 1) := by decide +kernel
theorem dM_hasBothRules_25 : decode cM_hasBothRules 25 = .ok (.if_icmp .eq 7, 3) := by decide +kernel
theorem dM_hasBothRules_28 : decode cM_hasBothRules 28 = .ok (.iconst 1, 1) := by decide +kernel
theorem dM_hasBothRules_29 : decode cM_hasBothRules 29 = .ok (.goto 4, 3) := by decide +kernel
theorem dM_hasBothRules_32 : decode cM_hasBothRules 32 = .ok (.iconst 0, 1) := by decide +kernel
theorem dM_hasBothRules_33 : decode cM_hasBothRules 33 = .ok (.ireturn, 1) := by decide +kernel
theorem dG_make_0 : decode cG_make 0 = .ok (.aload_n 1, 1) := by decide +kernel
theorem dG_make_1 : decode cG_make 1 = .ok (.invokevirtual 13, 3) := by decide +kernel
theorem dG_make_4 : decode cG_make 4 = .ok (.istore_n 2, 1) := by decide +kernel
theorem dG_make_5 : decode cG_make 5 = .ok (.aload_n 0, 1) := by decide +kernel
theorem dG_make_6 : decode cG_make 6 = .ok (.iload_n 2, 1) := by decide +kernel
theorem dG_make_7 : decode cG_make 7 = .ok (.iconst 1, 1) := by decide +kernel
theorem dG_make_8 : decode cG_make 8 = .ok (.iadd, 1) := by decide +kernel
theorem dG_make_9 : decode cG_make 9 = .ok (.iconst 0, 1) := by decide +kernel
theorem dG_make_10 : decode cG_make 10 = .ok (.invokestatic 9, 3) := by decide +kernel
theorem dG_make_13 : decode cG_make 13 = .ok (.iload_n 2, 1) := by decide +kernel
theorem dG_make_14 : decode cG_make 14 = .ok (.invokevirtual 19, 3) := by decide +kernel
theorem dG_make_17 : decode cG_make 17 = .ok (.iconst 1, 1) := by decide +kernel
theorem dG_make_18 : decode cG_make 18 = .ok (.istore_n 3, 1) := by decide +kernel
theorem dG_make_19 : decode cG_make 19 = .ok (.iload_n 3, 1) := by decide +kernel
theorem dG_make_20 : decode cG_make 20 = .ok (.iload_n 2, 1) := by decide +kernel
theorem dG_make_21 : decode cG_make 21 = .ok (.if_icmp .gt 23, 3) := by decide +kernel
theorem dG_make_24 : decode cG_make 24 = .ok (.aload_n 0, 1) := by decide +kernel
theorem dG_make_25 : decode cG_make 25 = .ok (.aload_n 1, 1) := by decide +kernel
theorem dG_make_26 : decode cG_make 26 = .ok (.iload_n 3, 1) := by decide +kernel
theorem dG_make_27 : decode cG_make 27 = .ok (.iconst 0, 1) := by decide +kernel
theorem dG_make_28 : decode cG_make 28 = .ok (.invokestatic 25, 3) := by decide +kernel
theorem dG_make_31 : decode cG_make 31 = .ok (.aload_n 0, 1) := by decide +kernel
theorem dG_make_32 : decode cG_make 32 = .ok (.aload_n 1, 1) := by decide +kernel
theorem dG_make_33 : decode cG_make 33 = .ok (.iload_n 3, 1) := by decide +kernel
theorem dG_make_34 : decode cG_make 34 = .ok (.iconst 1, 1) := by decide +kernel
theorem dG_make_35 : decode cG_make 35 = .ok (.invokestatic 25, 3) := by decide +kernel
theorem dG_make_38 : decode cG_make 38 = .ok (.iinc 3 1, 3) := by decide +kernel
theorem dG_make_41 : decode cG_make 41 = .ok (.goto (-22), 3) := by decide +kernel
theorem dG_make_44 : decode cG_make 44 = .ok (.return_, 1) := by decide +kernel
theorem dM_greatestState_0 : decode cM_greatestState 0 = .ok (.iconst 0, 1) := by decide +kernel
theorem dM_greatestState_1 : decode cM_greatestState 1 = .ok (.istore_n 1, 1) := by decide +kernel
theorem dM_greatestState_2 : decode cM_greatestState 2 = .ok (.iconst 0, 1) := by decide +kernel
theorem dM_greatestState_3 : decode cM_greatestState 3 = .ok (.istore_n 2, 1) := by decide +kernel
theorem dM_greatestState_4 : decode cM_greatestState 4 = .ok (.iload_n 2, 1) := by decide +kernel
theorem dM_greatestState_5 : decode cM_greatestState 5 = .ok (.aload_n 0, 1) := by decide +kernel
theorem dM_greatestState_6 : decode cM_greatestState 6 = .ok (.getfield 18, 3) := by decide +kernel
theorem dM_greatestState_9 : decode cM_greatestState 9 = .ok (.arraylength, 1) := by decide +kernel
theorem dM_greatestState_10 : decode cM_greatestState 10 = .ok (.if_icmp .ge 38, 3) := by decide +kernel
theorem dM_greatestState_13 : decode cM_greatestState 13 = .ok (.aload_n 0, 1) := by decide +kernel
theorem dM_greatestState_14 : decode cM_greatestState 14 = .ok (.getfield 18, 3) := by decide +kernel
theorem dM_greatestState_17 : decode cM_greatestState 17 = .ok (.iload_n 2, 1) := by decide +kernel
theorem dM_greatestState_18 : decode cM_greatestState 18 = .ok (.iaload, 1) := by decide +kernel
theorem dM_greatestState_19 : decode cM_greatestState 19 = .ok (.iconst (-1), 1) := by decide +kernel
theorem dM_greatestState_20 : decode cM_greatestState 20 = .ok (.if_icmp .eq 22, 3) := by decide +kernel
theorem dM_greatestState_23 : decode cM_greatestState 23 = .ok (.iload_n 1, 1) := by decide +kernel
theorem dM_greatestState_24 : decode cM_greatestState 24 = .ok (.iload_n 2, 1) := by decide +kernel
theorem dM_greatestState_25 : decode cM_greatestState 25 = .ok (.iconst 2, 1) := by decide +kernel
theorem dM_greatestState_26 : decode cM_greatestState 26 = .ok (.idiv, 1) := by decide +kernel
theorem dM_greatestState_27 : decode cM_greatestState 27 = .ok (.iconst 1, 1) := by decide +kernel
theorem dM_greatestState_28 : decode cM_greatestState 28 = .ok (.iadd, 1) := by decide +kernel
theorem dM_greatestState_29 : decode cM_greatestState 29 = .ok (.aload_n 0, 1) := by decide +kernel
theorem dM_greatestState_30 : decode cM_greatestState 30 = .ok (.getfield 18, 3) := by decide +kernel
theorem dM_greatestState_33 : decode cM_greatestState 33 = .ok (.iload_n 2, 1) := by decide +kernel
theorem dM_greatestState_34 : decode cM_greatestState 34 = .ok (.iaload, 1) := by decide +kernel
theorem dM_greatestState_35 : decode cM_greatestState 35 = .ok (.invokestatic 65, 3) := by decide +kernel
theorem dM_greatestState_38 : decode cM_greatestState 38 = .ok (.invokestatic 65, 3) := by decide +kernel
theorem dM_greatestState_41 : decode cM_greatestState 41 = .ok (.istore_n 1, 1) := by decide +kernel
theorem dM_greatestState_42 : decode cM_greatestState 42 = .ok (.iinc 2 1, 3) := by decide +kernel
theorem dM_greatestState_45 : decode cM_greatestState 45 = .ok (.goto (-41), 3) := by decide +kernel
theorem dM_greatestState_48 : decode cM_greatestState 48 = .ok (.iload_n 1, 1) := by decide +kernel
theorem dM_greatestState_49 : decode cM_greatestState 49 = .ok (.ireturn, 1) := by decide +kernel
theorem dG_base_0 : decode cG_base 0 = .ok (.iconst 1, 1) := by decide +kernel
theorem dG_base_1 : decode cG_base 1 = .ok (.bipush 18, 2) := by decide +kernel
theorem dG_base_3 : decode cG_base 3 = .ok (.iconst 2, 1) := by decide +kernel
theorem dG_base_4 : decode cG_base 4 = .ok (.iload_n 0, 1) := by decide +kernel
theorem dG_base_5 : decode cG_base 5 = .ok (.iconst 1, 1) := by decide +kernel
theorem dG_base_6 : decode cG_base 6 = .ok (.isub, 1) := by decide +kernel
theorem dG_base_7 : decode cG_base 7 = .ok (.imul, 1) := by decide +kernel
theorem dG_base_8 : decode cG_base 8 = .ok (.iload_n 1, 1) := by decide +kernel
theorem dG_base_9 : decode cG_base 9 = .ok (.iadd, 1) := by decide +kernel
theorem dG_base_10 : decode cG_base 10 = .ok (.imul, 1) := by decide +kernel
theorem dG_base_11 : decode cG_base 11 = .ok (.iadd, 1) := by decide +kernel
theorem dG_base_12 : decode cG_base 12 = .ok (.ireturn, 1) := by decide +kernel
theorem dT_begin_0 : decode cT_begin 0 = .ok (.aload_n 0, 1) := by decide +kernel
theorem dT_begin_1 : decode cT_begin 1 = .ok (.iload_n 1, 1) := by decide +kernel
theorem dT_begin_2 : decode cT_begin 2 = .ok (.putfield 33, 3) := by decide +kernel
theorem dT_begin_5 : decode cT_begin 5 = .ok (.aload_n 0, 1) := by decide +kernel
theorem dT_begin_6 : decode cT_begin 6 = .ok (.iload_n 2, 1) := by decide +kernel
theorem dT_begin_7 : decode cT_begin 7 = .ok (.putfield 36, 3) := by decide +kernel
theorem dT_begin_10 : decode cT_begin 10 = .ok (.iconst 0, 1) := by decide +kernel
theorem dT_begin_11 : decode cT_begin 11 = .ok (.istore_n 3, 1) := by decide +kernel
theorem dT_begin_12 : decode cT_begin 12 = .ok (.iload_n 3, 1) := by decide +kernel
theorem dT_begin_13 : decode cT_begin 13 = .ok (.aload_n 0, 1) := by decide +kernel
theorem dT_begin_14 : decode cT_begin 14 = .ok (.getfield 33, 3) := by decide +kernel
theorem dT_begin_17 : decode cT_begin 17 = .ok (.if_icmp .ge 23, 3) := by decide +kernel
theorem dT_begin_20 : decode cT_begin 20 = .ok (.aload_n 0, 1) := by decide +kernel
theorem dT_begin_21 : decode cT_begin 21 = .ok (.getfield 15, 3) := by decide +kernel
theorem dT_begin_24 : decode cT_begin 24 = .ok (.iload_n 3, 1) := by decide +kernel
theorem dT_begin_25 : decode cT_begin 25 = .ok (.iconst 0, 1) := by decide +kernel
theorem dT_begin_26 : decode cT_begin 26 = .ok (.iastore, 1) := by decide +kernel
theorem dT_begin_27 : decode cT_begin 27 = .ok (.aload_n 0, 1) := by decide +kernel
theorem dT_begin_28 : decode cT_begin 28 = .ok (.getfield 19, 3) := by decide +kernel
theorem dT_begin_31 : decode cT_begin 31 = .ok (.iload_n 3, 1) := by decide +kernel
theorem dT_begin_32 : decode cT_begin 32 = .ok (.iconst 0, 1) := by decide +kernel
theorem dT_begin_33 : decode cT_begin 33 = .ok (.bastore, 1) := by decide +kernel
theorem dT_begin_34 : decode cT_begin 34 = .ok (.iinc 3 1, 3) := by decide +kernel
theorem dT_begin_37 : decode cT_begin 37 = .ok (.goto (-25), 3) := by decide +kernel
theorem dT_begin_40 : decode cT_begin 40 = .ok (.aload_n 0, 1) := by decide +kernel
theorem dT_begin_41 : decode cT_begin 41 = .ok (.invokevirtual 39, 3) := by decide +kernel
theorem dT_begin_44 : decode cT_begin 44 = .ok (.return_, 1) := by decide +kernel
theorem dT_clearWord_0 : decode cT_clearWord 0 = .ok (.aload_n 0, 1) := by decide +kernel
theorem dT_clearWord_1 : decode cT_clearWord 1 = .ok (.iconst 0, 1) := by decide +kernel
theorem dT_clearWord_2 : decode cT_clearWord 2 = .ok (.putfield 26, 3) := by decide +kernel
theorem dT_clearWord_5 : decode cT_clearWord 5 = .ok (.aload_n 0, 1) := by decide +kernel
theorem dT_clearWord_6 : decode cT_clearWord 6 = .ok (.iconst 0, 1) := by decide +kernel
theorem dT_clearWord_7 : decode cT_clearWord 7 = .ok (.putfield 30, 3) := by decide +kernel
theorem dT_clearWord_10 : decode cT_clearWord 10 = .ok (.return_, 1) := by decide +kernel
theorem dG_makeFor_0 : decode cG_makeFor 0 = .ok (.iload_n 2, 1) := by decide +kernel
theorem dG_makeFor_1 : decode cG_makeFor 1 = .ok (.iload_n 3, 1) := by decide +kernel
theorem dG_makeFor_2 : decode cG_makeFor 2 = .ok (.invokestatic 9, 3) := by decide +kernel
theorem dG_makeFor_5 : decode cG_makeFor 5 = .ok (.istore 4, 2) := by decide +kernel
theorem dG_makeFor_7 : decode cG_makeFor 7 = .ok (.aload_n 1, 1) := by decide +kernel
theorem dG_makeFor_8 : decode cG_makeFor 8 = .ok (.iload_n 2, 1) := by decide +kernel
theorem dG_makeFor_9 : decode cG_makeFor 9 = .ok (.iload_n 3, 1) := by decide +kernel
theorem dG_makeFor_10 : decode cG_makeFor 10 = .ok (.invokevirtual 29, 3) := by decide +kernel
theorem dG_makeFor_13 : decode cG_makeFor 13 = .ok (.ifCond .ne 14, 3) := by decide +kernel
theorem dG_makeFor_16 : decode cG_makeFor 16 = .ok (.aload_n 0, 1) := by decide +kernel
