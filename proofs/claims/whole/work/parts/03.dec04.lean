theorem dR_init_31 : decode cR_init 31 = .ok (.newarray .int, 2) := by decide +kernel
theorem dR_init_33 : decode cR_init 33 = .ok (.putfield 20, 3) := by decide +kernel
theorem dR_init_36 : decode cR_init 36 = .ok (.aload_n 0, 1) := by decide +kernel
theorem dR_init_37 : decode cR_init 37 = .ok (.iconst 1, 1) := by decide +kernel
theorem dR_init_38 : decode cR_init 38 = .ok (.putfield 23, 3) := by decide +kernel
theorem dR_init_41 : decode cR_init 41 = .ok (.aload_n 0, 1) := by decide +kernel
theorem dR_init_42 : decode cR_init 42 = .ok (.sipush 3600, 3) := by decide +kernel
theorem dR_init_45 : decode cR_init 45 = .ok (.newarray .int, 2) := by decide +kernel
theorem dR_init_47 : decode cR_init 47 = .ok (.putfield 27, 3) := by decide +kernel
theorem dR_init_50 : decode cR_init 50 = .ok (.aload_n 0, 1) := by decide +kernel
theorem dR_init_51 : decode cR_init 51 = .ok (.sipush 300, 3) := by decide +kernel
theorem dR_init_54 : decode cR_init 54 = .ok (.newarray .int, 2) := by decide +kernel
theorem dR_init_56 : decode cR_init 56 = .ok (.putfield 30, 3) := by decide +kernel
theorem dR_init_59 : decode cR_init 59 = .ok (.aload_n 0, 1) := by decide +kernel
theorem dR_init_60 : decode cR_init 60 = .ok (.sipush 300, 3) := by decide +kernel
theorem dR_init_63 : decode cR_init 63 = .ok (.newarray .boolean, 2) := by decide +kernel
theorem dR_init_65 : decode cR_init 65 = .ok (.putfield 33, 3) := by decide +kernel
theorem dR_init_68 : decode cR_init 68 = .ok (.aload_n 0, 1) := by decide +kernel
theorem dR_init_69 : decode cR_init 69 = .ok (.sipush 12000, 3) := by decide +kernel
theorem dR_init_72 : decode cR_init 72 = .ok (.newarray .int, 2) := by decide +kernel
theorem dR_init_74 : decode cR_init 74 = .ok (.putfield 36, 3) := by decide +kernel
theorem dR_init_77 : decode cR_init 77 = .ok (.aload_n 0, 1) := by decide +kernel
theorem dR_init_78 : decode cR_init 78 = .ok (.sipush 3600, 3) := by decide +kernel
theorem dR_init_81 : decode cR_init 81 = .ok (.newarray .int, 2) := by decide +kernel
theorem dR_init_83 : decode cR_init 83 = .ok (.putfield 39, 3) := by decide +kernel
theorem dR_init_86 : decode cR_init 86 = .ok (.aload_n 0, 1) := by decide +kernel
theorem dR_init_87 : decode cR_init 87 = .ok (.sipush 300, 3) := by decide +kernel
theorem dR_init_90 : decode cR_init 90 = .ok (.newarray .int, 2) := by decide +kernel
theorem dR_init_92 : decode cR_init 92 = .ok (.putfield 42, 3) := by decide +kernel
theorem dR_init_95 : decode cR_init 95 = .ok (.aload_n 0, 1) := by decide +kernel
theorem dR_init_96 : decode cR_init 96 = .ok (.sipush 300, 3) := by decide +kernel
theorem dR_init_99 : decode cR_init 99 = .ok (.newarray .boolean, 2) := by decide +kernel
theorem dR_init_101 : decode cR_init 101 = .ok (.putfield 45, 3) := by decide +kernel
theorem dR_init_104 : decode cR_init 104 = .ok (.aload_n 0, 1) := by decide +kernel
theorem dR_init_105 : decode cR_init 105 = .ok (.sipush 12000, 3) := by decide +kernel
theorem dR_init_108 : decode cR_init 108 = .ok (.newarray .int, 2) := by decide +kernel
theorem dR_init_110 : decode cR_init 110 = .ok (.putfield 48, 3) := by decide +kernel
theorem dR_init_113 : decode cR_init 113 = .ok (.return_, 1) := by decide +kernel
theorem dR_rule_0 : decode cR_rule 0 = .ok (.iload_n 1, 1) := by decide +kernel
theorem dR_rule_1 : decode cR_rule 1 = .ok (.invokestatic 51, 3) := by decide +kernel
theorem dR_rule_4 : decode cR_rule 4 = .ok (.ifCond .eq 37, 3) := by decide +kernel
theorem dR_rule_7 : decode cR_rule 7 = .ok (.iload_n 2, 1) := by decide +kernel
theorem dR_rule_8 : decode cR_rule 8 = .ok (.invokestatic 55, 3) := by decide +kernel
theorem dR_rule_11 : decode cR_rule 11 = .ok (.ifCond .eq 30, 3) := by decide +kernel
theorem dR_rule_14 : decode cR_rule 14 = .ok (.iload_n 3, 1) := by decide +kernel
theorem dR_rule_15 : decode cR_rule 15 = .ok (.invokestatic 55, 3) := by decide +kernel
theorem dR_rule_18 : decode cR_rule 18 = .ok (.ifCond .eq 23, 3) := by decide +kernel
theorem dR_rule_21 : decode cR_rule 21 = .ok (.iload 4, 2) := by decide +kernel
theorem dR_rule_23 : decode cR_rule 23 = .ok (.invokestatic 55, 3) := by decide +kernel
theorem dR_rule_26 : decode cR_rule 26 = .ok (.ifCond .eq 15, 3) := by decide +kernel
theorem dR_rule_29 : decode cR_rule 29 = .ok (.iload 5, 2) := by decide +kernel
theorem dR_rule_31 : decode cR_rule 31 = .ok (.ifCond .lt 10, 3) := by decide +kernel
theorem dR_rule_34 : decode cR_rule 34 = .ok (.iload 5, 2) := by decide +kernel
theorem dR_rule_36 : decode cR_rule 36 = .ok (.bipush 8, 2) := by decide +kernel
theorem dR_rule_38 : decode cR_rule 38 = .ok (.if_icmp .le 5, 3) := by decide +kernel
theorem dR_rule_41 : decode cR_rule 41 = .ok (.iconst 0, 1) := by decide +kernel
theorem dR_rule_42 : decode cR_rule 42 = .ok (.ireturn, 1) := by decide +kernel
theorem dR_rule_43 : decode cR_rule 43 = .ok (.iconst 2, 1) := by decide +kernel
theorem dR_rule_44 : decode cR_rule 44 = .ok (.iload_n 1, 1) := by decide +kernel
theorem dR_rule_45 : decode cR_rule 45 = .ok (.iconst 1, 1) := by decide +kernel
theorem dR_rule_46 : decode cR_rule 46 = .ok (.isub, 1) := by decide +kernel
theorem dR_rule_47 : decode cR_rule 47 = .ok (.imul, 1) := by decide +kernel
theorem dR_rule_48 : decode cR_rule 48 = .ok (.iload_n 2, 1) := by decide +kernel
theorem dR_rule_49 : decode cR_rule 49 = .ok (.iadd, 1) := by decide +kernel
theorem dR_rule_50 : decode cR_rule 50 = .ok (.istore 6, 2) := by decide +kernel
theorem dR_rule_52 : decode cR_rule 52 = .ok (.aload_n 0, 1) := by decide +kernel
theorem dR_rule_53 : decode cR_rule 53 = .ok (.getfield 7, 3) := by decide +kernel
theorem dR_rule_56 : decode cR_rule 56 = .ok (.iload 6, 2) := by decide +kernel
theorem dR_rule_58 : decode cR_rule 58 = .ok (.iconst 1, 1) := by decide +kernel
theorem dR_rule_59 : decode cR_rule 59 = .ok (.bastore, 1) := by decide +kernel
theorem dR_rule_60 : decode cR_rule 60 = .ok (.aload_n 0, 1) := by decide +kernel
theorem dR_rule_61 : decode cR_rule 61 = .ok (.getfield 13, 3) := by decide +kernel
theorem dR_rule_64 : decode cR_rule 64 = .ok (.iload 6, 2) := by decide +kernel
theorem dR_rule_66 : decode cR_rule 66 = .ok (.iload_n 3, 1) := by decide +kernel
theorem dR_rule_67 : decode cR_rule 67 = .ok (.iastore, 1) := by decide +kernel
theorem dR_rule_68 : decode cR_rule 68 = .ok (.aload_n 0, 1) := by decide +kernel
theorem dR_rule_69 : decode cR_rule 69 = .ok (.getfield 17, 3) := by decide +kernel
theorem dR_rule_72 : decode cR_rule 72 = .ok (.iload 6, 2) := by decide +kernel
theorem dR_rule_74 : decode cR_rule 74 = .ok (.iload 4, 2) := by decide +kernel
theorem dR_rule_76 : decode cR_rule 76 = .ok (.iastore, 1) := by decide +kernel
theorem dR_rule_77 : decode cR_rule 77 = .ok (.aload_n 0, 1) := by decide +kernel
theorem dR_rule_78 : decode cR_rule 78 = .ok (.getfield 20, 3) := by decide +kernel
theorem dR_rule_81 : decode cR_rule 81 = .ok (.iload 6, 2) := by decide +kernel
theorem dR_rule_83 : decode cR_rule 83 = .ok (.iload 5, 2) := by decide +kernel
theorem dR_rule_85 : decode cR_rule 85 = .ok (.iastore, 1) := by decide +kernel
theorem dR_rule_86 : decode cR_rule 86 = .ok (.iconst 1, 1) := by decide +kernel
theorem dR_rule_87 : decode cR_rule 87 = .ok (.ireturn, 1) := by decide +kernel
theorem dR_isState_0 : decode cR_isState 0 = .ok (.iload_n 0, 1) := by decide +kernel
theorem dR_isState_1 : decode cR_isState 1 = .ok (.iconst 1, 1) := by decide +kernel
theorem dR_isState_2 : decode cR_isState 2 = .ok (.if_icmp .lt 13, 3) := by decide +kernel
theorem dR_isState_5 : decode cR_isState 5 = .ok (.iload_n 0, 1) := by decide +kernel
theorem dR_isState_6 : decode cR_isState 6 = .ok (.bipush 8, 2) := by decide +kernel
theorem dR_isState_8 : decode cR_isState 8 = .ok (.if_icmp .gt 7, 3) := by decide +kernel
theorem dR_isState_11 : decode cR_isState 11 = .ok (.iconst 1, 1) := by decide +kernel
theorem dR_isState_12 : decode cR_isState 12 = .ok (.goto 4, 3) := by decide +kernel
theorem dR_isState_15 : decode cR_isState 15 = .ok (.iconst 0, 1) := by decide +kernel
theorem dR_isState_16 : decode cR_isState 16 = .ok (.ireturn, 1) := by decide +kernel
theorem dR_isBit_0 : decode cR_isBit 0 = .ok (.iload_n 0, 1) := by decide +kernel
theorem dR_isBit_1 : decode cR_isBit 1 = .ok (.ifCond .eq 8, 3) := by decide +kernel
theorem dR_isBit_4 : decode cR_isBit 4 = .ok (.iload_n 0, 1) := by decide +kernel
theorem dR_isBit_5 : decode cR_isBit 5 = .ok (.iconst 1, 1) := by decide +kernel
theorem dR_isBit_6 : decode cR_isBit 6 = .ok (.if_icmp .ne 7, 3) := by decide +kernel
theorem dR_isBit_9 : decode cR_isBit 9 = .ok (.iconst 1, 1) := by decide +kernel
theorem dR_isBit_10 : decode cR_isBit 10 = .ok (.goto 4, 3) := by decide +kernel
theorem dR_isBit_13 : decode cR_isBit 13 = .ok (.iconst 0, 1) := by decide +kernel
theorem dR_isBit_14 : decode cR_isBit 14 = .ok (.ireturn, 1) := by decide +kernel
theorem dR_tape_0 : decode cR_tape 0 = .ok (.iload_n 1, 1) := by decide +kernel
theorem dR_tape_1 : decode cR_tape 1 = .ok (.invokestatic 51, 3) := by decide +kernel
theorem dR_tape_4 : decode cR_tape 4 = .ok (.ifCond .eq 25, 3) := by decide +kernel
theorem dR_tape_7 : decode cR_tape 7 = .ok (.iload_n 2, 1) := by decide +kernel
theorem dR_tape_8 : decode cR_tape 8 = .ok (.invokestatic 55, 3) := by decide +kernel
theorem dR_tape_11 : decode cR_tape 11 = .ok (.ifCond .eq 18, 3) := by decide +kernel
theorem dR_tape_14 : decode cR_tape 14 = .ok (.iload_n 3, 1) := by decide +kernel
theorem dR_tape_15 : decode cR_tape 15 = .ok (.invokestatic 58, 3) := by decide +kernel
theorem dR_tape_18 : decode cR_tape 18 = .ok (.ifCond .eq 11, 3) := by decide +kernel
theorem dR_tape_21 : decode cR_tape 21 = .ok (.iload 4, 2) := by decide +kernel
theorem dR_tape_23 : decode cR_tape 23 = .ok (.invokestatic 58, 3) := by decide +kernel
theorem dR_tape_26 : decode cR_tape 26 = .ok (.ifCond .ne 5, 3) := by decide +kernel
theorem dR_tape_29 : decode cR_tape 29 = .ok (.iconst 0, 1) := by decide +kernel
theorem dR_tape_30 : decode cR_tape 30 = .ok (.ireturn, 1) := by decide +kernel
theorem dR_tape_31 : decode cR_tape 31 = .ok (.aload_n 0, 1) := by decide +kernel
theorem dR_tape_32 : decode cR_tape 32 = .ok (.iload_n 1, 1) := by decide +kernel
theorem dR_tape_33 : decode cR_tape 33 = .ok (.putfield 23, 3) := by decide +kernel
theorem dR_tape_36 : decode cR_tape 36 = .ok (.aload_n 0, 1) := by decide +kernel
theorem dR_tape_37 : decode cR_tape 37 = .ok (.iload_n 2, 1) := by decide +kernel
theorem dR_tape_38 : decode cR_tape 38 = .ok (.putfield 61, 3) := by decide +kernel
theorem dR_tape_41 : decode cR_tape 41 = .ok (.aload_n 0, 1) := by decide +kernel
theorem dR_tape_42 : decode cR_tape 42 = .ok (.iload_n 3, 1) := by decide +kernel
theorem dR_tape_43 : decode cR_tape 43 = .ok (.putfield 64, 3) := by decide +kernel
theorem dR_tape_46 : decode cR_tape 46 = .ok (.aload_n 0, 1) := by decide +kernel
theorem dR_tape_47 : decode cR_tape 47 = .ok (.iload 4, 2) := by decide +kernel
theorem dR_tape_49 : decode cR_tape 49 = .ok (.putfield 67, 3) := by decide +kernel
theorem dR_tape_52 : decode cR_tape 52 = .ok (.iconst 1, 1) := by decide +kernel
theorem dR_tape_53 : decode cR_tape 53 = .ok (.ireturn, 1) := by decide +kernel
theorem dR_isNumber_0 : decode cR_isNumber 0 = .ok (.iload_n 0, 1) := by decide +kernel
theorem dR_isNumber_1 : decode cR_isNumber 1 = .ok (.ifCond .lt 14, 3) := by decide +kernel
theorem dR_isNumber_4 : decode cR_isNumber 4 = .ok (.iload_n 0, 1) := by decide +kernel
theorem dR_isNumber_5 : decode cR_isNumber 5 = .ok (.sipush 255, 3) := by decide +kernel
theorem dR_isNumber_8 : decode cR_isNumber 8 = .ok (.if_icmp .gt 7, 3) := by decide +kernel
theorem dR_isNumber_11 : decode cR_isNumber 11 = .ok (.iconst 1, 1) := by decide +kernel
theorem dR_isNumber_12 : decode cR_isNumber 12 = .ok (.goto 4, 3) := by decide +kernel
theorem dR_isNumber_15 : decode cR_isNumber 15 = .ok (.iconst 0, 1) := by decide +kernel
theorem dR_isNumber_16 : decode cR_isNumber 16 = .ok (.ireturn, 1) := by decide +kernel
theorem dR_stepTape_0 : decode cR_stepTape 0 = .ok (.iconst 0, 1) := by decide +kernel
theorem dR_stepTape_1 : decode cR_stepTape 1 = .ok (.istore_n 2, 1) := by decide +kernel
theorem dR_stepTape_2 : decode cR_stepTape 2 = .ok (.iload_n 2, 1) := by decide +kernel
theorem dR_stepTape_3 : decode cR_stepTape 3 = .ok (.iload_n 1, 1) := by decide +kernel
theorem dR_stepTape_4 : decode cR_stepTape 4 = .ok (.invokestatic 77, 3) := by decide +kernel
theorem dR_stepTape_7 : decode cR_stepTape 7 = .ok (.if_icmp .ge 21, 3) := by decide +kernel
theorem dR_stepTape_10 : decode cR_stepTape 10 = .ok (.aload_n 0, 1) := by decide +kernel
theorem dR_stepTape_11 : decode cR_stepTape 11 = .ok (.invokevirtual 81, 3) := by decide +kernel
theorem dR_stepTape_14 : decode cR_stepTape 14 = .ok (.iconst 1, 1) := by decide +kernel
theorem dR_stepTape_15 : decode cR_stepTape 15 = .ok (.if_icmp .ne 13, 3) := by decide +kernel
theorem dR_stepTape_18 : decode cR_stepTape 18 = .ok (.aload_n 0, 1) := by decide +kernel
theorem dR_stepTape_19 : decode cR_stepTape 19 = .ok (.invokevirtual 85, 3) := by decide +kernel
theorem dR_stepTape_22 : decode cR_stepTape 22 = .ok (.iinc 2 1, 3) := by decide +kernel
theorem dR_stepTape_25 : decode cR_stepTape 25 = .ok (.goto (-23), 3) := by decide +kernel
theorem dR_stepTape_28 : decode cR_stepTape 28 = .ok (.iload_n 2, 1) := by decide +kernel
theorem dR_stepTape_29 : decode cR_stepTape 29 = .ok (.ireturn, 1) := by decide +kernel
theorem dR_steps_0 : decode cR_steps 0 = .ok (.iload_n 0, 1) := by decide +kernel
theorem dR_steps_1 : decode cR_steps 1 = .ok (.ifCond .ge 7, 3) := by decide +kernel
theorem dR_steps_4 : decode cR_steps 4 = .ok (.iconst 0, 1) := by decide +kernel
theorem dR_steps_5 : decode cR_steps 5 = .ok (.goto 17, 3) := by decide +kernel
theorem dR_steps_8 : decode cR_steps 8 = .ok (.iload_n 0, 1) := by decide +kernel
theorem dR_steps_9 : decode cR_steps 9 = .ok (.sipush 20000, 3) := by decide +kernel
theorem dR_steps_12 : decode cR_steps 12 = .ok (.if_icmp .ge 7, 3) := by decide +kernel
theorem dR_steps_15 : decode cR_steps 15 = .ok (.iload_n 0, 1) := by decide +kernel
theorem dR_steps_16 : decode cR_steps 16 = .ok (.goto 6, 3) := by decide +kernel
theorem dR_steps_19 : decode cR_steps 19 = .ok (.sipush 20000, 3) := by decide +kernel
theorem dR_steps_22 : decode cR_steps 22 = .ok (.ireturn, 1) := by decide +kernel
theorem dR_tapeCan_0 : decode cR_tapeCan 0 = .ok (.aload_n 0, 1) := by decide +kernel
theorem dR_tapeCan_1 : decode cR_tapeCan 1 = .ok (.getfield 23, 3) := by decide +kernel
theorem dR_tapeCan_4 : decode cR_tapeCan 4 = .ok (.aload_n 0, 1) := by decide +kernel
theorem dR_tapeCan_5 : decode cR_tapeCan 5 = .ok (.getfield 61, 3) := by decide +kernel
theorem dR_tapeCan_8 : decode cR_tapeCan 8 = .ok (.invokestatic 70, 3) := by decide +kernel
theorem dR_tapeCan_11 : decode cR_tapeCan 11 = .ok (.istore_n 1, 1) := by decide +kernel
theorem dR_tapeCan_12 : decode cR_tapeCan 12 = .ok (.aload_n 0, 1) := by decide +kernel
theorem dR_tapeCan_13 : decode cR_tapeCan 13 = .ok (.iload_n 1, 1) := by decide +kernel
theorem dR_tapeCan_14 : decode cR_tapeCan 14 = .ok (.invokevirtual 74, 3) := by decide +kernel
theorem dR_tapeCan_17 : decode cR_tapeCan 17 = .ok (.ifCond .ne 5, 3) := by decide +kernel
theorem dR_tapeCan_20 : decode cR_tapeCan 20 = .ok (.iconst 0, 1) := by decide +kernel
theorem dR_tapeCan_21 : decode cR_tapeCan 21 = .ok (.ireturn, 1) := by decide +kernel
theorem dR_tapeCan_22 : decode cR_tapeCan 22 = .ok (.iconst 2, 1) := by decide +kernel
theorem dR_tapeCan_23 : decode cR_tapeCan 23 = .ok (.aload_n 0, 1) := by decide +kernel
theorem dR_tapeCan_24 : decode cR_tapeCan 24 = .ok (.getfield 17, 3) := by decide +kernel
theorem dR_tapeCan_27 : decode cR_tapeCan 27 = .ok (.iload_n 1, 1) := by decide +kernel
theorem dR_tapeCan_28 : decode cR_tapeCan 28 = .ok (.iaload, 1) := by decide +kernel
theorem dR_tapeCan_29 : decode cR_tapeCan 29 = .ok (.iconst 1, 1) := by decide +kernel
theorem dR_tapeCan_30 : decode cR_tapeCan 30 = .ok (.if_icmp .ne 10, 3) := by decide +kernel
theorem dR_tapeCan_33 : decode cR_tapeCan 33 = .ok (.aload_n 0, 1) := by decide +kernel
theorem dR_tapeCan_34 : decode cR_tapeCan 34 = .ok (.getfield 64, 3) := by decide +kernel
theorem dR_tapeCan_37 : decode cR_tapeCan 37 = .ok (.goto 7, 3) := by decide +kernel
theorem dR_tapeCan_40 : decode cR_tapeCan 40 = .ok (.aload_n 0, 1) := by decide +kernel
theorem dR_tapeCan_41 : decode cR_tapeCan 41 = .ok (.getfield 67, 3) := by decide +kernel
theorem dR_tapeCan_44 : decode cR_tapeCan 44 = .ok (.imul, 1) := by decide +kernel
theorem dR_tapeCan_45 : decode cR_tapeCan 45 = .ok (.aload_n 0, 1) := by decide +kernel
theorem dR_tapeCan_46 : decode cR_tapeCan 46 = .ok (.getfield 13, 3) := by decide +kernel
theorem dR_tapeCan_49 : decode cR_tapeCan 49 = .ok (.iload_n 1, 1) := by decide +kernel
theorem dR_tapeCan_50 : decode cR_tapeCan 50 = .ok (.iaload, 1) := by decide +kernel
theorem dR_tapeCan_51 : decode cR_tapeCan 51 = .ok (.iadd, 1) := by decide +kernel
theorem dR_tapeCan_52 : decode cR_tapeCan 52 = .ok (.sipush 256, 3) := by decide +kernel
theorem dR_tapeCan_55 : decode cR_tapeCan 55 = .ok (.if_icmp .lt 8, 3) := by decide +kernel
theorem dR_tapeCan_58 : decode cR_tapeCan 58 = .ok (.bipush (-2), 2) := by decide +kernel
theorem dR_tapeCan_60 : decode cR_tapeCan 60 = .ok (.goto 4, 3) := by decide +kernel
theorem dR_tapeCan_63 : decode cR_tapeCan 63 = .ok (.iconst 1, 1) := by decide +kernel
theorem dR_tapeCan_64 : decode cR_tapeCan 64 = .ok (.ireturn, 1) := by decide +kernel
theorem dR_ruleOf_0 : decode cR_ruleOf 0 = .ok (.iconst 2, 1) := by decide +kernel
theorem dR_ruleOf_1 : decode cR_ruleOf 1 = .ok (.iload_n 0, 1) := by decide +kernel
theorem dR_ruleOf_2 : decode cR_ruleOf 2 = .ok (.iconst 1, 1) := by decide +kernel
theorem dR_ruleOf_3 : decode cR_ruleOf 3 = .ok (.isub, 1) := by decide +kernel
theorem dR_ruleOf_4 : decode cR_ruleOf 4 = .ok (.imul, 1) := by decide +kernel
theorem dR_ruleOf_5 : decode cR_ruleOf 5 = .ok (.iload_n 1, 1) := by decide +kernel
theorem dR_ruleOf_6 : decode cR_ruleOf 6 = .ok (.iadd, 1) := by decide +kernel
theorem dR_ruleOf_7 : decode cR_ruleOf 7 = .ok (.ireturn, 1) := by decide +kernel
theorem dR_goesOn_0 : decode cR_goesOn 0 = .ok (.aload_n 0, 1) := by decide +kernel
theorem dR_goesOn_1 : decode cR_goesOn 1 = .ok (.getfield 7, 3) := by decide +kernel
theorem dR_goesOn_4 : decode cR_goesOn 4 = .ok (.iload_n 1, 1) := by decide +kernel
theorem dR_goesOn_5 : decode cR_goesOn 5 = .ok (.baload, 1) := by decide +kernel
theorem dR_goesOn_6 : decode cR_goesOn 6 = .ok (.ifCond .eq 16, 3) := by decide +kernel
theorem dR_goesOn_9 : decode cR_goesOn 9 = .ok (.aload_n 0, 1) := by decide +kernel
theorem dR_goesOn_10 : decode cR_goesOn 10 = .ok (.getfield 20, 3) := by decide +kernel
theorem dR_goesOn_13 : decode cR_goesOn 13 = .ok (.iload_n 1, 1) := by decide +kernel
theorem dR_goesOn_14 : decode cR_goesOn 14 = .ok (.iaload, 1) := by decide +kernel
theorem dR_goesOn_15 : decode cR_goesOn 15 = .ok (.ifCond .le 7, 3) := by decide +kernel
theorem dR_goesOn_18 : decode cR_goesOn 18 = .ok (.iconst 1, 1) := by decide +kernel
theorem dR_goesOn_19 : decode cR_goesOn 19 = .ok (.goto 4, 3) := by decide +kernel
theorem dR_goesOn_22 : decode cR_goesOn 22 = .ok (.iconst 0, 1) := by decide +kernel
theorem dR_goesOn_23 : decode cR_goesOn 23 = .ok (.ireturn, 1) := by decide +kernel
theorem dR_tapeStep_0 : decode cR_tapeStep 0 = .ok (.aload_n 0, 1) := by decide +kernel
theorem dR_tapeStep_1 : decode cR_tapeStep 1 = .ok (.getfield 23, 3) := by decide +kernel
theorem dR_tapeStep_4 : decode cR_tapeStep 4 = .ok (.aload_n 0, 1) := by decide +kernel
theorem dR_tapeStep_5 : decode cR_tapeStep 5 = .ok (.getfield 61, 3) := by decide +kernel
theorem dR_tapeStep_8 : decode cR_tapeStep 8 = .ok (.invokestatic 70, 3) := by decide +kernel
theorem dR_tapeStep_11 : decode cR_tapeStep 11 = .ok (.istore_n 1, 1) := by decide +kernel
theorem dR_tapeStep_12 : decode cR_tapeStep 12 = .ok (.iconst 2, 1) := by decide +kernel
theorem dR_tapeStep_13 : decode cR_tapeStep 13 = .ok (.aload_n 0, 1) := by decide +kernel
theorem dR_tapeStep_14 : decode cR_tapeStep 14 = .ok (.getfield 17, 3) := by decide +kernel
theorem dR_tapeStep_17 : decode cR_tapeStep 17 = .ok (.iload_n 1, 1) := by decide +kernel
theorem dR_tapeStep_18 : decode cR_tapeStep 18 = .ok (.iaload, 1) := by decide +kernel
theorem dR_tapeStep_19 : decode cR_tapeStep 19 = .ok (.iconst 1, 1) := by decide +kernel
theorem dR_tapeStep_20 : decode cR_tapeStep 20 = .ok (.if_icmp .ne 10, 3) := by decide +kernel
theorem dR_tapeStep_23 : decode cR_tapeStep 23 = .ok (.aload_n 0, 1) := by decide +kernel
theorem dR_tapeStep_24 : decode cR_tapeStep 24 = .ok (.getfield 64, 3) := by decide +kernel
theorem dR_tapeStep_27 : decode cR_tapeStep 27 = .ok (.goto 7, 3) := by decide +kernel
theorem dR_tapeStep_30 : decode cR_tapeStep 30 = .ok (.aload_n 0, 1) := by decide +kernel
theorem dR_tapeStep_31 : decode cR_tapeStep 31 = .ok (.getfield 67, 3) := by decide +kernel
theorem dR_tapeStep_34 : decode cR_tapeStep 34 = .ok (.imul, 1) := by decide +kernel
theorem dR_tapeStep_35 : decode cR_tapeStep 35 = .ok (.aload_n 0, 1) := by decide +kernel
theorem dR_tapeStep_36 : decode cR_tapeStep 36 = .ok (.getfield 13, 3) := by decide +kernel
theorem dR_tapeStep_39 : decode cR_tapeStep 39 = .ok (.iload_n 1, 1) := by decide +kernel
theorem dR_tapeStep_40 : decode cR_tapeStep 40 = .ok (.iaload, 1) := by decide +kernel
theorem dR_tapeStep_41 : decode cR_tapeStep 41 = .ok (.iadd, 1) := by decide +kernel
theorem dR_tapeStep_42 : decode cR_tapeStep 42 = .ok (.istore_n 2, 1) := by decide +kernel
theorem dR_tapeStep_43 : decode cR_tapeStep 43 = .ok (.aload_n 0, 1) := by decide +kernel
theorem dR_tapeStep_44 : decode cR_tapeStep 44 = .ok (.getfield 17, 3) := by decide +kernel
theorem dR_tapeStep_47 : decode cR_tapeStep 47 = .ok (.iload_n 1, 1) := by decide +kernel
theorem dR_tapeStep_48 : decode cR_tapeStep 48 = .ok (.iaload, 1) := by decide +kernel
theorem dR_tapeStep_49 : decode cR_tapeStep 49 = .ok (.iconst 1, 1) := by decide +kernel
theorem dR_tapeStep_50 : decode cR_tapeStep 50 = .ok (.if_icmp .ne 10, 3) := by decide +kernel
theorem dR_tapeStep_53 : decode cR_tapeStep 53 = .ok (.aload_n 0, 1) := by decide +kernel
theorem dR_tapeStep_54 : decode cR_tapeStep 54 = .ok (.getfield 67, 3) := by decide +kernel
theorem dR_tapeStep_57 : decode cR_tapeStep 57 = .ok (.goto 7, 3) := by decide +kernel
theorem dR_tapeStep_60 : decode cR_tapeStep 60 = .ok (.aload_n 0, 1) := by decide +kernel
theorem dR_tapeStep_61 : decode cR_tapeStep 61 = .ok (.getfield 64, 3) := by decide +kernel
theorem dR_tapeStep_64 : decode cR_tapeStep 64 = .ok (.istore_n 3, 1) := by decide +kernel
theorem dR_tapeStep_65 : decode cR_tapeStep 65 = .ok (.aload_n 0, 1) := by decide +kernel
theorem dR_tapeStep_66 : decode cR_tapeStep 66 = .ok (.iload_n 3, 1) := by decide +kernel
theorem dR_tapeStep_67 : decode cR_tapeStep 67 = .ok (.iconst 2, 1) := by decide +kernel
theorem dR_tapeStep_68 : decode cR_tapeStep 68 = .ok (.irem, 1) := by decide +kernel
theorem dR_tapeStep_69 : decode cR_tapeStep 69 = .ok (.putfield 61, 3) := by decide +kernel
theorem dR_tapeStep_72 : decode cR_tapeStep 72 = .ok (.aload_n 0, 1) := by decide +kernel
theorem dR_tapeStep_73 : decode cR_tapeStep 73 = .ok (.aload_n 0, 1) := by decide +kernel
theorem dR_tapeStep_74 : decode cR_tapeStep 74 = .ok (.getfield 17, 3) := by decide +kernel
theorem dR_tapeStep_77 : decode cR_tapeStep 77 = .ok (.iload_n 1, 1) := by decide +kernel
theorem dR_tapeStep_78 : decode cR_tapeStep 78 = .ok (.iaload, 1) := by decide +kernel
theorem dR_tapeStep_79 : decode cR_tapeStep 79 = .ok (.iconst 1, 1) := by decide +kernel
theorem dR_tapeStep_80 : decode cR_tapeStep 80 = .ok (.if_icmp .ne 7, 3) := by decide +kernel
theorem dR_tapeStep_83 : decode cR_tapeStep 83 = .ok (.iload_n 2, 1) := by decide +kernel
theorem dR_tapeStep_84 : decode cR_tapeStep 84 = .ok (.goto 6, 3) := by decide +kernel
theorem dR_tapeStep_87 : decode cR_tapeStep 87 = .ok (.iload_n 3, 1) := by decide +kernel
theorem dR_tapeStep_88 : decode cR_tapeStep 88 = .ok (.iconst 2, 1) := by decide +kernel
theorem dR_tapeStep_89 : decode cR_tapeStep 89 = .ok (.idiv, 1) := by decide +kernel
theorem dR_tapeStep_90 : decode cR_tapeStep 90 = .ok (.putfield 64, 3) := by decide +kernel
theorem dR_tapeStep_93 : decode cR_tapeStep 93 = .ok (.aload_n 0, 1) := by decide +kernel
theorem dR_tapeStep_94 : decode cR_tapeStep 94 = .ok (.aload_n 0, 1) := by decide +kernel
theorem dR_tapeStep_95 : decode cR_tapeStep 95 = .ok (.getfield 17, 3) := by decide +kernel
theorem dR_tapeStep_98 : decode cR_tapeStep 98 = .ok (.iload_n 1, 1) := by decide +kernel
theorem dR_tapeStep_99 : decode cR_tapeStep 99 = .ok (.iaload, 1) := by decide +kernel
theorem dR_tapeStep_100 : decode cR_tapeStep 100 = .ok (.iconst 1, 1) := by decide +kernel
theorem dR_tapeStep_101 : decode cR_tapeStep 101 = .ok (.if_icmp .ne 9, 3) := by decide +kernel
theorem dR_tapeStep_104 : decode cR_tapeStep 104 = .ok (.iload_n 3, 1) := by decide +kernel
theorem dR_tapeStep_105 : decode cR_tapeStep 105 = .ok (.iconst 2, 1) := by decide +kernel
theorem dR_tapeStep_106 : decode cR_tapeStep 106 = .ok (.idiv, 1) := by decide +kernel
theorem dR_tapeStep_107 : decode cR_tapeStep 107 = .ok (.goto 4, 3) := by decide +kernel
theorem dR_tapeStep_110 : decode cR_tapeStep 110 = .ok (.iload_n 2, 1) := by decide +kernel
theorem dR_tapeStep_111 : decode cR_tapeStep 111 = .ok (.putfield 67, 3) := by decide +kernel
theorem dR_tapeStep_114 : decode cR_tapeStep 114 = .ok (.aload_n 0, 1) := by decide +kernel
theorem dR_tapeStep_115 : decode cR_tapeStep 115 = .ok (.aload_n 0, 1) := by decide +kernel
theorem dR_tapeStep_116 : decode cR_tapeStep 116 = .ok (.getfield 20, 3) := by decide +kernel
theorem dR_tapeStep_119 : decode cR_tapeStep 119 = .ok (.iload_n 1, 1) := by decide +kernel
theorem dR_tapeStep_120 : decode cR_tapeStep 120 = .ok (.iaload, 1) := by decide +kernel
theorem dR_tapeStep_121 : decode cR_tapeStep 121 = .ok (.putfield 23, 3) := by decide +kernel
theorem dR_tapeStep_124 : decode cR_tapeStep 124 = .ok (.return_, 1) := by decide +kernel
theorem dR_tapeNow_0 : decode cR_tapeNow 0 = .ok (.iload_n 1, 1) := by decide +kernel
theorem dR_tapeNow_1 : decode cR_tapeNow 1 = .ok (.ifCond .ne 10, 3) := by decide +kernel
theorem dR_tapeNow_4 : decode cR_tapeNow 4 = .ok (.aload_n 0, 1) := by decide +kernel
theorem dR_tapeNow_5 : decode cR_tapeNow 5 = .ok (.getfield 23, 3) := by decide +kernel
theorem dR_tapeNow_8 : decode cR_tapeNow 8 = .ok (.goto 52, 3) := by decide +kernel
theorem dR_tapeNow_11 : decode cR_tapeNow 11 = .ok (.iload_n 1, 1) := by decide +kernel
theorem dR_tapeNow_12 : decode cR_tapeNow 12 = .ok (.iconst 1, 1) := by decide +kernel
theorem dR_tapeNow_13 : decode cR_tapeNow 13 = .ok (.if_icmp .ne 10, 3) := by decide +kernel
theorem dR_tapeNow_16 : decode cR_tapeNow 16 = .ok (.aload_n 0, 1) := by decide +kernel
theorem dR_tapeNow_17 : decode cR_tapeNow 17 = .ok (.getfield 61, 3) := by decide +kernel
theorem dR_tapeNow_20 : decode cR_tapeNow 20 = .ok (.goto 40, 3) := by decide +kernel
theorem dR_tapeNow_23 : decode cR_tapeNow 23 = .ok (.iload_n 1, 1) := by decide +kernel
theorem dR_tapeNow_24 : decode cR_tapeNow 24 = .ok (.iconst 2, 1) := by decide +kernel
theorem dR_tapeNow_25 : decode cR_tapeNow 25 = .ok (.if_icmp .ne 10, 3) := by decide +kernel
theorem dR_tapeNow_28 : decode cR_tapeNow 28 = .ok (.aload_n 0, 1) := by decide +kernel
theorem dR_tapeNow_29 : decode cR_tapeNow 29 = .ok (.getfield 64, 3) := by decide +kernel
theorem dR_tapeNow_32 : decode cR_tapeNow 32 = .ok (.goto 28, 3) := by decide +kernel
theorem dR_tapeNow_35 : decode cR_tapeNow 35 = .ok (.iload_n 1, 1) := by decide +kernel
theorem dR_tapeNow_36 : decode cR_tapeNow 36 = .ok (.iconst 3, 1) := by decide +kernel
theorem dR_tapeNow_37 : decode cR_tapeNow 37 = .ok (.if_icmp .ne 10, 3) := by decide +kernel
theorem dR_tapeNow_40 : decode cR_tapeNow 40 = .ok (.aload_n 0, 1) := by decide +kernel
theorem dR_tapeNow_41 : decode cR_tapeNow 41 = .ok (.getfield 67, 3) := by decide +kernel
theorem dR_tapeNow_44 : decode cR_tapeNow 44 = .ok (.goto 16, 3) := by decide +kernel
theorem dR_tapeNow_47 : decode cR_tapeNow 47 = .ok (.iload_n 1, 1) := by decide +kernel
theorem dR_tapeNow_48 : decode cR_tapeNow 48 = .ok (.iconst 4, 1) := by decide +kernel
theorem dR_tapeNow_49 : decode cR_tapeNow 49 = .ok (.if_icmp .ne 10, 3) := by decide +kernel
theorem dR_tapeNow_52 : decode cR_tapeNow 52 = .ok (.aload_n 0, 1) := by decide +kernel
theorem dR_tapeNow_53 : decode cR_tapeNow 53 = .ok (.invokevirtual 81, 3) := by decide +kernel
theorem dR_tapeNow_56 : decode cR_tapeNow 56 = .ok (.goto 4, 3) := by decide +kernel
theorem dR_tapeNow_59 : decode cR_tapeNow 59 = .ok (.iconst (-1), 1) := by decide +kernel
theorem dR_tapeNow_60 : decode cR_tapeNow 60 = .ok (.ireturn, 1) := by decide +kernel
theorem dR_compileTag_0 : decode cR_compileTag 0 = .ok (.aload_n 0, 1) := by decide +kernel
theorem dR_compileTag_1 : decode cR_compileTag 1 = .ok (.invokevirtual 131, 3) := by decide +kernel
theorem dR_compileTag_4 : decode cR_compileTag 4 = .ok (.istore_n 1, 1) := by decide +kernel
theorem dR_compileTag_5 : decode cR_compileTag 5 = .ok (.iload_n 1, 1) := by decide +kernel
theorem dR_compileTag_6 : decode cR_compileTag 6 = .ok (.ifCond .gt 5, 3) := by decide +kernel
theorem dR_compileTag_9 : decode cR_compileTag 9 = .ok (.iconst 0, 1) := by decide +kernel
theorem dR_compileTag_10 : decode cR_compileTag 10 = .ok (.ireturn, 1) := by decide +kernel
theorem dR_compileTag_11 : decode cR_compileTag 11 = .ok (.aload_n 0, 1) := by decide +kernel
theorem dR_compileTag_12 : decode cR_compileTag 12 = .ok (.iconst 1, 1) := by decide +kernel
theorem dR_compileTag_13 : decode cR_compileTag 13 = .ok (.bipush 36, 2) := by decide +kernel
theorem dR_compileTag_15 : decode cR_compileTag 15 = .ok (.iload_n 1, 1) := by decide +kernel
theorem dR_compileTag_16 : decode cR_compileTag 16 = .ok (.imul, 1) := by decide +kernel
theorem dR_compileTag_17 : decode cR_compileTag 17 = .ok (.iadd, 1) := by decide +kernel
theorem dR_compileTag_18 : decode cR_compileTag 18 = .ok (.invokevirtual 134, 3) := by decide +kernel
theorem dR_compileTag_21 : decode cR_compileTag 21 = .ok (.aload_n 0, 1) := by decide +kernel
theorem dR_compileTag_22 : decode cR_compileTag 22 = .ok (.iconst 1, 1) := by decide +kernel
theorem dR_compileTag_23 : decode cR_compileTag 23 = .ok (.putfield 137, 3) := by decide +kernel
theorem dR_compileTag_26 : decode cR_compileTag 26 = .ok (.iconst 1, 1) := by decide +kernel
theorem dR_compileTag_27 : decode cR_compileTag 27 = .ok (.istore_n 2, 1) := by decide +kernel
theorem dR_compileTag_28 : decode cR_compileTag 28 = .ok (.iload_n 2, 1) := by decide +kernel
theorem dR_compileTag_29 : decode cR_compileTag 29 = .ok (.iload_n 1, 1) := by decide +kernel
theorem dR_compileTag_30 : decode cR_compileTag 30 = .ok (.if_icmp .gt 165, 3) := by decide +kernel
theorem dR_compileTag_33 : decode cR_compileTag 33 = .ok (.iconst 0, 1) := by decide +kernel
theorem dR_compileTag_34 : decode cR_compileTag 34 = .ok (.istore_n 3, 1) := by decide +kernel
theorem dR_compileTag_35 : decode cR_compileTag 35 = .ok (.iload_n 3, 1) := by decide +kernel
theorem dR_compileTag_36 : decode cR_compileTag 36 = .ok (.iconst 2, 1) := by decide +kernel
theorem dR_compileTag_37 : decode cR_compileTag 37 = .ok (.if_icmp .ge 152, 3) := by decide +kernel
theorem dR_compileTag_40 : decode cR_compileTag 40 = .ok (.iload_n 2, 1) := by decide +kernel
theorem dR_compileTag_41 : decode cR_compileTag 41 = .ok (.iload_n 3, 1) := by decide +kernel
theorem dR_compileTag_42 : decode cR_compileTag 42 = .ok (.invokestatic 70, 3) := by decide +kernel
theorem dR_compileTag_45 : decode cR_compileTag 45 = .ok (.istore 4, 2) := by decide +kernel
theorem dR_compileTag_47 : decode cR_compileTag 47 = .ok (.iload_n 2, 1) := by decide +kernel
theorem dR_compileTag_48 : decode cR_compileTag 48 = .ok (.iload_n 3, 1) := by decide +kernel
theorem dR_compileTag_49 : decode cR_compileTag 49 = .ok (.iconst 0, 1) := by decide +kernel
theorem dR_compileTag_50 : decode cR_compileTag 50 = .ok (.invokestatic 123, 3) := by decide +kernel
theorem dR_compileTag_53 : decode cR_compileTag 53 = .ok (.istore 5, 2) := by decide +kernel
theorem dR_compileTag_55 : decode cR_compileTag 55 = .ok (.aload_n 0, 1) := by decide +kernel
theorem dR_compileTag_56 : decode cR_compileTag 56 = .ok (.iload 4, 2) := by decide +kernel
theorem dR_compileTag_58 : decode cR_compileTag 58 = .ok (.invokevirtual 74, 3) := by decide +kernel
theorem dR_compileTag_61 : decode cR_compileTag 61 = .ok (.ifCond .ne 16, 3) := by decide +kernel
theorem dR_compileTag_64 : decode cR_compileTag 64 = .ok (.aload_n 0, 1) := by decide +kernel
theorem dR_compileTag_65 : decode cR_compileTag 65 = .ok (.getfield 33, 3) := by decide +kernel
theorem dR_compileTag_68 : decode cR_compileTag 68 = .ok (.iload 5, 2) := by decide +kernel
theorem dR_compileTag_70 : decode cR_compileTag 70 = .ok (.iconst 0, 1) := by decide +kernel
theorem dR_compileTag_71 : decode cR_compileTag 71 = .ok (.iadd, 1) := by decide +kernel
theorem dR_compileTag_72 : decode cR_compileTag 72 = .ok (.iconst 1, 1) := by decide +kernel
theorem dR_compileTag_73 : decode cR_compileTag 73 = .ok (.bastore, 1) := by decide +kernel
theorem dR_compileTag_74 : decode cR_compileTag 74 = .ok (.goto 109, 3) := by decide +kernel
theorem dR_compileTag_77 : decode cR_compileTag 77 = .ok (.aload_n 0, 1) := by decide +kernel
theorem dR_compileTag_78 : decode cR_compileTag 78 = .ok (.getfield 17, 3) := by decide +kernel
theorem dR_compileTag_81 : decode cR_compileTag 81 = .ok (.iload 4, 2) := by decide +kernel
theorem dR_compileTag_83 : decode cR_compileTag 83 = .ok (.iaload, 1) := by decide +kernel
theorem dR_compileTag_84 : decode cR_compileTag 84 = .ok (.iconst 1, 1) := by decide +kernel
theorem dR_compileTag_85 : decode cR_compileTag 85 = .ok (.if_icmp .ne 52, 3) := by decide +kernel
theorem dR_compileTag_88 : decode cR_compileTag 88 = .ok (.aload_n 0, 1) := by decide +kernel
theorem dR_compileTag_89 : decode cR_compileTag 89 = .ok (.iload 5, 2) := by decide +kernel
theorem dR_compileTag_91 : decode cR_compileTag 91 = .ok (.aload_n 0, 1) := by decide +kernel
theorem dR_compileTag_92 : decode cR_compileTag 92 = .ok (.getfield 13, 3) := by decide +kernel
theorem dR_compileTag_95 : decode cR_compileTag 95 = .ok (.iload 4, 2) := by decide +kernel
theorem dR_compileTag_97 : decode cR_compileTag 97 = .ok (.iaload, 1) := by decide +kernel
theorem dR_compileTag_98 : decode cR_compileTag 98 = .ok (.iconst 1, 1) := by decide +kernel
theorem dR_compileTag_99 : decode cR_compileTag 99 = .ok (.if_icmp .ne 7, 3) := by decide +kernel
theorem dR_compileTag_102 : decode cR_compileTag 102 = .ok (.iconst 1, 1) := by decide +kernel
theorem dR_compileTag_103 : decode cR_compileTag 103 = .ok (.goto 4, 3) := by decide +kernel
theorem dR_compileTag_106 : decode cR_compileTag 106 = .ok (.iconst 0, 1) := by decide +kernel
theorem dR_compileTag_107 : decode cR_compileTag 107 = .ok (.aload_n 0, 1) := by decide +kernel
theorem dR_compileTag_108 : decode cR_compileTag 108 = .ok (.getfield 20, 3) := by decide +kernel
theorem dR_compileTag_111 : decode cR_compileTag 111 = .ok (.iload 4, 2) := by decide +kernel
theorem dR_compileTag_113 : decode cR_compileTag 113 = .ok (.iaload, 1) := by decide +kernel
theorem dR_compileTag_114 : decode cR_compileTag 114 = .ok (.iconst 1, 1) := by decide +kernel
theorem dR_compileTag_115 : decode cR_compileTag 115 = .ok (.iconst 0, 1) := by decide +kernel
theorem dR_compileTag_116 : decode cR_compileTag 116 = .ok (.invokestatic 123, 3) := by decide +kernel
theorem dR_compileTag_119 : decode cR_compileTag 119 = .ok (.aload_n 0, 1) := by decide +kernel
theorem dR_compileTag_120 : decode cR_compileTag 120 = .ok (.getfield 20, 3) := by decide +kernel
theorem dR_compileTag_123 : decode cR_compileTag 123 = .ok (.iload 4, 2) := by decide +kernel
theorem dR_compileTag_125 : decode cR_compileTag 125 = .ok (.iaload, 1) := by decide +kernel
theorem dR_compileTag_126 : decode cR_compileTag 126 = .ok (.iconst 0, 1) := by decide +kernel
theorem dR_compileTag_127 : decode cR_compileTag 127 = .ok (.iconst 0, 1) := by decide +kernel
theorem dR_compileTag_128 : decode cR_compileTag 128 = .ok (.invokestatic 123, 3) := by decide +kernel
theorem dR_compileTag_131 : decode cR_compileTag 131 = .ok (.invokevirtual 141, 3) := by decide +kernel
theorem dR_compileTag_134 : decode cR_compileTag 134 = .ok (.goto 49, 3) := by decide +kernel
theorem dR_compileTag_137 : decode cR_compileTag 137 = .ok (.aload_n 0, 1) := by decide +kernel
theorem dR_compileTag_138 : decode cR_compileTag 138 = .ok (.iload 5, 2) := by decide +kernel
theorem dR_compileTag_140 : decode cR_compileTag 140 = .ok (.aload_n 0, 1) := by decide +kernel
theorem dR_compileTag_141 : decode cR_compileTag 141 = .ok (.getfield 13, 3) := by decide +kernel
theorem dR_compileTag_144 : decode cR_compileTag 144 = .ok (.iload 4, 2) := by decide +kernel
theorem dR_compileTag_146 : decode cR_compileTag 146 = .ok (.iaload, 1) := by decide +kernel
theorem dR_compileTag_147 : decode cR_compileTag 147 = .ok (.iconst 1, 1) := by decide +kernel
theorem dR_compileTag_148 : decode cR_compileTag 148 = .ok (.if_icmp .ne 7, 3) := by decide +kernel
theorem dR_compileTag_151 : decode cR_compileTag 151 = .ok (.iconst 1, 1) := by decide +kernel
theorem dR_compileTag_152 : decode cR_compileTag 152 = .ok (.goto 4, 3) := by decide +kernel
theorem dR_compileTag_155 : decode cR_compileTag 155 = .ok (.iconst 0, 1) := by decide +kernel
theorem dR_compileTag_156 : decode cR_compileTag 156 = .ok (.aload_n 0, 1) := by decide +kernel
theorem dR_compileTag_157 : decode cR_compileTag 157 = .ok (.getfield 20, 3) := by decide +kernel
theorem dR_compileTag_160 : decode cR_compileTag 160 = .ok (.iload 4, 2) := by decide +kernel
theorem dR_compileTag_162 : decode cR_compileTag 162 = .ok (.iaload, 1) := by decide +kernel
theorem dR_compileTag_163 : decode cR_compileTag 163 = .ok (.iconst 1, 1) := by decide +kernel
theorem dR_compileTag_164 : decode cR_compileTag 164 = .ok (.iconst 0, 1) := by decide +kernel
theorem dR_compileTag_165 : decode cR_compileTag 165 = .ok (.invokestatic 123, 3) := by decide +kernel
theorem dR_compileTag_168 : decode cR_compileTag 168 = .ok (.aload_n 0, 1) := by decide +kernel
theorem dR_compileTag_169 : decode cR_compileTag 169 = .ok (.getfield 20, 3) := by decide +kernel
theorem dR_compileTag_172 : decode cR_compileTag 172 = .ok (.iload 4, 2) := by decide +kernel
theorem dR_compileTag_174 : decode cR_compileTag 174 = .ok (.iaload, 1) := by decide +kernel
theorem dR_compileTag_175 : decode cR_compileTag 175 = .ok (.iconst 0, 1) := by decide +kernel
theorem dR_compileTag_176 : decode cR_compileTag 176 = .ok (.iconst 0, 1) := by decide +kernel
theorem dR_compileTag_177 : decode cR_compileTag 177 = .ok (.invokestatic 123, 3) := by decide +kernel
theorem dR_compileTag_180 : decode cR_compileTag 180 = .ok (.invokevirtual 145, 3) := by decide +kernel
theorem dR_compileTag_183 : decode cR_compileTag 183 = .ok (.iinc 3 1, 3) := by decide +kernel
theorem dR_compileTag_186 : decode cR_compileTag 186 = .ok (.goto (-151), 3) := by decide +kernel
theorem dR_compileTag_189 : decode cR_compileTag 189 = .ok (.iinc 2 1, 3) := by decide +kernel
theorem dR_compileTag_192 : decode cR_compileTag 192 = .ok (.goto (-164), 3) := by decide +kernel
theorem dR_compileTag_195 : decode cR_compileTag 195 = .ok (.aload_n 0, 1) := by decide +kernel
theorem dR_compileTag_196 : decode cR_compileTag 196 = .ok (.invokevirtual 148, 3) := by decide +kernel
theorem dR_compileTag_199 : decode cR_compileTag 199 = .ok (.aload_n 0, 1) := by decide +kernel
theorem dR_compileTag_200 : decode cR_compileTag 200 = .ok (.getfield 99, 3) := by decide +kernel
theorem dR_compileTag_203 : decode cR_compileTag 203 = .ok (.ireturn, 1) := by decide +kernel
