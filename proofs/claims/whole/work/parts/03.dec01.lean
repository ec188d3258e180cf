theorem dG_makeFor_17 : decode cG_makeFor 17 = .ok (.iload 4, 2) := by decide +kernel
theorem dG_makeFor_19 : decode cG_makeFor 19 = .ok (.iconst 0, 1) := by decide +kernel
theorem dG_makeFor_20 : decode cG_makeFor 20 = .ok (.iadd, 1) := by decide +kernel
theorem dG_makeFor_21 : decode cG_makeFor 21 = .ok (.iconst 1, 1) := by decide +kernel
theorem dG_makeFor_22 : decode cG_makeFor 22 = .ok (.invokevirtual 33, 3) := by decide +kernel
theorem dG_makeFor_25 : decode cG_makeFor 25 = .ok (.pop, 1) := by decide +kernel
theorem dG_makeFor_26 : decode cG_makeFor 26 = .ok (.return_, 1) := by decide +kernel
theorem dG_makeFor_27 : decode cG_makeFor 27 = .ok (.aload_n 1, 1) := by decide +kernel
theorem dG_makeFor_28 : decode cG_makeFor 28 = .ok (.iload_n 2, 1) := by decide +kernel
theorem dG_makeFor_29 : decode cG_makeFor 29 = .ok (.iload_n 3, 1) := by decide +kernel
theorem dG_makeFor_30 : decode cG_makeFor 30 = .ok (.invokevirtual 37, 3) := by decide +kernel
theorem dG_makeFor_33 : decode cG_makeFor 33 = .ok (.iconst 0, 1) := by decide +kernel
theorem dG_makeFor_34 : decode cG_makeFor 34 = .ok (.invokestatic 9, 3) := by decide +kernel
theorem dG_makeFor_37 : decode cG_makeFor 37 = .ok (.istore 5, 2) := by decide +kernel
theorem dG_makeFor_39 : decode cG_makeFor 39 = .ok (.aload_n 1, 1) := by decide +kernel
theorem dG_makeFor_40 : decode cG_makeFor 40 = .ok (.iload_n 2, 1) := by decide +kernel
theorem dG_makeFor_41 : decode cG_makeFor 41 = .ok (.iload_n 3, 1) := by decide +kernel
theorem dG_makeFor_42 : decode cG_makeFor 42 = .ok (.invokevirtual 40, 3) := by decide +kernel
theorem dG_makeFor_45 : decode cG_makeFor 45 = .ok (.iconst 1, 1) := by decide +kernel
theorem dG_makeFor_46 : decode cG_makeFor 46 = .ok (.if_icmp .ne 7, 3) := by decide +kernel
theorem dG_makeFor_49 : decode cG_makeFor 49 = .ok (.iconst 1, 1) := by decide +kernel
theorem dG_makeFor_50 : decode cG_makeFor 50 = .ok (.goto 4, 3) := by decide +kernel
theorem dG_makeFor_53 : decode cG_makeFor 53 = .ok (.iconst 0, 1) := by decide +kernel
theorem dG_makeFor_54 : decode cG_makeFor 54 = .ok (.istore 6, 2) := by decide +kernel
theorem dG_makeFor_56 : decode cG_makeFor 56 = .ok (.aload_n 0, 1) := by decide +kernel
theorem dG_makeFor_57 : decode cG_makeFor 57 = .ok (.iload 6, 2) := by decide +kernel
theorem dG_makeFor_59 : decode cG_makeFor 59 = .ok (.ifCond .eq 9, 3) := by decide +kernel
theorem dG_makeFor_62 : decode cG_makeFor 62 = .ok (.getstatic 43, 3) := by decide +kernel
theorem dG_makeFor_65 : decode cG_makeFor 65 = .ok (.goto 6, 3) := by decide +kernel
theorem dG_makeFor_68 : decode cG_makeFor 68 = .ok (.getstatic 47, 3) := by decide +kernel
theorem dG_makeFor_71 : decode cG_makeFor 71 = .ok (.iload 4, 2) := by decide +kernel
theorem dG_makeFor_73 : decode cG_makeFor 73 = .ok (.iload 5, 2) := by decide +kernel
theorem dG_makeFor_75 : decode cG_makeFor 75 = .ok (.invokestatic 50, 3) := by decide +kernel
theorem dG_makeFor_78 : decode cG_makeFor 78 = .ok (.aload_n 1, 1) := by decide +kernel
theorem dG_makeFor_79 : decode cG_makeFor 79 = .ok (.iload_n 2, 1) := by decide +kernel
theorem dG_makeFor_80 : decode cG_makeFor 80 = .ok (.iload_n 3, 1) := by decide +kernel
theorem dG_makeFor_81 : decode cG_makeFor 81 = .ok (.invokevirtual 54, 3) := by decide +kernel
theorem dG_makeFor_84 : decode cG_makeFor 84 = .ok (.iconst 1, 1) := by decide +kernel
theorem dG_makeFor_85 : decode cG_makeFor 85 = .ok (.if_icmp .ne 25, 3) := by decide +kernel
theorem dG_makeFor_88 : decode cG_makeFor 88 = .ok (.aload_n 0, 1) := by decide +kernel
theorem dG_makeFor_89 : decode cG_makeFor 89 = .ok (.iload 6, 2) := by decide +kernel
theorem dG_makeFor_91 : decode cG_makeFor 91 = .ok (.ifCond .eq 9, 3) := by decide +kernel
theorem dG_makeFor_94 : decode cG_makeFor 94 = .ok (.getstatic 57, 3) := by decide +kernel
theorem dG_makeFor_97 : decode cG_makeFor 97 = .ok (.goto 6, 3) := by decide +kernel
theorem dG_makeFor_100 : decode cG_makeFor 100 = .ok (.getstatic 60, 3) := by decide +kernel
theorem dG_makeFor_103 : decode cG_makeFor 103 = .ok (.iload 4, 2) := by decide +kernel
theorem dG_makeFor_105 : decode cG_makeFor 105 = .ok (.iload 5, 2) := by decide +kernel
theorem dG_makeFor_107 : decode cG_makeFor 107 = .ok (.invokestatic 50, 3) := by decide +kernel
theorem dG_makeFor_110 : decode cG_makeFor 110 = .ok (.return_, 1) := by decide +kernel
theorem dM_hasStep_0 : decode cM_hasStep 0 = .ok (.aload_n 0, 1) := by decide +kernel
theorem dM_hasStep_1 : decode cM_hasStep 1 = .ok (.getfield 18, 3) := by decide +kernel
theorem dM_hasStep_4 : decode cM_hasStep 4 = .ok (.iload_n 1, 1) := by decide +kernel
theorem dM_hasStep_5 : decode cM_hasStep 5 = .ok (.iload_n 2, 1) := by decide +kernel
theorem dM_hasStep_6 : decode cM_hasStep 6 = .ok (.invokestatic 44, 3) := by decide +kernel
theorem dM_hasStep_9 : decode cM_hasStep 9 = .ok (.iaload, 1) := by decide +kernel
theorem dM_hasStep_10 : decode cM_hasStep 10 = .ok (.invokestatic 34, 3) := by decide +kernel
theorem dM_hasStep_13 : decode cM_hasStep 13 = .ok (.ireturn, 1) := by decide +kernel
theorem dT_setHalting_0 : decode cT_setHalting 0 = .ok (.aload_n 0, 1) := by decide +kernel
theorem dT_setHalting_1 : decode cT_setHalting 1 = .ok (.iload_n 1, 1) := by decide +kernel
theorem dT_setHalting_2 : decode cT_setHalting 2 = .ok (.invokevirtual 52, 3) := by decide +kernel
theorem dT_setHalting_5 : decode cT_setHalting 5 = .ok (.ifCond .ne 5, 3) := by decide +kernel
theorem dT_setHalting_8 : decode cT_setHalting 8 = .ok (.iconst 0, 1) := by decide +kernel
theorem dT_setHalting_9 : decode cT_setHalting 9 = .ok (.ireturn, 1) := by decide +kernel
theorem dT_setHalting_10 : decode cT_setHalting 10 = .ok (.aload_n 0, 1) := by decide +kernel
theorem dT_setHalting_11 : decode cT_setHalting 11 = .ok (.getfield 19, 3) := by decide +kernel
theorem dT_setHalting_14 : decode cT_setHalting 14 = .ok (.iload_n 1, 1) := by decide +kernel
theorem dT_setHalting_15 : decode cT_setHalting 15 = .ok (.iload_n 2, 1) := by decide +kernel
theorem dT_setHalting_16 : decode cT_setHalting 16 = .ok (.bastore, 1) := by decide +kernel
theorem dT_setHalting_17 : decode cT_setHalting 17 = .ok (.iconst 1, 1) := by decide +kernel
theorem dT_setHalting_18 : decode cT_setHalting 18 = .ok (.ireturn, 1) := by decide +kernel
theorem dT_hasLetter_0 : decode cT_hasLetter 0 = .ok (.iload_n 1, 1) := by decide +kernel
theorem dT_hasLetter_1 : decode cT_hasLetter 1 = .ok (.ifCond .lt 15, 3) := by decide +kernel
theorem dT_hasLetter_4 : decode cT_hasLetter 4 = .ok (.iload_n 1, 1) := by decide +kernel
theorem dT_hasLetter_5 : decode cT_hasLetter 5 = .ok (.aload_n 0, 1) := by decide +kernel
theorem dT_hasLetter_6 : decode cT_hasLetter 6 = .ok (.getfield 33, 3) := by decide +kernel
theorem dT_hasLetter_9 : decode cT_hasLetter 9 = .ok (.if_icmp .ge 7, 3) := by decide +kernel
theorem dT_hasLetter_12 : decode cT_hasLetter 12 = .ok (.iconst 1, 1) := by decide +kernel
theorem dT_hasLetter_13 : decode cT_hasLetter 13 = .ok (.goto 4, 3) := by decide +kernel
theorem dT_hasLetter_16 : decode cT_hasLetter 16 = .ok (.iconst 0, 1) := by decide +kernel
theorem dT_hasLetter_17 : decode cT_hasLetter 17 = .ok (.ireturn, 1) := by decide +kernel
theorem dM_nextOf_0 : decode cM_nextOf 0 = .ok (.aload_n 0, 1) := by decide +kernel
theorem dM_nextOf_1 : decode cM_nextOf 1 = .ok (.getfield 18, 3) := by decide +kernel
theorem dM_nextOf_4 : decode cM_nextOf 4 = .ok (.iload_n 1, 1) := by decide +kernel
theorem dM_nextOf_5 : decode cM_nextOf 5 = .ok (.iload_n 2, 1) := by decide +kernel
theorem dM_nextOf_6 : decode cM_nextOf 6 = .ok (.invokestatic 44, 3) := by decide +kernel
theorem dM_nextOf_9 : decode cM_nextOf 9 = .ok (.iaload, 1) := by decide +kernel
theorem dM_nextOf_10 : decode cM_nextOf 10 = .ok (.ireturn, 1) := by decide +kernel
theorem dM_moveOf_0 : decode cM_moveOf 0 = .ok (.aload_n 0, 1) := by decide +kernel
theorem dM_moveOf_1 : decode cM_moveOf 1 = .ok (.getfield 15, 3) := by decide +kernel
theorem dM_moveOf_4 : decode cM_moveOf 4 = .ok (.iload_n 1, 1) := by decide +kernel
theorem dM_moveOf_5 : decode cM_moveOf 5 = .ok (.iload_n 2, 1) := by decide +kernel
theorem dM_moveOf_6 : decode cM_moveOf 6 = .ok (.invokestatic 44, 3) := by decide +kernel
theorem dM_moveOf_9 : decode cM_moveOf 9 = .ok (.iaload, 1) := by decide +kernel
theorem dM_moveOf_10 : decode cM_moveOf 10 = .ok (.ireturn, 1) := by decide +kernel
theorem dG_addAll_0 : decode cG_addAll 0 = .ok (.iconst 0, 1) := by decide +kernel
theorem dG_addAll_1 : decode cG_addAll 1 = .ok (.istore 4, 2) := by decide +kernel
theorem dG_addAll_3 : decode cG_addAll 3 = .ok (.iload 4, 2) := by decide +kernel
theorem dG_addAll_5 : decode cG_addAll 5 = .ok (.iconst 1, 1) := by decide +kernel
theorem dG_addAll_6 : decode cG_addAll 6 = .ok (.iadd, 1) := by decide +kernel
theorem dG_addAll_7 : decode cG_addAll 7 = .ok (.aload_n 1, 1) := by decide +kernel
theorem dG_addAll_8 : decode cG_addAll 8 = .ok (.arraylength, 1) := by decide +kernel
theorem dG_addAll_9 : decode cG_addAll 9 = .ok (.if_icmp .ge 31, 3) := by decide +kernel
theorem dG_addAll_12 : decode cG_addAll 12 = .ok (.aload_n 0, 1) := by decide +kernel
theorem dG_addAll_13 : decode cG_addAll 13 = .ok (.iload_n 2, 1) := by decide +kernel
theorem dG_addAll_14 : decode cG_addAll 14 = .ok (.aload_n 1, 1) := by decide +kernel
theorem dG_addAll_15 : decode cG_addAll 15 = .ok (.iload 4, 2) := by decide +kernel
theorem dG_addAll_17 : decode cG_addAll 17 = .ok (.iaload, 1) := by decide +kernel
theorem dG_addAll_18 : decode cG_addAll 18 = .ok (.iadd, 1) := by decide +kernel
theorem dG_addAll_19 : decode cG_addAll 19 = .ok (.aload_n 1, 1) := by decide +kernel
theorem dG_addAll_20 : decode cG_addAll 20 = .ok (.iload 4, 2) := by decide +kernel
theorem dG_addAll_22 : decode cG_addAll 22 = .ok (.iconst 1, 1) := by decide +kernel
theorem dG_addAll_23 : decode cG_addAll 23 = .ok (.iadd, 1) := by decide +kernel
theorem dG_addAll_24 : decode cG_addAll 24 = .ok (.iaload, 1) := by decide +kernel
theorem dG_addAll_25 : decode cG_addAll 25 = .ok (.iload_n 2, 1) := by decide +kernel
theorem dG_addAll_26 : decode cG_addAll 26 = .ok (.iload_n 3, 1) := by decide +kernel
theorem dG_addAll_27 : decode cG_addAll 27 = .ok (.invokestatic 63, 3) := by decide +kernel
theorem dG_addAll_30 : decode cG_addAll 30 = .ok (.invokevirtual 67, 3) := by decide +kernel
theorem dG_addAll_33 : decode cG_addAll 33 = .ok (.pop, 1) := by decide +kernel
theorem dG_addAll_34 : decode cG_addAll 34 = .ok (.iinc 4 2, 3) := by decide +kernel
theorem dG_addAll_37 : decode cG_addAll 37 = .ok (.goto (-34), 3) := by decide +kernel
theorem dG_addAll_40 : decode cG_addAll 40 = .ok (.return_, 1) := by decide +kernel
theorem dG_letterOf_0 : decode cG_letterOf 0 = .ok (.iload_n 0, 1) := by decide +kernel
theorem dG_letterOf_1 : decode cG_letterOf 1 = .ok (.bipush 54, 2) := by decide +kernel
theorem dG_letterOf_3 : decode cG_letterOf 3 = .ok (.if_icmp .ne 5, 3) := by decide +kernel
theorem dG_letterOf_6 : decode cG_letterOf 6 = .ok (.iconst 0, 1) := by decide +kernel
theorem dG_letterOf_7 : decode cG_letterOf 7 = .ok (.ireturn, 1) := by decide +kernel
theorem dG_letterOf_8 : decode cG_letterOf 8 = .ok (.iload_n 0, 1) := by decide +kernel
theorem dG_letterOf_9 : decode cG_letterOf 9 = .ok (.bipush 18, 2) := by decide +kernel
theorem dG_letterOf_11 : decode cG_letterOf 11 = .ok (.if_icmp .ge 9, 3) := by decide +kernel
theorem dG_letterOf_14 : decode cG_letterOf 14 = .ok (.iload_n 1, 1) := by decide +kernel
theorem dG_letterOf_15 : decode cG_letterOf 15 = .ok (.iload_n 0, 1) := by decide +kernel
theorem dG_letterOf_16 : decode cG_letterOf 16 = .ok (.iadd, 1) := by decide +kernel
theorem dG_letterOf_17 : decode cG_letterOf 17 = .ok (.goto 9, 3) := by decide +kernel
theorem dG_letterOf_20 : decode cG_letterOf 20 = .ok (.iload_n 2, 1) := by decide +kernel
theorem dG_letterOf_21 : decode cG_letterOf 21 = .ok (.iload_n 0, 1) := by decide +kernel
theorem dG_letterOf_22 : decode cG_letterOf 22 = .ok (.iadd, 1) := by decide +kernel
theorem dG_letterOf_23 : decode cG_letterOf 23 = .ok (.bipush 18, 2) := by decide +kernel
theorem dG_letterOf_25 : decode cG_letterOf 25 = .ok (.isub, 1) := by decide +kernel
theorem dG_letterOf_26 : decode cG_letterOf 26 = .ok (.ireturn, 1) := by decide +kernel
theorem dT_addToProduction_0 : decode cT_addToProduction 0 = .ok (.aload_n 0, 1) := by decide +kernel
theorem dT_addToProduction_1 : decode cT_addToProduction 1 = .ok (.iload_n 1, 1) := by decide +kernel
theorem dT_addToProduction_2 : decode cT_addToProduction 2 = .ok (.invokevirtual 52, 3) := by decide +kernel
theorem dT_addToProduction_5 : decode cT_addToProduction 5 = .ok (.ifCond .eq 22, 3) := by decide +kernel
theorem dT_addToProduction_8 : decode cT_addToProduction 8 = .ok (.aload_n 0, 1) := by decide +kernel
theorem dT_addToProduction_9 : decode cT_addToProduction 9 = .ok (.iload_n 2, 1) := by decide +kernel
theorem dT_addToProduction_10 : decode cT_addToProduction 10 = .ok (.invokevirtual 52, 3) := by decide +kernel
theorem dT_addToProduction_13 : decode cT_addToProduction 13 = .ok (.ifCond .eq 14, 3) := by decide +kernel
theorem dT_addToProduction_16 : decode cT_addToProduction 16 = .ok (.aload_n 0, 1) := by decide +kernel
theorem dT_addToProduction_17 : decode cT_addToProduction 17 = .ok (.getfield 15, 3) := by decide +kernel
theorem dT_addToProduction_20 : decode cT_addToProduction 20 = .ok (.iload_n 1, 1) := by decide +kernel
theorem dT_addToProduction_21 : decode cT_addToProduction 21 = .ok (.iaload, 1) := by decide +kernel
theorem dT_addToProduction_22 : decode cT_addToProduction 22 = .ok (.bipush 12, 2) := by decide +kernel
theorem dT_addToProduction_24 : decode cT_addToProduction 24 = .ok (.if_icmp .lt 5, 3) := by decide +kernel
theorem dT_addToProduction_27 : decode cT_addToProduction 27 = .ok (.iconst 0, 1) := by decide +kernel
theorem dT_addToProduction_28 : decode cT_addToProduction 28 = .ok (.ireturn, 1) := by decide +kernel
theorem dT_addToProduction_29 : decode cT_addToProduction 29 = .ok (.aload_n 0, 1) := by decide +kernel
theorem dT_addToProduction_30 : decode cT_addToProduction 30 = .ok (.iload_n 1, 1) := by decide +kernel
theorem dT_addToProduction_31 : decode cT_addToProduction 31 = .ok (.aload_n 0, 1) := by decide +kernel
theorem dT_addToProduction_32 : decode cT_addToProduction 32 = .ok (.getfield 15, 3) := by decide +kernel
theorem dT_addToProduction_35 : decode cT_addToProduction 35 = .ok (.iload_n 1, 1) := by decide +kernel
theorem dT_addToProduction_36 : decode cT_addToProduction 36 = .ok (.iaload, 1) := by decide +kernel
theorem dT_addToProduction_37 : decode cT_addToProduction 37 = .ok (.iload_n 2, 1) := by decide +kernel
theorem dT_addToProduction_38 : decode cT_addToProduction 38 = .ok (.invokevirtual 64, 3) := by decide +kernel
theorem dT_addToProduction_41 : decode cT_addToProduction 41 = .ok (.aload_n 0, 1) := by decide +kernel
theorem dT_addToProduction_42 : decode cT_addToProduction 42 = .ok (.getfield 15, 3) := by decide +kernel
theorem dT_addToProduction_45 : decode cT_addToProduction 45 = .ok (.iload_n 1, 1) := by decide +kernel
theorem dT_addToProduction_46 : decode cT_addToProduction 46 = .ok (.dup2, 1) := by decide +kernel
theorem dT_addToProduction_47 : decode cT_addToProduction 47 = .ok (.iaload, 1) := by decide +kernel
theorem dT_addToProduction_48 : decode cT_addToProduction 48 = .ok (.iconst 1, 1) := by decide +kernel
theorem dT_addToProduction_49 : decode cT_addToProduction 49 = .ok (.iadd, 1) := by decide +kernel
theorem dT_addToProduction_50 : decode cT_addToProduction 50 = .ok (.iastore, 1) := by decide +kernel
theorem dT_addToProduction_51 : decode cT_addToProduction 51 = .ok (.iconst 1, 1) := by decide +kernel
theorem dT_addToProduction_52 : decode cT_addToProduction 52 = .ok (.ireturn, 1) := by decide +kernel
theorem dT_pack_0 : decode cT_pack 0 = .ok (.iload_n 1, 1) := by decide +kernel
theorem dT_pack_1 : decode cT_pack 1 = .ok (.iconst 2, 1) := by decide +kernel
theorem dT_pack_2 : decode cT_pack 2 = .ok (.imul, 1) := by decide +kernel
theorem dT_pack_3 : decode cT_pack 3 = .ok (.iload_n 2, 1) := by decide +kernel
theorem dT_pack_4 : decode cT_pack 4 = .ok (.bipush 6, 2) := by decide +kernel
theorem dT_pack_6 : decode cT_pack 6 = .ok (.idiv, 1) := by decide +kernel
theorem dT_pack_7 : decode cT_pack 7 = .ok (.iadd, 1) := by decide +kernel
theorem dT_pack_8 : decode cT_pack 8 = .ok (.istore 4, 2) := by decide +kernel
theorem dT_pack_10 : decode cT_pack 10 = .ok (.bipush 10, 2) := by decide +kernel
theorem dT_pack_12 : decode cT_pack 12 = .ok (.iload_n 2, 1) := by decide +kernel
theorem dT_pack_13 : decode cT_pack 13 = .ok (.bipush 6, 2) := by decide +kernel
theorem dT_pack_15 : decode cT_pack 15 = .ok (.irem, 1) := by decide +kernel
theorem dT_pack_16 : decode cT_pack 16 = .ok (.imul, 1) := by decide +kernel
theorem dT_pack_17 : decode cT_pack 17 = .ok (.istore 5, 2) := by decide +kernel
theorem dT_pack_19 : decode cT_pack 19 = .ok (.aload_n 0, 1) := by decide +kernel
theorem dT_pack_20 : decode cT_pack 20 = .ok (.getfield 11, 3) := by decide +kernel
theorem dT_pack_23 : decode cT_pack 23 = .ok (.iload 4, 2) := by decide +kernel
theorem dT_pack_25 : decode cT_pack 25 = .ok (.aload_n 0, 1) := by decide +kernel
theorem dT_pack_26 : decode cT_pack 26 = .ok (.getfield 11, 3) := by decide +kernel
theorem dT_pack_29 : decode cT_pack 29 = .ok (.iload 4, 2) := by decide +kernel
theorem dT_pack_31 : decode cT_pack 31 = .ok (.laload, 1) := by decide +kernel
theorem dT_pack_32 : decode cT_pack 32 = .ok (.ldc2_w 48, 3) := by decide +kernel
theorem dT_pack_35 : decode cT_pack 35 = .ok (.iload 5, 2) := by decide +kernel
theorem dT_pack_37 : decode cT_pack 37 = .ok (.lshl, 1) := by decide +kernel
theorem dT_pack_38 : decode cT_pack 38 = .ok (.ldc2_w 50, 3) := by decide +kernel
theorem dT_pack_41 : decode cT_pack 41 = .ok (.lxor, 1) := by decide +kernel
theorem dT_pack_42 : decode cT_pack 42 = .ok (.land, 1) := by decide +kernel
theorem dT_pack_43 : decode cT_pack 43 = .ok (.iload_n 3, 1) := by decide +kernel
theorem dT_pack_44 : decode cT_pack 44 = .ok (.i2l, 1) := by decide +kernel
theorem dT_pack_45 : decode cT_pack 45 = .ok (.iload 5, 2) := by decide +kernel
theorem dT_pack_47 : decode cT_pack 47 = .ok (.lshl, 1) := by decide +kernel
theorem dT_pack_48 : decode cT_pack 48 = .ok (.lor, 1) := by decide +kernel
theorem dT_pack_49 : decode cT_pack 49 = .ok (.lastore, 1) := by decide +kernel
theorem dT_pack_50 : decode cT_pack 50 = .ok (.return_, 1) := by decide +kernel
theorem dM_writeOf_0 : decode cM_writeOf 0 = .ok (.aload_n 0, 1) := by decide +kernel
theorem dM_writeOf_1 : decode cM_writeOf 1 = .ok (.getfield 11, 3) := by decide +kernel
theorem dM_writeOf_4 : decode cM_writeOf 4 = .ok (.iload_n 1, 1) := by decide +kernel
theorem dM_writeOf_5 : decode cM_writeOf 5 = .ok (.iload_n 2, 1) := by decide +kernel
theorem dM_writeOf_6 : decode cM_writeOf 6 = .ok (.invokestatic 44, 3) := by decide +kernel
theorem dM_writeOf_9 : decode cM_writeOf 9 = .ok (.iaload, 1) := by decide +kernel
theorem dM_writeOf_10 : decode cM_writeOf 10 = .ok (.ireturn, 1) := by decide +kernel
theorem dC_write_0 : decode cC_write 0 = .ok (.aload_n 1, 1) := by decide +kernel
theorem dC_write_1 : decode cC_write 1 = .ok (.getfield 22, 3) := by decide +kernel
theorem dC_write_4 : decode cC_write 4 = .ok (.aload_n 1, 1) := by decide +kernel
theorem dC_write_5 : decode cC_write 5 = .ok (.getfield 25, 3) := by decide +kernel
theorem dC_write_8 : decode cC_write 8 = .ok (.invokestatic 26, 3) := by decide +kernel
theorem dC_write_11 : decode cC_write 11 = .ok (.istore_n 2, 1) := by decide +kernel
theorem dC_write_12 : decode cC_write 12 = .ok (.aload_n 0, 1) := by decide +kernel
theorem dC_write_13 : decode cC_write 13 = .ok (.invokevirtual 32, 3) := by decide +kernel
theorem dC_write_16 : decode cC_write 16 = .ok (.aload_n 0, 1) := by decide +kernel
theorem dC_write_17 : decode cC_write 17 = .ok (.iload_n 2, 1) := by decide +kernel
theorem dC_write_18 : decode cC_write 18 = .ok (.iconst 0, 1) := by decide +kernel
theorem dC_write_19 : decode cC_write 19 = .ok (.iadd, 1) := by decide +kernel
theorem dC_write_20 : decode cC_write 20 = .ok (.iconst 1, 1) := by decide +kernel
theorem dC_write_21 : decode cC_write 21 = .ok (.invokestatic 37, 3) := by decide +kernel
theorem dC_write_24 : decode cC_write 24 = .ok (.aload_n 0, 1) := by decide +kernel
theorem dC_write_25 : decode cC_write 25 = .ok (.iload_n 2, 1) := by decide +kernel
theorem dC_write_26 : decode cC_write 26 = .ok (.iconst 1, 1) := by decide +kernel
theorem dC_write_27 : decode cC_write 27 = .ok (.iadd, 1) := by decide +kernel
theorem dC_write_28 : decode cC_write 28 = .ok (.aload_n 1, 1) := by decide +kernel
theorem dC_write_29 : decode cC_write 29 = .ok (.getfield 41, 3) := by decide +kernel
theorem dC_write_32 : decode cC_write 32 = .ok (.invokestatic 37, 3) := by decide +kernel
theorem dC_write_35 : decode cC_write 35 = .ok (.aload_n 0, 1) := by decide +kernel
theorem dC_write_36 : decode cC_write 36 = .ok (.iload_n 2, 1) := by decide +kernel
theorem dC_write_37 : decode cC_write 37 = .ok (.iconst 2, 1) := by decide +kernel
theorem dC_write_38 : decode cC_write 38 = .ok (.iadd, 1) := by decide +kernel
theorem dC_write_39 : decode cC_write 39 = .ok (.iconst 1, 1) := by decide +kernel
theorem dC_write_40 : decode cC_write 40 = .ok (.invokestatic 37, 3) := by decide +kernel
theorem dC_write_43 : decode cC_write 43 = .ok (.aload_n 0, 1) := by decide +kernel
theorem dC_write_44 : decode cC_write 44 = .ok (.iload_n 2, 1) := by decide +kernel
theorem dC_write_45 : decode cC_write 45 = .ok (.iconst 3, 1) := by decide +kernel
theorem dC_write_46 : decode cC_write 46 = .ok (.iadd, 1) := by decide +kernel
theorem dC_write_47 : decode cC_write 47 = .ok (.aload_n 1, 1) := by decide +kernel
theorem dC_write_48 : decode cC_write 48 = .ok (.getfield 42, 3) := by decide +kernel
theorem dC_write_51 : decode cC_write 51 = .ok (.invokestatic 37, 3) := by decide +kernel
theorem dC_write_54 : decode cC_write 54 = .ok (.return_, 1) := by decide +kernel
theorem dC_writePairs_0 : decode cC_writePairs 0 = .ok (.iconst 0, 1) := by decide +kernel
theorem dC_writePairs_1 : decode cC_writePairs 1 = .ok (.istore_n 3, 1) := by decide +kernel
theorem dC_writePairs_2 : decode cC_writePairs 2 = .ok (.iload_n 3, 1) := by decide +kernel
theorem dC_writePairs_3 : decode cC_writePairs 3 = .ok (.iload_n 2, 1) := by decide +kernel
theorem dC_writePairs_4 : decode cC_writePairs 4 = .ok (.if_icmp .ge 19, 3) := by decide +kernel
theorem dC_writePairs_7 : decode cC_writePairs 7 = .ok (.aload_n 0, 1) := by decide +kernel
theorem dC_writePairs_8 : decode cC_writePairs 8 = .ok (.iload_n 1, 1) := by decide +kernel
theorem dC_writePairs_9 : decode cC_writePairs 9 = .ok (.invokevirtual 43, 3) := by decide +kernel
theorem dC_writePairs_12 : decode cC_writePairs 12 = .ok (.aload_n 0, 1) := by decide +kernel
theorem dC_writePairs_13 : decode cC_writePairs 13 = .ok (.iconst 0, 1) := by decide +kernel
theorem dC_writePairs_14 : decode cC_writePairs 14 = .ok (.invokevirtual 43, 3) := by decide +kernel
theorem dC_writePairs_17 : decode cC_writePairs 17 = .ok (.iinc 3 1, 3) := by decide +kernel
theorem dC_writePairs_20 : decode cC_writePairs 20 = .ok (.goto (-18), 3) := by decide +kernel
theorem dC_writePairs_23 : decode cC_writePairs 23 = .ok (.return_, 1) := by decide +kernel
theorem dT_append_0 : decode cT_append 0 = .ok (.aload_n 0, 1) := by decide +kernel
theorem dT_append_1 : decode cT_append 1 = .ok (.getfield 23, 3) := by decide +kernel
theorem dT_append_4 : decode cT_append 4 = .ok (.aload_n 0, 1) := by decide +kernel
theorem dT_append_5 : decode cT_append 5 = .ok (.getfield 26, 3) := by decide +kernel
theorem dT_append_8 : decode cT_append 8 = .ok (.aload_n 0, 1) := by decide +kernel
theorem dT_append_9 : decode cT_append 9 = .ok (.getfield 30, 3) := by decide +kernel
theorem dT_append_12 : decode cT_append 12 = .ok (.iadd, 1) := by decide +kernel
theorem dT_append_13 : decode cT_append 13 = .ok (.sipush 4095, 3) := by decide +kernel
theorem dT_append_16 : decode cT_append 16 = .ok (.iand, 1) := by decide +kernel
theorem dT_append_17 : decode cT_append 17 = .ok (.iload_n 1, 1) := by decide +kernel
theorem dT_append_18 : decode cT_append 18 = .ok (.iastore, 1) := by decide +kernel
theorem dT_append_19 : decode cT_append 19 = .ok (.aload_n 0, 1) := by decide +kernel
theorem dT_append_20 : decode cT_append 20 = .ok (.dup, 1) := by decide +kernel
theorem dT_append_21 : decode cT_append 21 = .ok (.getfield 30, 3) := by decide +kernel
theorem dT_append_24 : decode cT_append 24 = .ok (.iconst 1, 1) := by decide +kernel
theorem dT_append_25 : decode cT_append 25 = .ok (.iadd, 1) := by decide +kernel
theorem dT_append_26 : decode cT_append 26 = .ok (.putfield 30, 3) := by decide +kernel
theorem dT_append_29 : decode cT_append 29 = .ok (.return_, 1) := by decide +kernel
theorem dY_remove_0 : decode cY_remove 0 = .ok (.aload_n 0, 1) := by decide +kernel
theorem dY_remove_1 : decode cY_remove 1 = .ok (.getfield 12, 3) := by decide +kernel
theorem dY_remove_4 : decode cY_remove 4 = .ok (.iconst 0, 1) := by decide +kernel
theorem dY_remove_5 : decode cY_remove 5 = .ok (.iconst 0, 1) := by decide +kernel
theorem dY_remove_6 : decode cY_remove 6 = .ok (.invokevirtual 26, 3) := by decide +kernel
theorem dY_remove_9 : decode cY_remove 9 = .ok (.aload_n 0, 1) := by decide +kernel
theorem dY_remove_10 : decode cY_remove 10 = .ok (.iconst 0, 1) := by decide +kernel
theorem dY_remove_11 : decode cY_remove 11 = .ok (.putfield 18, 3) := by decide +kernel
theorem dY_remove_14 : decode cY_remove 14 = .ok (.return_, 1) := by decide +kernel
theorem dX_ownTag_0 : decode cX_ownTag 0 = .ok (.iload_n 1, 1) := by decide +kernel
theorem dX_ownTag_1 : decode cX_ownTag 1 = .ok (.iconst 1, 1) := by decide +kernel
theorem dX_ownTag_2 : decode cX_ownTag 2 = .ok (.if_icmp .lt 10, 3) := by decide +kernel
theorem dX_ownTag_5 : decode cX_ownTag 5 = .ok (.iload_n 1, 1) := by decide +kernel
theorem dX_ownTag_6 : decode cX_ownTag 6 = .ok (.sipush 300, 3) := by decide +kernel
theorem dX_ownTag_9 : decode cX_ownTag 9 = .ok (.if_icmp .le 5, 3) := by decide +kernel
theorem dX_ownTag_12 : decode cX_ownTag 12 = .ok (.iconst 0, 1) := by decide +kernel
theorem dX_ownTag_13 : decode cX_ownTag 13 = .ok (.ireturn, 1) := by decide +kernel
theorem dX_ownTag_14 : decode cX_ownTag 14 = .ok (.aload_n 0, 1) := by decide +kernel
theorem dX_ownTag_15 : decode cX_ownTag 15 = .ok (.getfield 19, 3) := by decide +kernel
theorem dX_ownTag_18 : decode cX_ownTag 18 = .ok (.iload_n 1, 1) := by decide +kernel
theorem dX_ownTag_19 : decode cX_ownTag 19 = .ok (.iconst 0, 1) := by decide +kernel
theorem dX_ownTag_20 : decode cX_ownTag 20 = .ok (.invokevirtual 65, 3) := by decide +kernel
theorem dX_ownTag_23 : decode cX_ownTag 23 = .ok (.aload_n 0, 1) := by decide +kernel
theorem dX_ownTag_24 : decode cX_ownTag 24 = .ok (.getfield 26, 3) := by decide +kernel
theorem dX_ownTag_27 : decode cX_ownTag 27 = .ok (.invokevirtual 58, 3) := by decide +kernel
theorem dX_ownTag_30 : decode cX_ownTag 30 = .ok (.iconst 1, 1) := by decide +kernel
theorem dX_ownTag_31 : decode cX_ownTag 31 = .ok (.ireturn, 1) := by decide +kernel
theorem dX_extend_0 : decode cX_extend 0 = .ok (.aload_n 0, 1) := by decide +kernel
theorem dX_extend_1 : decode cX_extend 1 = .ok (.getfield 19, 3) := by decide +kernel
theorem dX_extend_4 : decode cX_extend 4 = .ok (.iload_n 1, 1) := by decide +kernel
theorem dX_extend_5 : decode cX_extend 5 = .ok (.iload_n 2, 1) := by decide +kernel
theorem dX_extend_6 : decode cX_extend 6 = .ok (.invokevirtual 69, 3) := by decide +kernel
theorem dX_extend_9 : decode cX_extend 9 = .ok (.ireturn, 1) := by decide +kernel
theorem dX_spoil_0 : decode cX_spoil 0 = .ok (.aload_n 0, 1) := by decide +kernel
theorem dX_spoil_1 : decode cX_spoil 1 = .ok (.getfield 19, 3) := by decide +kernel
theorem dX_spoil_4 : decode cX_spoil 4 = .ok (.iload_n 1, 1) := by decide +kernel
theorem dX_spoil_5 : decode cX_spoil 5 = .ok (.iload_n 2, 1) := by decide +kernel
theorem dX_spoil_6 : decode cX_spoil 6 = .ok (.iload_n 3, 1) := by decide +kernel
theorem dX_spoil_7 : decode cX_spoil 7 = .ok (.invokevirtual 73, 3) := by decide +kernel
theorem dX_spoil_10 : decode cX_spoil 10 = .ok (.ireturn, 1) := by decide +kernel
theorem dT_replaceInProduction_0 : decode cT_replaceInProduction 0 = .ok (.aload_n 0, 1) := by decide +kernel
theorem dT_replaceInProduction_1 : decode cT_replaceInProduction 1 = .ok (.iload_n 1, 1) := by decide +kernel
theorem dT_replaceInProduction_2 : decode cT_replaceInProduction 2 = .ok (.iload_n 2, 1) := by decide +kernel
theorem dT_replaceInProduction_3 : decode cT_replaceInProduction 3 = .ok (.invokevirtual 68, 3) := by decide +kernel
theorem dT_replaceInProduction_6 : decode cT_replaceInProduction 6 = .ok (.istore 4, 2) := by decide +kernel
theorem dT_replaceInProduction_8 : decode cT_replaceInProduction 8 = .ok (.iload 4, 2) := by decide +kernel
theorem dT_replaceInProduction_10 : decode cT_replaceInProduction 10 = .ok (.iconst (-1), 1) := by decide +kernel
theorem dT_replaceInProduction_11 : decode cT_replaceInProduction 11 = .ok (.if_icmp .eq 11, 3) := by decide +kernel
theorem dT_replaceInProduction_14 : decode cT_replaceInProduction 14 = .ok (.aload_n 0, 1) := by decide +kernel
theorem dT_replaceInProduction_15 : decode cT_replaceInProduction 15 = .ok (.iload_n 3, 1) := by decide +kernel
theorem dT_replaceInProduction_16 : decode cT_replaceInProduction 16 = .ok (.invokevirtual 52, 3) := by decide +kernel
theorem dT_replaceInProduction_19 : decode cT_replaceInProduction 19 = .ok (.ifCond .ne 5, 3) := by decide +kernel
theorem dT_replaceInProduction_22 : decode cT_replaceInProduction 22 = .ok (.iconst (-1), 1) := by decide +kernel
theorem dT_replaceInProduction_23 : decode cT_replaceInProduction 23 = .ok (.ireturn, 1) := by decide +kernel
theorem dT_replaceInProduction_24 : decode cT_replaceInProduction 24 = .ok (.aload_n 0, 1) := by decide +kernel
theorem dT_replaceInProduction_25 : decode cT_replaceInProduction 25 = .ok (.iload_n 1, 1) := by decide +kernel
theorem dT_replaceInProduction_26 : decode cT_replaceInProduction 26 = .ok (.iload_n 2, 1) := by decide +kernel
theorem dT_replaceInProduction_27 : decode cT_replaceInProduction 27 = .ok (.iload_n 3, 1) := by decide +kernel
theorem dT_replaceInProduction_28 : decode cT_replaceInProduction 28 = .ok (.invokevirtual 64, 3) := by decide +kernel
theorem dT_replaceInProduction_31 : decode cT_replaceInProduction 31 = .ok (.iload 4, 2) := by decide +kernel
theorem dT_replaceInProduction_33 : decode cT_replaceInProduction 33 = .ok (.ireturn, 1) := by decide +kernel
theorem dT_productionLetter_0 : decode cT_productionLetter 0 = .ok (.iload_n 2, 1) := by decide +kernel
theorem dT_productionLetter_1 : decode cT_productionLetter 1 = .ok (.ifCond .lt 21, 3) := by decide +kernel
theorem dT_productionLetter_4 : decode cT_productionLetter 4 = .ok (.iload_n 2, 1) := by decide +kernel
theorem dT_productionLetter_5 : decode cT_productionLetter 5 = .ok (.aload_n 0, 1) := by decide +kernel
theorem dT_productionLetter_6 : decode cT_productionLetter 6 = .ok (.iload_n 1, 1) := by decide +kernel
theorem dT_productionLetter_7 : decode cT_productionLetter 7 = .ok (.invokevirtual 56, 3) := by decide +kernel
theorem dT_productionLetter_10 : decode cT_productionLetter 10 = .ok (.if_icmp .ge 12, 3) := by decide +kernel
theorem dT_productionLetter_13 : decode cT_productionLetter 13 = .ok (.aload_n 0, 1) := by decide +kernel
theorem dT_productionLetter_14 : decode cT_productionLetter 14 = .ok (.iload_n 1, 1) := by decide +kernel
theorem dT_productionLetter_15 : decode cT_productionLetter 15 = .ok (.iload_n 2, 1) := by decide +kernel
theorem dT_productionLetter_16 : decode cT_productionLetter 16 = .ok (.invokevirtual 60, 3) := by decide +kernel
theorem dT_productionLetter_19 : decode cT_productionLetter 19 = .ok (.goto 4, 3) := by decide +kernel
theorem dT_productionLetter_22 : decode cT_productionLetter 22 = .ok (.iconst (-1), 1) := by decide +kernel
theorem dT_productionLetter_23 : decode cT_productionLetter 23 = .ok (.ireturn, 1) := by decide +kernel
theorem dT_productionSize_0 : decode cT_productionSize 0 = .ok (.aload_n 0, 1) := by decide +kernel
theorem dT_productionSize_1 : decode cT_productionSize 1 = .ok (.iload_n 1, 1) := by decide +kernel
theorem dT_productionSize_2 : decode cT_productionSize 2 = .ok (.invokevirtual 52, 3) := by decide +kernel
theorem dT_productionSize_5 : decode cT_productionSize 5 = .ok (.ifCond .eq 12, 3) := by decide +kernel
theorem dT_productionSize_8 : decode cT_productionSize 8 = .ok (.aload_n 0, 1) := by decide +kernel
theorem dT_productionSize_9 : decode cT_productionSize 9 = .ok (.getfield 15, 3) := by decide +kernel
theorem dT_productionSize_12 : decode cT_productionSize 12 = .ok (.iload_n 1, 1) := by decide +kernel
theorem dT_productionSize_13 : decode cT_productionSize 13 = .ok (.iaload, 1) := by decide +kernel
theorem dT_productionSize_14 : decode cT_productionSize 14 = .ok (.goto 4, 3) := by decide +kernel
theorem dT_productionSize_17 : decode cT_productionSize 17 = .ok (.iconst 0, 1) := by decide +kernel
theorem dT_productionSize_18 : decode cT_productionSize 18 = .ok (.ireturn, 1) := by decide +kernel
theorem dT_unpack_0 : decode cT_unpack 0 = .ok (.aload_n 0, 1) := by decide +kernel
theorem dT_unpack_1 : decode cT_unpack 1 = .ok (.getfield 11, 3) := by decide +kernel
theorem dT_unpack_4 : decode cT_unpack 4 = .ok (.iload_n 1, 1) := by decide +kernel
theorem dT_unpack_5 : decode cT_unpack 5 = .ok (.iconst 2, 1) := by decide +kernel
theorem dT_unpack_6 : decode cT_unpack 6 = .ok (.imul, 1) := by decide +kernel
theorem dT_unpack_7 : decode cT_unpack 7 = .ok (.iload_n 2, 1) := by decide +kernel
theorem dT_unpack_8 : decode cT_unpack 8 = .ok (.bipush 6, 2) := by decide +kernel
theorem dT_unpack_10 : decode cT_unpack 10 = .ok (.idiv, 1) := by decide +kernel
theorem dT_unpack_11 : decode cT_unpack 11 = .ok (.iadd, 1) := by decide +kernel
theorem dT_unpack_12 : decode cT_unpack 12 = .ok (.laload, 1) := by decide +kernel
theorem dT_unpack_13 : decode cT_unpack 13 = .ok (.lstore_n 3, 1) := by decide +kernel
theorem dT_unpack_14 : decode cT_unpack 14 = .ok (.lload_n 3, 1) := by decide +kernel
theorem dT_unpack_15 : decode cT_unpack 15 = .ok (.bipush 10, 2) := by decide +kernel
theorem dT_unpack_17 : decode cT_unpack 17 = .ok (.iload_n 2, 1) := by decide +kernel
theorem dT_unpack_18 : decode cT_unpack 18 = .ok (.bipush 6, 2) := by decide +kernel
theorem dT_unpack_20 : decode cT_unpack 20 = .ok (.irem, 1) := by decide +kernel
theorem dT_unpack_21 : decode cT_unpack 21 = .ok (.imul, 1) := by decide +kernel
theorem dT_unpack_22 : decode cT_unpack 22 = .ok (.lshr, 1) := by decide +kernel
theorem dT_unpack_23 : decode cT_unpack 23 = .ok (.ldc2_w 48, 3) := by decide +kernel
theorem dT_unpack_26 : decode cT_unpack 26 = .ok (.land, 1) := by decide +kernel
theorem dT_unpack_27 : decode cT_unpack 27 = .ok (.l2i, 1) := by decide +kernel
theorem dT_unpack_28 : decode cT_unpack 28 = .ok (.ireturn, 1) := by decide +kernel
theorem dX_halts_0 : decode cX_halts 0 = .ok (.aload_n 0, 1) := by decide +kernel
theorem dX_halts_1 : decode cX_halts 1 = .ok (.getfield 19, 3) := by decide +kernel
theorem dX_halts_4 : decode cX_halts 4 = .ok (.iload_n 1, 1) := by decide +kernel
theorem dX_halts_5 : decode cX_halts 5 = .ok (.iload_n 2, 1) := by decide +kernel
theorem dX_halts_6 : decode cX_halts 6 = .ok (.invokevirtual 77, 3) := by decide +kernel
theorem dX_halts_9 : decode cX_halts 9 = .ok (.ireturn, 1) := by decide +kernel
theorem dX_put_0 : decode cX_put 0 = .ok (.aload_n 0, 1) := by decide +kernel
theorem dX_put_1 : decode cX_put 1 = .ok (.getfield 19, 3) := by decide +kernel
theorem dX_put_4 : decode cX_put 4 = .ok (.iload_n 1, 1) := by decide +kernel
theorem dX_put_5 : decode cX_put 5 = .ok (.invokevirtual 81, 3) := by decide +kernel
theorem dX_put_8 : decode cX_put 8 = .ok (.ifCond .eq 16, 3) := by decide +kernel
theorem dX_put_11 : decode cX_put 11 = .ok (.aload_n 0, 1) := by decide +kernel
theorem dX_put_12 : decode cX_put 12 = .ok (.getfield 19, 3) := by decide +kernel
theorem dX_put_15 : decode cX_put 15 = .ok (.getfield 85, 3) := by decide +kernel
theorem dX_put_18 : decode cX_put 18 = .ok (.sipush 4000, 3) := by decide +kernel
theorem dX_put_21 : decode cX_put 21 = .ok (.if_icmp .lt 5, 3) := by decide +kernel
theorem dX_put_24 : decode cX_put 24 = .ok (.iconst 0, 1) := by decide +kernel
theorem dX_put_25 : decode cX_put 25 = .ok (.ireturn, 1) := by decide +kernel
theorem dX_put_26 : decode cX_put 26 = .ok (.aload_n 0, 1) := by decide +kernel
theorem dX_put_27 : decode cX_put 27 = .ok (.getfield 19, 3) := by decide +kernel
theorem dX_put_30 : decode cX_put 30 = .ok (.iload_n 1, 1) := by decide +kernel
theorem dX_put_31 : decode cX_put 31 = .ok (.invokevirtual 88, 3) := by decide +kernel
theorem dX_put_34 : decode cX_put 34 = .ok (.iconst 1, 1) := by decide +kernel
theorem dX_put_35 : decode cX_put 35 = .ok (.ireturn, 1) := by decide +kernel
theorem dX_production_0 : decode cX_production 0 = .ok (.aload_n 0, 1) := by decide +kernel
theorem dX_production_1 : decode cX_production 1 = .ok (.getfield 19, 3) := by decide +kernel
theorem dX_production_4 : decode cX_production 4 = .ok (.iload_n 1, 1) := by decide +kernel
theorem dX_production_5 : decode cX_production 5 = .ok (.iload_n 2, 1) := by decide +kernel
theorem dX_production_6 : decode cX_production 6 = .ok (.invokevirtual 92, 3) := by decide +kernel
theorem dX_production_9 : decode cX_production 9 = .ok (.ireturn, 1) := by decide +kernel
theorem dX_compileCyclic_0 : decode cX_compileCyclic 0 = .ok (.aload_n 0, 1) := by decide +kernel
theorem dX_compileCyclic_1 : decode cX_compileCyclic 1 = .ok (.getfield 19, 3) := by decide +kernel
theorem dX_compileCyclic_4 : decode cX_compileCyclic 4 = .ok (.getfield 61, 3) := by decide +kernel
theorem dX_compileCyclic_7 : decode cX_compileCyclic 7 = .ok (.ifCond .ne 5, 3) := by decide +kernel
theorem dX_compileCyclic_10 : decode cX_compileCyclic 10 = .ok (.iconst 0, 1) := by decide +kernel
theorem dX_compileCyclic_11 : decode cX_compileCyclic 11 = .ok (.ireturn, 1) := by decide +kernel
theorem dX_compileCyclic_12 : decode cX_compileCyclic 12 = .ok (.aload_n 0, 1) := by decide +kernel
theorem dX_compileCyclic_13 : decode cX_compileCyclic 13 = .ok (.getfield 26, 3) := by decide +kernel
theorem dX_compileCyclic_16 : decode cX_compileCyclic 16 = .ok (.aload_n 0, 1) := by decide +kernel
theorem dX_compileCyclic_17 : decode cX_compileCyclic 17 = .ok (.getfield 19, 3) := by decide +kernel
theorem dX_compileCyclic_20 : decode cX_compileCyclic 20 = .ok (.invokevirtual 96, 3) := by decide +kernel
theorem dX_compileCyclic_23 : decode cX_compileCyclic 23 = .ok (.aload_n 0, 1) := by decide +kernel
theorem dX_compileCyclic_24 : decode cX_compileCyclic 24 = .ok (.getfield 26, 3) := by decide +kernel
theorem dX_compileCyclic_27 : decode cX_compileCyclic 27 = .ok (.invokevirtual 100, 3) := by decide +kernel
theorem dX_compileCyclic_30 : decode cX_compileCyclic 30 = .ok (.ireturn, 1) := by decide +kernel
theorem dY_makeOf_0 : decode cY_makeOf 0 = .ok (.aload_n 0, 1) := by decide +kernel
theorem dY_makeOf_1 : decode cY_makeOf 1 = .ok (.getfield 12, 3) := by decide +kernel
theorem dY_makeOf_4 : decode cY_makeOf 4 = .ok (.aload_n 1, 1) := by decide +kernel
theorem dY_makeOf_5 : decode cY_makeOf 5 = .ok (.invokevirtual 22, 3) := by decide +kernel
theorem dY_makeOf_8 : decode cY_makeOf 8 = .ok (.aload_n 0, 1) := by decide +kernel
theorem dY_makeOf_9 : decode cY_makeOf 9 = .ok (.iconst 0, 1) := by decide +kernel
theorem dY_makeOf_10 : decode cY_makeOf 10 = .ok (.putfield 18, 3) := by decide +kernel
theorem dY_makeOf_13 : decode cY_makeOf 13 = .ok (.return_, 1) := by decide +kernel
theorem dT_copyFrom_0 : decode cT_copyFrom 0 = .ok (.aload_n 0, 1) := by decide +kernel
theorem dT_copyFrom_1 : decode cT_copyFrom 1 = .ok (.aload_n 1, 1) := by decide +kernel
theorem dT_copyFrom_2 : decode cT_copyFrom 2 = .ok (.getfield 33, 3) := by decide +kernel
theorem dT_copyFrom_5 : decode cT_copyFrom 5 = .ok (.putfield 33, 3) := by decide +kernel
theorem dT_copyFrom_8 : decode cT_copyFrom 8 = .ok (.iconst 0, 1) := by decide +kernel
theorem dT_copyFrom_9 : decode cT_copyFrom 9 = .ok (.istore_n 2, 1) := by decide +kernel
theorem dT_copyFrom_10 : decode cT_copyFrom 10 = .ok (.iload_n 2, 1) := by decide +kernel
theorem dT_copyFrom_11 : decode cT_copyFrom 11 = .ok (.aload_n 0, 1) := by decide +kernel
