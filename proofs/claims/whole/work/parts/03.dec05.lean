theorem dR_greatest_0 : decode cR_greatest 0 = .ok (.iconst 0, 1) := by decide +kernel
theorem dR_greatest_1 : decode cR_greatest 1 = .ok (.istore_n 1, 1) := by decide +kernel
theorem dR_greatest_2 : decode cR_greatest 2 = .ok (.iconst 0, 1) := by decide +kernel
theorem dR_greatest_3 : decode cR_greatest 3 = .ok (.istore_n 2, 1) := by decide +kernel
theorem dR_greatest_4 : decode cR_greatest 4 = .ok (.iconst 0, 1) := by decide +kernel
theorem dR_greatest_5 : decode cR_greatest 5 = .ok (.istore_n 3, 1) := by decide +kernel
theorem dR_greatest_6 : decode cR_greatest 6 = .ok (.iload_n 3, 1) := by decide +kernel
theorem dR_greatest_7 : decode cR_greatest 7 = .ok (.bipush 16, 2) := by decide +kernel
theorem dR_greatest_9 : decode cR_greatest 9 = .ok (.if_icmp .ge 74, 3) := by decide +kernel
theorem dR_greatest_12 : decode cR_greatest 12 = .ok (.aload_n 0, 1) := by decide +kernel
theorem dR_greatest_13 : decode cR_greatest 13 = .ok (.getfield 7, 3) := by decide +kernel
theorem dR_greatest_16 : decode cR_greatest 16 = .ok (.iload_n 3, 1) := by decide +kernel
theorem dR_greatest_17 : decode cR_greatest 17 = .ok (.baload, 1) := by decide +kernel
theorem dR_greatest_18 : decode cR_greatest 18 = .ok (.ifCond .eq 59, 3) := by decide +kernel
theorem dR_greatest_21 : decode cR_greatest 21 = .ok (.iload_n 3, 1) := by decide +kernel
theorem dR_greatest_22 : decode cR_greatest 22 = .ok (.iconst 2, 1) := by decide +kernel
theorem dR_greatest_23 : decode cR_greatest 23 = .ok (.idiv, 1) := by decide +kernel
theorem dR_greatest_24 : decode cR_greatest 24 = .ok (.iconst 1, 1) := by decide +kernel
theorem dR_greatest_25 : decode cR_greatest 25 = .ok (.iadd, 1) := by decide +kernel
theorem dR_greatest_26 : decode cR_greatest 26 = .ok (.iload_n 1, 1) := by decide +kernel
theorem dR_greatest_27 : decode cR_greatest 27 = .ok (.if_icmp .le 9, 3) := by decide +kernel
theorem dR_greatest_30 : decode cR_greatest 30 = .ok (.iload_n 3, 1) := by decide +kernel
theorem dR_greatest_31 : decode cR_greatest 31 = .ok (.iconst 2, 1) := by decide +kernel
theorem dR_greatest_32 : decode cR_greatest 32 = .ok (.idiv, 1) := by decide +kernel
theorem dR_greatest_33 : decode cR_greatest 33 = .ok (.iconst 1, 1) := by decide +kernel
theorem dR_greatest_34 : decode cR_greatest 34 = .ok (.iadd, 1) := by decide +kernel
theorem dR_greatest_35 : decode cR_greatest 35 = .ok (.istore_n 1, 1) := by decide +kernel
theorem dR_greatest_36 : decode cR_greatest 36 = .ok (.aload_n 0, 1) := by decide +kernel
theorem dR_greatest_37 : decode cR_greatest 37 = .ok (.getfield 20, 3) := by decide +kernel
theorem dR_greatest_40 : decode cR_greatest 40 = .ok (.iload_n 3, 1) := by decide +kernel
theorem dR_greatest_41 : decode cR_greatest 41 = .ok (.iaload, 1) := by decide +kernel
theorem dR_greatest_42 : decode cR_greatest 42 = .ok (.iload_n 1, 1) := by decide +kernel
theorem dR_greatest_43 : decode cR_greatest 43 = .ok (.if_icmp .le 10, 3) := by decide +kernel
theorem dR_greatest_46 : decode cR_greatest 46 = .ok (.aload_n 0, 1) := by decide +kernel
theorem dR_greatest_47 : decode cR_greatest 47 = .ok (.getfield 20, 3) := by decide +kernel
theorem dR_greatest_50 : decode cR_greatest 50 = .ok (.iload_n 3, 1) := by decide +kernel
theorem dR_greatest_51 : decode cR_greatest 51 = .ok (.iaload, 1) := by decide +kernel
theorem dR_greatest_52 : decode cR_greatest 52 = .ok (.istore_n 1, 1) := by decide +kernel
theorem dR_greatest_53 : decode cR_greatest 53 = .ok (.aload_n 0, 1) := by decide +kernel
theorem dR_greatest_54 : decode cR_greatest 54 = .ok (.getfield 20, 3) := by decide +kernel
theorem dR_greatest_57 : decode cR_greatest 57 = .ok (.iload_n 3, 1) := by decide +kernel
theorem dR_greatest_58 : decode cR_greatest 58 = .ok (.iaload, 1) := by decide +kernel
theorem dR_greatest_59 : decode cR_greatest 59 = .ok (.ifCond .le 18, 3) := by decide +kernel
theorem dR_greatest_62 : decode cR_greatest 62 = .ok (.aload_n 0, 1) := by decide +kernel
theorem dR_greatest_63 : decode cR_greatest 63 = .ok (.aload_n 0, 1) := by decide +kernel
theorem dR_greatest_64 : decode cR_greatest 64 = .ok (.getfield 20, 3) := by decide +kernel
theorem dR_greatest_67 : decode cR_greatest 67 = .ok (.iload_n 3, 1) := by decide +kernel
theorem dR_greatest_68 : decode cR_greatest 68 = .ok (.iaload, 1) := by decide +kernel
theorem dR_greatest_69 : decode cR_greatest 69 = .ok (.invokevirtual 96, 3) := by decide +kernel
theorem dR_greatest_72 : decode cR_greatest 72 = .ok (.ifCond .ne 5, 3) := by decide +kernel
theorem dR_greatest_75 : decode cR_greatest 75 = .ok (.iconst 1, 1) := by decide +kernel
theorem dR_greatest_76 : decode cR_greatest 76 = .ok (.istore_n 2, 1) := by decide +kernel
theorem dR_greatest_77 : decode cR_greatest 77 = .ok (.iinc 3 1, 3) := by decide +kernel
theorem dR_greatest_80 : decode cR_greatest 80 = .ok (.goto (-74), 3) := by decide +kernel
theorem dR_greatest_83 : decode cR_greatest 83 = .ok (.iload_n 1, 1) := by decide +kernel
theorem dR_greatest_84 : decode cR_greatest 84 = .ok (.ifCond .le 22, 3) := by decide +kernel
theorem dR_greatest_87 : decode cR_greatest 87 = .ok (.iload_n 2, 1) := by decide +kernel
theorem dR_greatest_88 : decode cR_greatest 88 = .ok (.ifCond .ne 14, 3) := by decide +kernel
theorem dR_greatest_91 : decode cR_greatest 91 = .ok (.aload_n 0, 1) := by decide +kernel
theorem dR_greatest_92 : decode cR_greatest 92 = .ok (.aload_n 0, 1) := by decide +kernel
theorem dR_greatest_93 : decode cR_greatest 93 = .ok (.getfield 23, 3) := by decide +kernel
theorem dR_greatest_96 : decode cR_greatest 96 = .ok (.invokevirtual 96, 3) := by decide +kernel
theorem dR_greatest_99 : decode cR_greatest 99 = .ok (.ifCond .ne 7, 3) := by decide +kernel
theorem dR_greatest_102 : decode cR_greatest 102 = .ok (.iconst (-1), 1) := by decide +kernel
theorem dR_greatest_103 : decode cR_greatest 103 = .ok (.goto 4, 3) := by decide +kernel
theorem dR_greatest_106 : decode cR_greatest 106 = .ok (.iload_n 1, 1) := by decide +kernel
theorem dR_greatest_107 : decode cR_greatest 107 = .ok (.ireturn, 1) := by decide +kernel
theorem dR_bothTold_0 : decode cR_bothTold 0 = .ok (.aload_n 0, 1) := by decide +kernel
theorem dR_bothTold_1 : decode cR_bothTold 1 = .ok (.getfield 7, 3) := by decide +kernel
theorem dR_bothTold_4 : decode cR_bothTold 4 = .ok (.iload_n 1, 1) := by decide +kernel
theorem dR_bothTold_5 : decode cR_bothTold 5 = .ok (.iconst 0, 1) := by decide +kernel
theorem dR_bothTold_6 : decode cR_bothTold 6 = .ok (.invokestatic 70, 3) := by decide +kernel
theorem dR_bothTold_9 : decode cR_bothTold 9 = .ok (.baload, 1) := by decide +kernel
theorem dR_bothTold_10 : decode cR_bothTold 10 = .ok (.ifCond .eq 20, 3) := by decide +kernel
theorem dR_bothTold_13 : decode cR_bothTold 13 = .ok (.aload_n 0, 1) := by decide +kernel
theorem dR_bothTold_14 : decode cR_bothTold 14 = .ok (.getfield 7, 3) := by decide +kernel
theorem dR_bothTold_17 : decode cR_bothTold 17 = .ok (.iload_n 1, 1) := by decide +kernel
theorem dR_bothTold_18 : decode cR_bothTold 18 = .ok (.iconst 1, 1) := by decide +kernel
theorem dR_bothTold_19 : decode cR_bothTold 19 = .ok (.invokestatic 70, 3) := by decide +kernel
theorem dR_bothTold_22 : decode cR_bothTold 22 = .ok (.baload, 1) := by decide +kernel
theorem dR_bothTold_23 : decode cR_bothTold 23 = .ok (.ifCond .eq 7, 3) := by decide +kernel
theorem dR_bothTold_26 : decode cR_bothTold 26 = .ok (.iconst 1, 1) := by decide +kernel
theorem dR_bothTold_27 : decode cR_bothTold 27 = .ok (.goto 4, 3) := by decide +kernel
theorem dR_bothTold_30 : decode cR_bothTold 30 = .ok (.iconst 0, 1) := by decide +kernel
theorem dR_bothTold_31 : decode cR_bothTold 31 = .ok (.ireturn, 1) := by decide +kernel
theorem dR_emptySystem_0 : decode cR_emptySystem 0 = .ok (.aload_n 0, 1) := by decide +kernel
theorem dR_emptySystem_1 : decode cR_emptySystem 1 = .ok (.iload_n 1, 1) := by decide +kernel
theorem dR_emptySystem_2 : decode cR_emptySystem 2 = .ok (.putfield 99, 3) := by decide +kernel
theorem dR_emptySystem_5 : decode cR_emptySystem 5 = .ok (.aload_n 0, 1) := by decide +kernel
theorem dR_emptySystem_6 : decode cR_emptySystem 6 = .ok (.iconst 0, 1) := by decide +kernel
theorem dR_emptySystem_7 : decode cR_emptySystem 7 = .ok (.putfield 102, 3) := by decide +kernel
theorem dR_emptySystem_10 : decode cR_emptySystem 10 = .ok (.aload_n 0, 1) := by decide +kernel
theorem dR_emptySystem_11 : decode cR_emptySystem 11 = .ok (.iconst 0, 1) := by decide +kernel
theorem dR_emptySystem_12 : decode cR_emptySystem 12 = .ok (.putfield 105, 3) := by decide +kernel
theorem dR_emptySystem_15 : decode cR_emptySystem 15 = .ok (.aload_n 0, 1) := by decide +kernel
theorem dR_emptySystem_16 : decode cR_emptySystem 16 = .ok (.iconst 0, 1) := by decide +kernel
theorem dR_emptySystem_17 : decode cR_emptySystem 17 = .ok (.putfield 108, 3) := by decide +kernel
theorem dR_emptySystem_20 : decode cR_emptySystem 20 = .ok (.iconst 0, 1) := by decide +kernel
theorem dR_emptySystem_21 : decode cR_emptySystem 21 = .ok (.istore_n 2, 1) := by decide +kernel
theorem dR_emptySystem_22 : decode cR_emptySystem 22 = .ok (.iload_n 2, 1) := by decide +kernel
theorem dR_emptySystem_23 : decode cR_emptySystem 23 = .ok (.sipush 300, 3) := by decide +kernel
theorem dR_emptySystem_26 : decode cR_emptySystem 26 = .ok (.if_icmp .ge 23, 3) := by decide +kernel
theorem dR_emptySystem_29 : decode cR_emptySystem 29 = .ok (.aload_n 0, 1) := by decide +kernel
theorem dR_emptySystem_30 : decode cR_emptySystem 30 = .ok (.getfield 30, 3) := by decide +kernel
theorem dR_emptySystem_33 : decode cR_emptySystem 33 = .ok (.iload_n 2, 1) := by decide +kernel
theorem dR_emptySystem_34 : decode cR_emptySystem 34 = .ok (.iconst 0, 1) := by decide +kernel
theorem dR_emptySystem_35 : decode cR_emptySystem 35 = .ok (.iastore, 1) := by decide +kernel
theorem dR_emptySystem_36 : decode cR_emptySystem 36 = .ok (.aload_n 0, 1) := by decide +kernel
theorem dR_emptySystem_37 : decode cR_emptySystem 37 = .ok (.getfield 33, 3) := by decide +kernel
theorem dR_emptySystem_40 : decode cR_emptySystem 40 = .ok (.iload_n 2, 1) := by decide +kernel
theorem dR_emptySystem_41 : decode cR_emptySystem 41 = .ok (.iconst 0, 1) := by decide +kernel
theorem dR_emptySystem_42 : decode cR_emptySystem 42 = .ok (.bastore, 1) := by decide +kernel
theorem dR_emptySystem_43 : decode cR_emptySystem 43 = .ok (.iinc 2 1, 3) := by decide +kernel
theorem dR_emptySystem_46 : decode cR_emptySystem 46 = .ok (.goto (-24), 3) := by decide +kernel
theorem dR_emptySystem_49 : decode cR_emptySystem 49 = .ok (.aload_n 0, 1) := by decide +kernel
theorem dR_emptySystem_50 : decode cR_emptySystem 50 = .ok (.iconst 0, 1) := by decide +kernel
theorem dR_emptySystem_51 : decode cR_emptySystem 51 = .ok (.putfield 111, 3) := by decide +kernel
theorem dR_emptySystem_54 : decode cR_emptySystem 54 = .ok (.aload_n 0, 1) := by decide +kernel
theorem dR_emptySystem_55 : decode cR_emptySystem 55 = .ok (.iconst 0, 1) := by decide +kernel
theorem dR_emptySystem_56 : decode cR_emptySystem 56 = .ok (.putfield 114, 3) := by decide +kernel
theorem dR_emptySystem_59 : decode cR_emptySystem 59 = .ok (.aload_n 0, 1) := by decide +kernel
theorem dR_emptySystem_60 : decode cR_emptySystem 60 = .ok (.iconst 0, 1) := by decide +kernel
theorem dR_emptySystem_61 : decode cR_emptySystem 61 = .ok (.putfield 117, 3) := by decide +kernel
theorem dR_emptySystem_64 : decode cR_emptySystem 64 = .ok (.aload_n 0, 1) := by decide +kernel
theorem dR_emptySystem_65 : decode cR_emptySystem 65 = .ok (.iconst 0, 1) := by decide +kernel
theorem dR_emptySystem_66 : decode cR_emptySystem 66 = .ok (.putfield 120, 3) := by decide +kernel
theorem dR_emptySystem_69 : decode cR_emptySystem 69 = .ok (.return_, 1) := by decide +kernel
theorem dR_letterOf_0 : decode cR_letterOf 0 = .ok (.iconst 1, 1) := by decide +kernel
theorem dR_letterOf_1 : decode cR_letterOf 1 = .ok (.bipush 18, 2) := by decide +kernel
theorem dR_letterOf_3 : decode cR_letterOf 3 = .ok (.iconst 2, 1) := by decide +kernel
theorem dR_letterOf_4 : decode cR_letterOf 4 = .ok (.iload_n 0, 1) := by decide +kernel
theorem dR_letterOf_5 : decode cR_letterOf 5 = .ok (.iconst 1, 1) := by decide +kernel
theorem dR_letterOf_6 : decode cR_letterOf 6 = .ok (.isub, 1) := by decide +kernel
theorem dR_letterOf_7 : decode cR_letterOf 7 = .ok (.imul, 1) := by decide +kernel
theorem dR_letterOf_8 : decode cR_letterOf 8 = .ok (.iload_n 1, 1) := by decide +kernel
theorem dR_letterOf_9 : decode cR_letterOf 9 = .ok (.iadd, 1) := by decide +kernel
theorem dR_letterOf_10 : decode cR_letterOf 10 = .ok (.imul, 1) := by decide +kernel
theorem dR_letterOf_11 : decode cR_letterOf 11 = .ok (.iadd, 1) := by decide +kernel
theorem dR_letterOf_12 : decode cR_letterOf 12 = .ok (.iload_n 2, 1) := by decide +kernel
theorem dR_letterOf_13 : decode cR_letterOf 13 = .ok (.iadd, 1) := by decide +kernel
theorem dR_letterOf_14 : decode cR_letterOf 14 = .ok (.ireturn, 1) := by decide +kernel
theorem dR_toTheRight_0 : decode cR_toTheRight 0 = .ok (.aload_n 0, 1) := by decide +kernel
theorem dR_toTheRight_1 : decode cR_toTheRight 1 = .ok (.iload_n 1, 1) := by decide +kernel
theorem dR_toTheRight_2 : decode cR_toTheRight 2 = .ok (.iconst 0, 1) := by decide +kernel
theorem dR_toTheRight_3 : decode cR_toTheRight 3 = .ok (.iadd, 1) := by decide +kernel
theorem dR_toTheRight_4 : decode cR_toTheRight 4 = .ok (.iload_n 1, 1) := by decide +kernel
theorem dR_toTheRight_5 : decode cR_toTheRight 5 = .ok (.iconst 4, 1) := by decide +kernel
theorem dR_toTheRight_6 : decode cR_toTheRight 6 = .ok (.iadd, 1) := by decide +kernel
theorem dR_toTheRight_7 : decode cR_toTheRight 7 = .ok (.iconst 0, 1) := by decide +kernel
theorem dR_toTheRight_8 : decode cR_toTheRight 8 = .ok (.invokevirtual 92, 3) := by decide +kernel
theorem dR_toTheRight_11 : decode cR_toTheRight 11 = .ok (.iload_n 2, 1) := by decide +kernel
theorem dR_toTheRight_12 : decode cR_toTheRight 12 = .ok (.ifCond .eq 14, 3) := by decide +kernel
theorem dR_toTheRight_15 : decode cR_toTheRight 15 = .ok (.aload_n 0, 1) := by decide +kernel
theorem dR_toTheRight_16 : decode cR_toTheRight 16 = .ok (.iload_n 1, 1) := by decide +kernel
theorem dR_toTheRight_17 : decode cR_toTheRight 17 = .ok (.iconst 0, 1) := by decide +kernel
theorem dR_toTheRight_18 : decode cR_toTheRight 18 = .ok (.iadd, 1) := by decide +kernel
theorem dR_toTheRight_19 : decode cR_toTheRight 19 = .ok (.iload_n 1, 1) := by decide +kernel
theorem dR_toTheRight_20 : decode cR_toTheRight 20 = .ok (.iconst 5, 1) := by decide +kernel
theorem dR_toTheRight_21 : decode cR_toTheRight 21 = .ok (.iadd, 1) := by decide +kernel
theorem dR_toTheRight_22 : decode cR_toTheRight 22 = .ok (.iconst 0, 1) := by decide +kernel
theorem dR_toTheRight_23 : decode cR_toTheRight 23 = .ok (.invokevirtual 92, 3) := by decide +kernel
theorem dR_toTheRight_26 : decode cR_toTheRight 26 = .ok (.aload_n 0, 1) := by decide +kernel
theorem dR_toTheRight_27 : decode cR_toTheRight 27 = .ok (.iload_n 1, 1) := by decide +kernel
theorem dR_toTheRight_28 : decode cR_toTheRight 28 = .ok (.iconst 1, 1) := by decide +kernel
theorem dR_toTheRight_29 : decode cR_toTheRight 29 = .ok (.iadd, 1) := by decide +kernel
theorem dR_toTheRight_30 : decode cR_toTheRight 30 = .ok (.iload_n 1, 1) := by decide +kernel
theorem dR_toTheRight_31 : decode cR_toTheRight 31 = .ok (.iconst 5, 1) := by decide +kernel
theorem dR_toTheRight_32 : decode cR_toTheRight 32 = .ok (.iadd, 1) := by decide +kernel
theorem dR_toTheRight_33 : decode cR_toTheRight 33 = .ok (.iconst 0, 1) := by decide +kernel
theorem dR_toTheRight_34 : decode cR_toTheRight 34 = .ok (.invokevirtual 92, 3) := by decide +kernel
theorem dR_toTheRight_37 : decode cR_toTheRight 37 = .ok (.aload_n 0, 1) := by decide +kernel
theorem dR_toTheRight_38 : decode cR_toTheRight 38 = .ok (.iload_n 1, 1) := by decide +kernel
theorem dR_toTheRight_39 : decode cR_toTheRight 39 = .ok (.iconst 1, 1) := by decide +kernel
theorem dR_toTheRight_40 : decode cR_toTheRight 40 = .ok (.iadd, 1) := by decide +kernel
theorem dR_toTheRight_41 : decode cR_toTheRight 41 = .ok (.iload_n 1, 1) := by decide +kernel
theorem dR_toTheRight_42 : decode cR_toTheRight 42 = .ok (.iconst 5, 1) := by decide +kernel
theorem dR_toTheRight_43 : decode cR_toTheRight 43 = .ok (.iadd, 1) := by decide +kernel
theorem dR_toTheRight_44 : decode cR_toTheRight 44 = .ok (.iconst 0, 1) := by decide +kernel
theorem dR_toTheRight_45 : decode cR_toTheRight 45 = .ok (.invokevirtual 92, 3) := by decide +kernel
theorem dR_toTheRight_48 : decode cR_toTheRight 48 = .ok (.aload_n 0, 1) := by decide +kernel
theorem dR_toTheRight_49 : decode cR_toTheRight 49 = .ok (.iload_n 1, 1) := by decide +kernel
theorem dR_toTheRight_50 : decode cR_toTheRight 50 = .ok (.iconst 2, 1) := by decide +kernel
theorem dR_toTheRight_51 : decode cR_toTheRight 51 = .ok (.iadd, 1) := by decide +kernel
theorem dR_toTheRight_52 : decode cR_toTheRight 52 = .ok (.iload_n 1, 1) := by decide +kernel
theorem dR_toTheRight_53 : decode cR_toTheRight 53 = .ok (.bipush 6, 2) := by decide +kernel
theorem dR_toTheRight_55 : decode cR_toTheRight 55 = .ok (.iadd, 1) := by decide +kernel
theorem dR_toTheRight_56 : decode cR_toTheRight 56 = .ok (.invokevirtual 88, 3) := by decide +kernel
theorem dR_toTheRight_59 : decode cR_toTheRight 59 = .ok (.aload_n 0, 1) := by decide +kernel
theorem dR_toTheRight_60 : decode cR_toTheRight 60 = .ok (.iload_n 1, 1) := by decide +kernel
theorem dR_toTheRight_61 : decode cR_toTheRight 61 = .ok (.iconst 3, 1) := by decide +kernel
theorem dR_toTheRight_62 : decode cR_toTheRight 62 = .ok (.iadd, 1) := by decide +kernel
theorem dR_toTheRight_63 : decode cR_toTheRight 63 = .ok (.iload_n 1, 1) := by decide +kernel
theorem dR_toTheRight_64 : decode cR_toTheRight 64 = .ok (.bipush 7, 2) := by decide +kernel
theorem dR_toTheRight_66 : decode cR_toTheRight 66 = .ok (.iadd, 1) := by decide +kernel
theorem dR_toTheRight_67 : decode cR_toTheRight 67 = .ok (.invokevirtual 88, 3) := by decide +kernel
theorem dR_toTheRight_70 : decode cR_toTheRight 70 = .ok (.aload_n 0, 1) := by decide +kernel
theorem dR_toTheRight_71 : decode cR_toTheRight 71 = .ok (.iload_n 1, 1) := by decide +kernel
theorem dR_toTheRight_72 : decode cR_toTheRight 72 = .ok (.iconst 4, 1) := by decide +kernel
theorem dR_toTheRight_73 : decode cR_toTheRight 73 = .ok (.iadd, 1) := by decide +kernel
theorem dR_toTheRight_74 : decode cR_toTheRight 74 = .ok (.iload_n 1, 1) := by decide +kernel
theorem dR_toTheRight_75 : decode cR_toTheRight 75 = .ok (.bipush 8, 2) := by decide +kernel
theorem dR_toTheRight_77 : decode cR_toTheRight 77 = .ok (.iadd, 1) := by decide +kernel
theorem dR_toTheRight_78 : decode cR_toTheRight 78 = .ok (.iload_n 1, 1) := by decide +kernel
theorem dR_toTheRight_79 : decode cR_toTheRight 79 = .ok (.bipush 9, 2) := by decide +kernel
theorem dR_toTheRight_81 : decode cR_toTheRight 81 = .ok (.iadd, 1) := by decide +kernel
theorem dR_toTheRight_82 : decode cR_toTheRight 82 = .ok (.invokevirtual 92, 3) := by decide +kernel
theorem dR_toTheRight_85 : decode cR_toTheRight 85 = .ok (.aload_n 0, 1) := by decide +kernel
theorem dR_toTheRight_86 : decode cR_toTheRight 86 = .ok (.iload_n 1, 1) := by decide +kernel
theorem dR_toTheRight_87 : decode cR_toTheRight 87 = .ok (.iconst 5, 1) := by decide +kernel
theorem dR_toTheRight_88 : decode cR_toTheRight 88 = .ok (.iadd, 1) := by decide +kernel
theorem dR_toTheRight_89 : decode cR_toTheRight 89 = .ok (.iload_n 1, 1) := by decide +kernel
theorem dR_toTheRight_90 : decode cR_toTheRight 90 = .ok (.bipush 10, 2) := by decide +kernel
theorem dR_toTheRight_92 : decode cR_toTheRight 92 = .ok (.iadd, 1) := by decide +kernel
theorem dR_toTheRight_93 : decode cR_toTheRight 93 = .ok (.iload_n 1, 1) := by decide +kernel
theorem dR_toTheRight_94 : decode cR_toTheRight 94 = .ok (.bipush 11, 2) := by decide +kernel
theorem dR_toTheRight_96 : decode cR_toTheRight 96 = .ok (.iadd, 1) := by decide +kernel
theorem dR_toTheRight_97 : decode cR_toTheRight 97 = .ok (.invokevirtual 92, 3) := by decide +kernel
theorem dR_toTheRight_100 : decode cR_toTheRight 100 = .ok (.aload_n 0, 1) := by decide +kernel
theorem dR_toTheRight_101 : decode cR_toTheRight 101 = .ok (.iload_n 1, 1) := by decide +kernel
theorem dR_toTheRight_102 : decode cR_toTheRight 102 = .ok (.bipush 6, 2) := by decide +kernel
theorem dR_toTheRight_104 : decode cR_toTheRight 104 = .ok (.iadd, 1) := by decide +kernel
theorem dR_toTheRight_105 : decode cR_toTheRight 105 = .ok (.iload_n 1, 1) := by decide +kernel
theorem dR_toTheRight_106 : decode cR_toTheRight 106 = .ok (.bipush 12, 2) := by decide +kernel
theorem dR_toTheRight_108 : decode cR_toTheRight 108 = .ok (.iadd, 1) := by decide +kernel
theorem dR_toTheRight_109 : decode cR_toTheRight 109 = .ok (.iload_n 1, 1) := by decide +kernel
theorem dR_toTheRight_110 : decode cR_toTheRight 110 = .ok (.bipush 13, 2) := by decide +kernel
theorem dR_toTheRight_112 : decode cR_toTheRight 112 = .ok (.iadd, 1) := by decide +kernel
theorem dR_toTheRight_113 : decode cR_toTheRight 113 = .ok (.invokevirtual 92, 3) := by decide +kernel
theorem dR_toTheRight_116 : decode cR_toTheRight 116 = .ok (.aload_n 0, 1) := by decide +kernel
theorem dR_toTheRight_117 : decode cR_toTheRight 117 = .ok (.iload_n 1, 1) := by decide +kernel
theorem dR_toTheRight_118 : decode cR_toTheRight 118 = .ok (.bipush 7, 2) := by decide +kernel
theorem dR_toTheRight_120 : decode cR_toTheRight 120 = .ok (.iadd, 1) := by decide +kernel
theorem dR_toTheRight_121 : decode cR_toTheRight 121 = .ok (.iload_n 1, 1) := by decide +kernel
theorem dR_toTheRight_122 : decode cR_toTheRight 122 = .ok (.bipush 14, 2) := by decide +kernel
theorem dR_toTheRight_124 : decode cR_toTheRight 124 = .ok (.iadd, 1) := by decide +kernel
theorem dR_toTheRight_125 : decode cR_toTheRight 125 = .ok (.iload_n 1, 1) := by decide +kernel
theorem dR_toTheRight_126 : decode cR_toTheRight 126 = .ok (.bipush 15, 2) := by decide +kernel
theorem dR_toTheRight_128 : decode cR_toTheRight 128 = .ok (.iadd, 1) := by decide +kernel
theorem dR_toTheRight_129 : decode cR_toTheRight 129 = .ok (.invokevirtual 92, 3) := by decide +kernel
theorem dR_toTheRight_132 : decode cR_toTheRight 132 = .ok (.aload_n 0, 1) := by decide +kernel
theorem dR_toTheRight_133 : decode cR_toTheRight 133 = .ok (.iload_n 1, 1) := by decide +kernel
theorem dR_toTheRight_134 : decode cR_toTheRight 134 = .ok (.bipush 8, 2) := by decide +kernel
theorem dR_toTheRight_136 : decode cR_toTheRight 136 = .ok (.iadd, 1) := by decide +kernel
theorem dR_toTheRight_137 : decode cR_toTheRight 137 = .ok (.iload_n 3, 1) := by decide +kernel
theorem dR_toTheRight_138 : decode cR_toTheRight 138 = .ok (.iconst 0, 1) := by decide +kernel
theorem dR_toTheRight_139 : decode cR_toTheRight 139 = .ok (.iadd, 1) := by decide +kernel
theorem dR_toTheRight_140 : decode cR_toTheRight 140 = .ok (.iconst 0, 1) := by decide +kernel
theorem dR_toTheRight_141 : decode cR_toTheRight 141 = .ok (.invokevirtual 92, 3) := by decide +kernel
theorem dR_toTheRight_144 : decode cR_toTheRight 144 = .ok (.aload_n 0, 1) := by decide +kernel
theorem dR_toTheRight_145 : decode cR_toTheRight 145 = .ok (.iload_n 1, 1) := by decide +kernel
theorem dR_toTheRight_146 : decode cR_toTheRight 146 = .ok (.bipush 10, 2) := by decide +kernel
theorem dR_toTheRight_148 : decode cR_toTheRight 148 = .ok (.iadd, 1) := by decide +kernel
theorem dR_toTheRight_149 : decode cR_toTheRight 149 = .ok (.iload_n 3, 1) := by decide +kernel
theorem dR_toTheRight_150 : decode cR_toTheRight 150 = .ok (.iconst 1, 1) := by decide +kernel
theorem dR_toTheRight_151 : decode cR_toTheRight 151 = .ok (.iadd, 1) := by decide +kernel
theorem dR_toTheRight_152 : decode cR_toTheRight 152 = .ok (.iconst 0, 1) := by decide +kernel
theorem dR_toTheRight_153 : decode cR_toTheRight 153 = .ok (.invokevirtual 92, 3) := by decide +kernel
theorem dR_toTheRight_156 : decode cR_toTheRight 156 = .ok (.aload_n 0, 1) := by decide +kernel
theorem dR_toTheRight_157 : decode cR_toTheRight 157 = .ok (.iload_n 1, 1) := by decide +kernel
theorem dR_toTheRight_158 : decode cR_toTheRight 158 = .ok (.bipush 12, 2) := by decide +kernel
theorem dR_toTheRight_160 : decode cR_toTheRight 160 = .ok (.iadd, 1) := by decide +kernel
theorem dR_toTheRight_161 : decode cR_toTheRight 161 = .ok (.iload_n 3, 1) := by decide +kernel
theorem dR_toTheRight_162 : decode cR_toTheRight 162 = .ok (.iconst 2, 1) := by decide +kernel
theorem dR_toTheRight_163 : decode cR_toTheRight 163 = .ok (.iadd, 1) := by decide +kernel
theorem dR_toTheRight_164 : decode cR_toTheRight 164 = .ok (.iconst 0, 1) := by decide +kernel
theorem dR_toTheRight_165 : decode cR_toTheRight 165 = .ok (.invokevirtual 92, 3) := by decide +kernel
theorem dR_toTheRight_168 : decode cR_toTheRight 168 = .ok (.aload_n 0, 1) := by decide +kernel
theorem dR_toTheRight_169 : decode cR_toTheRight 169 = .ok (.iload_n 1, 1) := by decide +kernel
theorem dR_toTheRight_170 : decode cR_toTheRight 170 = .ok (.bipush 14, 2) := by decide +kernel
theorem dR_toTheRight_172 : decode cR_toTheRight 172 = .ok (.iadd, 1) := by decide +kernel
theorem dR_toTheRight_173 : decode cR_toTheRight 173 = .ok (.iload_n 3, 1) := by decide +kernel
theorem dR_toTheRight_174 : decode cR_toTheRight 174 = .ok (.iconst 3, 1) := by decide +kernel
theorem dR_toTheRight_175 : decode cR_toTheRight 175 = .ok (.iadd, 1) := by decide +kernel
theorem dR_toTheRight_176 : decode cR_toTheRight 176 = .ok (.iconst 0, 1) := by decide +kernel
theorem dR_toTheRight_177 : decode cR_toTheRight 177 = .ok (.invokevirtual 92, 3) := by decide +kernel
theorem dR_toTheRight_180 : decode cR_toTheRight 180 = .ok (.aload_n 0, 1) := by decide +kernel
theorem dR_toTheRight_181 : decode cR_toTheRight 181 = .ok (.iload_n 1, 1) := by decide +kernel
theorem dR_toTheRight_182 : decode cR_toTheRight 182 = .ok (.bipush 9, 2) := by decide +kernel
theorem dR_toTheRight_184 : decode cR_toTheRight 184 = .ok (.iadd, 1) := by decide +kernel
theorem dR_toTheRight_185 : decode cR_toTheRight 185 = .ok (.iconst 0, 1) := by decide +kernel
theorem dR_toTheRight_186 : decode cR_toTheRight 186 = .ok (.invokevirtual 88, 3) := by decide +kernel
theorem dR_toTheRight_189 : decode cR_toTheRight 189 = .ok (.aload_n 0, 1) := by decide +kernel
theorem dR_toTheRight_190 : decode cR_toTheRight 190 = .ok (.iload_n 1, 1) := by decide +kernel
theorem dR_toTheRight_191 : decode cR_toTheRight 191 = .ok (.bipush 9, 2) := by decide +kernel
theorem dR_toTheRight_193 : decode cR_toTheRight 193 = .ok (.iadd, 1) := by decide +kernel
theorem dR_toTheRight_194 : decode cR_toTheRight 194 = .ok (.iload 4, 2) := by decide +kernel
theorem dR_toTheRight_196 : decode cR_toTheRight 196 = .ok (.iconst 0, 1) := by decide +kernel
theorem dR_toTheRight_197 : decode cR_toTheRight 197 = .ok (.iadd, 1) := by decide +kernel
theorem dR_toTheRight_198 : decode cR_toTheRight 198 = .ok (.iconst 0, 1) := by decide +kernel
theorem dR_toTheRight_199 : decode cR_toTheRight 199 = .ok (.invokevirtual 92, 3) := by decide +kernel
theorem dR_toTheRight_202 : decode cR_toTheRight 202 = .ok (.aload_n 0, 1) := by decide +kernel
theorem dR_toTheRight_203 : decode cR_toTheRight 203 = .ok (.iload_n 1, 1) := by decide +kernel
theorem dR_toTheRight_204 : decode cR_toTheRight 204 = .ok (.bipush 11, 2) := by decide +kernel
theorem dR_toTheRight_206 : decode cR_toTheRight 206 = .ok (.iadd, 1) := by decide +kernel
theorem dR_toTheRight_207 : decode cR_toTheRight 207 = .ok (.iload 4, 2) := by decide +kernel
theorem dR_toTheRight_209 : decode cR_toTheRight 209 = .ok (.iconst 1, 1) := by decide +kernel
theorem dR_toTheRight_210 : decode cR_toTheRight 210 = .ok (.iadd, 1) := by decide +kernel
theorem dR_toTheRight_211 : decode cR_toTheRight 211 = .ok (.iconst 0, 1) := by decide +kernel
theorem dR_toTheRight_212 : decode cR_toTheRight 212 = .ok (.invokevirtual 92, 3) := by decide +kernel
theorem dR_toTheRight_215 : decode cR_toTheRight 215 = .ok (.aload_n 0, 1) := by decide +kernel
theorem dR_toTheRight_216 : decode cR_toTheRight 216 = .ok (.iload_n 1, 1) := by decide +kernel
theorem dR_toTheRight_217 : decode cR_toTheRight 217 = .ok (.bipush 13, 2) := by decide +kernel
theorem dR_toTheRight_219 : decode cR_toTheRight 219 = .ok (.iadd, 1) := by decide +kernel
theorem dR_toTheRight_220 : decode cR_toTheRight 220 = .ok (.iload 4, 2) := by decide +kernel
theorem dR_toTheRight_222 : decode cR_toTheRight 222 = .ok (.iconst 2, 1) := by decide +kernel
theorem dR_toTheRight_223 : decode cR_toTheRight 223 = .ok (.iadd, 1) := by decide +kernel
theorem dR_toTheRight_224 : decode cR_toTheRight 224 = .ok (.iconst 0, 1) := by decide +kernel
theorem dR_toTheRight_225 : decode cR_toTheRight 225 = .ok (.invokevirtual 92, 3) := by decide +kernel
theorem dR_toTheRight_228 : decode cR_toTheRight 228 = .ok (.aload_n 0, 1) := by decide +kernel
theorem dR_toTheRight_229 : decode cR_toTheRight 229 = .ok (.iload_n 1, 1) := by decide +kernel
theorem dR_toTheRight_230 : decode cR_toTheRight 230 = .ok (.bipush 15, 2) := by decide +kernel
theorem dR_toTheRight_232 : decode cR_toTheRight 232 = .ok (.iadd, 1) := by decide +kernel
theorem dR_toTheRight_233 : decode cR_toTheRight 233 = .ok (.iload 4, 2) := by decide +kernel
theorem dR_toTheRight_235 : decode cR_toTheRight 235 = .ok (.iconst 3, 1) := by decide +kernel
theorem dR_toTheRight_236 : decode cR_toTheRight 236 = .ok (.iadd, 1) := by decide +kernel
theorem dR_toTheRight_237 : decode cR_toTheRight 237 = .ok (.iconst 0, 1) := by decide +kernel
theorem dR_toTheRight_238 : decode cR_toTheRight 238 = .ok (.invokevirtual 92, 3) := by decide +kernel
theorem dR_toTheRight_241 : decode cR_toTheRight 241 = .ok (.return_, 1) := by decide +kernel
theorem dR_two_0 : decode cR_two 0 = .ok (.aload_n 0, 1) := by decide +kernel
theorem dR_two_1 : decode cR_two 1 = .ok (.iload_n 1, 1) := by decide +kernel
theorem dR_two_2 : decode cR_two 2 = .ok (.iload_n 2, 1) := by decide +kernel
theorem dR_two_3 : decode cR_two 3 = .ok (.invokevirtual 88, 3) := by decide +kernel
theorem dR_two_6 : decode cR_two 6 = .ok (.aload_n 0, 1) := by decide +kernel
theorem dR_two_7 : decode cR_two 7 = .ok (.iload_n 1, 1) := by decide +kernel
theorem dR_two_8 : decode cR_two 8 = .ok (.iload_n 3, 1) := by decide +kernel
theorem dR_two_9 : decode cR_two 9 = .ok (.invokevirtual 88, 3) := by decide +kernel
theorem dR_two_12 : decode cR_two 12 = .ok (.return_, 1) := by decide +kernel
theorem dR_add_0 : decode cR_add 0 = .ok (.aload_n 0, 1) := by decide +kernel
theorem dR_add_1 : decode cR_add 1 = .ok (.getfield 27, 3) := by decide +kernel
theorem dR_add_4 : decode cR_add 4 = .ok (.bipush 12, 2) := by decide +kernel
theorem dR_add_6 : decode cR_add 6 = .ok (.iload_n 1, 1) := by decide +kernel
theorem dR_add_7 : decode cR_add 7 = .ok (.imul, 1) := by decide +kernel
theorem dR_add_8 : decode cR_add 8 = .ok (.aload_n 0, 1) := by decide +kernel
theorem dR_add_9 : decode cR_add 9 = .ok (.getfield 30, 3) := by decide +kernel
theorem dR_add_12 : decode cR_add 12 = .ok (.iload_n 1, 1) := by decide +kernel
theorem dR_add_13 : decode cR_add 13 = .ok (.iaload, 1) := by decide +kernel
theorem dR_add_14 : decode cR_add 14 = .ok (.iadd, 1) := by decide +kernel
theorem dR_add_15 : decode cR_add 15 = .ok (.iload_n 2, 1) := by decide +kernel
theorem dR_add_16 : decode cR_add 16 = .ok (.iastore, 1) := by decide +kernel
theorem dR_add_17 : decode cR_add 17 = .ok (.aload_n 0, 1) := by decide +kernel
theorem dR_add_18 : decode cR_add 18 = .ok (.getfield 30, 3) := by decide +kernel
theorem dR_add_21 : decode cR_add 21 = .ok (.iload_n 1, 1) := by decide +kernel
theorem dR_add_22 : decode cR_add 22 = .ok (.dup2, 1) := by decide +kernel
theorem dR_add_23 : decode cR_add 23 = .ok (.iaload, 1) := by decide +kernel
theorem dR_add_24 : decode cR_add 24 = .ok (.iconst 1, 1) := by decide +kernel
theorem dR_add_25 : decode cR_add 25 = .ok (.iadd, 1) := by decide +kernel
theorem dR_add_26 : decode cR_add 26 = .ok (.iastore, 1) := by decide +kernel
theorem dR_add_27 : decode cR_add 27 = .ok (.return_, 1) := by decide +kernel
theorem dR_toTheLeft_0 : decode cR_toTheLeft 0 = .ok (.aload_n 0, 1) := by decide +kernel
theorem dR_toTheLeft_1 : decode cR_toTheLeft 1 = .ok (.iload_n 1, 1) := by decide +kernel
theorem dR_toTheLeft_2 : decode cR_toTheLeft 2 = .ok (.iconst 0, 1) := by decide +kernel
theorem dR_toTheLeft_3 : decode cR_toTheLeft 3 = .ok (.iadd, 1) := by decide +kernel
theorem dR_toTheLeft_4 : decode cR_toTheLeft 4 = .ok (.iload_n 1, 1) := by decide +kernel
theorem dR_toTheLeft_5 : decode cR_toTheLeft 5 = .ok (.bipush 6, 2) := by decide +kernel
theorem dR_toTheLeft_7 : decode cR_toTheLeft 7 = .ok (.iadd, 1) := by decide +kernel
theorem dR_toTheLeft_8 : decode cR_toTheLeft 8 = .ok (.invokevirtual 88, 3) := by decide +kernel
theorem dR_toTheLeft_11 : decode cR_toTheLeft 11 = .ok (.aload_n 0, 1) := by decide +kernel
theorem dR_toTheLeft_12 : decode cR_toTheLeft 12 = .ok (.iload_n 1, 1) := by decide +kernel
theorem dR_toTheLeft_13 : decode cR_toTheLeft 13 = .ok (.iconst 1, 1) := by decide +kernel
theorem dR_toTheLeft_14 : decode cR_toTheLeft 14 = .ok (.iadd, 1) := by decide +kernel
theorem dR_toTheLeft_15 : decode cR_toTheLeft 15 = .ok (.iload_n 1, 1) := by decide +kernel
theorem dR_toTheLeft_16 : decode cR_toTheLeft 16 = .ok (.bipush 7, 2) := by decide +kernel
theorem dR_toTheLeft_18 : decode cR_toTheLeft 18 = .ok (.iadd, 1) := by decide +kernel
theorem dR_toTheLeft_19 : decode cR_toTheLeft 19 = .ok (.invokevirtual 88, 3) := by decide +kernel
theorem dR_toTheLeft_22 : decode cR_toTheLeft 22 = .ok (.aload_n 0, 1) := by decide +kernel
theorem dR_toTheLeft_23 : decode cR_toTheLeft 23 = .ok (.iload_n 1, 1) := by decide +kernel
theorem dR_toTheLeft_24 : decode cR_toTheLeft 24 = .ok (.iconst 2, 1) := by decide +kernel
theorem dR_toTheLeft_25 : decode cR_toTheLeft 25 = .ok (.iadd, 1) := by decide +kernel
theorem dR_toTheLeft_26 : decode cR_toTheLeft 26 = .ok (.iload_n 1, 1) := by decide +kernel
theorem dR_toTheLeft_27 : decode cR_toTheLeft 27 = .ok (.iconst 4, 1) := by decide +kernel
theorem dR_toTheLeft_28 : decode cR_toTheLeft 28 = .ok (.iadd, 1) := by decide +kernel
theorem dR_toTheLeft_29 : decode cR_toTheLeft 29 = .ok (.iload_n 1, 1) := by decide +kernel
theorem dR_toTheLeft_30 : decode cR_toTheLeft 30 = .ok (.bipush 16, 2) := by decide +kernel
theorem dR_toTheLeft_32 : decode cR_toTheLeft 32 = .ok (.iadd, 1) := by decide +kernel
theorem dR_toTheLeft_33 : decode cR_toTheLeft 33 = .ok (.invokevirtual 92, 3) := by decide +kernel
theorem dR_toTheLeft_36 : decode cR_toTheLeft 36 = .ok (.iload_n 2, 1) := by decide +kernel
theorem dR_toTheLeft_37 : decode cR_toTheLeft 37 = .ok (.ifCond .eq 17, 3) := by decide +kernel
theorem dR_toTheLeft_40 : decode cR_toTheLeft 40 = .ok (.aload_n 0, 1) := by decide +kernel
theorem dR_toTheLeft_41 : decode cR_toTheLeft 41 = .ok (.iload_n 1, 1) := by decide +kernel
theorem dR_toTheLeft_42 : decode cR_toTheLeft 42 = .ok (.iconst 2, 1) := by decide +kernel
theorem dR_toTheLeft_43 : decode cR_toTheLeft 43 = .ok (.iadd, 1) := by decide +kernel
theorem dR_toTheLeft_44 : decode cR_toTheLeft 44 = .ok (.iload_n 1, 1) := by decide +kernel
theorem dR_toTheLeft_45 : decode cR_toTheLeft 45 = .ok (.iconst 5, 1) := by decide +kernel
theorem dR_toTheLeft_46 : decode cR_toTheLeft 46 = .ok (.iadd, 1) := by decide +kernel
theorem dR_toTheLeft_47 : decode cR_toTheLeft 47 = .ok (.iload_n 1, 1) := by decide +kernel
theorem dR_toTheLeft_48 : decode cR_toTheLeft 48 = .ok (.bipush 17, 2) := by decide +kernel
theorem dR_toTheLeft_50 : decode cR_toTheLeft 50 = .ok (.iadd, 1) := by decide +kernel
theorem dR_toTheLeft_51 : decode cR_toTheLeft 51 = .ok (.invokevirtual 92, 3) := by decide +kernel
theorem dR_toTheLeft_54 : decode cR_toTheLeft 54 = .ok (.aload_n 0, 1) := by decide +kernel
theorem dR_toTheLeft_55 : decode cR_toTheLeft 55 = .ok (.iload_n 1, 1) := by decide +kernel
theorem dR_toTheLeft_56 : decode cR_toTheLeft 56 = .ok (.iconst 3, 1) := by decide +kernel
theorem dR_toTheLeft_57 : decode cR_toTheLeft 57 = .ok (.iadd, 1) := by decide +kernel
theorem dR_toTheLeft_58 : decode cR_toTheLeft 58 = .ok (.iload_n 1, 1) := by decide +kernel
theorem dR_toTheLeft_59 : decode cR_toTheLeft 59 = .ok (.iconst 5, 1) := by decide +kernel
theorem dR_toTheLeft_60 : decode cR_toTheLeft 60 = .ok (.iadd, 1) := by decide +kernel
theorem dR_toTheLeft_61 : decode cR_toTheLeft 61 = .ok (.iload_n 1, 1) := by decide +kernel
theorem dR_toTheLeft_62 : decode cR_toTheLeft 62 = .ok (.bipush 17, 2) := by decide +kernel
theorem dR_toTheLeft_64 : decode cR_toTheLeft 64 = .ok (.iadd, 1) := by decide +kernel
theorem dR_toTheLeft_65 : decode cR_toTheLeft 65 = .ok (.invokevirtual 92, 3) := by decide +kernel
theorem dR_toTheLeft_68 : decode cR_toTheLeft 68 = .ok (.aload_n 0, 1) := by decide +kernel
theorem dR_toTheLeft_69 : decode cR_toTheLeft 69 = .ok (.iload_n 1, 1) := by decide +kernel
theorem dR_toTheLeft_70 : decode cR_toTheLeft 70 = .ok (.iconst 3, 1) := by decide +kernel
theorem dR_toTheLeft_71 : decode cR_toTheLeft 71 = .ok (.iadd, 1) := by decide +kernel
theorem dR_toTheLeft_72 : decode cR_toTheLeft 72 = .ok (.iload_n 1, 1) := by decide +kernel
theorem dR_toTheLeft_73 : decode cR_toTheLeft 73 = .ok (.iconst 5, 1) := by decide +kernel
theorem dR_toTheLeft_74 : decode cR_toTheLeft 74 = .ok (.iadd, 1) := by decide +kernel
theorem dR_toTheLeft_75 : decode cR_toTheLeft 75 = .ok (.iload_n 1, 1) := by decide +kernel
theorem dR_toTheLeft_76 : decode cR_toTheLeft 76 = .ok (.bipush 17, 2) := by decide +kernel
theorem dR_toTheLeft_78 : decode cR_toTheLeft 78 = .ok (.iadd, 1) := by decide +kernel
theorem dR_toTheLeft_79 : decode cR_toTheLeft 79 = .ok (.invokevirtual 92, 3) := by decide +kernel
theorem dR_toTheLeft_82 : decode cR_toTheLeft 82 = .ok (.aload_n 0, 1) := by decide +kernel
theorem dR_toTheLeft_83 : decode cR_toTheLeft 83 = .ok (.iload_n 1, 1) := by decide +kernel
theorem dR_toTheLeft_84 : decode cR_toTheLeft 84 = .ok (.bipush 6, 2) := by decide +kernel
theorem dR_toTheLeft_86 : decode cR_toTheLeft 86 = .ok (.iadd, 1) := by decide +kernel
theorem dR_toTheLeft_87 : decode cR_toTheLeft 87 = .ok (.iload_n 1, 1) := by decide +kernel
theorem dR_toTheLeft_88 : decode cR_toTheLeft 88 = .ok (.bipush 12, 2) := by decide +kernel
theorem dR_toTheLeft_90 : decode cR_toTheLeft 90 = .ok (.iadd, 1) := by decide +kernel
theorem dR_toTheLeft_91 : decode cR_toTheLeft 91 = .ok (.iload_n 1, 1) := by decide +kernel
theorem dR_toTheLeft_92 : decode cR_toTheLeft 92 = .ok (.bipush 13, 2) := by decide +kernel
theorem dR_toTheLeft_94 : decode cR_toTheLeft 94 = .ok (.iadd, 1) := by decide +kernel
theorem dR_toTheLeft_95 : decode cR_toTheLeft 95 = .ok (.invokevirtual 92, 3) := by decide +kernel
theorem dR_toTheLeft_98 : decode cR_toTheLeft 98 = .ok (.aload_n 0, 1) := by decide +kernel
theorem dR_toTheLeft_99 : decode cR_toTheLeft 99 = .ok (.iload_n 1, 1) := by decide +kernel
theorem dR_toTheLeft_100 : decode cR_toTheLeft 100 = .ok (.bipush 7, 2) := by decide +kernel
theorem dR_toTheLeft_102 : decode cR_toTheLeft 102 = .ok (.iadd, 1) := by decide +kernel
theorem dR_toTheLeft_103 : decode cR_toTheLeft 103 = .ok (.iload_n 1, 1) := by decide +kernel
theorem dR_toTheLeft_104 : decode cR_toTheLeft 104 = .ok (.bipush 14, 2) := by decide +kernel
theorem dR_toTheLeft_106 : decode cR_toTheLeft 106 = .ok (.iadd, 1) := by decide +kernel
theorem dR_toTheLeft_107 : decode cR_toTheLeft 107 = .ok (.iload_n 1, 1) := by decide +kernel
theorem dR_toTheLeft_108 : decode cR_toTheLeft 108 = .ok (.bipush 15, 2) := by decide +kernel
theorem dR_toTheLeft_110 : decode cR_toTheLeft 110 = .ok (.iadd, 1) := by decide +kernel
theorem dR_toTheLeft_111 : decode cR_toTheLeft 111 = .ok (.invokevirtual 92, 3) := by decide +kernel
theorem dR_toTheLeft_114 : decode cR_toTheLeft 114 = .ok (.aload_n 0, 1) := by decide +kernel
theorem dR_toTheLeft_115 : decode cR_toTheLeft 115 = .ok (.iload_n 1, 1) := by decide +kernel
theorem dR_toTheLeft_116 : decode cR_toTheLeft 116 = .ok (.iconst 4, 1) := by decide +kernel
theorem dR_toTheLeft_117 : decode cR_toTheLeft 117 = .ok (.iadd, 1) := by decide +kernel
theorem dR_toTheLeft_118 : decode cR_toTheLeft 118 = .ok (.iload_n 1, 1) := by decide +kernel
theorem dR_toTheLeft_119 : decode cR_toTheLeft 119 = .ok (.bipush 8, 2) := by decide +kernel
theorem dR_toTheLeft_121 : decode cR_toTheLeft 121 = .ok (.iadd, 1) := by decide +kernel
theorem dR_toTheLeft_122 : decode cR_toTheLeft 122 = .ok (.iconst 0, 1) := by decide +kernel
theorem dR_toTheLeft_123 : decode cR_toTheLeft 123 = .ok (.invokevirtual 92, 3) := by decide +kernel
theorem dR_toTheLeft_126 : decode cR_toTheLeft 126 = .ok (.aload_n 0, 1) := by decide +kernel
theorem dR_toTheLeft_127 : decode cR_toTheLeft 127 = .ok (.iload_n 1, 1) := by decide +kernel
theorem dR_toTheLeft_128 : decode cR_toTheLeft 128 = .ok (.iconst 5, 1) := by decide +kernel
theorem dR_toTheLeft_129 : decode cR_toTheLeft 129 = .ok (.iadd, 1) := by decide +kernel
theorem dR_toTheLeft_130 : decode cR_toTheLeft 130 = .ok (.iload_n 1, 1) := by decide +kernel
theorem dR_toTheLeft_131 : decode cR_toTheLeft 131 = .ok (.bipush 10, 2) := by decide +kernel
theorem dR_toTheLeft_133 : decode cR_toTheLeft 133 = .ok (.iadd, 1) := by decide +kernel
theorem dR_toTheLeft_134 : decode cR_toTheLeft 134 = .ok (.iconst 0, 1) := by decide +kernel
theorem dR_toTheLeft_135 : decode cR_toTheLeft 135 = .ok (.invokevirtual 92, 3) := by decide +kernel
