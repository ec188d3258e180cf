theorem dR_tagLetter_14 : decode cR_tagLetter 14 = .ok (.if_icmp .lt 7, 3) := by decide +kernel
theorem dR_tagLetter_17 : decode cR_tagLetter 17 = .ok (.iconst (-1), 1) := by decide +kernel
theorem dR_tagLetter_18 : decode cR_tagLetter 18 = .ok (.goto 14, 3) := by decide +kernel
theorem dR_tagLetter_21 : decode cR_tagLetter 21 = .ok (.aload_n 0, 1) := by decide +kernel
theorem dR_tagLetter_22 : decode cR_tagLetter 22 = .ok (.getfield 36, 3) := by decide +kernel
theorem dR_tagLetter_25 : decode cR_tagLetter 25 = .ok (.aload_n 0, 1) := by decide +kernel
theorem dR_tagLetter_26 : decode cR_tagLetter 26 = .ok (.getfield 102, 3) := by decide +kernel
theorem dR_tagLetter_29 : decode cR_tagLetter 29 = .ok (.iload_n 1, 1) := by decide +kernel
theorem dR_tagLetter_30 : decode cR_tagLetter 30 = .ok (.iadd, 1) := by decide +kernel
theorem dR_tagLetter_31 : decode cR_tagLetter 31 = .ok (.iaload, 1) := by decide +kernel
theorem dR_tagLetter_32 : decode cR_tagLetter 32 = .ok (.ireturn, 1) := by decide +kernel
theorem dR_compileCyclic_0 : decode cR_compileCyclic 0 = .ok (.aload_n 0, 1) := by decide +kernel
theorem dR_compileCyclic_1 : decode cR_compileCyclic 1 = .ok (.getfield 99, 3) := by decide +kernel
theorem dR_compileCyclic_4 : decode cR_compileCyclic 4 = .ok (.ifCond .ne 5, 3) := by decide +kernel
theorem dR_compileCyclic_7 : decode cR_compileCyclic 7 = .ok (.iconst 0, 1) := by decide +kernel
theorem dR_compileCyclic_8 : decode cR_compileCyclic 8 = .ok (.ireturn, 1) := by decide +kernel
theorem dR_compileCyclic_9 : decode cR_compileCyclic 9 = .ok (.aload_n 0, 1) := by decide +kernel
theorem dR_compileCyclic_10 : decode cR_compileCyclic 10 = .ok (.aload_n 0, 1) := by decide +kernel
theorem dR_compileCyclic_11 : decode cR_compileCyclic 11 = .ok (.getfield 99, 3) := by decide +kernel
theorem dR_compileCyclic_14 : decode cR_compileCyclic 14 = .ok (.putfield 108, 3) := by decide +kernel
theorem dR_compileCyclic_17 : decode cR_compileCyclic 17 = .ok (.iconst 0, 1) := by decide +kernel
theorem dR_compileCyclic_18 : decode cR_compileCyclic 18 = .ok (.istore_n 1, 1) := by decide +kernel
theorem dR_compileCyclic_19 : decode cR_compileCyclic 19 = .ok (.iload_n 1, 1) := by decide +kernel
theorem dR_compileCyclic_20 : decode cR_compileCyclic 20 = .ok (.aload_n 0, 1) := by decide +kernel
theorem dR_compileCyclic_21 : decode cR_compileCyclic 21 = .ok (.getfield 99, 3) := by decide +kernel
theorem dR_compileCyclic_24 : decode cR_compileCyclic 24 = .ok (.if_icmp .ge 73, 3) := by decide +kernel
theorem dR_compileCyclic_27 : decode cR_compileCyclic 27 = .ok (.aload_n 0, 1) := by decide +kernel
theorem dR_compileCyclic_28 : decode cR_compileCyclic 28 = .ok (.getfield 42, 3) := by decide +kernel
theorem dR_compileCyclic_31 : decode cR_compileCyclic 31 = .ok (.iload_n 1, 1) := by decide +kernel
theorem dR_compileCyclic_32 : decode cR_compileCyclic 32 = .ok (.aload_n 0, 1) := by decide +kernel
theorem dR_compileCyclic_33 : decode cR_compileCyclic 33 = .ok (.getfield 30, 3) := by decide +kernel
theorem dR_compileCyclic_36 : decode cR_compileCyclic 36 = .ok (.iload_n 1, 1) := by decide +kernel
theorem dR_compileCyclic_37 : decode cR_compileCyclic 37 = .ok (.iaload, 1) := by decide +kernel
theorem dR_compileCyclic_38 : decode cR_compileCyclic 38 = .ok (.iastore, 1) := by decide +kernel
theorem dR_compileCyclic_39 : decode cR_compileCyclic 39 = .ok (.aload_n 0, 1) := by decide +kernel
theorem dR_compileCyclic_40 : decode cR_compileCyclic 40 = .ok (.getfield 45, 3) := by decide +kernel
theorem dR_compileCyclic_43 : decode cR_compileCyclic 43 = .ok (.iload_n 1, 1) := by decide +kernel
theorem dR_compileCyclic_44 : decode cR_compileCyclic 44 = .ok (.aload_n 0, 1) := by decide +kernel
theorem dR_compileCyclic_45 : decode cR_compileCyclic 45 = .ok (.getfield 33, 3) := by decide +kernel
theorem dR_compileCyclic_48 : decode cR_compileCyclic 48 = .ok (.iload_n 1, 1) := by decide +kernel
theorem dR_compileCyclic_49 : decode cR_compileCyclic 49 = .ok (.baload, 1) := by decide +kernel
theorem dR_compileCyclic_50 : decode cR_compileCyclic 50 = .ok (.bastore, 1) := by decide +kernel
theorem dR_compileCyclic_51 : decode cR_compileCyclic 51 = .ok (.iconst 0, 1) := by decide +kernel
theorem dR_compileCyclic_52 : decode cR_compileCyclic 52 = .ok (.istore_n 2, 1) := by decide +kernel
theorem dR_compileCyclic_53 : decode cR_compileCyclic 53 = .ok (.iload_n 2, 1) := by decide +kernel
theorem dR_compileCyclic_54 : decode cR_compileCyclic 54 = .ok (.aload_n 0, 1) := by decide +kernel
theorem dR_compileCyclic_55 : decode cR_compileCyclic 55 = .ok (.getfield 30, 3) := by decide +kernel
theorem dR_compileCyclic_58 : decode cR_compileCyclic 58 = .ok (.iload_n 1, 1) := by decide +kernel
theorem dR_compileCyclic_59 : decode cR_compileCyclic 59 = .ok (.iaload, 1) := by decide +kernel
theorem dR_compileCyclic_60 : decode cR_compileCyclic 60 = .ok (.if_icmp .ge 31, 3) := by decide +kernel
theorem dR_compileCyclic_63 : decode cR_compileCyclic 63 = .ok (.aload_n 0, 1) := by decide +kernel
theorem dR_compileCyclic_64 : decode cR_compileCyclic 64 = .ok (.getfield 39, 3) := by decide +kernel
theorem dR_compileCyclic_67 : decode cR_compileCyclic 67 = .ok (.bipush 12, 2) := by decide +kernel
theorem dR_compileCyclic_69 : decode cR_compileCyclic 69 = .ok (.iload_n 1, 1) := by decide +kernel
theorem dR_compileCyclic_70 : decode cR_compileCyclic 70 = .ok (.imul, 1) := by decide +kernel
theorem dR_compileCyclic_71 : decode cR_compileCyclic 71 = .ok (.iload_n 2, 1) := by decide +kernel
theorem dR_compileCyclic_72 : decode cR_compileCyclic 72 = .ok (.iadd, 1) := by decide +kernel
theorem dR_compileCyclic_73 : decode cR_compileCyclic 73 = .ok (.aload_n 0, 1) := by decide +kernel
theorem dR_compileCyclic_74 : decode cR_compileCyclic 74 = .ok (.getfield 27, 3) := by decide +kernel
theorem dR_compileCyclic_77 : decode cR_compileCyclic 77 = .ok (.bipush 12, 2) := by decide +kernel
theorem dR_compileCyclic_79 : decode cR_compileCyclic 79 = .ok (.iload_n 1, 1) := by decide +kernel
theorem dR_compileCyclic_80 : decode cR_compileCyclic 80 = .ok (.imul, 1) := by decide +kernel
theorem dR_compileCyclic_81 : decode cR_compileCyclic 81 = .ok (.iload_n 2, 1) := by decide +kernel
theorem dR_compileCyclic_82 : decode cR_compileCyclic 82 = .ok (.iadd, 1) := by decide +kernel
theorem dR_compileCyclic_83 : decode cR_compileCyclic 83 = .ok (.iaload, 1) := by decide +kernel
theorem dR_compileCyclic_84 : decode cR_compileCyclic 84 = .ok (.iastore, 1) := by decide +kernel
theorem dR_compileCyclic_85 : decode cR_compileCyclic 85 = .ok (.iinc 2 1, 3) := by decide +kernel
theorem dR_compileCyclic_88 : decode cR_compileCyclic 88 = .ok (.goto (-35), 3) := by decide +kernel
theorem dR_compileCyclic_91 : decode cR_compileCyclic 91 = .ok (.iinc 1 1, 3) := by decide +kernel
theorem dR_compileCyclic_94 : decode cR_compileCyclic 94 = .ok (.goto (-75), 3) := by decide +kernel
theorem dR_compileCyclic_97 : decode cR_compileCyclic 97 = .ok (.aload_n 0, 1) := by decide +kernel
theorem dR_compileCyclic_98 : decode cR_compileCyclic 98 = .ok (.iconst 0, 1) := by decide +kernel
theorem dR_compileCyclic_99 : decode cR_compileCyclic 99 = .ok (.putfield 111, 3) := by decide +kernel
theorem dR_compileCyclic_102 : decode cR_compileCyclic 102 = .ok (.aload_n 0, 1) := by decide +kernel
theorem dR_compileCyclic_103 : decode cR_compileCyclic 103 = .ok (.iconst 0, 1) := by decide +kernel
theorem dR_compileCyclic_104 : decode cR_compileCyclic 104 = .ok (.putfield 114, 3) := by decide +kernel
theorem dR_compileCyclic_107 : decode cR_compileCyclic 107 = .ok (.aload_n 0, 1) := by decide +kernel
theorem dR_compileCyclic_108 : decode cR_compileCyclic 108 = .ok (.getfield 102, 3) := by decide +kernel
theorem dR_compileCyclic_111 : decode cR_compileCyclic 111 = .ok (.istore_n 1, 1) := by decide +kernel
theorem dR_compileCyclic_112 : decode cR_compileCyclic 112 = .ok (.iload_n 1, 1) := by decide +kernel
theorem dR_compileCyclic_113 : decode cR_compileCyclic 113 = .ok (.aload_n 0, 1) := by decide +kernel
theorem dR_compileCyclic_114 : decode cR_compileCyclic 114 = .ok (.getfield 105, 3) := by decide +kernel
theorem dR_compileCyclic_117 : decode cR_compileCyclic 117 = .ok (.if_icmp .ge 19, 3) := by decide +kernel
theorem dR_compileCyclic_120 : decode cR_compileCyclic 120 = .ok (.aload_n 0, 1) := by decide +kernel
theorem dR_compileCyclic_121 : decode cR_compileCyclic 121 = .ok (.aload_n 0, 1) := by decide +kernel
theorem dR_compileCyclic_122 : decode cR_compileCyclic 122 = .ok (.getfield 36, 3) := by decide +kernel
theorem dR_compileCyclic_125 : decode cR_compileCyclic 125 = .ok (.iload_n 1, 1) := by decide +kernel
theorem dR_compileCyclic_126 : decode cR_compileCyclic 126 = .ok (.iaload, 1) := by decide +kernel
theorem dR_compileCyclic_127 : decode cR_compileCyclic 127 = .ok (.invokevirtual 162, 3) := by decide +kernel
theorem dR_compileCyclic_130 : decode cR_compileCyclic 130 = .ok (.iinc 1 1, 3) := by decide +kernel
theorem dR_compileCyclic_133 : decode cR_compileCyclic 133 = .ok (.goto (-21), 3) := by decide +kernel
theorem dR_compileCyclic_136 : decode cR_compileCyclic 136 = .ok (.aload_n 0, 1) := by decide +kernel
theorem dR_compileCyclic_137 : decode cR_compileCyclic 137 = .ok (.iconst 0, 1) := by decide +kernel
theorem dR_compileCyclic_138 : decode cR_compileCyclic 138 = .ok (.putfield 117, 3) := by decide +kernel
theorem dR_compileCyclic_141 : decode cR_compileCyclic 141 = .ok (.aload_n 0, 1) := by decide +kernel
theorem dR_compileCyclic_142 : decode cR_compileCyclic 142 = .ok (.iconst 0, 1) := by decide +kernel
theorem dR_compileCyclic_143 : decode cR_compileCyclic 143 = .ok (.putfield 120, 3) := by decide +kernel
theorem dR_compileCyclic_146 : decode cR_compileCyclic 146 = .ok (.iconst 2, 1) := by decide +kernel
theorem dR_compileCyclic_147 : decode cR_compileCyclic 147 = .ok (.aload_n 0, 1) := by decide +kernel
theorem dR_compileCyclic_148 : decode cR_compileCyclic 148 = .ok (.getfield 108, 3) := by decide +kernel
theorem dR_compileCyclic_151 : decode cR_compileCyclic 151 = .ok (.imul, 1) := by decide +kernel
theorem dR_compileCyclic_152 : decode cR_compileCyclic 152 = .ok (.ireturn, 1) := by decide +kernel
theorem dR_pushBlock_0 : decode cR_pushBlock 0 = .ok (.aload_n 0, 1) := by decide +kernel
theorem dR_pushBlock_1 : decode cR_pushBlock 1 = .ok (.getfield 114, 3) := by decide +kernel
theorem dR_pushBlock_4 : decode cR_pushBlock 4 = .ok (.sipush 12000, 3) := by decide +kernel
theorem dR_pushBlock_7 : decode cR_pushBlock 7 = .ok (.if_icmp .ne 57, 3) := by decide +kernel
theorem dR_pushBlock_10 : decode cR_pushBlock 10 = .ok (.aload_n 0, 1) := by decide +kernel
theorem dR_pushBlock_11 : decode cR_pushBlock 11 = .ok (.getfield 111, 3) := by decide +kernel
theorem dR_pushBlock_14 : decode cR_pushBlock 14 = .ok (.istore_n 2, 1) := by decide +kernel
theorem dR_pushBlock_15 : decode cR_pushBlock 15 = .ok (.iload_n 2, 1) := by decide +kernel
theorem dR_pushBlock_16 : decode cR_pushBlock 16 = .ok (.aload_n 0, 1) := by decide +kernel
theorem dR_pushBlock_17 : decode cR_pushBlock 17 = .ok (.getfield 114, 3) := by decide +kernel
theorem dR_pushBlock_20 : decode cR_pushBlock 20 = .ok (.if_icmp .ge 26, 3) := by decide +kernel
theorem dR_pushBlock_23 : decode cR_pushBlock 23 = .ok (.aload_n 0, 1) := by decide +kernel
theorem dR_pushBlock_24 : decode cR_pushBlock 24 = .ok (.getfield 48, 3) := by decide +kernel
theorem dR_pushBlock_27 : decode cR_pushBlock 27 = .ok (.iload_n 2, 1) := by decide +kernel
theorem dR_pushBlock_28 : decode cR_pushBlock 28 = .ok (.aload_n 0, 1) := by decide +kernel
theorem dR_pushBlock_29 : decode cR_pushBlock 29 = .ok (.getfield 111, 3) := by decide +kernel
theorem dR_pushBlock_32 : decode cR_pushBlock 32 = .ok (.isub, 1) := by decide +kernel
theorem dR_pushBlock_33 : decode cR_pushBlock 33 = .ok (.aload_n 0, 1) := by decide +kernel
theorem dR_pushBlock_34 : decode cR_pushBlock 34 = .ok (.getfield 48, 3) := by decide +kernel
theorem dR_pushBlock_37 : decode cR_pushBlock 37 = .ok (.iload_n 2, 1) := by decide +kernel
theorem dR_pushBlock_38 : decode cR_pushBlock 38 = .ok (.iaload, 1) := by decide +kernel
theorem dR_pushBlock_39 : decode cR_pushBlock 39 = .ok (.iastore, 1) := by decide +kernel
theorem dR_pushBlock_40 : decode cR_pushBlock 40 = .ok (.iinc 2 1, 3) := by decide +kernel
theorem dR_pushBlock_43 : decode cR_pushBlock 43 = .ok (.goto (-28), 3) := by decide +kernel
theorem dR_pushBlock_46 : decode cR_pushBlock 46 = .ok (.aload_n 0, 1) := by decide +kernel
theorem dR_pushBlock_47 : decode cR_pushBlock 47 = .ok (.dup, 1) := by decide +kernel
theorem dR_pushBlock_48 : decode cR_pushBlock 48 = .ok (.getfield 114, 3) := by decide +kernel
theorem dR_pushBlock_51 : decode cR_pushBlock 51 = .ok (.aload_n 0, 1) := by decide +kernel
theorem dR_pushBlock_52 : decode cR_pushBlock 52 = .ok (.getfield 111, 3) := by decide +kernel
theorem dR_pushBlock_55 : decode cR_pushBlock 55 = .ok (.isub, 1) := by decide +kernel
theorem dR_pushBlock_56 : decode cR_pushBlock 56 = .ok (.putfield 114, 3) := by decide +kernel
theorem dR_pushBlock_59 : decode cR_pushBlock 59 = .ok (.aload_n 0, 1) := by decide +kernel
theorem dR_pushBlock_60 : decode cR_pushBlock 60 = .ok (.iconst 0, 1) := by decide +kernel
theorem dR_pushBlock_61 : decode cR_pushBlock 61 = .ok (.putfield 111, 3) := by decide +kernel
theorem dR_pushBlock_64 : decode cR_pushBlock 64 = .ok (.aload_n 0, 1) := by decide +kernel
theorem dR_pushBlock_65 : decode cR_pushBlock 65 = .ok (.getfield 48, 3) := by decide +kernel
theorem dR_pushBlock_68 : decode cR_pushBlock 68 = .ok (.aload_n 0, 1) := by decide +kernel
theorem dR_pushBlock_69 : decode cR_pushBlock 69 = .ok (.getfield 114, 3) := by decide +kernel
theorem dR_pushBlock_72 : decode cR_pushBlock 72 = .ok (.iload_n 1, 1) := by decide +kernel
theorem dR_pushBlock_73 : decode cR_pushBlock 73 = .ok (.iastore, 1) := by decide +kernel
theorem dR_pushBlock_74 : decode cR_pushBlock 74 = .ok (.aload_n 0, 1) := by decide +kernel
theorem dR_pushBlock_75 : decode cR_pushBlock 75 = .ok (.dup, 1) := by decide +kernel
theorem dR_pushBlock_76 : decode cR_pushBlock 76 = .ok (.getfield 114, 3) := by decide +kernel
theorem dR_pushBlock_79 : decode cR_pushBlock 79 = .ok (.iconst 1, 1) := by decide +kernel
theorem dR_pushBlock_80 : decode cR_pushBlock 80 = .ok (.iadd, 1) := by decide +kernel
theorem dR_pushBlock_81 : decode cR_pushBlock 81 = .ok (.putfield 114, 3) := by decide +kernel
theorem dR_pushBlock_84 : decode cR_pushBlock 84 = .ok (.return_, 1) := by decide +kernel
theorem dR_stepCyclic_0 : decode cR_stepCyclic 0 = .ok (.iconst 0, 1) := by decide +kernel
theorem dR_stepCyclic_1 : decode cR_stepCyclic 1 = .ok (.istore_n 2, 1) := by decide +kernel
theorem dR_stepCyclic_2 : decode cR_stepCyclic 2 = .ok (.iload_n 2, 1) := by decide +kernel
theorem dR_stepCyclic_3 : decode cR_stepCyclic 3 = .ok (.iload_n 1, 1) := by decide +kernel
theorem dR_stepCyclic_4 : decode cR_stepCyclic 4 = .ok (.invokestatic 77, 3) := by decide +kernel
theorem dR_stepCyclic_7 : decode cR_stepCyclic 7 = .ok (.if_icmp .ge 21, 3) := by decide +kernel
theorem dR_stepCyclic_10 : decode cR_stepCyclic 10 = .ok (.aload_n 0, 1) := by decide +kernel
theorem dR_stepCyclic_11 : decode cR_stepCyclic 11 = .ok (.invokevirtual 168, 3) := by decide +kernel
theorem dR_stepCyclic_14 : decode cR_stepCyclic 14 = .ok (.iconst 1, 1) := by decide +kernel
theorem dR_stepCyclic_15 : decode cR_stepCyclic 15 = .ok (.if_icmp .ne 13, 3) := by decide +kernel
theorem dR_stepCyclic_18 : decode cR_stepCyclic 18 = .ok (.aload_n 0, 1) := by decide +kernel
theorem dR_stepCyclic_19 : decode cR_stepCyclic 19 = .ok (.invokevirtual 171, 3) := by decide +kernel
theorem dR_stepCyclic_22 : decode cR_stepCyclic 22 = .ok (.iinc 2 1, 3) := by decide +kernel
theorem dR_stepCyclic_25 : decode cR_stepCyclic 25 = .ok (.goto (-23), 3) := by decide +kernel
theorem dR_stepCyclic_28 : decode cR_stepCyclic 28 = .ok (.iload_n 2, 1) := by decide +kernel
theorem dR_stepCyclic_29 : decode cR_stepCyclic 29 = .ok (.ireturn, 1) := by decide +kernel
theorem dR_cyclicCan_0 : decode cR_cyclicCan 0 = .ok (.aload_n 0, 1) := by decide +kernel
theorem dR_cyclicCan_1 : decode cR_cyclicCan 1 = .ok (.getfield 120, 3) := by decide +kernel
theorem dR_cyclicCan_4 : decode cR_cyclicCan 4 = .ok (.ifCond .eq 16, 3) := by decide +kernel
theorem dR_cyclicCan_7 : decode cR_cyclicCan 7 = .ok (.aload_n 0, 1) := by decide +kernel
theorem dR_cyclicCan_8 : decode cR_cyclicCan 8 = .ok (.invokevirtual 165, 3) := by decide +kernel
theorem dR_cyclicCan_11 : decode cR_cyclicCan 11 = .ok (.ifCond .le 7, 3) := by decide +kernel
theorem dR_cyclicCan_14 : decode cR_cyclicCan 14 = .ok (.iconst 1, 1) := by decide +kernel
theorem dR_cyclicCan_15 : decode cR_cyclicCan 15 = .ok (.goto 4, 3) := by decide +kernel
theorem dR_cyclicCan_18 : decode cR_cyclicCan 18 = .ok (.iconst 0, 1) := by decide +kernel
theorem dR_cyclicCan_19 : decode cR_cyclicCan 19 = .ok (.ireturn, 1) := by decide +kernel
theorem dR_cyclicCan_20 : decode cR_cyclicCan 20 = .ok (.aload_n 0, 1) := by decide +kernel
theorem dR_cyclicCan_21 : decode cR_cyclicCan 21 = .ok (.getfield 114, 3) := by decide +kernel
theorem dR_cyclicCan_24 : decode cR_cyclicCan 24 = .ok (.aload_n 0, 1) := by decide +kernel
theorem dR_cyclicCan_25 : decode cR_cyclicCan 25 = .ok (.getfield 111, 3) := by decide +kernel
theorem dR_cyclicCan_28 : decode cR_cyclicCan 28 = .ok (.isub, 1) := by decide +kernel
theorem dR_cyclicCan_29 : decode cR_cyclicCan 29 = .ok (.istore_n 1, 1) := by decide +kernel
theorem dR_cyclicCan_30 : decode cR_cyclicCan 30 = .ok (.iload_n 1, 1) := by decide +kernel
theorem dR_cyclicCan_31 : decode cR_cyclicCan 31 = .ok (.iconst 2, 1) := by decide +kernel
theorem dR_cyclicCan_32 : decode cR_cyclicCan 32 = .ok (.if_icmp .lt 20, 3) := by decide +kernel
theorem dR_cyclicCan_35 : decode cR_cyclicCan 35 = .ok (.aload_n 0, 1) := by decide +kernel
theorem dR_cyclicCan_36 : decode cR_cyclicCan 36 = .ok (.getfield 45, 3) := by decide +kernel
theorem dR_cyclicCan_39 : decode cR_cyclicCan 39 = .ok (.aload_n 0, 1) := by decide +kernel
theorem dR_cyclicCan_40 : decode cR_cyclicCan 40 = .ok (.getfield 48, 3) := by decide +kernel
theorem dR_cyclicCan_43 : decode cR_cyclicCan 43 = .ok (.aload_n 0, 1) := by decide +kernel
theorem dR_cyclicCan_44 : decode cR_cyclicCan 44 = .ok (.getfield 111, 3) := by decide +kernel
theorem dR_cyclicCan_47 : decode cR_cyclicCan 47 = .ok (.iaload, 1) := by decide +kernel
theorem dR_cyclicCan_48 : decode cR_cyclicCan 48 = .ok (.baload, 1) := by decide +kernel
theorem dR_cyclicCan_49 : decode cR_cyclicCan 49 = .ok (.ifCond .eq 5, 3) := by decide +kernel
theorem dR_cyclicCan_52 : decode cR_cyclicCan 52 = .ok (.iconst 0, 1) := by decide +kernel
theorem dR_cyclicCan_53 : decode cR_cyclicCan 53 = .ok (.ireturn, 1) := by decide +kernel
theorem dR_cyclicCan_54 : decode cR_cyclicCan 54 = .ok (.iload_n 1, 1) := by decide +kernel
theorem dR_cyclicCan_55 : decode cR_cyclicCan 55 = .ok (.iconst 2, 1) := by decide +kernel
theorem dR_cyclicCan_56 : decode cR_cyclicCan 56 = .ok (.isub, 1) := by decide +kernel
theorem dR_cyclicCan_57 : decode cR_cyclicCan 57 = .ok (.aload_n 0, 1) := by decide +kernel
theorem dR_cyclicCan_58 : decode cR_cyclicCan 58 = .ok (.getfield 42, 3) := by decide +kernel
theorem dR_cyclicCan_61 : decode cR_cyclicCan 61 = .ok (.aload_n 0, 1) := by decide +kernel
theorem dR_cyclicCan_62 : decode cR_cyclicCan 62 = .ok (.getfield 48, 3) := by decide +kernel
theorem dR_cyclicCan_65 : decode cR_cyclicCan 65 = .ok (.aload_n 0, 1) := by decide +kernel
theorem dR_cyclicCan_66 : decode cR_cyclicCan 66 = .ok (.getfield 111, 3) := by decide +kernel
theorem dR_cyclicCan_69 : decode cR_cyclicCan 69 = .ok (.iaload, 1) := by decide +kernel
theorem dR_cyclicCan_70 : decode cR_cyclicCan 70 = .ok (.iaload, 1) := by decide +kernel
theorem dR_cyclicCan_71 : decode cR_cyclicCan 71 = .ok (.iadd, 1) := by decide +kernel
theorem dR_cyclicCan_72 : decode cR_cyclicCan 72 = .ok (.sipush 4000, 3) := by decide +kernel
theorem dR_cyclicCan_75 : decode cR_cyclicCan 75 = .ok (.if_icmp .le 8, 3) := by decide +kernel
theorem dR_cyclicCan_78 : decode cR_cyclicCan 78 = .ok (.bipush (-2), 2) := by decide +kernel
theorem dR_cyclicCan_80 : decode cR_cyclicCan 80 = .ok (.goto 4, 3) := by decide +kernel
theorem dR_cyclicCan_83 : decode cR_cyclicCan 83 = .ok (.iconst 1, 1) := by decide +kernel
theorem dR_cyclicCan_84 : decode cR_cyclicCan 84 = .ok (.ireturn, 1) := by decide +kernel
theorem dR_bits_0 : decode cR_bits 0 = .ok (.aload_n 0, 1) := by decide +kernel
theorem dR_bits_1 : decode cR_bits 1 = .ok (.getfield 114, 3) := by decide +kernel
theorem dR_bits_4 : decode cR_bits 4 = .ok (.aload_n 0, 1) := by decide +kernel
theorem dR_bits_5 : decode cR_bits 5 = .ok (.getfield 111, 3) := by decide +kernel
theorem dR_bits_8 : decode cR_bits 8 = .ok (.isub, 1) := by decide +kernel
theorem dR_bits_9 : decode cR_bits 9 = .ok (.aload_n 0, 1) := by decide +kernel
theorem dR_bits_10 : decode cR_bits 10 = .ok (.getfield 108, 3) := by decide +kernel
theorem dR_bits_13 : decode cR_bits 13 = .ok (.imul, 1) := by decide +kernel
theorem dR_bits_14 : decode cR_bits 14 = .ok (.aload_n 0, 1) := by decide +kernel
theorem dR_bits_15 : decode cR_bits 15 = .ok (.getfield 117, 3) := by decide +kernel
theorem dR_bits_18 : decode cR_bits 18 = .ok (.isub, 1) := by decide +kernel
theorem dR_bits_19 : decode cR_bits 19 = .ok (.ireturn, 1) := by decide +kernel
theorem dR_cyclicStep_0 : decode cR_cyclicStep 0 = .ok (.aload_n 0, 1) := by decide +kernel
theorem dR_cyclicStep_1 : decode cR_cyclicStep 1 = .ok (.getfield 48, 3) := by decide +kernel
theorem dR_cyclicStep_4 : decode cR_cyclicStep 4 = .ok (.aload_n 0, 1) := by decide +kernel
theorem dR_cyclicStep_5 : decode cR_cyclicStep 5 = .ok (.getfield 111, 3) := by decide +kernel
theorem dR_cyclicStep_8 : decode cR_cyclicStep 8 = .ok (.iaload, 1) := by decide +kernel
theorem dR_cyclicStep_9 : decode cR_cyclicStep 9 = .ok (.aload_n 0, 1) := by decide +kernel
theorem dR_cyclicStep_10 : decode cR_cyclicStep 10 = .ok (.getfield 117, 3) := by decide +kernel
theorem dR_cyclicStep_13 : decode cR_cyclicStep 13 = .ok (.if_icmp .ne 7, 3) := by decide +kernel
theorem dR_cyclicStep_16 : decode cR_cyclicStep 16 = .ok (.iconst 1, 1) := by decide +kernel
theorem dR_cyclicStep_17 : decode cR_cyclicStep 17 = .ok (.goto 4, 3) := by decide +kernel
theorem dR_cyclicStep_20 : decode cR_cyclicStep 20 = .ok (.iconst 0, 1) := by decide +kernel
theorem dR_cyclicStep_21 : decode cR_cyclicStep 21 = .ok (.istore_n 1, 1) := by decide +kernel
theorem dR_cyclicStep_22 : decode cR_cyclicStep 22 = .ok (.aload_n 0, 1) := by decide +kernel
theorem dR_cyclicStep_23 : decode cR_cyclicStep 23 = .ok (.dup, 1) := by decide +kernel
theorem dR_cyclicStep_24 : decode cR_cyclicStep 24 = .ok (.getfield 117, 3) := by decide +kernel
theorem dR_cyclicStep_27 : decode cR_cyclicStep 27 = .ok (.iconst 1, 1) := by decide +kernel
theorem dR_cyclicStep_28 : decode cR_cyclicStep 28 = .ok (.iadd, 1) := by decide +kernel
theorem dR_cyclicStep_29 : decode cR_cyclicStep 29 = .ok (.putfield 117, 3) := by decide +kernel
theorem dR_cyclicStep_32 : decode cR_cyclicStep 32 = .ok (.aload_n 0, 1) := by decide +kernel
theorem dR_cyclicStep_33 : decode cR_cyclicStep 33 = .ok (.getfield 117, 3) := by decide +kernel
theorem dR_cyclicStep_36 : decode cR_cyclicStep 36 = .ok (.aload_n 0, 1) := by decide +kernel
theorem dR_cyclicStep_37 : decode cR_cyclicStep 37 = .ok (.getfield 108, 3) := by decide +kernel
theorem dR_cyclicStep_40 : decode cR_cyclicStep 40 = .ok (.if_icmp .ne 18, 3) := by decide +kernel
theorem dR_cyclicStep_43 : decode cR_cyclicStep 43 = .ok (.aload_n 0, 1) := by decide +kernel
theorem dR_cyclicStep_44 : decode cR_cyclicStep 44 = .ok (.dup, 1) := by decide +kernel
theorem dR_cyclicStep_45 : decode cR_cyclicStep 45 = .ok (.getfield 111, 3) := by decide +kernel
theorem dR_cyclicStep_48 : decode cR_cyclicStep 48 = .ok (.iconst 1, 1) := by decide +kernel
theorem dR_cyclicStep_49 : decode cR_cyclicStep 49 = .ok (.iadd, 1) := by decide +kernel
theorem dR_cyclicStep_50 : decode cR_cyclicStep 50 = .ok (.putfield 111, 3) := by decide +kernel
theorem dR_cyclicStep_53 : decode cR_cyclicStep 53 = .ok (.aload_n 0, 1) := by decide +kernel
theorem dR_cyclicStep_54 : decode cR_cyclicStep 54 = .ok (.iconst 0, 1) := by decide +kernel
theorem dR_cyclicStep_55 : decode cR_cyclicStep 55 = .ok (.putfield 117, 3) := by decide +kernel
theorem dR_cyclicStep_58 : decode cR_cyclicStep 58 = .ok (.iload_n 1, 1) := by decide +kernel
theorem dR_cyclicStep_59 : decode cR_cyclicStep 59 = .ok (.ifCond .eq 53, 3) := by decide +kernel
theorem dR_cyclicStep_62 : decode cR_cyclicStep 62 = .ok (.aload_n 0, 1) := by decide +kernel
theorem dR_cyclicStep_63 : decode cR_cyclicStep 63 = .ok (.getfield 120, 3) := by decide +kernel
theorem dR_cyclicStep_66 : decode cR_cyclicStep 66 = .ok (.aload_n 0, 1) := by decide +kernel
theorem dR_cyclicStep_67 : decode cR_cyclicStep 67 = .ok (.getfield 108, 3) := by decide +kernel
theorem dR_cyclicStep_70 : decode cR_cyclicStep 70 = .ok (.if_icmp .ge 42, 3) := by decide +kernel
theorem dR_cyclicStep_73 : decode cR_cyclicStep 73 = .ok (.iconst 0, 1) := by decide +kernel
theorem dR_cyclicStep_74 : decode cR_cyclicStep 74 = .ok (.istore_n 2, 1) := by decide +kernel
theorem dR_cyclicStep_75 : decode cR_cyclicStep 75 = .ok (.iload_n 2, 1) := by decide +kernel
theorem dR_cyclicStep_76 : decode cR_cyclicStep 76 = .ok (.aload_n 0, 1) := by decide +kernel
theorem dR_cyclicStep_77 : decode cR_cyclicStep 77 = .ok (.getfield 42, 3) := by decide +kernel
theorem dR_cyclicStep_80 : decode cR_cyclicStep 80 = .ok (.aload_n 0, 1) := by decide +kernel
theorem dR_cyclicStep_81 : decode cR_cyclicStep 81 = .ok (.getfield 120, 3) := by decide +kernel
theorem dR_cyclicStep_84 : decode cR_cyclicStep 84 = .ok (.iaload, 1) := by decide +kernel
theorem dR_cyclicStep_85 : decode cR_cyclicStep 85 = .ok (.if_icmp .ge 27, 3) := by decide +kernel
theorem dR_cyclicStep_88 : decode cR_cyclicStep 88 = .ok (.aload_n 0, 1) := by decide +kernel
theorem dR_cyclicStep_89 : decode cR_cyclicStep 89 = .ok (.aload_n 0, 1) := by decide +kernel
theorem dR_cyclicStep_90 : decode cR_cyclicStep 90 = .ok (.getfield 39, 3) := by decide +kernel
theorem dR_cyclicStep_93 : decode cR_cyclicStep 93 = .ok (.bipush 12, 2) := by decide +kernel
theorem dR_cyclicStep_95 : decode cR_cyclicStep 95 = .ok (.aload_n 0, 1) := by decide +kernel
theorem dR_cyclicStep_96 : decode cR_cyclicStep 96 = .ok (.getfield 120, 3) := by decide +kernel
theorem dR_cyclicStep_99 : decode cR_cyclicStep 99 = .ok (.imul, 1) := by decide +kernel
theorem dR_cyclicStep_100 : decode cR_cyclicStep 100 = .ok (.iload_n 2, 1) := by decide +kernel
theorem dR_cyclicStep_101 : decode cR_cyclicStep 101 = .ok (.iadd, 1) := by decide +kernel
theorem dR_cyclicStep_102 : decode cR_cyclicStep 102 = .ok (.iaload, 1) := by decide +kernel
theorem dR_cyclicStep_103 : decode cR_cyclicStep 103 = .ok (.invokevirtual 162, 3) := by decide +kernel
theorem dR_cyclicStep_106 : decode cR_cyclicStep 106 = .ok (.iinc 2 1, 3) := by decide +kernel
theorem dR_cyclicStep_109 : decode cR_cyclicStep 109 = .ok (.goto (-34), 3) := by decide +kernel
theorem dR_cyclicStep_112 : decode cR_cyclicStep 112 = .ok (.aload_n 0, 1) := by decide +kernel
theorem dR_cyclicStep_113 : decode cR_cyclicStep 113 = .ok (.aload_n 0, 1) := by decide +kernel
theorem dR_cyclicStep_114 : decode cR_cyclicStep 114 = .ok (.getfield 120, 3) := by decide +kernel
theorem dR_cyclicStep_117 : decode cR_cyclicStep 117 = .ok (.iconst 1, 1) := by decide +kernel
theorem dR_cyclicStep_118 : decode cR_cyclicStep 118 = .ok (.iadd, 1) := by decide +kernel
theorem dR_cyclicStep_119 : decode cR_cyclicStep 119 = .ok (.iconst 2, 1) := by decide +kernel
theorem dR_cyclicStep_120 : decode cR_cyclicStep 120 = .ok (.aload_n 0, 1) := by decide +kernel
theorem dR_cyclicStep_121 : decode cR_cyclicStep 121 = .ok (.getfield 108, 3) := by decide +kernel
theorem dR_cyclicStep_124 : decode cR_cyclicStep 124 = .ok (.imul, 1) := by decide +kernel
theorem dR_cyclicStep_125 : decode cR_cyclicStep 125 = .ok (.irem, 1) := by decide +kernel
theorem dR_cyclicStep_126 : decode cR_cyclicStep 126 = .ok (.putfield 120, 3) := by decide +kernel
theorem dR_cyclicStep_129 : decode cR_cyclicStep 129 = .ok (.return_, 1) := by decide +kernel
theorem dR_appendant_0 : decode cR_appendant 0 = .ok (.iload_n 1, 1) := by decide +kernel
theorem dR_appendant_1 : decode cR_appendant 1 = .ok (.ifCond .lt 30, 3) := by decide +kernel
theorem dR_appendant_4 : decode cR_appendant 4 = .ok (.iload_n 1, 1) := by decide +kernel
theorem dR_appendant_5 : decode cR_appendant 5 = .ok (.aload_n 0, 1) := by decide +kernel
theorem dR_appendant_6 : decode cR_appendant 6 = .ok (.getfield 108, 3) := by decide +kernel
theorem dR_appendant_9 : decode cR_appendant 9 = .ok (.if_icmp .ge 22, 3) := by decide +kernel
theorem dR_appendant_12 : decode cR_appendant 12 = .ok (.iload_n 2, 1) := by decide +kernel
theorem dR_appendant_13 : decode cR_appendant 13 = .ok (.ifCond .lt 18, 3) := by decide +kernel
theorem dR_appendant_16 : decode cR_appendant 16 = .ok (.iload_n 2, 1) := by decide +kernel
theorem dR_appendant_17 : decode cR_appendant 17 = .ok (.aload_n 0, 1) := by decide +kernel
theorem dR_appendant_18 : decode cR_appendant 18 = .ok (.getfield 42, 3) := by decide +kernel
theorem dR_appendant_21 : decode cR_appendant 21 = .ok (.iload_n 1, 1) := by decide +kernel
theorem dR_appendant_22 : decode cR_appendant 22 = .ok (.iaload, 1) := by decide +kernel
theorem dR_appendant_23 : decode cR_appendant 23 = .ok (.aload_n 0, 1) := by decide +kernel
theorem dR_appendant_24 : decode cR_appendant 24 = .ok (.getfield 108, 3) := by decide +kernel
theorem dR_appendant_27 : decode cR_appendant 27 = .ok (.imul, 1) := by decide +kernel
theorem dR_appendant_28 : decode cR_appendant 28 = .ok (.if_icmp .lt 5, 3) := by decide +kernel
theorem dR_appendant_31 : decode cR_appendant 31 = .ok (.iconst (-1), 1) := by decide +kernel
theorem dR_appendant_32 : decode cR_appendant 32 = .ok (.ireturn, 1) := by decide +kernel
theorem dR_appendant_33 : decode cR_appendant 33 = .ok (.aload_n 0, 1) := by decide +kernel
theorem dR_appendant_34 : decode cR_appendant 34 = .ok (.getfield 39, 3) := by decide +kernel
theorem dR_appendant_37 : decode cR_appendant 37 = .ok (.bipush 12, 2) := by decide +kernel
theorem dR_appendant_39 : decode cR_appendant 39 = .ok (.iload_n 1, 1) := by decide +kernel
theorem dR_appendant_40 : decode cR_appendant 40 = .ok (.imul, 1) := by decide +kernel
theorem dR_appendant_41 : decode cR_appendant 41 = .ok (.iload_n 2, 1) := by decide +kernel
theorem dR_appendant_42 : decode cR_appendant 42 = .ok (.aload_n 0, 1) := by decide +kernel
theorem dR_appendant_43 : decode cR_appendant 43 = .ok (.getfield 108, 3) := by decide +kernel
theorem dR_appendant_46 : decode cR_appendant 46 = .ok (.idiv, 1) := by decide +kernel
theorem dR_appendant_47 : decode cR_appendant 47 = .ok (.iadd, 1) := by decide +kernel
theorem dR_appendant_48 : decode cR_appendant 48 = .ok (.iaload, 1) := by decide +kernel
theorem dR_appendant_49 : decode cR_appendant 49 = .ok (.iload_n 2, 1) := by decide +kernel
theorem dR_appendant_50 : decode cR_appendant 50 = .ok (.aload_n 0, 1) := by decide +kernel
theorem dR_appendant_51 : decode cR_appendant 51 = .ok (.getfield 108, 3) := by decide +kernel
theorem dR_appendant_54 : decode cR_appendant 54 = .ok (.irem, 1) := by decide +kernel
theorem dR_appendant_55 : decode cR_appendant 55 = .ok (.if_icmp .ne 7, 3) := by decide +kernel
theorem dR_appendant_58 : decode cR_appendant 58 = .ok (.iconst 1, 1) := by decide +kernel
theorem dR_appendant_59 : decode cR_appendant 59 = .ok (.goto 4, 3) := by decide +kernel
theorem dR_appendant_62 : decode cR_appendant 62 = .ok (.iconst 0, 1) := by decide +kernel
theorem dR_appendant_63 : decode cR_appendant 63 = .ok (.ireturn, 1) := by decide +kernel
theorem dR_cyclicNow_0 : decode cR_cyclicNow 0 = .ok (.iload_n 1, 1) := by decide +kernel
theorem dR_cyclicNow_1 : decode cR_cyclicNow 1 = .ok (.ifCond .ne 12, 3) := by decide +kernel
theorem dR_cyclicNow_4 : decode cR_cyclicNow 4 = .ok (.iconst 2, 1) := by decide +kernel
theorem dR_cyclicNow_5 : decode cR_cyclicNow 5 = .ok (.aload_n 0, 1) := by decide +kernel
theorem dR_cyclicNow_6 : decode cR_cyclicNow 6 = .ok (.getfield 108, 3) := by decide +kernel
theorem dR_cyclicNow_9 : decode cR_cyclicNow 9 = .ok (.imul, 1) := by decide +kernel
theorem dR_cyclicNow_10 : decode cR_cyclicNow 10 = .ok (.goto 40, 3) := by decide +kernel
theorem dR_cyclicNow_13 : decode cR_cyclicNow 13 = .ok (.iload_n 1, 1) := by decide +kernel
theorem dR_cyclicNow_14 : decode cR_cyclicNow 14 = .ok (.iconst 1, 1) := by decide +kernel
theorem dR_cyclicNow_15 : decode cR_cyclicNow 15 = .ok (.if_icmp .ne 10, 3) := by decide +kernel
theorem dR_cyclicNow_18 : decode cR_cyclicNow 18 = .ok (.aload_n 0, 1) := by decide +kernel
theorem dR_cyclicNow_19 : decode cR_cyclicNow 19 = .ok (.invokevirtual 165, 3) := by decide +kernel
theorem dR_cyclicNow_22 : decode cR_cyclicNow 22 = .ok (.goto 28, 3) := by decide +kernel
theorem dR_cyclicNow_25 : decode cR_cyclicNow 25 = .ok (.iload_n 1, 1) := by decide +kernel
theorem dR_cyclicNow_26 : decode cR_cyclicNow 26 = .ok (.iconst 2, 1) := by decide +kernel
theorem dR_cyclicNow_27 : decode cR_cyclicNow 27 = .ok (.if_icmp .ne 10, 3) := by decide +kernel
theorem dR_cyclicNow_30 : decode cR_cyclicNow 30 = .ok (.aload_n 0, 1) := by decide +kernel
theorem dR_cyclicNow_31 : decode cR_cyclicNow 31 = .ok (.invokevirtual 168, 3) := by decide +kernel
theorem dR_cyclicNow_34 : decode cR_cyclicNow 34 = .ok (.goto 16, 3) := by decide +kernel
theorem dR_cyclicNow_37 : decode cR_cyclicNow 37 = .ok (.iload_n 1, 1) := by decide +kernel
theorem dR_cyclicNow_38 : decode cR_cyclicNow 38 = .ok (.iconst 3, 1) := by decide +kernel
theorem dR_cyclicNow_39 : decode cR_cyclicNow 39 = .ok (.if_icmp .ne 10, 3) := by decide +kernel
theorem dR_cyclicNow_42 : decode cR_cyclicNow 42 = .ok (.aload_n 0, 1) := by decide +kernel
theorem dR_cyclicNow_43 : decode cR_cyclicNow 43 = .ok (.getfield 120, 3) := by decide +kernel
theorem dR_cyclicNow_46 : decode cR_cyclicNow 46 = .ok (.goto 4, 3) := by decide +kernel
theorem dR_cyclicNow_49 : decode cR_cyclicNow 49 = .ok (.iconst (-1), 1) := by decide +kernel
theorem dR_cyclicNow_50 : decode cR_cyclicNow 50 = .ok (.ireturn, 1) := by decide +kernel
theorem dR_cyclicBit_0 : decode cR_cyclicBit 0 = .ok (.iload_n 1, 1) := by decide +kernel
theorem dR_cyclicBit_1 : decode cR_cyclicBit 1 = .ok (.ifCond .lt 11, 3) := by decide +kernel
theorem dR_cyclicBit_4 : decode cR_cyclicBit 4 = .ok (.iload_n 1, 1) := by decide +kernel
theorem dR_cyclicBit_5 : decode cR_cyclicBit 5 = .ok (.aload_n 0, 1) := by decide +kernel
theorem dR_cyclicBit_6 : decode cR_cyclicBit 6 = .ok (.invokevirtual 165, 3) := by decide +kernel
theorem dR_cyclicBit_9 : decode cR_cyclicBit 9 = .ok (.if_icmp .lt 5, 3) := by decide +kernel
theorem dR_cyclicBit_12 : decode cR_cyclicBit 12 = .ok (.iconst (-1), 1) := by decide +kernel
theorem dR_cyclicBit_13 : decode cR_cyclicBit 13 = .ok (.ireturn, 1) := by decide +kernel
theorem dR_cyclicBit_14 : decode cR_cyclicBit 14 = .ok (.aload_n 0, 1) := by decide +kernel
theorem dR_cyclicBit_15 : decode cR_cyclicBit 15 = .ok (.getfield 117, 3) := by decide +kernel
theorem dR_cyclicBit_18 : decode cR_cyclicBit 18 = .ok (.iload_n 1, 1) := by decide +kernel
theorem dR_cyclicBit_19 : decode cR_cyclicBit 19 = .ok (.iadd, 1) := by decide +kernel
theorem dR_cyclicBit_20 : decode cR_cyclicBit 20 = .ok (.istore_n 2, 1) := by decide +kernel
theorem dR_cyclicBit_21 : decode cR_cyclicBit 21 = .ok (.aload_n 0, 1) := by decide +kernel
theorem dR_cyclicBit_22 : decode cR_cyclicBit 22 = .ok (.getfield 48, 3) := by decide +kernel
theorem dR_cyclicBit_25 : decode cR_cyclicBit 25 = .ok (.aload_n 0, 1) := by decide +kernel
theorem dR_cyclicBit_26 : decode cR_cyclicBit 26 = .ok (.getfield 111, 3) := by decide +kernel
theorem dR_cyclicBit_29 : decode cR_cyclicBit 29 = .ok (.iload_n 2, 1) := by decide +kernel
theorem dR_cyclicBit_30 : decode cR_cyclicBit 30 = .ok (.aload_n 0, 1) := by decide +kernel
theorem dR_cyclicBit_31 : decode cR_cyclicBit 31 = .ok (.getfield 108, 3) := by decide +kernel
theorem dR_cyclicBit_34 : decode cR_cyclicBit 34 = .ok (.idiv, 1) := by decide +kernel
theorem dR_cyclicBit_35 : decode cR_cyclicBit 35 = .ok (.iadd, 1) := by decide +kernel
theorem dR_cyclicBit_36 : decode cR_cyclicBit 36 = .ok (.iaload, 1) := by decide +kernel
theorem dR_cyclicBit_37 : decode cR_cyclicBit 37 = .ok (.iload_n 2, 1) := by decide +kernel
theorem dR_cyclicBit_38 : decode cR_cyclicBit 38 = .ok (.aload_n 0, 1) := by decide +kernel
theorem dR_cyclicBit_39 : decode cR_cyclicBit 39 = .ok (.getfield 108, 3) := by decide +kernel
theorem dR_cyclicBit_42 : decode cR_cyclicBit 42 = .ok (.irem, 1) := by decide +kernel
theorem dR_cyclicBit_43 : decode cR_cyclicBit 43 = .ok (.if_icmp .ne 7, 3) := by decide +kernel
theorem dR_cyclicBit_46 : decode cR_cyclicBit 46 = .ok (.iconst 1, 1) := by decide +kernel
theorem dR_cyclicBit_47 : decode cR_cyclicBit 47 = .ok (.goto 4, 3) := by decide +kernel
theorem dR_cyclicBit_50 : decode cR_cyclicBit 50 = .ok (.iconst 0, 1) := by decide +kernel
theorem dR_cyclicBit_51 : decode cR_cyclicBit 51 = .ok (.ireturn, 1) := by decide +kernel
theorem dR_decodeCyclic_0 : decode cR_decodeCyclic 0 = .ok (.aload_n 0, 1) := by decide +kernel
theorem dR_decodeCyclic_1 : decode cR_decodeCyclic 1 = .ok (.getfield 120, 3) := by decide +kernel
theorem dR_decodeCyclic_4 : decode cR_decodeCyclic 4 = .ok (.ifCond .ne 20, 3) := by decide +kernel
theorem dR_decodeCyclic_7 : decode cR_decodeCyclic 7 = .ok (.iload_n 1, 1) := by decide +kernel
theorem dR_decodeCyclic_8 : decode cR_decodeCyclic 8 = .ok (.ifCond .lt 16, 3) := by decide +kernel
theorem dR_decodeCyclic_11 : decode cR_decodeCyclic 11 = .ok (.iload_n 1, 1) := by decide +kernel
theorem dR_decodeCyclic_12 : decode cR_decodeCyclic 12 = .ok (.aload_n 0, 1) := by decide +kernel
theorem dR_decodeCyclic_13 : decode cR_decodeCyclic 13 = .ok (.getfield 114, 3) := by decide +kernel
theorem dR_decodeCyclic_16 : decode cR_decodeCyclic 16 = .ok (.aload_n 0, 1) := by decide +kernel
theorem dR_decodeCyclic_17 : decode cR_decodeCyclic 17 = .ok (.getfield 111, 3) := by decide +kernel
theorem dR_decodeCyclic_20 : decode cR_decodeCyclic 20 = .ok (.isub, 1) := by decide +kernel
theorem dR_decodeCyclic_21 : decode cR_decodeCyclic 21 = .ok (.if_icmp .lt 7, 3) := by decide +kernel
theorem dR_decodeCyclic_24 : decode cR_decodeCyclic 24 = .ok (.iconst (-1), 1) := by decide +kernel
theorem dR_decodeCyclic_25 : decode cR_decodeCyclic 25 = .ok (.goto 14, 3) := by decide +kernel
theorem dR_decodeCyclic_28 : decode cR_decodeCyclic 28 = .ok (.aload_n 0, 1) := by decide +kernel
theorem dR_decodeCyclic_29 : decode cR_decodeCyclic 29 = .ok (.getfield 48, 3) := by decide +kernel
theorem dR_decodeCyclic_32 : decode cR_decodeCyclic 32 = .ok (.aload_n 0, 1) := by decide +kernel
theorem dR_decodeCyclic_33 : decode cR_decodeCyclic 33 = .ok (.getfield 111, 3) := by decide +kernel
theorem dR_decodeCyclic_36 : decode cR_decodeCyclic 36 = .ok (.iload_n 1, 1) := by decide +kernel
theorem dR_decodeCyclic_37 : decode cR_decodeCyclic 37 = .ok (.iadd, 1) := by decide +kernel
theorem dR_decodeCyclic_38 : decode cR_decodeCyclic 38 = .ok (.iaload, 1) := by decide +kernel
theorem dR_decodeCyclic_39 : decode cR_decodeCyclic 39 = .ok (.ireturn, 1) := by decide +kernel
theorem dR_decodeTag_0 : decode cR_decodeTag 0 = .ok (.aload_n 0, 1) := by decide +kernel
theorem dR_decodeTag_1 : decode cR_decodeTag 1 = .ok (.invokevirtual 189, 3) := by decide +kernel
theorem dR_decodeTag_4 : decode cR_decodeTag 4 = .ok (.ifCond .ne 5, 3) := by decide +kernel
theorem dR_decodeTag_7 : decode cR_decodeTag 7 = .ok (.iconst (-1), 1) := by decide +kernel
theorem dR_decodeTag_8 : decode cR_decodeTag 8 = .ok (.ireturn, 1) := by decide +kernel
theorem dR_decodeTag_9 : decode cR_decodeTag 9 = .ok (.iload_n 1, 1) := by decide +kernel
theorem dR_decodeTag_10 : decode cR_decodeTag 10 = .ok (.ifCond .ne 10, 3) := by decide +kernel
theorem dR_decodeTag_13 : decode cR_decodeTag 13 = .ok (.aload_n 0, 1) := by decide +kernel
theorem dR_decodeTag_14 : decode cR_decodeTag 14 = .ok (.getfield 183, 3) := by decide +kernel
theorem dR_decodeTag_17 : decode cR_decodeTag 17 = .ok (.goto 40, 3) := by decide +kernel
theorem dR_decodeTag_20 : decode cR_decodeTag 20 = .ok (.iload_n 1, 1) := by decide +kernel
theorem dR_decodeTag_21 : decode cR_decodeTag 21 = .ok (.iconst 1, 1) := by decide +kernel
theorem dR_decodeTag_22 : decode cR_decodeTag 22 = .ok (.if_icmp .ne 10, 3) := by decide +kernel
theorem dR_decodeTag_25 : decode cR_decodeTag 25 = .ok (.aload_n 0, 1) := by decide +kernel
theorem dR_decodeTag_26 : decode cR_decodeTag 26 = .ok (.getfield 186, 3) := by decide +kernel
theorem dR_decodeTag_29 : decode cR_decodeTag 29 = .ok (.goto 28, 3) := by decide +kernel
theorem dR_decodeTag_32 : decode cR_decodeTag 32 = .ok (.iload_n 1, 1) := by decide +kernel
theorem dR_decodeTag_33 : decode cR_decodeTag 33 = .ok (.iconst 2, 1) := by decide +kernel
theorem dR_decodeTag_34 : decode cR_decodeTag 34 = .ok (.if_icmp .ne 10, 3) := by decide +kernel
theorem dR_decodeTag_37 : decode cR_decodeTag 37 = .ok (.aload_n 0, 1) := by decide +kernel
theorem dR_decodeTag_38 : decode cR_decodeTag 38 = .ok (.getfield 177, 3) := by decide +kernel
theorem dR_decodeTag_41 : decode cR_decodeTag 41 = .ok (.goto 16, 3) := by decide +kernel
theorem dR_decodeTag_44 : decode cR_decodeTag 44 = .ok (.iload_n 1, 1) := by decide +kernel
theorem dR_decodeTag_45 : decode cR_decodeTag 45 = .ok (.iconst 3, 1) := by decide +kernel
theorem dR_decodeTag_46 : decode cR_decodeTag 46 = .ok (.if_icmp .ne 10, 3) := by decide +kernel
theorem dR_decodeTag_49 : decode cR_decodeTag 49 = .ok (.aload_n 0, 1) := by decide +kernel
theorem dR_decodeTag_50 : decode cR_decodeTag 50 = .ok (.getfield 180, 3) := by decide +kernel
theorem dR_decodeTag_53 : decode cR_decodeTag 53 = .ok (.goto 4, 3) := by decide +kernel
theorem dR_decodeTag_56 : decode cR_decodeTag 56 = .ok (.iconst (-1), 1) := by decide +kernel
theorem dR_decodeTag_57 : decode cR_decodeTag 57 = .ok (.ireturn, 1) := by decide +kernel
theorem dR_isCode_0 : decode cR_isCode 0 = .ok (.aload_n 0, 1) := by decide +kernel
theorem dR_isCode_1 : decode cR_isCode 1 = .ok (.getfield 137, 3) := by decide +kernel
