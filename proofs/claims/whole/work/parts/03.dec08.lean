theorem dR_isCode_4 : decode cR_isCode 4 = .ok (.ifCond .eq 43, 3) := by decide +kernel
theorem dR_isCode_7 : decode cR_isCode 7 = .ok (.aload_n 0, 1) := by decide +kernel
theorem dR_isCode_8 : decode cR_isCode 8 = .ok (.getfield 105, 3) := by decide +kernel
theorem dR_isCode_11 : decode cR_isCode 11 = .ok (.aload_n 0, 1) := by decide +kernel
theorem dR_isCode_12 : decode cR_isCode 12 = .ok (.getfield 102, 3) := by decide +kernel
theorem dR_isCode_15 : decode cR_isCode 15 = .ok (.if_icmp .eq 32, 3) := by decide +kernel
theorem dR_isCode_18 : decode cR_isCode 18 = .ok (.aload_n 0, 1) := by decide +kernel
theorem dR_isCode_19 : decode cR_isCode 19 = .ok (.getfield 36, 3) := by decide +kernel
theorem dR_isCode_22 : decode cR_isCode 22 = .ok (.aload_n 0, 1) := by decide +kernel
theorem dR_isCode_23 : decode cR_isCode 23 = .ok (.getfield 102, 3) := by decide +kernel
theorem dR_isCode_26 : decode cR_isCode 26 = .ok (.iaload, 1) := by decide +kernel
theorem dR_isCode_27 : decode cR_isCode 27 = .ok (.ifCond .eq 20, 3) := by decide +kernel
theorem dR_isCode_30 : decode cR_isCode 30 = .ok (.aload_n 0, 1) := by decide +kernel
theorem dR_isCode_31 : decode cR_isCode 31 = .ok (.getfield 36, 3) := by decide +kernel
theorem dR_isCode_34 : decode cR_isCode 34 = .ok (.aload_n 0, 1) := by decide +kernel
theorem dR_isCode_35 : decode cR_isCode 35 = .ok (.getfield 102, 3) := by decide +kernel
theorem dR_isCode_38 : decode cR_isCode 38 = .ok (.iaload, 1) := by decide +kernel
theorem dR_isCode_39 : decode cR_isCode 39 = .ok (.iconst 1, 1) := by decide +kernel
theorem dR_isCode_40 : decode cR_isCode 40 = .ok (.isub, 1) := by decide +kernel
theorem dR_isCode_41 : decode cR_isCode 41 = .ok (.bipush 18, 2) := by decide +kernel
theorem dR_isCode_43 : decode cR_isCode 43 = .ok (.irem, 1) := by decide +kernel
theorem dR_isCode_44 : decode cR_isCode 44 = .ok (.ifCond .eq 5, 3) := by decide +kernel
theorem dR_isCode_47 : decode cR_isCode 47 = .ok (.iconst 0, 1) := by decide +kernel
theorem dR_isCode_48 : decode cR_isCode 48 = .ok (.ireturn, 1) := by decide +kernel
theorem dR_isCode_49 : decode cR_isCode 49 = .ok (.aload_n 0, 1) := by decide +kernel
theorem dR_isCode_50 : decode cR_isCode 50 = .ok (.getfield 36, 3) := by decide +kernel
theorem dR_isCode_53 : decode cR_isCode 53 = .ok (.aload_n 0, 1) := by decide +kernel
theorem dR_isCode_54 : decode cR_isCode 54 = .ok (.getfield 102, 3) := by decide +kernel
theorem dR_isCode_57 : decode cR_isCode 57 = .ok (.iaload, 1) := by decide +kernel
theorem dR_isCode_58 : decode cR_isCode 58 = .ok (.istore_n 1, 1) := by decide +kernel
theorem dR_isCode_59 : decode cR_isCode 59 = .ok (.aload_n 0, 1) := by decide +kernel
theorem dR_isCode_60 : decode cR_isCode 60 = .ok (.aload_n 0, 1) := by decide +kernel
theorem dR_isCode_61 : decode cR_isCode 61 = .ok (.getfield 102, 3) := by decide +kernel
theorem dR_isCode_64 : decode cR_isCode 64 = .ok (.iload_n 1, 1) := by decide +kernel
theorem dR_isCode_65 : decode cR_isCode 65 = .ok (.invokevirtual 174, 3) := by decide +kernel
theorem dR_isCode_68 : decode cR_isCode 68 = .ok (.iconst 1, 1) := by decide +kernel
theorem dR_isCode_69 : decode cR_isCode 69 = .ok (.if_icmp .eq 5, 3) := by decide +kernel
theorem dR_isCode_72 : decode cR_isCode 72 = .ok (.iconst 0, 1) := by decide +kernel
theorem dR_isCode_73 : decode cR_isCode 73 = .ok (.ireturn, 1) := by decide +kernel
theorem dR_isCode_74 : decode cR_isCode 74 = .ok (.aload_n 0, 1) := by decide +kernel
theorem dR_isCode_75 : decode cR_isCode 75 = .ok (.aload_n 0, 1) := by decide +kernel
theorem dR_isCode_76 : decode cR_isCode 76 = .ok (.aload_n 0, 1) := by decide +kernel
theorem dR_isCode_77 : decode cR_isCode 77 = .ok (.getfield 102, 3) := by decide +kernel
theorem dR_isCode_80 : decode cR_isCode 80 = .ok (.iconst 2, 1) := by decide +kernel
theorem dR_isCode_81 : decode cR_isCode 81 = .ok (.iadd, 1) := by decide +kernel
theorem dR_isCode_82 : decode cR_isCode 82 = .ok (.iload_n 1, 1) := by decide +kernel
theorem dR_isCode_83 : decode cR_isCode 83 = .ok (.iconst 1, 1) := by decide +kernel
theorem dR_isCode_84 : decode cR_isCode 84 = .ok (.iadd, 1) := by decide +kernel
theorem dR_isCode_85 : decode cR_isCode 85 = .ok (.invokevirtual 174, 3) := by decide +kernel
theorem dR_isCode_88 : decode cR_isCode 88 = .ok (.putfield 177, 3) := by decide +kernel
theorem dR_isCode_91 : decode cR_isCode 91 = .ok (.aload_n 0, 1) := by decide +kernel
theorem dR_isCode_92 : decode cR_isCode 92 = .ok (.getfield 102, 3) := by decide +kernel
theorem dR_isCode_95 : decode cR_isCode 95 = .ok (.iconst 2, 1) := by decide +kernel
theorem dR_isCode_96 : decode cR_isCode 96 = .ok (.iadd, 1) := by decide +kernel
theorem dR_isCode_97 : decode cR_isCode 97 = .ok (.iconst 2, 1) := by decide +kernel
theorem dR_isCode_98 : decode cR_isCode 98 = .ok (.aload_n 0, 1) := by decide +kernel
theorem dR_isCode_99 : decode cR_isCode 99 = .ok (.getfield 177, 3) := by decide +kernel
theorem dR_isCode_102 : decode cR_isCode 102 = .ok (.imul, 1) := by decide +kernel
theorem dR_isCode_103 : decode cR_isCode 103 = .ok (.iadd, 1) := by decide +kernel
theorem dR_isCode_104 : decode cR_isCode 104 = .ok (.istore_n 2, 1) := by decide +kernel
theorem dR_isCode_105 : decode cR_isCode 105 = .ok (.aload_n 0, 1) := by decide +kernel
theorem dR_isCode_106 : decode cR_isCode 106 = .ok (.iload_n 2, 1) := by decide +kernel
theorem dR_isCode_107 : decode cR_isCode 107 = .ok (.iload_n 1, 1) := by decide +kernel
theorem dR_isCode_108 : decode cR_isCode 108 = .ok (.iconst 2, 1) := by decide +kernel
theorem dR_isCode_109 : decode cR_isCode 109 = .ok (.iadd, 1) := by decide +kernel
theorem dR_isCode_110 : decode cR_isCode 110 = .ok (.invokevirtual 174, 3) := by decide +kernel
theorem dR_isCode_113 : decode cR_isCode 113 = .ok (.iconst 1, 1) := by decide +kernel
theorem dR_isCode_114 : decode cR_isCode 114 = .ok (.if_icmp .eq 5, 3) := by decide +kernel
theorem dR_isCode_117 : decode cR_isCode 117 = .ok (.iconst 0, 1) := by decide +kernel
theorem dR_isCode_118 : decode cR_isCode 118 = .ok (.ireturn, 1) := by decide +kernel
theorem dR_isCode_119 : decode cR_isCode 119 = .ok (.aload_n 0, 1) := by decide +kernel
theorem dR_isCode_120 : decode cR_isCode 120 = .ok (.aload_n 0, 1) := by decide +kernel
theorem dR_isCode_121 : decode cR_isCode 121 = .ok (.iload_n 2, 1) := by decide +kernel
theorem dR_isCode_122 : decode cR_isCode 122 = .ok (.iconst 2, 1) := by decide +kernel
theorem dR_isCode_123 : decode cR_isCode 123 = .ok (.iadd, 1) := by decide +kernel
theorem dR_isCode_124 : decode cR_isCode 124 = .ok (.iload_n 1, 1) := by decide +kernel
theorem dR_isCode_125 : decode cR_isCode 125 = .ok (.iconst 3, 1) := by decide +kernel
theorem dR_isCode_126 : decode cR_isCode 126 = .ok (.iadd, 1) := by decide +kernel
theorem dR_isCode_127 : decode cR_isCode 127 = .ok (.invokevirtual 174, 3) := by decide +kernel
theorem dR_isCode_130 : decode cR_isCode 130 = .ok (.putfield 180, 3) := by decide +kernel
theorem dR_isCode_133 : decode cR_isCode 133 = .ok (.aload_n 0, 1) := by decide +kernel
theorem dR_isCode_134 : decode cR_isCode 134 = .ok (.iload_n 1, 1) := by decide +kernel
theorem dR_isCode_135 : decode cR_isCode 135 = .ok (.iconst 1, 1) := by decide +kernel
theorem dR_isCode_136 : decode cR_isCode 136 = .ok (.isub, 1) := by decide +kernel
theorem dR_isCode_137 : decode cR_isCode 137 = .ok (.bipush 36, 2) := by decide +kernel
theorem dR_isCode_139 : decode cR_isCode 139 = .ok (.idiv, 1) := by decide +kernel
theorem dR_isCode_140 : decode cR_isCode 140 = .ok (.iconst 1, 1) := by decide +kernel
theorem dR_isCode_141 : decode cR_isCode 141 = .ok (.iadd, 1) := by decide +kernel
theorem dR_isCode_142 : decode cR_isCode 142 = .ok (.putfield 183, 3) := by decide +kernel
theorem dR_isCode_145 : decode cR_isCode 145 = .ok (.aload_n 0, 1) := by decide +kernel
theorem dR_isCode_146 : decode cR_isCode 146 = .ok (.iload_n 1, 1) := by decide +kernel
theorem dR_isCode_147 : decode cR_isCode 147 = .ok (.iconst 1, 1) := by decide +kernel
theorem dR_isCode_148 : decode cR_isCode 148 = .ok (.isub, 1) := by decide +kernel
theorem dR_isCode_149 : decode cR_isCode 149 = .ok (.bipush 18, 2) := by decide +kernel
theorem dR_isCode_151 : decode cR_isCode 151 = .ok (.idiv, 1) := by decide +kernel
theorem dR_isCode_152 : decode cR_isCode 152 = .ok (.iconst 2, 1) := by decide +kernel
theorem dR_isCode_153 : decode cR_isCode 153 = .ok (.irem, 1) := by decide +kernel
theorem dR_isCode_154 : decode cR_isCode 154 = .ok (.putfield 186, 3) := by decide +kernel
theorem dR_isCode_157 : decode cR_isCode 157 = .ok (.iload_n 2, 1) := by decide +kernel
theorem dR_isCode_158 : decode cR_isCode 158 = .ok (.iconst 2, 1) := by decide +kernel
theorem dR_isCode_159 : decode cR_isCode 159 = .ok (.iadd, 1) := by decide +kernel
theorem dR_isCode_160 : decode cR_isCode 160 = .ok (.iconst 2, 1) := by decide +kernel
theorem dR_isCode_161 : decode cR_isCode 161 = .ok (.aload_n 0, 1) := by decide +kernel
theorem dR_isCode_162 : decode cR_isCode 162 = .ok (.getfield 180, 3) := by decide +kernel
theorem dR_isCode_165 : decode cR_isCode 165 = .ok (.imul, 1) := by decide +kernel
theorem dR_isCode_166 : decode cR_isCode 166 = .ok (.iadd, 1) := by decide +kernel
theorem dR_isCode_167 : decode cR_isCode 167 = .ok (.aload_n 0, 1) := by decide +kernel
theorem dR_isCode_168 : decode cR_isCode 168 = .ok (.getfield 105, 3) := by decide +kernel
theorem dR_isCode_171 : decode cR_isCode 171 = .ok (.if_icmp .ne 7, 3) := by decide +kernel
theorem dR_isCode_174 : decode cR_isCode 174 = .ok (.iconst 1, 1) := by decide +kernel
theorem dR_isCode_175 : decode cR_isCode 175 = .ok (.goto 4, 3) := by decide +kernel
theorem dR_isCode_178 : decode cR_isCode 178 = .ok (.iconst 0, 1) := by decide +kernel
theorem dR_isCode_179 : decode cR_isCode 179 = .ok (.ireturn, 1) := by decide +kernel
theorem dR_pairs_0 : decode cR_pairs 0 = .ok (.iconst 0, 1) := by decide +kernel
theorem dR_pairs_1 : decode cR_pairs 1 = .ok (.istore_n 3, 1) := by decide +kernel
theorem dR_pairs_2 : decode cR_pairs 2 = .ok (.iload_n 1, 1) := by decide +kernel
theorem dR_pairs_3 : decode cR_pairs 3 = .ok (.iconst 2, 1) := by decide +kernel
theorem dR_pairs_4 : decode cR_pairs 4 = .ok (.iload_n 3, 1) := by decide +kernel
theorem dR_pairs_5 : decode cR_pairs 5 = .ok (.imul, 1) := by decide +kernel
theorem dR_pairs_6 : decode cR_pairs 6 = .ok (.iadd, 1) := by decide +kernel
theorem dR_pairs_7 : decode cR_pairs 7 = .ok (.iconst 1, 1) := by decide +kernel
theorem dR_pairs_8 : decode cR_pairs 8 = .ok (.iadd, 1) := by decide +kernel
theorem dR_pairs_9 : decode cR_pairs 9 = .ok (.aload_n 0, 1) := by decide +kernel
theorem dR_pairs_10 : decode cR_pairs 10 = .ok (.getfield 105, 3) := by decide +kernel
theorem dR_pairs_13 : decode cR_pairs 13 = .ok (.if_icmp .ge 38, 3) := by decide +kernel
theorem dR_pairs_16 : decode cR_pairs 16 = .ok (.aload_n 0, 1) := by decide +kernel
theorem dR_pairs_17 : decode cR_pairs 17 = .ok (.getfield 36, 3) := by decide +kernel
theorem dR_pairs_20 : decode cR_pairs 20 = .ok (.iload_n 1, 1) := by decide +kernel
theorem dR_pairs_21 : decode cR_pairs 21 = .ok (.iconst 2, 1) := by decide +kernel
theorem dR_pairs_22 : decode cR_pairs 22 = .ok (.iload_n 3, 1) := by decide +kernel
theorem dR_pairs_23 : decode cR_pairs 23 = .ok (.imul, 1) := by decide +kernel
theorem dR_pairs_24 : decode cR_pairs 24 = .ok (.iadd, 1) := by decide +kernel
theorem dR_pairs_25 : decode cR_pairs 25 = .ok (.iaload, 1) := by decide +kernel
theorem dR_pairs_26 : decode cR_pairs 26 = .ok (.iload_n 2, 1) := by decide +kernel
theorem dR_pairs_27 : decode cR_pairs 27 = .ok (.if_icmp .ne 24, 3) := by decide +kernel
theorem dR_pairs_30 : decode cR_pairs 30 = .ok (.aload_n 0, 1) := by decide +kernel
theorem dR_pairs_31 : decode cR_pairs 31 = .ok (.getfield 36, 3) := by decide +kernel
theorem dR_pairs_34 : decode cR_pairs 34 = .ok (.iload_n 1, 1) := by decide +kernel
theorem dR_pairs_35 : decode cR_pairs 35 = .ok (.iconst 2, 1) := by decide +kernel
theorem dR_pairs_36 : decode cR_pairs 36 = .ok (.iload_n 3, 1) := by decide +kernel
theorem dR_pairs_37 : decode cR_pairs 37 = .ok (.imul, 1) := by decide +kernel
theorem dR_pairs_38 : decode cR_pairs 38 = .ok (.iadd, 1) := by decide +kernel
theorem dR_pairs_39 : decode cR_pairs 39 = .ok (.iconst 1, 1) := by decide +kernel
theorem dR_pairs_40 : decode cR_pairs 40 = .ok (.iadd, 1) := by decide +kernel
theorem dR_pairs_41 : decode cR_pairs 41 = .ok (.iaload, 1) := by decide +kernel
theorem dR_pairs_42 : decode cR_pairs 42 = .ok (.ifCond .ne 9, 3) := by decide +kernel
theorem dR_pairs_45 : decode cR_pairs 45 = .ok (.iinc 3 1, 3) := by decide +kernel
theorem dR_pairs_48 : decode cR_pairs 48 = .ok (.goto (-46), 3) := by decide +kernel
theorem dR_pairs_51 : decode cR_pairs 51 = .ok (.iload_n 3, 1) := by decide +kernel
theorem dR_pairs_52 : decode cR_pairs 52 = .ok (.ireturn, 1) := by decide +kernel
theorem dR_nextBorder_0 : decode cR_nextBorder 0 = .ok (.iconst 1, 1) := by decide +kernel
theorem dR_nextBorder_1 : decode cR_nextBorder 1 = .ok (.istore_n 1, 1) := by decide +kernel
theorem dR_nextBorder_2 : decode cR_nextBorder 2 = .ok (.iload_n 1, 1) := by decide +kernel
theorem dR_nextBorder_3 : decode cR_nextBorder 3 = .ok (.sipush 20000, 3) := by decide +kernel
theorem dR_nextBorder_6 : decode cR_nextBorder 6 = .ok (.if_icmp .gt 30, 3) := by decide +kernel
theorem dR_nextBorder_9 : decode cR_nextBorder 9 = .ok (.aload_n 0, 1) := by decide +kernel
theorem dR_nextBorder_10 : decode cR_nextBorder 10 = .ok (.invokevirtual 156, 3) := by decide +kernel
theorem dR_nextBorder_13 : decode cR_nextBorder 13 = .ok (.iconst 1, 1) := by decide +kernel
theorem dR_nextBorder_14 : decode cR_nextBorder 14 = .ok (.if_icmp .ne 22, 3) := by decide +kernel
theorem dR_nextBorder_17 : decode cR_nextBorder 17 = .ok (.aload_n 0, 1) := by decide +kernel
theorem dR_nextBorder_18 : decode cR_nextBorder 18 = .ok (.invokevirtual 159, 3) := by decide +kernel
theorem dR_nextBorder_21 : decode cR_nextBorder 21 = .ok (.aload_n 0, 1) := by decide +kernel
theorem dR_nextBorder_22 : decode cR_nextBorder 22 = .ok (.invokevirtual 189, 3) := by decide +kernel
theorem dR_nextBorder_25 : decode cR_nextBorder 25 = .ok (.ifCond .eq 5, 3) := by decide +kernel
theorem dR_nextBorder_28 : decode cR_nextBorder 28 = .ok (.iload_n 1, 1) := by decide +kernel
theorem dR_nextBorder_29 : decode cR_nextBorder 29 = .ok (.ireturn, 1) := by decide +kernel
theorem dR_nextBorder_30 : decode cR_nextBorder 30 = .ok (.iinc 1 1, 3) := by decide +kernel
theorem dR_nextBorder_33 : decode cR_nextBorder 33 = .ok (.goto (-31), 3) := by decide +kernel
theorem dR_nextBorder_36 : decode cR_nextBorder 36 = .ok (.iconst 0, 1) := by decide +kernel
theorem dR_nextBorder_37 : decode cR_nextBorder 37 = .ok (.ireturn, 1) := by decide +kernel
theorem dR_roundCost_0 : decode cR_roundCost 0 = .ok (.iload_n 1, 1) := by decide +kernel
theorem dR_roundCost_1 : decode cR_roundCost 1 = .ok (.invokestatic 51, 3) := by decide +kernel
theorem dR_roundCost_4 : decode cR_roundCost 4 = .ok (.ifCond .eq 25, 3) := by decide +kernel
theorem dR_roundCost_7 : decode cR_roundCost 7 = .ok (.iload_n 2, 1) := by decide +kernel
theorem dR_roundCost_8 : decode cR_roundCost 8 = .ok (.invokestatic 55, 3) := by decide +kernel
theorem dR_roundCost_11 : decode cR_roundCost 11 = .ok (.ifCond .eq 18, 3) := by decide +kernel
theorem dR_roundCost_14 : decode cR_roundCost 14 = .ok (.iload_n 3, 1) := by decide +kernel
theorem dR_roundCost_15 : decode cR_roundCost 15 = .ok (.invokestatic 58, 3) := by decide +kernel
theorem dR_roundCost_18 : decode cR_roundCost 18 = .ok (.ifCond .eq 11, 3) := by decide +kernel
theorem dR_roundCost_21 : decode cR_roundCost 21 = .ok (.iload 4, 2) := by decide +kernel
theorem dR_roundCost_23 : decode cR_roundCost 23 = .ok (.invokestatic 58, 3) := by decide +kernel
theorem dR_roundCost_26 : decode cR_roundCost 26 = .ok (.ifCond .ne 5, 3) := by decide +kernel
theorem dR_roundCost_29 : decode cR_roundCost 29 = .ok (.iconst (-1), 1) := by decide +kernel
theorem dR_roundCost_30 : decode cR_roundCost 30 = .ok (.ireturn, 1) := by decide +kernel
theorem dR_roundCost_31 : decode cR_roundCost 31 = .ok (.iload_n 1, 1) := by decide +kernel
theorem dR_roundCost_32 : decode cR_roundCost 32 = .ok (.iload_n 2, 1) := by decide +kernel
theorem dR_roundCost_33 : decode cR_roundCost 33 = .ok (.invokestatic 70, 3) := by decide +kernel
theorem dR_roundCost_36 : decode cR_roundCost 36 = .ok (.istore 5, 2) := by decide +kernel
theorem dR_roundCost_38 : decode cR_roundCost 38 = .ok (.aload_n 0, 1) := by decide +kernel
theorem dR_roundCost_39 : decode cR_roundCost 39 = .ok (.iload 5, 2) := by decide +kernel
theorem dR_roundCost_41 : decode cR_roundCost 41 = .ok (.invokevirtual 74, 3) := by decide +kernel
theorem dR_roundCost_44 : decode cR_roundCost 44 = .ok (.ifCond .ne 5, 3) := by decide +kernel
theorem dR_roundCost_47 : decode cR_roundCost 47 = .ok (.iconst (-1), 1) := by decide +kernel
theorem dR_roundCost_48 : decode cR_roundCost 48 = .ok (.ireturn, 1) := by decide +kernel
theorem dR_roundCost_49 : decode cR_roundCost 49 = .ok (.aload_n 0, 1) := by decide +kernel
theorem dR_roundCost_50 : decode cR_roundCost 50 = .ok (.getfield 17, 3) := by decide +kernel
theorem dR_roundCost_53 : decode cR_roundCost 53 = .ok (.iload 5, 2) := by decide +kernel
theorem dR_roundCost_55 : decode cR_roundCost 55 = .ok (.iaload, 1) := by decide +kernel
theorem dR_roundCost_56 : decode cR_roundCost 56 = .ok (.iconst 1, 1) := by decide +kernel
theorem dR_roundCost_57 : decode cR_roundCost 57 = .ok (.if_icmp .ne 7, 3) := by decide +kernel
theorem dR_roundCost_60 : decode cR_roundCost 60 = .ok (.iload_n 3, 1) := by decide +kernel
theorem dR_roundCost_61 : decode cR_roundCost 61 = .ok (.goto 5, 3) := by decide +kernel
theorem dR_roundCost_64 : decode cR_roundCost 64 = .ok (.iload 4, 2) := by decide +kernel
theorem dR_roundCost_66 : decode cR_roundCost 66 = .ok (.istore 6, 2) := by decide +kernel
theorem dR_roundCost_68 : decode cR_roundCost 68 = .ok (.aload_n 0, 1) := by decide +kernel
theorem dR_roundCost_69 : decode cR_roundCost 69 = .ok (.getfield 17, 3) := by decide +kernel
theorem dR_roundCost_72 : decode cR_roundCost 72 = .ok (.iload 5, 2) := by decide +kernel
theorem dR_roundCost_74 : decode cR_roundCost 74 = .ok (.iaload, 1) := by decide +kernel
theorem dR_roundCost_75 : decode cR_roundCost 75 = .ok (.iconst 1, 1) := by decide +kernel
theorem dR_roundCost_76 : decode cR_roundCost 76 = .ok (.if_icmp .ne 8, 3) := by decide +kernel
theorem dR_roundCost_79 : decode cR_roundCost 79 = .ok (.iload 4, 2) := by decide +kernel
theorem dR_roundCost_81 : decode cR_roundCost 81 = .ok (.goto 4, 3) := by decide +kernel
theorem dR_roundCost_84 : decode cR_roundCost 84 = .ok (.iload_n 3, 1) := by decide +kernel
theorem dR_roundCost_85 : decode cR_roundCost 85 = .ok (.iconst 2, 1) := by decide +kernel
theorem dR_roundCost_86 : decode cR_roundCost 86 = .ok (.idiv, 1) := by decide +kernel
theorem dR_roundCost_87 : decode cR_roundCost 87 = .ok (.istore 7, 2) := by decide +kernel
theorem dR_roundCost_89 : decode cR_roundCost 89 = .ok (.iload_n 3, 1) := by decide +kernel
theorem dR_roundCost_90 : decode cR_roundCost 90 = .ok (.iload 4, 2) := by decide +kernel
theorem dR_roundCost_92 : decode cR_roundCost 92 = .ok (.iadd, 1) := by decide +kernel
theorem dR_roundCost_93 : decode cR_roundCost 93 = .ok (.iconst 2, 1) := by decide +kernel
theorem dR_roundCost_94 : decode cR_roundCost 94 = .ok (.iadd, 1) := by decide +kernel
theorem dR_roundCost_95 : decode cR_roundCost 95 = .ok (.iconst 2, 1) := by decide +kernel
theorem dR_roundCost_96 : decode cR_roundCost 96 = .ok (.iconst 2, 1) := by decide +kernel
theorem dR_roundCost_97 : decode cR_roundCost 97 = .ok (.iload 6, 2) := by decide +kernel
theorem dR_roundCost_99 : decode cR_roundCost 99 = .ok (.imul, 1) := by decide +kernel
theorem dR_roundCost_100 : decode cR_roundCost 100 = .ok (.aload_n 0, 1) := by decide +kernel
theorem dR_roundCost_101 : decode cR_roundCost 101 = .ok (.getfield 13, 3) := by decide +kernel
theorem dR_roundCost_104 : decode cR_roundCost 104 = .ok (.iload 5, 2) := by decide +kernel
theorem dR_roundCost_106 : decode cR_roundCost 106 = .ok (.iaload, 1) := by decide +kernel
theorem dR_roundCost_107 : decode cR_roundCost 107 = .ok (.iadd, 1) := by decide +kernel
theorem dR_roundCost_108 : decode cR_roundCost 108 = .ok (.iconst 2, 1) := by decide +kernel
theorem dR_roundCost_109 : decode cR_roundCost 109 = .ok (.iadd, 1) := by decide +kernel
theorem dR_roundCost_110 : decode cR_roundCost 110 = .ok (.iload 7, 2) := by decide +kernel
theorem dR_roundCost_112 : decode cR_roundCost 112 = .ok (.iadd, 1) := by decide +kernel
theorem dR_roundCost_113 : decode cR_roundCost 113 = .ok (.imul, 1) := by decide +kernel
theorem dR_roundCost_114 : decode cR_roundCost 114 = .ok (.iadd, 1) := by decide +kernel
theorem dR_roundCost_115 : decode cR_roundCost 115 = .ok (.ireturn, 1) := by decide +kernel
theorem dR_lockStep_0 : decode cR_lockStep 0 = .ok (.aload_n 0, 1) := by decide +kernel
theorem dR_lockStep_1 : decode cR_lockStep 1 = .ok (.getfield 137, 3) := by decide +kernel
theorem dR_lockStep_4 : decode cR_lockStep 4 = .ok (.ifCond .eq 17, 3) := by decide +kernel
theorem dR_lockStep_7 : decode cR_lockStep 7 = .ok (.bipush 36, 2) := by decide +kernel
theorem dR_lockStep_9 : decode cR_lockStep 9 = .ok (.aload_n 0, 1) := by decide +kernel
theorem dR_lockStep_10 : decode cR_lockStep 10 = .ok (.getfield 23, 3) := by decide +kernel
theorem dR_lockStep_13 : decode cR_lockStep 13 = .ok (.imul, 1) := by decide +kernel
theorem dR_lockStep_14 : decode cR_lockStep 14 = .ok (.aload_n 0, 1) := by decide +kernel
theorem dR_lockStep_15 : decode cR_lockStep 15 = .ok (.getfield 99, 3) := by decide +kernel
theorem dR_lockStep_18 : decode cR_lockStep 18 = .ok (.if_icmp .lt 5, 3) := by decide +kernel
theorem dR_lockStep_21 : decode cR_lockStep 21 = .ok (.iconst (-1), 1) := by decide +kernel
theorem dR_lockStep_22 : decode cR_lockStep 22 = .ok (.ireturn, 1) := by decide +kernel
theorem dR_lockStep_23 : decode cR_lockStep 23 = .ok (.aload_n 0, 1) := by decide +kernel
theorem dR_lockStep_24 : decode cR_lockStep 24 = .ok (.invokevirtual 148, 3) := by decide +kernel
theorem dR_lockStep_27 : decode cR_lockStep 27 = .ok (.iconst 0, 1) := by decide +kernel
theorem dR_lockStep_28 : decode cR_lockStep 28 = .ok (.istore_n 2, 1) := by decide +kernel
theorem dR_lockStep_29 : decode cR_lockStep 29 = .ok (.iload_n 2, 1) := by decide +kernel
theorem dR_lockStep_30 : decode cR_lockStep 30 = .ok (.iload_n 1, 1) := by decide +kernel
theorem dR_lockStep_31 : decode cR_lockStep 31 = .ok (.if_icmp .ge 71, 3) := by decide +kernel
theorem dR_lockStep_34 : decode cR_lockStep 34 = .ok (.iload_n 2, 1) := by decide +kernel
theorem dR_lockStep_35 : decode cR_lockStep 35 = .ok (.sipush 200, 3) := by decide +kernel
theorem dR_lockStep_38 : decode cR_lockStep 38 = .ok (.if_icmp .ge 64, 3) := by decide +kernel
theorem dR_lockStep_41 : decode cR_lockStep 41 = .ok (.aload_n 0, 1) := by decide +kernel
theorem dR_lockStep_42 : decode cR_lockStep 42 = .ok (.invokevirtual 81, 3) := by decide +kernel
theorem dR_lockStep_45 : decode cR_lockStep 45 = .ok (.istore_n 3, 1) := by decide +kernel
theorem dR_lockStep_46 : decode cR_lockStep 46 = .ok (.iload_n 3, 1) := by decide +kernel
theorem dR_lockStep_47 : decode cR_lockStep 47 = .ok (.bipush (-2), 2) := by decide +kernel
theorem dR_lockStep_49 : decode cR_lockStep 49 = .ok (.if_icmp .ne 6, 3) := by decide +kernel
theorem dR_lockStep_52 : decode cR_lockStep 52 = .ok (.bipush (-2), 2) := by decide +kernel
theorem dR_lockStep_54 : decode cR_lockStep 54 = .ok (.ireturn, 1) := by decide +kernel
theorem dR_lockStep_55 : decode cR_lockStep 55 = .ok (.iload_n 3, 1) := by decide +kernel
theorem dR_lockStep_56 : decode cR_lockStep 56 = .ok (.ifCond .ne 18, 3) := by decide +kernel
theorem dR_lockStep_59 : decode cR_lockStep 59 = .ok (.aload_n 0, 1) := by decide +kernel
theorem dR_lockStep_60 : decode cR_lockStep 60 = .ok (.invokevirtual 156, 3) := by decide +kernel
theorem dR_lockStep_63 : decode cR_lockStep 63 = .ok (.ifCond .ne 7, 3) := by decide +kernel
theorem dR_lockStep_66 : decode cR_lockStep 66 = .ok (.iconst 0, 1) := by decide +kernel
theorem dR_lockStep_67 : decode cR_lockStep 67 = .ok (.goto 6, 3) := by decide +kernel
theorem dR_lockStep_70 : decode cR_lockStep 70 = .ok (.iconst 1, 1) := by decide +kernel
theorem dR_lockStep_71 : decode cR_lockStep 71 = .ok (.iload_n 2, 1) := by decide +kernel
theorem dR_lockStep_72 : decode cR_lockStep 72 = .ok (.iadd, 1) := by decide +kernel
theorem dR_lockStep_73 : decode cR_lockStep 73 = .ok (.ireturn, 1) := by decide +kernel
theorem dR_lockStep_74 : decode cR_lockStep 74 = .ok (.aload_n 0, 1) := by decide +kernel
theorem dR_lockStep_75 : decode cR_lockStep 75 = .ok (.invokevirtual 85, 3) := by decide +kernel
theorem dR_lockStep_78 : decode cR_lockStep 78 = .ok (.aload_n 0, 1) := by decide +kernel
theorem dR_lockStep_79 : decode cR_lockStep 79 = .ok (.invokevirtual 193, 3) := by decide +kernel
theorem dR_lockStep_82 : decode cR_lockStep 82 = .ok (.ifCond .eq 10, 3) := by decide +kernel
theorem dR_lockStep_85 : decode cR_lockStep 85 = .ok (.aload_n 0, 1) := by decide +kernel
theorem dR_lockStep_86 : decode cR_lockStep 86 = .ok (.invokevirtual 196, 3) := by decide +kernel
theorem dR_lockStep_89 : decode cR_lockStep 89 = .ok (.ifCond .ne 7, 3) := by decide +kernel
theorem dR_lockStep_92 : decode cR_lockStep 92 = .ok (.iconst 1, 1) := by decide +kernel
theorem dR_lockStep_93 : decode cR_lockStep 93 = .ok (.iload_n 2, 1) := by decide +kernel
theorem dR_lockStep_94 : decode cR_lockStep 94 = .ok (.iadd, 1) := by decide +kernel
theorem dR_lockStep_95 : decode cR_lockStep 95 = .ok (.ireturn, 1) := by decide +kernel
theorem dR_lockStep_96 : decode cR_lockStep 96 = .ok (.iinc 2 1, 3) := by decide +kernel
theorem dR_lockStep_99 : decode cR_lockStep 99 = .ok (.goto (-70), 3) := by decide +kernel
theorem dR_lockStep_102 : decode cR_lockStep 102 = .ok (.iconst 0, 1) := by decide +kernel
theorem dR_lockStep_103 : decode cR_lockStep 103 = .ok (.ireturn, 1) := by decide +kernel
theorem dR_agrees_0 : decode cR_agrees 0 = .ok (.aload_n 0, 1) := by decide +kernel
theorem dR_agrees_1 : decode cR_agrees 1 = .ok (.invokevirtual 189, 3) := by decide +kernel
theorem dR_agrees_4 : decode cR_agrees 4 = .ok (.ifCond .eq 51, 3) := by decide +kernel
theorem dR_agrees_7 : decode cR_agrees 7 = .ok (.aload_n 0, 1) := by decide +kernel
theorem dR_agrees_8 : decode cR_agrees 8 = .ok (.getfield 183, 3) := by decide +kernel
theorem dR_agrees_11 : decode cR_agrees 11 = .ok (.aload_n 0, 1) := by decide +kernel
theorem dR_agrees_12 : decode cR_agrees 12 = .ok (.getfield 23, 3) := by decide +kernel
theorem dR_agrees_15 : decode cR_agrees 15 = .ok (.if_icmp .ne 40, 3) := by decide +kernel
theorem dR_agrees_18 : decode cR_agrees 18 = .ok (.aload_n 0, 1) := by decide +kernel
theorem dR_agrees_19 : decode cR_agrees 19 = .ok (.getfield 186, 3) := by decide +kernel
theorem dR_agrees_22 : decode cR_agrees 22 = .ok (.aload_n 0, 1) := by decide +kernel
theorem dR_agrees_23 : decode cR_agrees 23 = .ok (.getfield 61, 3) := by decide +kernel
theorem dR_agrees_26 : decode cR_agrees 26 = .ok (.if_icmp .ne 29, 3) := by decide +kernel
theorem dR_agrees_29 : decode cR_agrees 29 = .ok (.aload_n 0, 1) := by decide +kernel
theorem dR_agrees_30 : decode cR_agrees 30 = .ok (.getfield 177, 3) := by decide +kernel
theorem dR_agrees_33 : decode cR_agrees 33 = .ok (.aload_n 0, 1) := by decide +kernel
theorem dR_agrees_34 : decode cR_agrees 34 = .ok (.getfield 64, 3) := by decide +kernel
theorem dR_agrees_37 : decode cR_agrees 37 = .ok (.if_icmp .ne 18, 3) := by decide +kernel
theorem dR_agrees_40 : decode cR_agrees 40 = .ok (.aload_n 0, 1) := by decide +kernel
theorem dR_agrees_41 : decode cR_agrees 41 = .ok (.getfield 180, 3) := by decide +kernel
theorem dR_agrees_44 : decode cR_agrees 44 = .ok (.aload_n 0, 1) := by decide +kernel
theorem dR_agrees_45 : decode cR_agrees 45 = .ok (.getfield 67, 3) := by decide +kernel
theorem dR_agrees_48 : decode cR_agrees 48 = .ok (.if_icmp .ne 7, 3) := by decide +kernel
theorem dR_agrees_51 : decode cR_agrees 51 = .ok (.iconst 1, 1) := by decide +kernel
theorem dR_agrees_52 : decode cR_agrees 52 = .ok (.goto 4, 3) := by decide +kernel
theorem dR_agrees_55 : decode cR_agrees 55 = .ok (.iconst 0, 1) := by decide +kernel
theorem dR_agrees_56 : decode cR_agrees 56 = .ok (.ireturn, 1) := by decide +kernel
