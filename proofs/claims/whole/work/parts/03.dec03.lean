theorem dY_bits_16 : decode cY_bits 16 = .ok (.getfield 18, 3) := by decide +kernel
theorem dY_bits_19 : decode cY_bits 19 = .ok (.isub, 1) := by decide +kernel
theorem dY_bits_20 : decode cY_bits 20 = .ok (.ireturn, 1) := by decide +kernel
theorem dX_tagLetter_0 : decode cX_tagLetter 0 = .ok (.aload_n 0, 1) := by decide +kernel
theorem dX_tagLetter_1 : decode cX_tagLetter 1 = .ok (.getfield 19, 3) := by decide +kernel
theorem dX_tagLetter_4 : decode cX_tagLetter 4 = .ok (.iload_n 1, 1) := by decide +kernel
theorem dX_tagLetter_5 : decode cX_tagLetter 5 = .ok (.invokevirtual 136, 3) := by decide +kernel
theorem dX_tagLetter_8 : decode cX_tagLetter 8 = .ok (.ireturn, 1) := by decide +kernel
theorem dX_cyclicBit_0 : decode cX_cyclicBit 0 = .ok (.aload_n 0, 1) := by decide +kernel
theorem dX_cyclicBit_1 : decode cX_cyclicBit 1 = .ok (.getfield 26, 3) := by decide +kernel
theorem dX_cyclicBit_4 : decode cX_cyclicBit 4 = .ok (.iload_n 1, 1) := by decide +kernel
theorem dX_cyclicBit_5 : decode cX_cyclicBit 5 = .ok (.invokevirtual 139, 3) := by decide +kernel
theorem dX_cyclicBit_8 : decode cX_cyclicBit 8 = .ok (.ireturn, 1) := by decide +kernel
theorem dY_wordBit_0 : decode cY_wordBit 0 = .ok (.aload_n 0, 1) := by decide +kernel
theorem dY_wordBit_1 : decode cY_wordBit 1 = .ok (.getfield 12, 3) := by decide +kernel
theorem dY_wordBit_4 : decode cY_wordBit 4 = .ok (.getfield 30, 3) := by decide +kernel
theorem dY_wordBit_7 : decode cY_wordBit 7 = .ok (.istore_n 2, 1) := by decide +kernel
theorem dY_wordBit_8 : decode cY_wordBit 8 = .ok (.iload_n 2, 1) := by decide +kernel
theorem dY_wordBit_9 : decode cY_wordBit 9 = .ok (.ifCond .eq 15, 3) := by decide +kernel
theorem dY_wordBit_12 : decode cY_wordBit 12 = .ok (.iload_n 1, 1) := by decide +kernel
theorem dY_wordBit_13 : decode cY_wordBit 13 = .ok (.ifCond .lt 11, 3) := by decide +kernel
theorem dY_wordBit_16 : decode cY_wordBit 16 = .ok (.iload_n 1, 1) := by decide +kernel
theorem dY_wordBit_17 : decode cY_wordBit 17 = .ok (.aload_n 0, 1) := by decide +kernel
theorem dY_wordBit_18 : decode cY_wordBit 18 = .ok (.invokevirtual 47, 3) := by decide +kernel
theorem dY_wordBit_21 : decode cY_wordBit 21 = .ok (.if_icmp .lt 5, 3) := by decide +kernel
theorem dY_wordBit_24 : decode cY_wordBit 24 = .ok (.iconst (-1), 1) := by decide +kernel
theorem dY_wordBit_25 : decode cY_wordBit 25 = .ok (.ireturn, 1) := by decide +kernel
theorem dY_wordBit_26 : decode cY_wordBit 26 = .ok (.aload_n 0, 1) := by decide +kernel
theorem dY_wordBit_27 : decode cY_wordBit 27 = .ok (.getfield 18, 3) := by decide +kernel
theorem dY_wordBit_30 : decode cY_wordBit 30 = .ok (.iload_n 1, 1) := by decide +kernel
theorem dY_wordBit_31 : decode cY_wordBit 31 = .ok (.iadd, 1) := by decide +kernel
theorem dY_wordBit_32 : decode cY_wordBit 32 = .ok (.istore_n 3, 1) := by decide +kernel
theorem dY_wordBit_33 : decode cY_wordBit 33 = .ok (.aload_n 0, 1) := by decide +kernel
theorem dY_wordBit_34 : decode cY_wordBit 34 = .ok (.getfield 12, 3) := by decide +kernel
theorem dY_wordBit_37 : decode cY_wordBit 37 = .ok (.iload_n 3, 1) := by decide +kernel
theorem dY_wordBit_38 : decode cY_wordBit 38 = .ok (.iload_n 2, 1) := by decide +kernel
theorem dY_wordBit_39 : decode cY_wordBit 39 = .ok (.idiv, 1) := by decide +kernel
theorem dY_wordBit_40 : decode cY_wordBit 40 = .ok (.invokevirtual 51, 3) := by decide +kernel
theorem dY_wordBit_43 : decode cY_wordBit 43 = .ok (.iload_n 3, 1) := by decide +kernel
theorem dY_wordBit_44 : decode cY_wordBit 44 = .ok (.iload_n 2, 1) := by decide +kernel
theorem dY_wordBit_45 : decode cY_wordBit 45 = .ok (.irem, 1) := by decide +kernel
theorem dY_wordBit_46 : decode cY_wordBit 46 = .ok (.invokestatic 44, 3) := by decide +kernel
theorem dY_wordBit_49 : decode cY_wordBit 49 = .ok (.ireturn, 1) := by decide +kernel
theorem dX_decodeTag_0 : decode cX_decodeTag 0 = .ok (.aload_n 0, 1) := by decide +kernel
theorem dX_decodeTag_1 : decode cX_decodeTag 1 = .ok (.getfield 33, 3) := by decide +kernel
theorem dX_decodeTag_4 : decode cX_decodeTag 4 = .ok (.aload_n 0, 1) := by decide +kernel
theorem dX_decodeTag_5 : decode cX_decodeTag 5 = .ok (.getfield 19, 3) := by decide +kernel
theorem dX_decodeTag_8 : decode cX_decodeTag 8 = .ok (.invokevirtual 142, 3) := by decide +kernel
theorem dX_decodeTag_11 : decode cX_decodeTag 11 = .ok (.ifCond .ne 5, 3) := by decide +kernel
theorem dX_decodeTag_14 : decode cX_decodeTag 14 = .ok (.iconst (-1), 1) := by decide +kernel
theorem dX_decodeTag_15 : decode cX_decodeTag 15 = .ok (.ireturn, 1) := by decide +kernel
theorem dX_decodeTag_16 : decode cX_decodeTag 16 = .ok (.iload_n 1, 1) := by decide +kernel
theorem dX_decodeTag_17 : decode cX_decodeTag 17 = .ok (.tableswitch 63 0 3 #[31, 39, 47, 55], 31) := by decide +kernel
theorem dX_decodeTag_48 : decode cX_decodeTag 48 = .ok (.aload_n 0, 1) := by decide +kernel
theorem dX_decodeTag_49 : decode cX_decodeTag 49 = .ok (.getfield 33, 3) := by decide +kernel
theorem dX_decodeTag_52 : decode cX_decodeTag 52 = .ok (.getfield 146, 3) := by decide +kernel
theorem dX_decodeTag_55 : decode cX_decodeTag 55 = .ok (.ireturn, 1) := by decide +kernel
theorem dX_decodeTag_56 : decode cX_decodeTag 56 = .ok (.aload_n 0, 1) := by decide +kernel
theorem dX_decodeTag_57 : decode cX_decodeTag 57 = .ok (.getfield 33, 3) := by decide +kernel
theorem dX_decodeTag_60 : decode cX_decodeTag 60 = .ok (.getfield 147, 3) := by decide +kernel
theorem dX_decodeTag_63 : decode cX_decodeTag 63 = .ok (.ireturn, 1) := by decide +kernel
theorem dX_decodeTag_64 : decode cX_decodeTag 64 = .ok (.aload_n 0, 1) := by decide +kernel
theorem dX_decodeTag_65 : decode cX_decodeTag 65 = .ok (.getfield 33, 3) := by decide +kernel
theorem dX_decodeTag_68 : decode cX_decodeTag 68 = .ok (.getfield 148, 3) := by decide +kernel
theorem dX_decodeTag_71 : decode cX_decodeTag 71 = .ok (.ireturn, 1) := by decide +kernel
theorem dX_decodeTag_72 : decode cX_decodeTag 72 = .ok (.aload_n 0, 1) := by decide +kernel
theorem dX_decodeTag_73 : decode cX_decodeTag 73 = .ok (.getfield 33, 3) := by decide +kernel
theorem dX_decodeTag_76 : decode cX_decodeTag 76 = .ok (.getfield 149, 3) := by decide +kernel
theorem dX_decodeTag_79 : decode cX_decodeTag 79 = .ok (.ireturn, 1) := by decide +kernel
theorem dX_decodeTag_80 : decode cX_decodeTag 80 = .ok (.iconst (-1), 1) := by decide +kernel
theorem dX_decodeTag_81 : decode cX_decodeTag 81 = .ok (.ireturn, 1) := by decide +kernel
theorem dC_read_0 : decode cC_read 0 = .ok (.aload_n 1, 1) := by decide +kernel
theorem dC_read_1 : decode cC_read 1 = .ok (.iconst 0, 1) := by decide +kernel
theorem dC_read_2 : decode cC_read 2 = .ok (.invokevirtual 47, 3) := by decide +kernel
theorem dC_read_5 : decode cC_read 5 = .ok (.istore_n 2, 1) := by decide +kernel
theorem dC_read_6 : decode cC_read 6 = .ok (.iload_n 2, 1) := by decide +kernel
theorem dC_read_7 : decode cC_read 7 = .ok (.aload_n 1, 1) := by decide +kernel
theorem dC_read_8 : decode cC_read 8 = .ok (.getfield 51, 3) := by decide +kernel
theorem dC_read_11 : decode cC_read 11 = .ok (.invokestatic 54, 3) := by decide +kernel
theorem dC_read_14 : decode cC_read 14 = .ok (.ifCond .eq 12, 3) := by decide +kernel
theorem dC_read_17 : decode cC_read 17 = .ok (.aload_n 1, 1) := by decide +kernel
theorem dC_read_18 : decode cC_read 18 = .ok (.getfield 58, 3) := by decide +kernel
theorem dC_read_21 : decode cC_read 21 = .ok (.iconst 2, 1) := by decide +kernel
theorem dC_read_22 : decode cC_read 22 = .ok (.irem, 1) := by decide +kernel
theorem dC_read_23 : decode cC_read 23 = .ok (.ifCond .eq 5, 3) := by decide +kernel
theorem dC_read_26 : decode cC_read 26 = .ok (.iconst 0, 1) := by decide +kernel
theorem dC_read_27 : decode cC_read 27 = .ok (.ireturn, 1) := by decide +kernel
theorem dC_read_28 : decode cC_read 28 = .ok (.aload_n 1, 1) := by decide +kernel
theorem dC_read_29 : decode cC_read 29 = .ok (.iconst 0, 1) := by decide +kernel
theorem dC_read_30 : decode cC_read 30 = .ok (.iload_n 2, 1) := by decide +kernel
theorem dC_read_31 : decode cC_read 31 = .ok (.iconst 0, 1) := by decide +kernel
theorem dC_read_32 : decode cC_read 32 = .ok (.iadd, 1) := by decide +kernel
theorem dC_read_33 : decode cC_read 33 = .ok (.invokestatic 61, 3) := by decide +kernel
theorem dC_read_36 : decode cC_read 36 = .ok (.ifCond .ne 5, 3) := by decide +kernel
theorem dC_read_39 : decode cC_read 39 = .ok (.iconst 0, 1) := by decide +kernel
theorem dC_read_40 : decode cC_read 40 = .ok (.ireturn, 1) := by decide +kernel
theorem dC_read_41 : decode cC_read 41 = .ok (.aload_n 1, 1) := by decide +kernel
theorem dC_read_42 : decode cC_read 42 = .ok (.iconst 1, 1) := by decide +kernel
theorem dC_read_43 : decode cC_read 43 = .ok (.iload_n 2, 1) := by decide +kernel
theorem dC_read_44 : decode cC_read 44 = .ok (.iconst 1, 1) := by decide +kernel
theorem dC_read_45 : decode cC_read 45 = .ok (.iadd, 1) := by decide +kernel
theorem dC_read_46 : decode cC_read 46 = .ok (.invokestatic 65, 3) := by decide +kernel
theorem dC_read_49 : decode cC_read 49 = .ok (.istore_n 3, 1) := by decide +kernel
theorem dC_read_50 : decode cC_read 50 = .ok (.aload_n 1, 1) := by decide +kernel
theorem dC_read_51 : decode cC_read 51 = .ok (.iload_n 3, 1) := by decide +kernel
theorem dC_read_52 : decode cC_read 52 = .ok (.iload_n 2, 1) := by decide +kernel
theorem dC_read_53 : decode cC_read 53 = .ok (.iconst 2, 1) := by decide +kernel
theorem dC_read_54 : decode cC_read 54 = .ok (.iadd, 1) := by decide +kernel
theorem dC_read_55 : decode cC_read 55 = .ok (.invokestatic 61, 3) := by decide +kernel
theorem dC_read_58 : decode cC_read 58 = .ok (.ifCond .ne 5, 3) := by decide +kernel
theorem dC_read_61 : decode cC_read 61 = .ok (.iconst 0, 1) := by decide +kernel
theorem dC_read_62 : decode cC_read 62 = .ok (.ireturn, 1) := by decide +kernel
theorem dC_read_63 : decode cC_read 63 = .ok (.aload_n 1, 1) := by decide +kernel
theorem dC_read_64 : decode cC_read 64 = .ok (.iload_n 3, 1) := by decide +kernel
theorem dC_read_65 : decode cC_read 65 = .ok (.iconst 1, 1) := by decide +kernel
theorem dC_read_66 : decode cC_read 66 = .ok (.iadd, 1) := by decide +kernel
theorem dC_read_67 : decode cC_read 67 = .ok (.iload_n 2, 1) := by decide +kernel
theorem dC_read_68 : decode cC_read 68 = .ok (.iconst 3, 1) := by decide +kernel
theorem dC_read_69 : decode cC_read 69 = .ok (.iadd, 1) := by decide +kernel
theorem dC_read_70 : decode cC_read 70 = .ok (.invokestatic 65, 3) := by decide +kernel
theorem dC_read_73 : decode cC_read 73 = .ok (.istore 4, 2) := by decide +kernel
theorem dC_read_75 : decode cC_read 75 = .ok (.iconst 2, 1) := by decide +kernel
theorem dC_read_76 : decode cC_read 76 = .ok (.iload 4, 2) := by decide +kernel
theorem dC_read_78 : decode cC_read 78 = .ok (.imul, 1) := by decide +kernel
theorem dC_read_79 : decode cC_read 79 = .ok (.aload_n 1, 1) := by decide +kernel
theorem dC_read_80 : decode cC_read 80 = .ok (.getfield 58, 3) := by decide +kernel
theorem dC_read_83 : decode cC_read 83 = .ok (.if_icmp .eq 5, 3) := by decide +kernel
theorem dC_read_86 : decode cC_read 86 = .ok (.iconst 0, 1) := by decide +kernel
theorem dC_read_87 : decode cC_read 87 = .ok (.ireturn, 1) := by decide +kernel
theorem dC_read_88 : decode cC_read 88 = .ok (.aload_n 0, 1) := by decide +kernel
theorem dC_read_89 : decode cC_read 89 = .ok (.iload_n 2, 1) := by decide +kernel
theorem dC_read_90 : decode cC_read 90 = .ok (.invokestatic 69, 3) := by decide +kernel
theorem dC_read_93 : decode cC_read 93 = .ok (.putfield 7, 3) := by decide +kernel
theorem dC_read_96 : decode cC_read 96 = .ok (.aload_n 0, 1) := by decide +kernel
theorem dC_read_97 : decode cC_read 97 = .ok (.iload_n 2, 1) := by decide +kernel
theorem dC_read_98 : decode cC_read 98 = .ok (.invokestatic 72, 3) := by decide +kernel
theorem dC_read_101 : decode cC_read 101 = .ok (.putfield 13, 3) := by decide +kernel
theorem dC_read_104 : decode cC_read 104 = .ok (.aload_n 0, 1) := by decide +kernel
theorem dC_read_105 : decode cC_read 105 = .ok (.iload_n 3, 1) := by decide +kernel
theorem dC_read_106 : decode cC_read 106 = .ok (.iconst 1, 1) := by decide +kernel
theorem dC_read_107 : decode cC_read 107 = .ok (.isub, 1) := by decide +kernel
theorem dC_read_108 : decode cC_read 108 = .ok (.putfield 16, 3) := by decide +kernel
theorem dC_read_111 : decode cC_read 111 = .ok (.aload_n 0, 1) := by decide +kernel
theorem dC_read_112 : decode cC_read 112 = .ok (.iload 4, 2) := by decide +kernel
theorem dC_read_114 : decode cC_read 114 = .ok (.iload_n 3, 1) := by decide +kernel
theorem dC_read_115 : decode cC_read 115 = .ok (.isub, 1) := by decide +kernel
theorem dC_read_116 : decode cC_read 116 = .ok (.iconst 1, 1) := by decide +kernel
theorem dC_read_117 : decode cC_read 117 = .ok (.isub, 1) := by decide +kernel
theorem dC_read_118 : decode cC_read 118 = .ok (.putfield 19, 3) := by decide +kernel
theorem dC_read_121 : decode cC_read 121 = .ok (.iconst 1, 1) := by decide +kernel
theorem dC_read_122 : decode cC_read 122 = .ok (.ireturn, 1) := by decide +kernel
theorem dG_isBase_0 : decode cG_isBase 0 = .ok (.iload_n 0, 1) := by decide +kernel
theorem dG_isBase_1 : decode cG_isBase 1 = .ok (.iconst 1, 1) := by decide +kernel
theorem dG_isBase_2 : decode cG_isBase 2 = .ok (.if_icmp .lt 27, 3) := by decide +kernel
theorem dG_isBase_5 : decode cG_isBase 5 = .ok (.iload_n 0, 1) := by decide +kernel
theorem dG_isBase_6 : decode cG_isBase 6 = .ok (.iload_n 1, 1) := by decide +kernel
theorem dG_isBase_7 : decode cG_isBase 7 = .ok (.iconst 1, 1) := by decide +kernel
theorem dG_isBase_8 : decode cG_isBase 8 = .ok (.iadd, 1) := by decide +kernel
theorem dG_isBase_9 : decode cG_isBase 9 = .ok (.iconst 0, 1) := by decide +kernel
theorem dG_isBase_10 : decode cG_isBase 10 = .ok (.invokestatic 9, 3) := by decide +kernel
theorem dG_isBase_13 : decode cG_isBase 13 = .ok (.if_icmp .ge 16, 3) := by decide +kernel
theorem dG_isBase_16 : decode cG_isBase 16 = .ok (.iload_n 0, 1) := by decide +kernel
theorem dG_isBase_17 : decode cG_isBase 17 = .ok (.iconst 1, 1) := by decide +kernel
theorem dG_isBase_18 : decode cG_isBase 18 = .ok (.isub, 1) := by decide +kernel
theorem dG_isBase_19 : decode cG_isBase 19 = .ok (.bipush 18, 2) := by decide +kernel
theorem dG_isBase_21 : decode cG_isBase 21 = .ok (.irem, 1) := by decide +kernel
theorem dG_isBase_22 : decode cG_isBase 22 = .ok (.ifCond .ne 7, 3) := by decide +kernel
theorem dG_isBase_25 : decode cG_isBase 25 = .ok (.iconst 1, 1) := by decide +kernel
theorem dG_isBase_26 : decode cG_isBase 26 = .ok (.goto 4, 3) := by decide +kernel
theorem dG_isBase_29 : decode cG_isBase 29 = .ok (.iconst 0, 1) := by decide +kernel
theorem dG_isBase_30 : decode cG_isBase 30 = .ok (.ireturn, 1) := by decide +kernel
theorem dC_isPair_0 : decode cC_isPair 0 = .ok (.aload_n 0, 1) := by decide +kernel
theorem dC_isPair_1 : decode cC_isPair 1 = .ok (.iconst 2, 1) := by decide +kernel
theorem dC_isPair_2 : decode cC_isPair 2 = .ok (.iload_n 1, 1) := by decide +kernel
theorem dC_isPair_3 : decode cC_isPair 3 = .ok (.imul, 1) := by decide +kernel
theorem dC_isPair_4 : decode cC_isPair 4 = .ok (.invokevirtual 47, 3) := by decide +kernel
theorem dC_isPair_7 : decode cC_isPair 7 = .ok (.iload_n 2, 1) := by decide +kernel
theorem dC_isPair_8 : decode cC_isPair 8 = .ok (.if_icmp .ne 19, 3) := by decide +kernel
theorem dC_isPair_11 : decode cC_isPair 11 = .ok (.aload_n 0, 1) := by decide +kernel
theorem dC_isPair_12 : decode cC_isPair 12 = .ok (.iconst 2, 1) := by decide +kernel
theorem dC_isPair_13 : decode cC_isPair 13 = .ok (.iload_n 1, 1) := by decide +kernel
theorem dC_isPair_14 : decode cC_isPair 14 = .ok (.imul, 1) := by decide +kernel
theorem dC_isPair_15 : decode cC_isPair 15 = .ok (.iconst 1, 1) := by decide +kernel
theorem dC_isPair_16 : decode cC_isPair 16 = .ok (.iadd, 1) := by decide +kernel
theorem dC_isPair_17 : decode cC_isPair 17 = .ok (.invokevirtual 47, 3) := by decide +kernel
theorem dC_isPair_20 : decode cC_isPair 20 = .ok (.ifCond .ne 7, 3) := by decide +kernel
theorem dC_isPair_23 : decode cC_isPair 23 = .ok (.iconst 1, 1) := by decide +kernel
theorem dC_isPair_24 : decode cC_isPair 24 = .ok (.goto 4, 3) := by decide +kernel
theorem dC_isPair_27 : decode cC_isPair 27 = .ok (.iconst 0, 1) := by decide +kernel
theorem dC_isPair_28 : decode cC_isPair 28 = .ok (.ireturn, 1) := by decide +kernel
theorem dC_pairsEnd_0 : decode cC_pairsEnd 0 = .ok (.aload_n 0, 1) := by decide +kernel
theorem dC_pairsEnd_1 : decode cC_pairsEnd 1 = .ok (.getfield 58, 3) := by decide +kernel
theorem dC_pairsEnd_4 : decode cC_pairsEnd 4 = .ok (.iconst 2, 1) := by decide +kernel
theorem dC_pairsEnd_5 : decode cC_pairsEnd 5 = .ok (.idiv, 1) := by decide +kernel
theorem dC_pairsEnd_6 : decode cC_pairsEnd 6 = .ok (.istore_n 3, 1) := by decide +kernel
theorem dC_pairsEnd_7 : decode cC_pairsEnd 7 = .ok (.iload_n 1, 1) := by decide +kernel
theorem dC_pairsEnd_8 : decode cC_pairsEnd 8 = .ok (.istore 4, 2) := by decide +kernel
theorem dC_pairsEnd_10 : decode cC_pairsEnd 10 = .ok (.iload 4, 2) := by decide +kernel
theorem dC_pairsEnd_12 : decode cC_pairsEnd 12 = .ok (.iload_n 3, 1) := by decide +kernel
theorem dC_pairsEnd_13 : decode cC_pairsEnd 13 = .ok (.if_icmp .ge 22, 3) := by decide +kernel
theorem dC_pairsEnd_16 : decode cC_pairsEnd 16 = .ok (.aload_n 0, 1) := by decide +kernel
theorem dC_pairsEnd_17 : decode cC_pairsEnd 17 = .ok (.iload 4, 2) := by decide +kernel
theorem dC_pairsEnd_19 : decode cC_pairsEnd 19 = .ok (.iload_n 2, 1) := by decide +kernel
theorem dC_pairsEnd_20 : decode cC_pairsEnd 20 = .ok (.invokestatic 61, 3) := by decide +kernel
theorem dC_pairsEnd_23 : decode cC_pairsEnd 23 = .ok (.ifCond .ne 6, 3) := by decide +kernel
theorem dC_pairsEnd_26 : decode cC_pairsEnd 26 = .ok (.iload 4, 2) := by decide +kernel
theorem dC_pairsEnd_28 : decode cC_pairsEnd 28 = .ok (.ireturn, 1) := by decide +kernel
theorem dC_pairsEnd_29 : decode cC_pairsEnd 29 = .ok (.iinc 4 1, 3) := by decide +kernel
theorem dC_pairsEnd_32 : decode cC_pairsEnd 32 = .ok (.goto (-22), 3) := by decide +kernel
theorem dC_pairsEnd_35 : decode cC_pairsEnd 35 = .ok (.iload_n 3, 1) := by decide +kernel
theorem dC_pairsEnd_36 : decode cC_pairsEnd 36 = .ok (.ireturn, 1) := by decide +kernel
theorem dG_stateOf_0 : decode cG_stateOf 0 = .ok (.iload_n 0, 1) := by decide +kernel
theorem dG_stateOf_1 : decode cG_stateOf 1 = .ok (.iconst 1, 1) := by decide +kernel
theorem dG_stateOf_2 : decode cG_stateOf 2 = .ok (.isub, 1) := by decide +kernel
theorem dG_stateOf_3 : decode cG_stateOf 3 = .ok (.bipush 18, 2) := by decide +kernel
theorem dG_stateOf_5 : decode cG_stateOf 5 = .ok (.idiv, 1) := by decide +kernel
theorem dG_stateOf_6 : decode cG_stateOf 6 = .ok (.iconst 2, 1) := by decide +kernel
theorem dG_stateOf_7 : decode cG_stateOf 7 = .ok (.idiv, 1) := by decide +kernel
theorem dG_stateOf_8 : decode cG_stateOf 8 = .ok (.iconst 1, 1) := by decide +kernel
theorem dG_stateOf_9 : decode cG_stateOf 9 = .ok (.iadd, 1) := by decide +kernel
theorem dG_stateOf_10 : decode cG_stateOf 10 = .ok (.ireturn, 1) := by decide +kernel
theorem dG_symbolOf_0 : decode cG_symbolOf 0 = .ok (.iload_n 0, 1) := by decide +kernel
theorem dG_symbolOf_1 : decode cG_symbolOf 1 = .ok (.iconst 1, 1) := by decide +kernel
theorem dG_symbolOf_2 : decode cG_symbolOf 2 = .ok (.isub, 1) := by decide +kernel
theorem dG_symbolOf_3 : decode cG_symbolOf 3 = .ok (.bipush 18, 2) := by decide +kernel
theorem dG_symbolOf_5 : decode cG_symbolOf 5 = .ok (.idiv, 1) := by decide +kernel
theorem dG_symbolOf_6 : decode cG_symbolOf 6 = .ok (.iconst 2, 1) := by decide +kernel
theorem dG_symbolOf_7 : decode cG_symbolOf 7 = .ok (.irem, 1) := by decide +kernel
theorem dG_symbolOf_8 : decode cG_symbolOf 8 = .ok (.ireturn, 1) := by decide +kernel
theorem dX_decodeCyclic_0 : decode cX_decodeCyclic 0 = .ok (.aload_n 0, 1) := by decide +kernel
theorem dX_decodeCyclic_1 : decode cX_decodeCyclic 1 = .ok (.getfield 26, 3) := by decide +kernel
theorem dX_decodeCyclic_4 : decode cX_decodeCyclic 4 = .ok (.iload_n 1, 1) := by decide +kernel
theorem dX_decodeCyclic_5 : decode cX_decodeCyclic 5 = .ok (.invokevirtual 150, 3) := by decide +kernel
theorem dX_decodeCyclic_8 : decode cX_decodeCyclic 8 = .ok (.ireturn, 1) := by decide +kernel
theorem dY_borderLetter_0 : decode cY_borderLetter 0 = .ok (.aload_n 0, 1) := by decide +kernel
theorem dY_borderLetter_1 : decode cY_borderLetter 1 = .ok (.getfield 18, 3) := by decide +kernel
theorem dY_borderLetter_4 : decode cY_borderLetter 4 = .ok (.ifCond .ne 14, 3) := by decide +kernel
theorem dY_borderLetter_7 : decode cY_borderLetter 7 = .ok (.aload_n 0, 1) := by decide +kernel
theorem dY_borderLetter_8 : decode cY_borderLetter 8 = .ok (.getfield 12, 3) := by decide +kernel
theorem dY_borderLetter_11 : decode cY_borderLetter 11 = .ok (.iload_n 1, 1) := by decide +kernel
theorem dY_borderLetter_12 : decode cY_borderLetter 12 = .ok (.invokevirtual 51, 3) := by decide +kernel
theorem dY_borderLetter_15 : decode cY_borderLetter 15 = .ok (.goto 4, 3) := by decide +kernel
theorem dY_borderLetter_18 : decode cY_borderLetter 18 = .ok (.iconst (-1), 1) := by decide +kernel
theorem dY_borderLetter_19 : decode cY_borderLetter 19 = .ok (.ireturn, 1) := by decide +kernel
theorem dX_nextBorder_0 : decode cX_nextBorder 0 = .ok (.iconst 1, 1) := by decide +kernel
theorem dX_nextBorder_1 : decode cX_nextBorder 1 = .ok (.istore_n 1, 1) := by decide +kernel
theorem dX_nextBorder_2 : decode cX_nextBorder 2 = .ok (.iload_n 1, 1) := by decide +kernel
theorem dX_nextBorder_3 : decode cX_nextBorder 3 = .ok (.sipush 20000, 3) := by decide +kernel
theorem dX_nextBorder_6 : decode cX_nextBorder 6 = .ok (.if_icmp .gt 45, 3) := by decide +kernel
theorem dX_nextBorder_9 : decode cX_nextBorder 9 = .ok (.aload_n 0, 1) := by decide +kernel
theorem dX_nextBorder_10 : decode cX_nextBorder 10 = .ok (.getfield 19, 3) := by decide +kernel
theorem dX_nextBorder_13 : decode cX_nextBorder 13 = .ok (.invokevirtual 128, 3) := by decide +kernel
theorem dX_nextBorder_16 : decode cX_nextBorder 16 = .ok (.iconst 1, 1) := by decide +kernel
theorem dX_nextBorder_17 : decode cX_nextBorder 17 = .ok (.if_icmp .eq 5, 3) := by decide +kernel
theorem dX_nextBorder_20 : decode cX_nextBorder 20 = .ok (.iconst 0, 1) := by decide +kernel
theorem dX_nextBorder_21 : decode cX_nextBorder 21 = .ok (.ireturn, 1) := by decide +kernel
theorem dX_nextBorder_22 : decode cX_nextBorder 22 = .ok (.aload_n 0, 1) := by decide +kernel
theorem dX_nextBorder_23 : decode cX_nextBorder 23 = .ok (.getfield 19, 3) := by decide +kernel
theorem dX_nextBorder_26 : decode cX_nextBorder 26 = .ok (.invokevirtual 153, 3) := by decide +kernel
theorem dX_nextBorder_29 : decode cX_nextBorder 29 = .ok (.aload_n 0, 1) := by decide +kernel
theorem dX_nextBorder_30 : decode cX_nextBorder 30 = .ok (.getfield 33, 3) := by decide +kernel
theorem dX_nextBorder_33 : decode cX_nextBorder 33 = .ok (.aload_n 0, 1) := by decide +kernel
theorem dX_nextBorder_34 : decode cX_nextBorder 34 = .ok (.getfield 19, 3) := by decide +kernel
theorem dX_nextBorder_37 : decode cX_nextBorder 37 = .ok (.invokevirtual 142, 3) := by decide +kernel
theorem dX_nextBorder_40 : decode cX_nextBorder 40 = .ok (.ifCond .eq 5, 3) := by decide +kernel
theorem dX_nextBorder_43 : decode cX_nextBorder 43 = .ok (.iload_n 1, 1) := by decide +kernel
theorem dX_nextBorder_44 : decode cX_nextBorder 44 = .ok (.ireturn, 1) := by decide +kernel
theorem dX_nextBorder_45 : decode cX_nextBorder 45 = .ok (.iinc 1 1, 3) := by decide +kernel
theorem dX_nextBorder_48 : decode cX_nextBorder 48 = .ok (.goto (-46), 3) := by decide +kernel
theorem dX_nextBorder_51 : decode cX_nextBorder 51 = .ok (.iconst 0, 1) := by decide +kernel
theorem dX_nextBorder_52 : decode cX_nextBorder 52 = .ok (.ireturn, 1) := by decide +kernel
theorem dX_roundCost_0 : decode cX_roundCost 0 = .ok (.iload_n 1, 1) := by decide +kernel
theorem dX_roundCost_1 : decode cX_roundCost 1 = .ok (.iload_n 2, 1) := by decide +kernel
theorem dX_roundCost_2 : decode cX_roundCost 2 = .ok (.iload_n 3, 1) := by decide +kernel
theorem dX_roundCost_3 : decode cX_roundCost 3 = .ok (.iload 4, 2) := by decide +kernel
theorem dX_roundCost_5 : decode cX_roundCost 5 = .ok (.invokestatic 156, 3) := by decide +kernel
theorem dX_roundCost_8 : decode cX_roundCost 8 = .ok (.ifCond .ne 5, 3) := by decide +kernel
theorem dX_roundCost_11 : decode cX_roundCost 11 = .ok (.iconst (-1), 1) := by decide +kernel
theorem dX_roundCost_12 : decode cX_roundCost 12 = .ok (.ireturn, 1) := by decide +kernel
theorem dX_roundCost_13 : decode cX_roundCost 13 = .ok (.aload_n 0, 1) := by decide +kernel
theorem dX_roundCost_14 : decode cX_roundCost 14 = .ok (.getfield 10, 3) := by decide +kernel
theorem dX_roundCost_17 : decode cX_roundCost 17 = .ok (.iload_n 1, 1) := by decide +kernel
theorem dX_roundCost_18 : decode cX_roundCost 18 = .ok (.iload_n 2, 1) := by decide +kernel
theorem dX_roundCost_19 : decode cX_roundCost 19 = .ok (.iload_n 3, 1) := by decide +kernel
theorem dX_roundCost_20 : decode cX_roundCost 20 = .ok (.iload 4, 2) := by decide +kernel
theorem dX_roundCost_22 : decode cX_roundCost 22 = .ok (.invokevirtual 159, 3) := by decide +kernel
theorem dX_roundCost_25 : decode cX_roundCost 25 = .ok (.ireturn, 1) := by decide +kernel
theorem dM_tagStepsOf_0 : decode cM_tagStepsOf 0 = .ok (.aload_n 0, 1) := by decide +kernel
theorem dM_tagStepsOf_1 : decode cM_tagStepsOf 1 = .ok (.iload_n 1, 1) := by decide +kernel
theorem dM_tagStepsOf_2 : decode cM_tagStepsOf 2 = .ok (.iload_n 2, 1) := by decide +kernel
theorem dM_tagStepsOf_3 : decode cM_tagStepsOf 3 = .ok (.invokevirtual 52, 3) := by decide +kernel
theorem dM_tagStepsOf_6 : decode cM_tagStepsOf 6 = .ok (.ifCond .ne 5, 3) := by decide +kernel
theorem dM_tagStepsOf_9 : decode cM_tagStepsOf 9 = .ok (.iconst (-1), 1) := by decide +kernel
theorem dM_tagStepsOf_10 : decode cM_tagStepsOf 10 = .ok (.ireturn, 1) := by decide +kernel
theorem dM_tagStepsOf_11 : decode cM_tagStepsOf 11 = .ok (.aload_n 0, 1) := by decide +kernel
theorem dM_tagStepsOf_12 : decode cM_tagStepsOf 12 = .ok (.iload_n 1, 1) := by decide +kernel
theorem dM_tagStepsOf_13 : decode cM_tagStepsOf 13 = .ok (.iload_n 2, 1) := by decide +kernel
theorem dM_tagStepsOf_14 : decode cM_tagStepsOf 14 = .ok (.invokevirtual 56, 3) := by decide +kernel
theorem dM_tagStepsOf_17 : decode cM_tagStepsOf 17 = .ok (.iconst 1, 1) := by decide +kernel
theorem dM_tagStepsOf_18 : decode cM_tagStepsOf 18 = .ok (.if_icmp .ne 7, 3) := by decide +kernel
theorem dM_tagStepsOf_21 : decode cM_tagStepsOf 21 = .ok (.iconst 1, 1) := by decide +kernel
theorem dM_tagStepsOf_22 : decode cM_tagStepsOf 22 = .ok (.goto 4, 3) := by decide +kernel
theorem dM_tagStepsOf_25 : decode cM_tagStepsOf 25 = .ok (.iconst 0, 1) := by decide +kernel
theorem dM_tagStepsOf_26 : decode cM_tagStepsOf 26 = .ok (.istore 5, 2) := by decide +kernel
theorem dM_tagStepsOf_28 : decode cM_tagStepsOf 28 = .ok (.iload 5, 2) := by decide +kernel
theorem dM_tagStepsOf_30 : decode cM_tagStepsOf 30 = .ok (.ifCond .eq 7, 3) := by decide +kernel
theorem dM_tagStepsOf_33 : decode cM_tagStepsOf 33 = .ok (.iload_n 3, 1) := by decide +kernel
theorem dM_tagStepsOf_34 : decode cM_tagStepsOf 34 = .ok (.goto 5, 3) := by decide +kernel
theorem dM_tagStepsOf_37 : decode cM_tagStepsOf 37 = .ok (.iload 4, 2) := by decide +kernel
theorem dM_tagStepsOf_39 : decode cM_tagStepsOf 39 = .ok (.istore 6, 2) := by decide +kernel
theorem dM_tagStepsOf_41 : decode cM_tagStepsOf 41 = .ok (.iload 5, 2) := by decide +kernel
theorem dM_tagStepsOf_43 : decode cM_tagStepsOf 43 = .ok (.ifCond .eq 8, 3) := by decide +kernel
theorem dM_tagStepsOf_46 : decode cM_tagStepsOf 46 = .ok (.iload 4, 2) := by decide +kernel
theorem dM_tagStepsOf_48 : decode cM_tagStepsOf 48 = .ok (.goto 4, 3) := by decide +kernel
theorem dM_tagStepsOf_51 : decode cM_tagStepsOf 51 = .ok (.iload_n 3, 1) := by decide +kernel
theorem dM_tagStepsOf_52 : decode cM_tagStepsOf 52 = .ok (.iconst 2, 1) := by decide +kernel
theorem dM_tagStepsOf_53 : decode cM_tagStepsOf 53 = .ok (.idiv, 1) := by decide +kernel
theorem dM_tagStepsOf_54 : decode cM_tagStepsOf 54 = .ok (.istore 7, 2) := by decide +kernel
theorem dM_tagStepsOf_56 : decode cM_tagStepsOf 56 = .ok (.iload_n 3, 1) := by decide +kernel
theorem dM_tagStepsOf_57 : decode cM_tagStepsOf 57 = .ok (.iload 4, 2) := by decide +kernel
theorem dM_tagStepsOf_59 : decode cM_tagStepsOf 59 = .ok (.iadd, 1) := by decide +kernel
theorem dM_tagStepsOf_60 : decode cM_tagStepsOf 60 = .ok (.iconst 2, 1) := by decide +kernel
theorem dM_tagStepsOf_61 : decode cM_tagStepsOf 61 = .ok (.iadd, 1) := by decide +kernel
theorem dM_tagStepsOf_62 : decode cM_tagStepsOf 62 = .ok (.iconst 2, 1) := by decide +kernel
theorem dM_tagStepsOf_63 : decode cM_tagStepsOf 63 = .ok (.iconst 2, 1) := by decide +kernel
theorem dM_tagStepsOf_64 : decode cM_tagStepsOf 64 = .ok (.iload 6, 2) := by decide +kernel
theorem dM_tagStepsOf_66 : decode cM_tagStepsOf 66 = .ok (.imul, 1) := by decide +kernel
theorem dM_tagStepsOf_67 : decode cM_tagStepsOf 67 = .ok (.aload_n 0, 1) := by decide +kernel
theorem dM_tagStepsOf_68 : decode cM_tagStepsOf 68 = .ok (.iload_n 1, 1) := by decide +kernel
theorem dM_tagStepsOf_69 : decode cM_tagStepsOf 69 = .ok (.iload_n 2, 1) := by decide +kernel
theorem dM_tagStepsOf_70 : decode cM_tagStepsOf 70 = .ok (.invokevirtual 59, 3) := by decide +kernel
theorem dM_tagStepsOf_73 : decode cM_tagStepsOf 73 = .ok (.iadd, 1) := by decide +kernel
theorem dM_tagStepsOf_74 : decode cM_tagStepsOf 74 = .ok (.iconst 2, 1) := by decide +kernel
theorem dM_tagStepsOf_75 : decode cM_tagStepsOf 75 = .ok (.iadd, 1) := by decide +kernel
theorem dM_tagStepsOf_76 : decode cM_tagStepsOf 76 = .ok (.iload 7, 2) := by decide +kernel
theorem dM_tagStepsOf_78 : decode cM_tagStepsOf 78 = .ok (.iadd, 1) := by decide +kernel
theorem dM_tagStepsOf_79 : decode cM_tagStepsOf 79 = .ok (.imul, 1) := by decide +kernel
theorem dM_tagStepsOf_80 : decode cM_tagStepsOf 80 = .ok (.iadd, 1) := by decide +kernel
theorem dM_tagStepsOf_81 : decode cM_tagStepsOf 81 = .ok (.ireturn, 1) := by decide +kernel
theorem dX_lockStep_0 : decode cX_lockStep 0 = .ok (.aload_n 0, 1) := by decide +kernel
theorem dX_lockStep_1 : decode cX_lockStep 1 = .ok (.getfield 10, 3) := by decide +kernel
theorem dX_lockStep_4 : decode cX_lockStep 4 = .ok (.getfield 113, 3) := by decide +kernel
theorem dX_lockStep_7 : decode cX_lockStep 7 = .ok (.aload_n 0, 1) := by decide +kernel
theorem dX_lockStep_8 : decode cX_lockStep 8 = .ok (.getfield 19, 3) := by decide +kernel
theorem dX_lockStep_11 : decode cX_lockStep 11 = .ok (.getfield 163, 3) := by decide +kernel
theorem dX_lockStep_14 : decode cX_lockStep 14 = .ok (.if_icmp .le 5, 3) := by decide +kernel
theorem dX_lockStep_17 : decode cX_lockStep 17 = .ok (.iconst (-1), 1) := by decide +kernel
theorem dX_lockStep_18 : decode cX_lockStep 18 = .ok (.ireturn, 1) := by decide +kernel
theorem dX_lockStep_19 : decode cX_lockStep 19 = .ok (.aload_n 0, 1) := by decide +kernel
theorem dX_lockStep_20 : decode cX_lockStep 20 = .ok (.getfield 19, 3) := by decide +kernel
theorem dX_lockStep_23 : decode cX_lockStep 23 = .ok (.aload_n 0, 1) := by decide +kernel
theorem dX_lockStep_24 : decode cX_lockStep 24 = .ok (.getfield 10, 3) := by decide +kernel
theorem dX_lockStep_27 : decode cX_lockStep 27 = .ok (.invokestatic 55, 3) := by decide +kernel
theorem dX_lockStep_30 : decode cX_lockStep 30 = .ok (.iload_n 1, 1) := by decide +kernel
theorem dX_lockStep_31 : decode cX_lockStep 31 = .ok (.sipush 200, 3) := by decide +kernel
theorem dX_lockStep_34 : decode cX_lockStep 34 = .ok (.invokestatic 166, 3) := by decide +kernel
theorem dX_lockStep_37 : decode cX_lockStep 37 = .ok (.istore_n 2, 1) := by decide +kernel
theorem dX_lockStep_38 : decode cX_lockStep 38 = .ok (.iconst 0, 1) := by decide +kernel
theorem dX_lockStep_39 : decode cX_lockStep 39 = .ok (.istore_n 3, 1) := by decide +kernel
theorem dX_lockStep_40 : decode cX_lockStep 40 = .ok (.iload_n 3, 1) := by decide +kernel
theorem dX_lockStep_41 : decode cX_lockStep 41 = .ok (.iload_n 2, 1) := by decide +kernel
theorem dX_lockStep_42 : decode cX_lockStep 42 = .ok (.if_icmp .ge 69, 3) := by decide +kernel
theorem dX_lockStep_45 : decode cX_lockStep 45 = .ok (.aload_n 0, 1) := by decide +kernel
theorem dX_lockStep_46 : decode cX_lockStep 46 = .ok (.getfield 10, 3) := by decide +kernel
theorem dX_lockStep_49 : decode cX_lockStep 49 = .ok (.invokevirtual 125, 3) := by decide +kernel
theorem dX_lockStep_52 : decode cX_lockStep 52 = .ok (.istore 4, 2) := by decide +kernel
theorem dX_lockStep_54 : decode cX_lockStep 54 = .ok (.iload 4, 2) := by decide +kernel
theorem dX_lockStep_56 : decode cX_lockStep 56 = .ok (.bipush (-2), 2) := by decide +kernel
theorem dX_lockStep_58 : decode cX_lockStep 58 = .ok (.if_icmp .ne 6, 3) := by decide +kernel
theorem dX_lockStep_61 : decode cX_lockStep 61 = .ok (.bipush (-2), 2) := by decide +kernel
theorem dX_lockStep_63 : decode cX_lockStep 63 = .ok (.ireturn, 1) := by decide +kernel
theorem dX_lockStep_64 : decode cX_lockStep 64 = .ok (.iload 4, 2) := by decide +kernel
theorem dX_lockStep_66 : decode cX_lockStep 66 = .ok (.ifCond .ne 21, 3) := by decide +kernel
theorem dX_lockStep_69 : decode cX_lockStep 69 = .ok (.aload_n 0, 1) := by decide +kernel
theorem dX_lockStep_70 : decode cX_lockStep 70 = .ok (.getfield 19, 3) := by decide +kernel
theorem dX_lockStep_73 : decode cX_lockStep 73 = .ok (.invokevirtual 128, 3) := by decide +kernel
theorem dX_lockStep_76 : decode cX_lockStep 76 = .ok (.ifCond .ne 7, 3) := by decide +kernel
theorem dX_lockStep_79 : decode cX_lockStep 79 = .ok (.iconst 0, 1) := by decide +kernel
theorem dX_lockStep_80 : decode cX_lockStep 80 = .ok (.goto 6, 3) := by decide +kernel
theorem dX_lockStep_83 : decode cX_lockStep 83 = .ok (.iconst 1, 1) := by decide +kernel
theorem dX_lockStep_84 : decode cX_lockStep 84 = .ok (.iload_n 3, 1) := by decide +kernel
theorem dX_lockStep_85 : decode cX_lockStep 85 = .ok (.iadd, 1) := by decide +kernel
theorem dX_lockStep_86 : decode cX_lockStep 86 = .ok (.ireturn, 1) := by decide +kernel
theorem dX_lockStep_87 : decode cX_lockStep 87 = .ok (.aload_n 0, 1) := by decide +kernel
theorem dX_lockStep_88 : decode cX_lockStep 88 = .ok (.getfield 10, 3) := by decide +kernel
theorem dX_lockStep_91 : decode cX_lockStep 91 = .ok (.invokevirtual 169, 3) := by decide +kernel
theorem dX_lockStep_94 : decode cX_lockStep 94 = .ok (.aload_n 0, 1) := by decide +kernel
theorem dX_lockStep_95 : decode cX_lockStep 95 = .ok (.invokevirtual 170, 3) := by decide +kernel
theorem dX_lockStep_98 : decode cX_lockStep 98 = .ok (.ifCond .ne 7, 3) := by decide +kernel
theorem dX_lockStep_101 : decode cX_lockStep 101 = .ok (.iconst 1, 1) := by decide +kernel
theorem dX_lockStep_102 : decode cX_lockStep 102 = .ok (.iload_n 3, 1) := by decide +kernel
theorem dX_lockStep_103 : decode cX_lockStep 103 = .ok (.iadd, 1) := by decide +kernel
theorem dX_lockStep_104 : decode cX_lockStep 104 = .ok (.ireturn, 1) := by decide +kernel
theorem dX_lockStep_105 : decode cX_lockStep 105 = .ok (.iinc 3 1, 3) := by decide +kernel
theorem dX_lockStep_108 : decode cX_lockStep 108 = .ok (.goto (-68), 3) := by decide +kernel
theorem dX_lockStep_111 : decode cX_lockStep 111 = .ok (.iconst 0, 1) := by decide +kernel
theorem dX_lockStep_112 : decode cX_lockStep 112 = .ok (.ireturn, 1) := by decide +kernel
theorem dX_tagFollowsTape_0 : decode cX_tagFollowsTape 0 = .ok (.aload_n 0, 1) := by decide +kernel
theorem dX_tagFollowsTape_1 : decode cX_tagFollowsTape 1 = .ok (.invokevirtual 181, 3) := by decide +kernel
theorem dX_tagFollowsTape_4 : decode cX_tagFollowsTape 4 = .ok (.ifCond .le 21, 3) := by decide +kernel
theorem dX_tagFollowsTape_7 : decode cX_tagFollowsTape 7 = .ok (.aload_n 0, 1) := by decide +kernel
theorem dX_tagFollowsTape_8 : decode cX_tagFollowsTape 8 = .ok (.getfield 33, 3) := by decide +kernel
theorem dX_tagFollowsTape_11 : decode cX_tagFollowsTape 11 = .ok (.aload_n 0, 1) := by decide +kernel
theorem dX_tagFollowsTape_12 : decode cX_tagFollowsTape 12 = .ok (.getfield 10, 3) := by decide +kernel
theorem dX_tagFollowsTape_15 : decode cX_tagFollowsTape 15 = .ok (.invokevirtual 184, 3) := by decide +kernel
theorem dX_tagFollowsTape_18 : decode cX_tagFollowsTape 18 = .ok (.ifCond .eq 7, 3) := by decide +kernel
theorem dX_tagFollowsTape_21 : decode cX_tagFollowsTape 21 = .ok (.iconst 1, 1) := by decide +kernel
theorem dX_tagFollowsTape_22 : decode cX_tagFollowsTape 22 = .ok (.goto 4, 3) := by decide +kernel
theorem dX_tagFollowsTape_25 : decode cX_tagFollowsTape 25 = .ok (.iconst 0, 1) := by decide +kernel
theorem dX_tagFollowsTape_26 : decode cX_tagFollowsTape 26 = .ok (.ireturn, 1) := by decide +kernel
theorem dC_isOf_0 : decode cC_isOf 0 = .ok (.aload_n 0, 1) := by decide +kernel
theorem dC_isOf_1 : decode cC_isOf 1 = .ok (.getfield 7, 3) := by decide +kernel
theorem dC_isOf_4 : decode cC_isOf 4 = .ok (.aload_n 1, 1) := by decide +kernel
theorem dC_isOf_5 : decode cC_isOf 5 = .ok (.getfield 22, 3) := by decide +kernel
theorem dC_isOf_8 : decode cC_isOf 8 = .ok (.if_icmp .ne 40, 3) := by decide +kernel
theorem dC_isOf_11 : decode cC_isOf 11 = .ok (.aload_n 0, 1) := by decide +kernel
theorem dC_isOf_12 : decode cC_isOf 12 = .ok (.getfield 13, 3) := by decide +kernel
theorem dC_isOf_15 : decode cC_isOf 15 = .ok (.aload_n 1, 1) := by decide +kernel
theorem dC_isOf_16 : decode cC_isOf 16 = .ok (.getfield 25, 3) := by decide +kernel
theorem dC_isOf_19 : decode cC_isOf 19 = .ok (.if_icmp .ne 29, 3) := by decide +kernel
theorem dC_isOf_22 : decode cC_isOf 22 = .ok (.aload_n 0, 1) := by decide +kernel
theorem dC_isOf_23 : decode cC_isOf 23 = .ok (.getfield 16, 3) := by decide +kernel
theorem dC_isOf_26 : decode cC_isOf 26 = .ok (.aload_n 1, 1) := by decide +kernel
theorem dC_isOf_27 : decode cC_isOf 27 = .ok (.getfield 41, 3) := by decide +kernel
theorem dC_isOf_30 : decode cC_isOf 30 = .ok (.if_icmp .ne 18, 3) := by decide +kernel
theorem dC_isOf_33 : decode cC_isOf 33 = .ok (.aload_n 0, 1) := by decide +kernel
theorem dC_isOf_34 : decode cC_isOf 34 = .ok (.getfield 19, 3) := by decide +kernel
theorem dC_isOf_37 : decode cC_isOf 37 = .ok (.aload_n 1, 1) := by decide +kernel
theorem dC_isOf_38 : decode cC_isOf 38 = .ok (.getfield 42, 3) := by decide +kernel
theorem dC_isOf_41 : decode cC_isOf 41 = .ok (.if_icmp .ne 7, 3) := by decide +kernel
theorem dC_isOf_44 : decode cC_isOf 44 = .ok (.iconst 1, 1) := by decide +kernel
theorem dC_isOf_45 : decode cC_isOf 45 = .ok (.goto 4, 3) := by decide +kernel
theorem dC_isOf_48 : decode cC_isOf 48 = .ok (.iconst 0, 1) := by decide +kernel
theorem dC_isOf_49 : decode cC_isOf 49 = .ok (.ireturn, 1) := by decide +kernel
theorem dR_init_0 : decode cR_init 0 = .ok (.aload_n 0, 1) := by decide +kernel
theorem dR_init_1 : decode cR_init 1 = .ok (.invokespecial 1, 3) := by decide +kernel
theorem dR_init_4 : decode cR_init 4 = .ok (.aload_n 0, 1) := by decide +kernel
theorem dR_init_5 : decode cR_init 5 = .ok (.bipush 16, 2) := by decide +kernel
theorem dR_init_7 : decode cR_init 7 = .ok (.newarray .boolean, 2) := by decide +kernel
theorem dR_init_9 : decode cR_init 9 = .ok (.putfield 7, 3) := by decide +kernel
theorem dR_init_12 : decode cR_init 12 = .ok (.aload_n 0, 1) := by decide +kernel
theorem dR_init_13 : decode cR_init 13 = .ok (.bipush 16, 2) := by decide +kernel
theorem dR_init_15 : decode cR_init 15 = .ok (.newarray .int, 2) := by decide +kernel
theorem dR_init_17 : decode cR_init 17 = .ok (.putfield 13, 3) := by decide +kernel
theorem dR_init_20 : decode cR_init 20 = .ok (.aload_n 0, 1) := by decide +kernel
theorem dR_init_21 : decode cR_init 21 = .ok (.bipush 16, 2) := by decide +kernel
theorem dR_init_23 : decode cR_init 23 = .ok (.newarray .int, 2) := by decide +kernel
theorem dR_init_25 : decode cR_init 25 = .ok (.putfield 17, 3) := by decide +kernel
theorem dR_init_28 : decode cR_init 28 = .ok (.aload_n 0, 1) := by decide +kernel
theorem dR_init_29 : decode cR_init 29 = .ok (.bipush 16, 2) := by decide +kernel
