theorem dR_toTheLeft_138 : decode cR_toTheLeft 138 = .ok (.aload_n 0, 1) := by decide +kernel
theorem dR_toTheLeft_139 : decode cR_toTheLeft 139 = .ok (.iload_n 1, 1) := by decide +kernel
theorem dR_toTheLeft_140 : decode cR_toTheLeft 140 = .ok (.bipush 16, 2) := by decide +kernel
theorem dR_toTheLeft_142 : decode cR_toTheLeft 142 = .ok (.iadd, 1) := by decide +kernel
theorem dR_toTheLeft_143 : decode cR_toTheLeft 143 = .ok (.iconst 0, 1) := by decide +kernel
theorem dR_toTheLeft_144 : decode cR_toTheLeft 144 = .ok (.invokevirtual 88, 3) := by decide +kernel
theorem dR_toTheLeft_147 : decode cR_toTheLeft 147 = .ok (.aload_n 0, 1) := by decide +kernel
theorem dR_toTheLeft_148 : decode cR_toTheLeft 148 = .ok (.iload_n 1, 1) := by decide +kernel
theorem dR_toTheLeft_149 : decode cR_toTheLeft 149 = .ok (.bipush 16, 2) := by decide +kernel
theorem dR_toTheLeft_151 : decode cR_toTheLeft 151 = .ok (.iadd, 1) := by decide +kernel
theorem dR_toTheLeft_152 : decode cR_toTheLeft 152 = .ok (.iload_n 1, 1) := by decide +kernel
theorem dR_toTheLeft_153 : decode cR_toTheLeft 153 = .ok (.bipush 9, 2) := by decide +kernel
theorem dR_toTheLeft_155 : decode cR_toTheLeft 155 = .ok (.iadd, 1) := by decide +kernel
theorem dR_toTheLeft_156 : decode cR_toTheLeft 156 = .ok (.iconst 0, 1) := by decide +kernel
theorem dR_toTheLeft_157 : decode cR_toTheLeft 157 = .ok (.invokevirtual 92, 3) := by decide +kernel
theorem dR_toTheLeft_160 : decode cR_toTheLeft 160 = .ok (.aload_n 0, 1) := by decide +kernel
theorem dR_toTheLeft_161 : decode cR_toTheLeft 161 = .ok (.iload_n 1, 1) := by decide +kernel
theorem dR_toTheLeft_162 : decode cR_toTheLeft 162 = .ok (.bipush 17, 2) := by decide +kernel
theorem dR_toTheLeft_164 : decode cR_toTheLeft 164 = .ok (.iadd, 1) := by decide +kernel
theorem dR_toTheLeft_165 : decode cR_toTheLeft 165 = .ok (.iload_n 1, 1) := by decide +kernel
theorem dR_toTheLeft_166 : decode cR_toTheLeft 166 = .ok (.bipush 11, 2) := by decide +kernel
theorem dR_toTheLeft_168 : decode cR_toTheLeft 168 = .ok (.iadd, 1) := by decide +kernel
theorem dR_toTheLeft_169 : decode cR_toTheLeft 169 = .ok (.iconst 0, 1) := by decide +kernel
theorem dR_toTheLeft_170 : decode cR_toTheLeft 170 = .ok (.invokevirtual 92, 3) := by decide +kernel
theorem dR_toTheLeft_173 : decode cR_toTheLeft 173 = .ok (.aload_n 0, 1) := by decide +kernel
theorem dR_toTheLeft_174 : decode cR_toTheLeft 174 = .ok (.iload_n 1, 1) := by decide +kernel
theorem dR_toTheLeft_175 : decode cR_toTheLeft 175 = .ok (.bipush 12, 2) := by decide +kernel
theorem dR_toTheLeft_177 : decode cR_toTheLeft 177 = .ok (.iadd, 1) := by decide +kernel
theorem dR_toTheLeft_178 : decode cR_toTheLeft 178 = .ok (.iload_n 3, 1) := by decide +kernel
theorem dR_toTheLeft_179 : decode cR_toTheLeft 179 = .ok (.iconst 0, 1) := by decide +kernel
theorem dR_toTheLeft_180 : decode cR_toTheLeft 180 = .ok (.iadd, 1) := by decide +kernel
theorem dR_toTheLeft_181 : decode cR_toTheLeft 181 = .ok (.iconst 0, 1) := by decide +kernel
theorem dR_toTheLeft_182 : decode cR_toTheLeft 182 = .ok (.invokevirtual 92, 3) := by decide +kernel
theorem dR_toTheLeft_185 : decode cR_toTheLeft 185 = .ok (.aload_n 0, 1) := by decide +kernel
theorem dR_toTheLeft_186 : decode cR_toTheLeft 186 = .ok (.iload_n 1, 1) := by decide +kernel
theorem dR_toTheLeft_187 : decode cR_toTheLeft 187 = .ok (.bipush 14, 2) := by decide +kernel
theorem dR_toTheLeft_189 : decode cR_toTheLeft 189 = .ok (.iadd, 1) := by decide +kernel
theorem dR_toTheLeft_190 : decode cR_toTheLeft 190 = .ok (.iload_n 3, 1) := by decide +kernel
theorem dR_toTheLeft_191 : decode cR_toTheLeft 191 = .ok (.iconst 1, 1) := by decide +kernel
theorem dR_toTheLeft_192 : decode cR_toTheLeft 192 = .ok (.iadd, 1) := by decide +kernel
theorem dR_toTheLeft_193 : decode cR_toTheLeft 193 = .ok (.iconst 0, 1) := by decide +kernel
theorem dR_toTheLeft_194 : decode cR_toTheLeft 194 = .ok (.invokevirtual 92, 3) := by decide +kernel
theorem dR_toTheLeft_197 : decode cR_toTheLeft 197 = .ok (.aload_n 0, 1) := by decide +kernel
theorem dR_toTheLeft_198 : decode cR_toTheLeft 198 = .ok (.iload_n 1, 1) := by decide +kernel
theorem dR_toTheLeft_199 : decode cR_toTheLeft 199 = .ok (.bipush 8, 2) := by decide +kernel
theorem dR_toTheLeft_201 : decode cR_toTheLeft 201 = .ok (.iadd, 1) := by decide +kernel
theorem dR_toTheLeft_202 : decode cR_toTheLeft 202 = .ok (.iload_n 3, 1) := by decide +kernel
theorem dR_toTheLeft_203 : decode cR_toTheLeft 203 = .ok (.iconst 2, 1) := by decide +kernel
theorem dR_toTheLeft_204 : decode cR_toTheLeft 204 = .ok (.iadd, 1) := by decide +kernel
theorem dR_toTheLeft_205 : decode cR_toTheLeft 205 = .ok (.iconst 0, 1) := by decide +kernel
theorem dR_toTheLeft_206 : decode cR_toTheLeft 206 = .ok (.invokevirtual 92, 3) := by decide +kernel
theorem dR_toTheLeft_209 : decode cR_toTheLeft 209 = .ok (.aload_n 0, 1) := by decide +kernel
theorem dR_toTheLeft_210 : decode cR_toTheLeft 210 = .ok (.iload_n 1, 1) := by decide +kernel
theorem dR_toTheLeft_211 : decode cR_toTheLeft 211 = .ok (.bipush 10, 2) := by decide +kernel
theorem dR_toTheLeft_213 : decode cR_toTheLeft 213 = .ok (.iadd, 1) := by decide +kernel
theorem dR_toTheLeft_214 : decode cR_toTheLeft 214 = .ok (.iload_n 3, 1) := by decide +kernel
theorem dR_toTheLeft_215 : decode cR_toTheLeft 215 = .ok (.iconst 3, 1) := by decide +kernel
theorem dR_toTheLeft_216 : decode cR_toTheLeft 216 = .ok (.iadd, 1) := by decide +kernel
theorem dR_toTheLeft_217 : decode cR_toTheLeft 217 = .ok (.iconst 0, 1) := by decide +kernel
theorem dR_toTheLeft_218 : decode cR_toTheLeft 218 = .ok (.invokevirtual 92, 3) := by decide +kernel
theorem dR_toTheLeft_221 : decode cR_toTheLeft 221 = .ok (.aload_n 0, 1) := by decide +kernel
theorem dR_toTheLeft_222 : decode cR_toTheLeft 222 = .ok (.iload_n 1, 1) := by decide +kernel
theorem dR_toTheLeft_223 : decode cR_toTheLeft 223 = .ok (.bipush 13, 2) := by decide +kernel
theorem dR_toTheLeft_225 : decode cR_toTheLeft 225 = .ok (.iadd, 1) := by decide +kernel
theorem dR_toTheLeft_226 : decode cR_toTheLeft 226 = .ok (.iload 4, 2) := by decide +kernel
theorem dR_toTheLeft_228 : decode cR_toTheLeft 228 = .ok (.iconst 0, 1) := by decide +kernel
theorem dR_toTheLeft_229 : decode cR_toTheLeft 229 = .ok (.iadd, 1) := by decide +kernel
theorem dR_toTheLeft_230 : decode cR_toTheLeft 230 = .ok (.iconst 0, 1) := by decide +kernel
theorem dR_toTheLeft_231 : decode cR_toTheLeft 231 = .ok (.invokevirtual 92, 3) := by decide +kernel
theorem dR_toTheLeft_234 : decode cR_toTheLeft 234 = .ok (.aload_n 0, 1) := by decide +kernel
theorem dR_toTheLeft_235 : decode cR_toTheLeft 235 = .ok (.iload_n 1, 1) := by decide +kernel
theorem dR_toTheLeft_236 : decode cR_toTheLeft 236 = .ok (.bipush 15, 2) := by decide +kernel
theorem dR_toTheLeft_238 : decode cR_toTheLeft 238 = .ok (.iadd, 1) := by decide +kernel
theorem dR_toTheLeft_239 : decode cR_toTheLeft 239 = .ok (.iload 4, 2) := by decide +kernel
theorem dR_toTheLeft_241 : decode cR_toTheLeft 241 = .ok (.iconst 1, 1) := by decide +kernel
theorem dR_toTheLeft_242 : decode cR_toTheLeft 242 = .ok (.iadd, 1) := by decide +kernel
theorem dR_toTheLeft_243 : decode cR_toTheLeft 243 = .ok (.iconst 0, 1) := by decide +kernel
theorem dR_toTheLeft_244 : decode cR_toTheLeft 244 = .ok (.invokevirtual 92, 3) := by decide +kernel
theorem dR_toTheLeft_247 : decode cR_toTheLeft 247 = .ok (.aload_n 0, 1) := by decide +kernel
theorem dR_toTheLeft_248 : decode cR_toTheLeft 248 = .ok (.iload_n 1, 1) := by decide +kernel
theorem dR_toTheLeft_249 : decode cR_toTheLeft 249 = .ok (.bipush 9, 2) := by decide +kernel
theorem dR_toTheLeft_251 : decode cR_toTheLeft 251 = .ok (.iadd, 1) := by decide +kernel
theorem dR_toTheLeft_252 : decode cR_toTheLeft 252 = .ok (.iload 4, 2) := by decide +kernel
theorem dR_toTheLeft_254 : decode cR_toTheLeft 254 = .ok (.iconst 2, 1) := by decide +kernel
theorem dR_toTheLeft_255 : decode cR_toTheLeft 255 = .ok (.iadd, 1) := by decide +kernel
theorem dR_toTheLeft_256 : decode cR_toTheLeft 256 = .ok (.iconst 0, 1) := by decide +kernel
theorem dR_toTheLeft_257 : decode cR_toTheLeft 257 = .ok (.invokevirtual 92, 3) := by decide +kernel
theorem dR_toTheLeft_260 : decode cR_toTheLeft 260 = .ok (.aload_n 0, 1) := by decide +kernel
theorem dR_toTheLeft_261 : decode cR_toTheLeft 261 = .ok (.iload_n 1, 1) := by decide +kernel
theorem dR_toTheLeft_262 : decode cR_toTheLeft 262 = .ok (.bipush 11, 2) := by decide +kernel
theorem dR_toTheLeft_264 : decode cR_toTheLeft 264 = .ok (.iadd, 1) := by decide +kernel
theorem dR_toTheLeft_265 : decode cR_toTheLeft 265 = .ok (.iload 4, 2) := by decide +kernel
theorem dR_toTheLeft_267 : decode cR_toTheLeft 267 = .ok (.iconst 3, 1) := by decide +kernel
theorem dR_toTheLeft_268 : decode cR_toTheLeft 268 = .ok (.iadd, 1) := by decide +kernel
theorem dR_toTheLeft_269 : decode cR_toTheLeft 269 = .ok (.iconst 0, 1) := by decide +kernel
theorem dR_toTheLeft_270 : decode cR_toTheLeft 270 = .ok (.invokevirtual 92, 3) := by decide +kernel
theorem dR_toTheLeft_273 : decode cR_toTheLeft 273 = .ok (.return_, 1) := by decide +kernel
theorem dR_putCode_0 : decode cR_putCode 0 = .ok (.aload_n 0, 1) := by decide +kernel
theorem dR_putCode_1 : decode cR_putCode 1 = .ok (.iconst 0, 1) := by decide +kernel
theorem dR_putCode_2 : decode cR_putCode 2 = .ok (.putfield 102, 3) := by decide +kernel
theorem dR_putCode_5 : decode cR_putCode 5 = .ok (.aload_n 0, 1) := by decide +kernel
theorem dR_putCode_6 : decode cR_putCode 6 = .ok (.iconst 0, 1) := by decide +kernel
theorem dR_putCode_7 : decode cR_putCode 7 = .ok (.putfield 105, 3) := by decide +kernel
theorem dR_putCode_10 : decode cR_putCode 10 = .ok (.aload_n 0, 1) := by decide +kernel
theorem dR_putCode_11 : decode cR_putCode 11 = .ok (.getfield 23, 3) := by decide +kernel
theorem dR_putCode_14 : decode cR_putCode 14 = .ok (.aload_n 0, 1) := by decide +kernel
theorem dR_putCode_15 : decode cR_putCode 15 = .ok (.getfield 61, 3) := by decide +kernel
theorem dR_putCode_18 : decode cR_putCode 18 = .ok (.iconst 0, 1) := by decide +kernel
theorem dR_putCode_19 : decode cR_putCode 19 = .ok (.invokestatic 123, 3) := by decide +kernel
theorem dR_putCode_22 : decode cR_putCode 22 = .ok (.istore_n 1, 1) := by decide +kernel
theorem dR_putCode_23 : decode cR_putCode 23 = .ok (.aload_n 0, 1) := by decide +kernel
theorem dR_putCode_24 : decode cR_putCode 24 = .ok (.iload_n 1, 1) := by decide +kernel
theorem dR_putCode_25 : decode cR_putCode 25 = .ok (.iconst 0, 1) := by decide +kernel
theorem dR_putCode_26 : decode cR_putCode 26 = .ok (.iadd, 1) := by decide +kernel
theorem dR_putCode_27 : decode cR_putCode 27 = .ok (.invokevirtual 127, 3) := by decide +kernel
theorem dR_putCode_30 : decode cR_putCode 30 = .ok (.aload_n 0, 1) := by decide +kernel
theorem dR_putCode_31 : decode cR_putCode 31 = .ok (.iconst 0, 1) := by decide +kernel
theorem dR_putCode_32 : decode cR_putCode 32 = .ok (.invokevirtual 127, 3) := by decide +kernel
theorem dR_putCode_35 : decode cR_putCode 35 = .ok (.iconst 0, 1) := by decide +kernel
theorem dR_putCode_36 : decode cR_putCode 36 = .ok (.istore_n 2, 1) := by decide +kernel
theorem dR_putCode_37 : decode cR_putCode 37 = .ok (.iload_n 2, 1) := by decide +kernel
theorem dR_putCode_38 : decode cR_putCode 38 = .ok (.aload_n 0, 1) := by decide +kernel
theorem dR_putCode_39 : decode cR_putCode 39 = .ok (.getfield 64, 3) := by decide +kernel
theorem dR_putCode_42 : decode cR_putCode 42 = .ok (.if_icmp .ge 21, 3) := by decide +kernel
theorem dR_putCode_45 : decode cR_putCode 45 = .ok (.aload_n 0, 1) := by decide +kernel
theorem dR_putCode_46 : decode cR_putCode 46 = .ok (.iload_n 1, 1) := by decide +kernel
theorem dR_putCode_47 : decode cR_putCode 47 = .ok (.iconst 1, 1) := by decide +kernel
theorem dR_putCode_48 : decode cR_putCode 48 = .ok (.iadd, 1) := by decide +kernel
theorem dR_putCode_49 : decode cR_putCode 49 = .ok (.invokevirtual 127, 3) := by decide +kernel
theorem dR_putCode_52 : decode cR_putCode 52 = .ok (.aload_n 0, 1) := by decide +kernel
theorem dR_putCode_53 : decode cR_putCode 53 = .ok (.iconst 0, 1) := by decide +kernel
theorem dR_putCode_54 : decode cR_putCode 54 = .ok (.invokevirtual 127, 3) := by decide +kernel
theorem dR_putCode_57 : decode cR_putCode 57 = .ok (.iinc 2 1, 3) := by decide +kernel
theorem dR_putCode_60 : decode cR_putCode 60 = .ok (.goto (-23), 3) := by decide +kernel
theorem dR_putCode_63 : decode cR_putCode 63 = .ok (.aload_n 0, 1) := by decide +kernel
theorem dR_putCode_64 : decode cR_putCode 64 = .ok (.iload_n 1, 1) := by decide +kernel
theorem dR_putCode_65 : decode cR_putCode 65 = .ok (.iconst 2, 1) := by decide +kernel
theorem dR_putCode_66 : decode cR_putCode 66 = .ok (.iadd, 1) := by decide +kernel
theorem dR_putCode_67 : decode cR_putCode 67 = .ok (.invokevirtual 127, 3) := by decide +kernel
theorem dR_putCode_70 : decode cR_putCode 70 = .ok (.aload_n 0, 1) := by decide +kernel
theorem dR_putCode_71 : decode cR_putCode 71 = .ok (.iconst 0, 1) := by decide +kernel
theorem dR_putCode_72 : decode cR_putCode 72 = .ok (.invokevirtual 127, 3) := by decide +kernel
theorem dR_putCode_75 : decode cR_putCode 75 = .ok (.iconst 0, 1) := by decide +kernel
theorem dR_putCode_76 : decode cR_putCode 76 = .ok (.istore_n 2, 1) := by decide +kernel
theorem dR_putCode_77 : decode cR_putCode 77 = .ok (.iload_n 2, 1) := by decide +kernel
theorem dR_putCode_78 : decode cR_putCode 78 = .ok (.aload_n 0, 1) := by decide +kernel
theorem dR_putCode_79 : decode cR_putCode 79 = .ok (.getfield 67, 3) := by decide +kernel
theorem dR_putCode_82 : decode cR_putCode 82 = .ok (.if_icmp .ge 21, 3) := by decide +kernel
theorem dR_putCode_85 : decode cR_putCode 85 = .ok (.aload_n 0, 1) := by decide +kernel
theorem dR_putCode_86 : decode cR_putCode 86 = .ok (.iload_n 1, 1) := by decide +kernel
theorem dR_putCode_87 : decode cR_putCode 87 = .ok (.iconst 3, 1) := by decide +kernel
theorem dR_putCode_88 : decode cR_putCode 88 = .ok (.iadd, 1) := by decide +kernel
theorem dR_putCode_89 : decode cR_putCode 89 = .ok (.invokevirtual 127, 3) := by decide +kernel
theorem dR_putCode_92 : decode cR_putCode 92 = .ok (.aload_n 0, 1) := by decide +kernel
theorem dR_putCode_93 : decode cR_putCode 93 = .ok (.iconst 0, 1) := by decide +kernel
theorem dR_putCode_94 : decode cR_putCode 94 = .ok (.invokevirtual 127, 3) := by decide +kernel
theorem dR_putCode_97 : decode cR_putCode 97 = .ok (.iinc 2 1, 3) := by decide +kernel
theorem dR_putCode_100 : decode cR_putCode 100 = .ok (.goto (-23), 3) := by decide +kernel
theorem dR_putCode_103 : decode cR_putCode 103 = .ok (.return_, 1) := by decide +kernel
theorem dR_push_0 : decode cR_push 0 = .ok (.aload_n 0, 1) := by decide +kernel
theorem dR_push_1 : decode cR_push 1 = .ok (.getfield 105, 3) := by decide +kernel
theorem dR_push_4 : decode cR_push 4 = .ok (.sipush 12000, 3) := by decide +kernel
theorem dR_push_7 : decode cR_push 7 = .ok (.if_icmp .ne 57, 3) := by decide +kernel
theorem dR_push_10 : decode cR_push 10 = .ok (.aload_n 0, 1) := by decide +kernel
theorem dR_push_11 : decode cR_push 11 = .ok (.getfield 102, 3) := by decide +kernel
theorem dR_push_14 : decode cR_push 14 = .ok (.istore_n 2, 1) := by decide +kernel
theorem dR_push_15 : decode cR_push 15 = .ok (.iload_n 2, 1) := by decide +kernel
theorem dR_push_16 : decode cR_push 16 = .ok (.aload_n 0, 1) := by decide +kernel
theorem dR_push_17 : decode cR_push 17 = .ok (.getfield 105, 3) := by decide +kernel
theorem dR_push_20 : decode cR_push 20 = .ok (.if_icmp .ge 26, 3) := by decide +kernel
theorem dR_push_23 : decode cR_push 23 = .ok (.aload_n 0, 1) := by decide +kernel
theorem dR_push_24 : decode cR_push 24 = .ok (.getfield 36, 3) := by decide +kernel
theorem dR_push_27 : decode cR_push 27 = .ok (.iload_n 2, 1) := by decide +kernel
theorem dR_push_28 : decode cR_push 28 = .ok (.aload_n 0, 1) := by decide +kernel
theorem dR_push_29 : decode cR_push 29 = .ok (.getfield 102, 3) := by decide +kernel
theorem dR_push_32 : decode cR_push 32 = .ok (.isub, 1) := by decide +kernel
theorem dR_push_33 : decode cR_push 33 = .ok (.aload_n 0, 1) := by decide +kernel
theorem dR_push_34 : decode cR_push 34 = .ok (.getfield 36, 3) := by decide +kernel
theorem dR_push_37 : decode cR_push 37 = .ok (.iload_n 2, 1) := by decide +kernel
theorem dR_push_38 : decode cR_push 38 = .ok (.iaload, 1) := by decide +kernel
theorem dR_push_39 : decode cR_push 39 = .ok (.iastore, 1) := by decide +kernel
theorem dR_push_40 : decode cR_push 40 = .ok (.iinc 2 1, 3) := by decide +kernel
theorem dR_push_43 : decode cR_push 43 = .ok (.goto (-28), 3) := by decide +kernel
theorem dR_push_46 : decode cR_push 46 = .ok (.aload_n 0, 1) := by decide +kernel
theorem dR_push_47 : decode cR_push 47 = .ok (.dup, 1) := by decide +kernel
theorem dR_push_48 : decode cR_push 48 = .ok (.getfield 105, 3) := by decide +kernel
theorem dR_push_51 : decode cR_push 51 = .ok (.aload_n 0, 1) := by decide +kernel
theorem dR_push_52 : decode cR_push 52 = .ok (.getfield 102, 3) := by decide +kernel
theorem dR_push_55 : decode cR_push 55 = .ok (.isub, 1) := by decide +kernel
theorem dR_push_56 : decode cR_push 56 = .ok (.putfield 105, 3) := by decide +kernel
theorem dR_push_59 : decode cR_push 59 = .ok (.aload_n 0, 1) := by decide +kernel
theorem dR_push_60 : decode cR_push 60 = .ok (.iconst 0, 1) := by decide +kernel
theorem dR_push_61 : decode cR_push 61 = .ok (.putfield 102, 3) := by decide +kernel
theorem dR_push_64 : decode cR_push 64 = .ok (.aload_n 0, 1) := by decide +kernel
theorem dR_push_65 : decode cR_push 65 = .ok (.getfield 36, 3) := by decide +kernel
theorem dR_push_68 : decode cR_push 68 = .ok (.aload_n 0, 1) := by decide +kernel
theorem dR_push_69 : decode cR_push 69 = .ok (.getfield 105, 3) := by decide +kernel
theorem dR_push_72 : decode cR_push 72 = .ok (.iload_n 1, 1) := by decide +kernel
theorem dR_push_73 : decode cR_push 73 = .ok (.iastore, 1) := by decide +kernel
theorem dR_push_74 : decode cR_push 74 = .ok (.aload_n 0, 1) := by decide +kernel
theorem dR_push_75 : decode cR_push 75 = .ok (.dup, 1) := by decide +kernel
theorem dR_push_76 : decode cR_push 76 = .ok (.getfield 105, 3) := by decide +kernel
theorem dR_push_79 : decode cR_push 79 = .ok (.iconst 1, 1) := by decide +kernel
theorem dR_push_80 : decode cR_push 80 = .ok (.iadd, 1) := by decide +kernel
theorem dR_push_81 : decode cR_push 81 = .ok (.putfield 105, 3) := by decide +kernel
theorem dR_push_84 : decode cR_push 84 = .ok (.return_, 1) := by decide +kernel
theorem dR_ownTag_0 : decode cR_ownTag 0 = .ok (.iload_n 1, 1) := by decide +kernel
theorem dR_ownTag_1 : decode cR_ownTag 1 = .ok (.iconst 1, 1) := by decide +kernel
theorem dR_ownTag_2 : decode cR_ownTag 2 = .ok (.if_icmp .lt 10, 3) := by decide +kernel
theorem dR_ownTag_5 : decode cR_ownTag 5 = .ok (.iload_n 1, 1) := by decide +kernel
theorem dR_ownTag_6 : decode cR_ownTag 6 = .ok (.sipush 300, 3) := by decide +kernel
theorem dR_ownTag_9 : decode cR_ownTag 9 = .ok (.if_icmp .le 5, 3) := by decide +kernel
theorem dR_ownTag_12 : decode cR_ownTag 12 = .ok (.iconst 0, 1) := by decide +kernel
theorem dR_ownTag_13 : decode cR_ownTag 13 = .ok (.ireturn, 1) := by decide +kernel
theorem dR_ownTag_14 : decode cR_ownTag 14 = .ok (.aload_n 0, 1) := by decide +kernel
theorem dR_ownTag_15 : decode cR_ownTag 15 = .ok (.iload_n 1, 1) := by decide +kernel
theorem dR_ownTag_16 : decode cR_ownTag 16 = .ok (.invokevirtual 134, 3) := by decide +kernel
theorem dR_ownTag_19 : decode cR_ownTag 19 = .ok (.aload_n 0, 1) := by decide +kernel
theorem dR_ownTag_20 : decode cR_ownTag 20 = .ok (.iconst 0, 1) := by decide +kernel
theorem dR_ownTag_21 : decode cR_ownTag 21 = .ok (.putfield 137, 3) := by decide +kernel
theorem dR_ownTag_24 : decode cR_ownTag 24 = .ok (.iconst 1, 1) := by decide +kernel
theorem dR_ownTag_25 : decode cR_ownTag 25 = .ok (.ireturn, 1) := by decide +kernel
theorem dR_extend_0 : decode cR_extend 0 = .ok (.aload_n 0, 1) := by decide +kernel
theorem dR_extend_1 : decode cR_extend 1 = .ok (.iload_n 1, 1) := by decide +kernel
theorem dR_extend_2 : decode cR_extend 2 = .ok (.invokevirtual 151, 3) := by decide +kernel
theorem dR_extend_5 : decode cR_extend 5 = .ok (.ifCond .eq 22, 3) := by decide +kernel
theorem dR_extend_8 : decode cR_extend 8 = .ok (.aload_n 0, 1) := by decide +kernel
theorem dR_extend_9 : decode cR_extend 9 = .ok (.iload_n 2, 1) := by decide +kernel
theorem dR_extend_10 : decode cR_extend 10 = .ok (.invokevirtual 151, 3) := by decide +kernel
theorem dR_extend_13 : decode cR_extend 13 = .ok (.ifCond .eq 14, 3) := by decide +kernel
theorem dR_extend_16 : decode cR_extend 16 = .ok (.aload_n 0, 1) := by decide +kernel
theorem dR_extend_17 : decode cR_extend 17 = .ok (.getfield 30, 3) := by decide +kernel
theorem dR_extend_20 : decode cR_extend 20 = .ok (.iload_n 1, 1) := by decide +kernel
theorem dR_extend_21 : decode cR_extend 21 = .ok (.iaload, 1) := by decide +kernel
theorem dR_extend_22 : decode cR_extend 22 = .ok (.bipush 12, 2) := by decide +kernel
theorem dR_extend_24 : decode cR_extend 24 = .ok (.if_icmp .ne 5, 3) := by decide +kernel
theorem dR_extend_27 : decode cR_extend 27 = .ok (.iconst 0, 1) := by decide +kernel
theorem dR_extend_28 : decode cR_extend 28 = .ok (.ireturn, 1) := by decide +kernel
theorem dR_extend_29 : decode cR_extend 29 = .ok (.aload_n 0, 1) := by decide +kernel
theorem dR_extend_30 : decode cR_extend 30 = .ok (.iload_n 1, 1) := by decide +kernel
theorem dR_extend_31 : decode cR_extend 31 = .ok (.iload_n 2, 1) := by decide +kernel
theorem dR_extend_32 : decode cR_extend 32 = .ok (.invokevirtual 88, 3) := by decide +kernel
theorem dR_extend_35 : decode cR_extend 35 = .ok (.iconst 1, 1) := by decide +kernel
theorem dR_extend_36 : decode cR_extend 36 = .ok (.ireturn, 1) := by decide +kernel
theorem dR_isLetter_0 : decode cR_isLetter 0 = .ok (.iload_n 1, 1) := by decide +kernel
theorem dR_isLetter_1 : decode cR_isLetter 1 = .ok (.ifCond .lt 15, 3) := by decide +kernel
theorem dR_isLetter_4 : decode cR_isLetter 4 = .ok (.iload_n 1, 1) := by decide +kernel
theorem dR_isLetter_5 : decode cR_isLetter 5 = .ok (.aload_n 0, 1) := by decide +kernel
theorem dR_isLetter_6 : decode cR_isLetter 6 = .ok (.getfield 99, 3) := by decide +kernel
theorem dR_isLetter_9 : decode cR_isLetter 9 = .ok (.if_icmp .ge 7, 3) := by decide +kernel
theorem dR_isLetter_12 : decode cR_isLetter 12 = .ok (.iconst 1, 1) := by decide +kernel
theorem dR_isLetter_13 : decode cR_isLetter 13 = .ok (.goto 4, 3) := by decide +kernel
theorem dR_isLetter_16 : decode cR_isLetter 16 = .ok (.iconst 0, 1) := by decide +kernel
theorem dR_isLetter_17 : decode cR_isLetter 17 = .ok (.ireturn, 1) := by decide +kernel
theorem dR_spoil_0 : decode cR_spoil 0 = .ok (.aload_n 0, 1) := by decide +kernel
theorem dR_spoil_1 : decode cR_spoil 1 = .ok (.iload_n 1, 1) := by decide +kernel
theorem dR_spoil_2 : decode cR_spoil 2 = .ok (.iload_n 2, 1) := by decide +kernel
theorem dR_spoil_3 : decode cR_spoil 3 = .ok (.invokevirtual 154, 3) := by decide +kernel
theorem dR_spoil_6 : decode cR_spoil 6 = .ok (.istore 4, 2) := by decide +kernel
theorem dR_spoil_8 : decode cR_spoil 8 = .ok (.iload 4, 2) := by decide +kernel
theorem dR_spoil_10 : decode cR_spoil 10 = .ok (.iconst (-1), 1) := by decide +kernel
theorem dR_spoil_11 : decode cR_spoil 11 = .ok (.if_icmp .eq 11, 3) := by decide +kernel
theorem dR_spoil_14 : decode cR_spoil 14 = .ok (.aload_n 0, 1) := by decide +kernel
theorem dR_spoil_15 : decode cR_spoil 15 = .ok (.iload_n 3, 1) := by decide +kernel
theorem dR_spoil_16 : decode cR_spoil 16 = .ok (.invokevirtual 151, 3) := by decide +kernel
theorem dR_spoil_19 : decode cR_spoil 19 = .ok (.ifCond .ne 5, 3) := by decide +kernel
theorem dR_spoil_22 : decode cR_spoil 22 = .ok (.iconst (-1), 1) := by decide +kernel
theorem dR_spoil_23 : decode cR_spoil 23 = .ok (.ireturn, 1) := by decide +kernel
theorem dR_spoil_24 : decode cR_spoil 24 = .ok (.aload_n 0, 1) := by decide +kernel
theorem dR_spoil_25 : decode cR_spoil 25 = .ok (.getfield 27, 3) := by decide +kernel
theorem dR_spoil_28 : decode cR_spoil 28 = .ok (.bipush 12, 2) := by decide +kernel
theorem dR_spoil_30 : decode cR_spoil 30 = .ok (.iload_n 1, 1) := by decide +kernel
theorem dR_spoil_31 : decode cR_spoil 31 = .ok (.imul, 1) := by decide +kernel
theorem dR_spoil_32 : decode cR_spoil 32 = .ok (.iload_n 2, 1) := by decide +kernel
theorem dR_spoil_33 : decode cR_spoil 33 = .ok (.iadd, 1) := by decide +kernel
theorem dR_spoil_34 : decode cR_spoil 34 = .ok (.iload_n 3, 1) := by decide +kernel
theorem dR_spoil_35 : decode cR_spoil 35 = .ok (.iastore, 1) := by decide +kernel
theorem dR_spoil_36 : decode cR_spoil 36 = .ok (.iload 4, 2) := by decide +kernel
theorem dR_spoil_38 : decode cR_spoil 38 = .ok (.ireturn, 1) := by decide +kernel
theorem dR_production_0 : decode cR_production 0 = .ok (.aload_n 0, 1) := by decide +kernel
theorem dR_production_1 : decode cR_production 1 = .ok (.iload_n 1, 1) := by decide +kernel
theorem dR_production_2 : decode cR_production 2 = .ok (.invokevirtual 151, 3) := by decide +kernel
theorem dR_production_5 : decode cR_production 5 = .ok (.ifCond .eq 17, 3) := by decide +kernel
theorem dR_production_8 : decode cR_production 8 = .ok (.iload_n 2, 1) := by decide +kernel
theorem dR_production_9 : decode cR_production 9 = .ok (.ifCond .lt 13, 3) := by decide +kernel
theorem dR_production_12 : decode cR_production 12 = .ok (.iload_n 2, 1) := by decide +kernel
theorem dR_production_13 : decode cR_production 13 = .ok (.aload_n 0, 1) := by decide +kernel
theorem dR_production_14 : decode cR_production 14 = .ok (.getfield 30, 3) := by decide +kernel
theorem dR_production_17 : decode cR_production 17 = .ok (.iload_n 1, 1) := by decide +kernel
theorem dR_production_18 : decode cR_production 18 = .ok (.iaload, 1) := by decide +kernel
theorem dR_production_19 : decode cR_production 19 = .ok (.if_icmp .lt 7, 3) := by decide +kernel
theorem dR_production_22 : decode cR_production 22 = .ok (.iconst (-1), 1) := by decide +kernel
theorem dR_production_23 : decode cR_production 23 = .ok (.goto 14, 3) := by decide +kernel
theorem dR_production_26 : decode cR_production 26 = .ok (.aload_n 0, 1) := by decide +kernel
theorem dR_production_27 : decode cR_production 27 = .ok (.getfield 27, 3) := by decide +kernel
theorem dR_production_30 : decode cR_production 30 = .ok (.bipush 12, 2) := by decide +kernel
theorem dR_production_32 : decode cR_production 32 = .ok (.iload_n 1, 1) := by decide +kernel
theorem dR_production_33 : decode cR_production 33 = .ok (.imul, 1) := by decide +kernel
theorem dR_production_34 : decode cR_production 34 = .ok (.iload_n 2, 1) := by decide +kernel
theorem dR_production_35 : decode cR_production 35 = .ok (.iadd, 1) := by decide +kernel
theorem dR_production_36 : decode cR_production 36 = .ok (.iaload, 1) := by decide +kernel
theorem dR_production_37 : decode cR_production 37 = .ok (.ireturn, 1) := by decide +kernel
theorem dR_halts_0 : decode cR_halts 0 = .ok (.aload_n 0, 1) := by decide +kernel
theorem dR_halts_1 : decode cR_halts 1 = .ok (.iload_n 1, 1) := by decide +kernel
theorem dR_halts_2 : decode cR_halts 2 = .ok (.invokevirtual 151, 3) := by decide +kernel
theorem dR_halts_5 : decode cR_halts 5 = .ok (.ifCond .ne 5, 3) := by decide +kernel
theorem dR_halts_8 : decode cR_halts 8 = .ok (.iconst 0, 1) := by decide +kernel
theorem dR_halts_9 : decode cR_halts 9 = .ok (.ireturn, 1) := by decide +kernel
theorem dR_halts_10 : decode cR_halts 10 = .ok (.aload_n 0, 1) := by decide +kernel
theorem dR_halts_11 : decode cR_halts 11 = .ok (.getfield 33, 3) := by decide +kernel
theorem dR_halts_14 : decode cR_halts 14 = .ok (.iload_n 1, 1) := by decide +kernel
theorem dR_halts_15 : decode cR_halts 15 = .ok (.iload_n 2, 1) := by decide +kernel
theorem dR_halts_16 : decode cR_halts 16 = .ok (.bastore, 1) := by decide +kernel
theorem dR_halts_17 : decode cR_halts 17 = .ok (.iconst 1, 1) := by decide +kernel
theorem dR_halts_18 : decode cR_halts 18 = .ok (.ireturn, 1) := by decide +kernel
theorem dR_put_0 : decode cR_put 0 = .ok (.aload_n 0, 1) := by decide +kernel
theorem dR_put_1 : decode cR_put 1 = .ok (.iload_n 1, 1) := by decide +kernel
theorem dR_put_2 : decode cR_put 2 = .ok (.invokevirtual 151, 3) := by decide +kernel
theorem dR_put_5 : decode cR_put 5 = .ok (.ifCond .eq 18, 3) := by decide +kernel
theorem dR_put_8 : decode cR_put 8 = .ok (.aload_n 0, 1) := by decide +kernel
theorem dR_put_9 : decode cR_put 9 = .ok (.getfield 105, 3) := by decide +kernel
theorem dR_put_12 : decode cR_put 12 = .ok (.aload_n 0, 1) := by decide +kernel
theorem dR_put_13 : decode cR_put 13 = .ok (.getfield 102, 3) := by decide +kernel
theorem dR_put_16 : decode cR_put 16 = .ok (.isub, 1) := by decide +kernel
theorem dR_put_17 : decode cR_put 17 = .ok (.sipush 4000, 3) := by decide +kernel
theorem dR_put_20 : decode cR_put 20 = .ok (.if_icmp .ne 5, 3) := by decide +kernel
theorem dR_put_23 : decode cR_put 23 = .ok (.iconst 0, 1) := by decide +kernel
theorem dR_put_24 : decode cR_put 24 = .ok (.ireturn, 1) := by decide +kernel
theorem dR_put_25 : decode cR_put 25 = .ok (.aload_n 0, 1) := by decide +kernel
theorem dR_put_26 : decode cR_put 26 = .ok (.iload_n 1, 1) := by decide +kernel
theorem dR_put_27 : decode cR_put 27 = .ok (.invokevirtual 127, 3) := by decide +kernel
theorem dR_put_30 : decode cR_put 30 = .ok (.iconst 1, 1) := by decide +kernel
theorem dR_put_31 : decode cR_put 31 = .ok (.ireturn, 1) := by decide +kernel
theorem dR_stepTag_0 : decode cR_stepTag 0 = .ok (.iconst 0, 1) := by decide +kernel
theorem dR_stepTag_1 : decode cR_stepTag 1 = .ok (.istore_n 2, 1) := by decide +kernel
theorem dR_stepTag_2 : decode cR_stepTag 2 = .ok (.iload_n 2, 1) := by decide +kernel
theorem dR_stepTag_3 : decode cR_stepTag 3 = .ok (.iload_n 1, 1) := by decide +kernel
theorem dR_stepTag_4 : decode cR_stepTag 4 = .ok (.invokestatic 77, 3) := by decide +kernel
theorem dR_stepTag_7 : decode cR_stepTag 7 = .ok (.if_icmp .ge 21, 3) := by decide +kernel
theorem dR_stepTag_10 : decode cR_stepTag 10 = .ok (.aload_n 0, 1) := by decide +kernel
theorem dR_stepTag_11 : decode cR_stepTag 11 = .ok (.invokevirtual 156, 3) := by decide +kernel
theorem dR_stepTag_14 : decode cR_stepTag 14 = .ok (.iconst 1, 1) := by decide +kernel
theorem dR_stepTag_15 : decode cR_stepTag 15 = .ok (.if_icmp .ne 13, 3) := by decide +kernel
theorem dR_stepTag_18 : decode cR_stepTag 18 = .ok (.aload_n 0, 1) := by decide +kernel
theorem dR_stepTag_19 : decode cR_stepTag 19 = .ok (.invokevirtual 159, 3) := by decide +kernel
theorem dR_stepTag_22 : decode cR_stepTag 22 = .ok (.iinc 2 1, 3) := by decide +kernel
theorem dR_stepTag_25 : decode cR_stepTag 25 = .ok (.goto (-23), 3) := by decide +kernel
theorem dR_stepTag_28 : decode cR_stepTag 28 = .ok (.iload_n 2, 1) := by decide +kernel
theorem dR_stepTag_29 : decode cR_stepTag 29 = .ok (.ireturn, 1) := by decide +kernel
theorem dR_tagCan_0 : decode cR_tagCan 0 = .ok (.aload_n 0, 1) := by decide +kernel
theorem dR_tagCan_1 : decode cR_tagCan 1 = .ok (.getfield 105, 3) := by decide +kernel
theorem dR_tagCan_4 : decode cR_tagCan 4 = .ok (.aload_n 0, 1) := by decide +kernel
theorem dR_tagCan_5 : decode cR_tagCan 5 = .ok (.getfield 102, 3) := by decide +kernel
theorem dR_tagCan_8 : decode cR_tagCan 8 = .ok (.isub, 1) := by decide +kernel
theorem dR_tagCan_9 : decode cR_tagCan 9 = .ok (.istore_n 1, 1) := by decide +kernel
theorem dR_tagCan_10 : decode cR_tagCan 10 = .ok (.iload_n 1, 1) := by decide +kernel
theorem dR_tagCan_11 : decode cR_tagCan 11 = .ok (.iconst 2, 1) := by decide +kernel
theorem dR_tagCan_12 : decode cR_tagCan 12 = .ok (.if_icmp .lt 20, 3) := by decide +kernel
theorem dR_tagCan_15 : decode cR_tagCan 15 = .ok (.aload_n 0, 1) := by decide +kernel
theorem dR_tagCan_16 : decode cR_tagCan 16 = .ok (.getfield 33, 3) := by decide +kernel
theorem dR_tagCan_19 : decode cR_tagCan 19 = .ok (.aload_n 0, 1) := by decide +kernel
theorem dR_tagCan_20 : decode cR_tagCan 20 = .ok (.getfield 36, 3) := by decide +kernel
theorem dR_tagCan_23 : decode cR_tagCan 23 = .ok (.aload_n 0, 1) := by decide +kernel
theorem dR_tagCan_24 : decode cR_tagCan 24 = .ok (.getfield 102, 3) := by decide +kernel
theorem dR_tagCan_27 : decode cR_tagCan 27 = .ok (.iaload, 1) := by decide +kernel
theorem dR_tagCan_28 : decode cR_tagCan 28 = .ok (.baload, 1) := by decide +kernel
theorem dR_tagCan_29 : decode cR_tagCan 29 = .ok (.ifCond .eq 5, 3) := by decide +kernel
theorem dR_tagCan_32 : decode cR_tagCan 32 = .ok (.iconst 0, 1) := by decide +kernel
theorem dR_tagCan_33 : decode cR_tagCan 33 = .ok (.ireturn, 1) := by decide +kernel
theorem dR_tagCan_34 : decode cR_tagCan 34 = .ok (.iload_n 1, 1) := by decide +kernel
theorem dR_tagCan_35 : decode cR_tagCan 35 = .ok (.iconst 2, 1) := by decide +kernel
theorem dR_tagCan_36 : decode cR_tagCan 36 = .ok (.isub, 1) := by decide +kernel
theorem dR_tagCan_37 : decode cR_tagCan 37 = .ok (.aload_n 0, 1) := by decide +kernel
theorem dR_tagCan_38 : decode cR_tagCan 38 = .ok (.getfield 30, 3) := by decide +kernel
theorem dR_tagCan_41 : decode cR_tagCan 41 = .ok (.aload_n 0, 1) := by decide +kernel
theorem dR_tagCan_42 : decode cR_tagCan 42 = .ok (.getfield 36, 3) := by decide +kernel
theorem dR_tagCan_45 : decode cR_tagCan 45 = .ok (.aload_n 0, 1) := by decide +kernel
theorem dR_tagCan_46 : decode cR_tagCan 46 = .ok (.getfield 102, 3) := by decide +kernel
theorem dR_tagCan_49 : decode cR_tagCan 49 = .ok (.iaload, 1) := by decide +kernel
theorem dR_tagCan_50 : decode cR_tagCan 50 = .ok (.iaload, 1) := by decide +kernel
theorem dR_tagCan_51 : decode cR_tagCan 51 = .ok (.iadd, 1) := by decide +kernel
theorem dR_tagCan_52 : decode cR_tagCan 52 = .ok (.sipush 4000, 3) := by decide +kernel
theorem dR_tagCan_55 : decode cR_tagCan 55 = .ok (.if_icmp .le 8, 3) := by decide +kernel
theorem dR_tagCan_58 : decode cR_tagCan 58 = .ok (.bipush (-2), 2) := by decide +kernel
theorem dR_tagCan_60 : decode cR_tagCan 60 = .ok (.goto 4, 3) := by decide +kernel
theorem dR_tagCan_63 : decode cR_tagCan 63 = .ok (.iconst 1, 1) := by decide +kernel
theorem dR_tagCan_64 : decode cR_tagCan 64 = .ok (.ireturn, 1) := by decide +kernel
theorem dR_tagStep_0 : decode cR_tagStep 0 = .ok (.aload_n 0, 1) := by decide +kernel
theorem dR_tagStep_1 : decode cR_tagStep 1 = .ok (.getfield 36, 3) := by decide +kernel
theorem dR_tagStep_4 : decode cR_tagStep 4 = .ok (.aload_n 0, 1) := by decide +kernel
theorem dR_tagStep_5 : decode cR_tagStep 5 = .ok (.getfield 102, 3) := by decide +kernel
theorem dR_tagStep_8 : decode cR_tagStep 8 = .ok (.iaload, 1) := by decide +kernel
theorem dR_tagStep_9 : decode cR_tagStep 9 = .ok (.istore_n 1, 1) := by decide +kernel
theorem dR_tagStep_10 : decode cR_tagStep 10 = .ok (.aload_n 0, 1) := by decide +kernel
theorem dR_tagStep_11 : decode cR_tagStep 11 = .ok (.dup, 1) := by decide +kernel
theorem dR_tagStep_12 : decode cR_tagStep 12 = .ok (.getfield 102, 3) := by decide +kernel
theorem dR_tagStep_15 : decode cR_tagStep 15 = .ok (.iconst 2, 1) := by decide +kernel
theorem dR_tagStep_16 : decode cR_tagStep 16 = .ok (.iadd, 1) := by decide +kernel
theorem dR_tagStep_17 : decode cR_tagStep 17 = .ok (.putfield 102, 3) := by decide +kernel
theorem dR_tagStep_20 : decode cR_tagStep 20 = .ok (.iconst 0, 1) := by decide +kernel
theorem dR_tagStep_21 : decode cR_tagStep 21 = .ok (.istore_n 2, 1) := by decide +kernel
theorem dR_tagStep_22 : decode cR_tagStep 22 = .ok (.iload_n 2, 1) := by decide +kernel
theorem dR_tagStep_23 : decode cR_tagStep 23 = .ok (.aload_n 0, 1) := by decide +kernel
theorem dR_tagStep_24 : decode cR_tagStep 24 = .ok (.getfield 30, 3) := by decide +kernel
theorem dR_tagStep_27 : decode cR_tagStep 27 = .ok (.iload_n 1, 1) := by decide +kernel
theorem dR_tagStep_28 : decode cR_tagStep 28 = .ok (.iaload, 1) := by decide +kernel
theorem dR_tagStep_29 : decode cR_tagStep 29 = .ok (.if_icmp .ge 24, 3) := by decide +kernel
theorem dR_tagStep_32 : decode cR_tagStep 32 = .ok (.aload_n 0, 1) := by decide +kernel
theorem dR_tagStep_33 : decode cR_tagStep 33 = .ok (.aload_n 0, 1) := by decide +kernel
theorem dR_tagStep_34 : decode cR_tagStep 34 = .ok (.getfield 27, 3) := by decide +kernel
theorem dR_tagStep_37 : decode cR_tagStep 37 = .ok (.bipush 12, 2) := by decide +kernel
theorem dR_tagStep_39 : decode cR_tagStep 39 = .ok (.iload_n 1, 1) := by decide +kernel
theorem dR_tagStep_40 : decode cR_tagStep 40 = .ok (.imul, 1) := by decide +kernel
theorem dR_tagStep_41 : decode cR_tagStep 41 = .ok (.iload_n 2, 1) := by decide +kernel
theorem dR_tagStep_42 : decode cR_tagStep 42 = .ok (.iadd, 1) := by decide +kernel
theorem dR_tagStep_43 : decode cR_tagStep 43 = .ok (.iaload, 1) := by decide +kernel
theorem dR_tagStep_44 : decode cR_tagStep 44 = .ok (.invokevirtual 127, 3) := by decide +kernel
theorem dR_tagStep_47 : decode cR_tagStep 47 = .ok (.iinc 2 1, 3) := by decide +kernel
theorem dR_tagStep_50 : decode cR_tagStep 50 = .ok (.goto (-28), 3) := by decide +kernel
theorem dR_tagStep_53 : decode cR_tagStep 53 = .ok (.return_, 1) := by decide +kernel
theorem dR_tagNow_0 : decode cR_tagNow 0 = .ok (.iload_n 1, 1) := by decide +kernel
theorem dR_tagNow_1 : decode cR_tagNow 1 = .ok (.ifCond .ne 10, 3) := by decide +kernel
theorem dR_tagNow_4 : decode cR_tagNow 4 = .ok (.aload_n 0, 1) := by decide +kernel
theorem dR_tagNow_5 : decode cR_tagNow 5 = .ok (.getfield 99, 3) := by decide +kernel
theorem dR_tagNow_8 : decode cR_tagNow 8 = .ok (.goto 33, 3) := by decide +kernel
theorem dR_tagNow_11 : decode cR_tagNow 11 = .ok (.iload_n 1, 1) := by decide +kernel
theorem dR_tagNow_12 : decode cR_tagNow 12 = .ok (.iconst 1, 1) := by decide +kernel
theorem dR_tagNow_13 : decode cR_tagNow 13 = .ok (.if_icmp .ne 15, 3) := by decide +kernel
theorem dR_tagNow_16 : decode cR_tagNow 16 = .ok (.aload_n 0, 1) := by decide +kernel
theorem dR_tagNow_17 : decode cR_tagNow 17 = .ok (.getfield 105, 3) := by decide +kernel
theorem dR_tagNow_20 : decode cR_tagNow 20 = .ok (.aload_n 0, 1) := by decide +kernel
theorem dR_tagNow_21 : decode cR_tagNow 21 = .ok (.getfield 102, 3) := by decide +kernel
theorem dR_tagNow_24 : decode cR_tagNow 24 = .ok (.isub, 1) := by decide +kernel
theorem dR_tagNow_25 : decode cR_tagNow 25 = .ok (.goto 16, 3) := by decide +kernel
theorem dR_tagNow_28 : decode cR_tagNow 28 = .ok (.iload_n 1, 1) := by decide +kernel
theorem dR_tagNow_29 : decode cR_tagNow 29 = .ok (.iconst 2, 1) := by decide +kernel
theorem dR_tagNow_30 : decode cR_tagNow 30 = .ok (.if_icmp .ne 10, 3) := by decide +kernel
theorem dR_tagNow_33 : decode cR_tagNow 33 = .ok (.aload_n 0, 1) := by decide +kernel
theorem dR_tagNow_34 : decode cR_tagNow 34 = .ok (.invokevirtual 156, 3) := by decide +kernel
theorem dR_tagNow_37 : decode cR_tagNow 37 = .ok (.goto 4, 3) := by decide +kernel
theorem dR_tagNow_40 : decode cR_tagNow 40 = .ok (.iconst (-1), 1) := by decide +kernel
theorem dR_tagNow_41 : decode cR_tagNow 41 = .ok (.ireturn, 1) := by decide +kernel
theorem dR_tagLetter_0 : decode cR_tagLetter 0 = .ok (.iload_n 1, 1) := by decide +kernel
theorem dR_tagLetter_1 : decode cR_tagLetter 1 = .ok (.ifCond .lt 16, 3) := by decide +kernel
theorem dR_tagLetter_4 : decode cR_tagLetter 4 = .ok (.iload_n 1, 1) := by decide +kernel
theorem dR_tagLetter_5 : decode cR_tagLetter 5 = .ok (.aload_n 0, 1) := by decide +kernel
theorem dR_tagLetter_6 : decode cR_tagLetter 6 = .ok (.getfield 105, 3) := by decide +kernel
theorem dR_tagLetter_9 : decode cR_tagLetter 9 = .ok (.aload_n 0, 1) := by decide +kernel
theorem dR_tagLetter_10 : decode cR_tagLetter 10 = .ok (.getfield 102, 3) := by decide +kernel
theorem dR_tagLetter_13 : decode cR_tagLetter 13 = .ok (.isub, 1) := by decide +kernel
