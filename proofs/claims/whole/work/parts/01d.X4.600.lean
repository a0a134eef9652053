theorem dX4_append_64 : decode cX4_append 64 = .ok (.getfield 25, 3) := by decide +kernel
theorem dX4_append_67 : decode cX4_append 67 = .ok (.iload_n 1, 1) := by decide +kernel
theorem dX4_append_68 : decode cX4_append 68 = .ok (.dup2, 1) := by decide +kernel
theorem dX4_append_69 : decode cX4_append 69 = .ok (.iaload, 1) := by decide +kernel
theorem dX4_append_70 : decode cX4_append 70 = .ok (.iconst 1, 1) := by decide +kernel
theorem dX4_append_71 : decode cX4_append 71 = .ok (.iadd, 1) := by decide +kernel
theorem dX4_append_72 : decode cX4_append 72 = .ok (.iastore, 1) := by decide +kernel
theorem dX4_append_73 : decode cX4_append 73 = .ok (.iconst 0, 1) := by decide +kernel
theorem dX4_append_74 : decode cX4_append 74 = .ok (.ireturn, 1) := by decide +kernel
theorem dX4_sees_0 : decode cX4_sees 0 = .ok (.aload_n 0, 1) := by decide +kernel
theorem dX4_sees_1 : decode cX4_sees 1 = .ok (.iload_n 1, 1) := by decide +kernel
theorem dX4_sees_2 : decode cX4_sees 2 = .ok (.invokevirtual 62, 3) := by decide +kernel
theorem dX4_sees_5 : decode cX4_sees 5 = .ok (.ifCond .eq 13, 3) := by decide +kernel
theorem dX4_sees_8 : decode cX4_sees 8 = .ok (.iload_n 2, 1) := by decide +kernel
theorem dX4_sees_9 : decode cX4_sees 9 = .ok (.ifCond .lt 9, 3) := by decide +kernel
theorem dX4_sees_12 : decode cX4_sees 12 = .ok (.iload_n 2, 1) := by decide +kernel
theorem dX4_sees_13 : decode cX4_sees 13 = .ok (.bipush 31, 2) := by decide +kernel
theorem dX4_sees_15 : decode cX4_sees 15 = .ok (.if_icmp .le 5, 3) := by decide +kernel
theorem dX4_sees_18 : decode cX4_sees 18 = .ok (.iconst 0, 1) := by decide +kernel
theorem dX4_sees_19 : decode cX4_sees 19 = .ok (.ireturn, 1) := by decide +kernel
theorem dX4_sees_20 : decode cX4_sees 20 = .ok (.aload_n 0, 1) := by decide +kernel
theorem dX4_sees_21 : decode cX4_sees 21 = .ok (.getfield 43, 3) := by decide +kernel
theorem dX4_sees_24 : decode cX4_sees 24 = .ok (.iload_n 2, 1) := by decide +kernel
theorem dX4_sees_25 : decode cX4_sees 25 = .ok (.iaload, 1) := by decide +kernel
theorem dX4_sees_26 : decode cX4_sees 26 = .ok (.istore_n 3, 1) := by decide +kernel
theorem dX4_sees_27 : decode cX4_sees 27 = .ok (.bipush 8, 2) := by decide +kernel
theorem dX4_sees_29 : decode cX4_sees 29 = .ok (.iload_n 1, 1) := by decide +kernel
theorem dX4_sees_30 : decode cX4_sees 30 = .ok (.imul, 1) := by decide +kernel
theorem dX4_sees_31 : decode cX4_sees 31 = .ok (.istore 4, 2) := by decide +kernel
theorem dX4_sees_33 : decode cX4_sees 33 = .ok (.iload 4, 2) := by decide +kernel
theorem dX4_sees_35 : decode cX4_sees 35 = .ok (.bipush 8, 2) := by decide +kernel
theorem dX4_sees_37 : decode cX4_sees 37 = .ok (.iload_n 1, 1) := by decide +kernel
theorem dX4_sees_38 : decode cX4_sees 38 = .ok (.imul, 1) := by decide +kernel
theorem dX4_sees_39 : decode cX4_sees 39 = .ok (.aload_n 0, 1) := by decide +kernel
theorem dX4_sees_40 : decode cX4_sees 40 = .ok (.getfield 31, 3) := by decide +kernel
theorem dX4_sees_43 : decode cX4_sees 43 = .ok (.iload_n 1, 1) := by decide +kernel
theorem dX4_sees_44 : decode cX4_sees 44 = .ok (.iaload, 1) := by decide +kernel
theorem dX4_sees_45 : decode cX4_sees 45 = .ok (.iadd, 1) := by decide +kernel
theorem dX4_sees_46 : decode cX4_sees 46 = .ok (.if_icmp .ge 42, 3) := by decide +kernel
theorem dX4_sees_49 : decode cX4_sees 49 = .ok (.aload_n 0, 1) := by decide +kernel
theorem dX4_sees_50 : decode cX4_sees 50 = .ok (.getfield 34, 3) := by decide +kernel
theorem dX4_sees_53 : decode cX4_sees 53 = .ok (.iload 4, 2) := by decide +kernel
theorem dX4_sees_55 : decode cX4_sees 55 = .ok (.iaload, 1) := by decide +kernel
theorem dX4_sees_56 : decode cX4_sees 56 = .ok (.ifCond .ne 24, 3) := by decide +kernel
theorem dX4_sees_59 : decode cX4_sees 59 = .ok (.aload_n 0, 1) := by decide +kernel
theorem dX4_sees_60 : decode cX4_sees 60 = .ok (.getfield 37, 3) := by decide +kernel
theorem dX4_sees_63 : decode cX4_sees 63 = .ok (.iload 4, 2) := by decide +kernel
theorem dX4_sees_65 : decode cX4_sees 65 = .ok (.iaload, 1) := by decide +kernel
theorem dX4_sees_66 : decode cX4_sees 66 = .ok (.iload_n 2, 1) := by decide +kernel
theorem dX4_sees_67 : decode cX4_sees 67 = .ok (.if_icmp .ne 13, 3) := by decide +kernel
theorem dX4_sees_70 : decode cX4_sees 70 = .ok (.aload_n 0, 1) := by decide +kernel
theorem dX4_sees_71 : decode cX4_sees 71 = .ok (.getfield 40, 3) := by decide +kernel
theorem dX4_sees_74 : decode cX4_sees 74 = .ok (.iload 4, 2) := by decide +kernel
theorem dX4_sees_76 : decode cX4_sees 76 = .ok (.iaload, 1) := by decide +kernel
theorem dX4_sees_77 : decode cX4_sees 77 = .ok (.goto 4, 3) := by decide +kernel
theorem dX4_sees_80 : decode cX4_sees 80 = .ok (.iload_n 3, 1) := by decide +kernel
theorem dX4_sees_81 : decode cX4_sees 81 = .ok (.istore_n 3, 1) := by decide +kernel
theorem dX4_sees_82 : decode cX4_sees 82 = .ok (.iinc 4 1, 3) := by decide +kernel
theorem dX4_sees_85 : decode cX4_sees 85 = .ok (.goto (-52), 3) := by decide +kernel
theorem dX4_sees_88 : decode cX4_sees 88 = .ok (.iload_n 3, 1) := by decide +kernel
theorem dX4_sees_89 : decode cX4_sees 89 = .ok (.ireturn, 1) := by decide +kernel
theorem dX4_step_0 : decode cX4_step 0 = .ok (.aload_n 0, 1) := by decide +kernel
theorem dX4_step_1 : decode cX4_step 1 = .ok (.iload_n 1, 1) := by decide +kernel
theorem dX4_step_2 : decode cX4_step 2 = .ok (.invokevirtual 62, 3) := by decide +kernel
theorem dX4_step_5 : decode cX4_step 5 = .ok (.ifCond .ne 5, 3) := by decide +kernel
theorem dX4_step_8 : decode cX4_step 8 = .ok (.iconst (-1), 1) := by decide +kernel
theorem dX4_step_9 : decode cX4_step 9 = .ok (.ireturn, 1) := by decide +kernel
theorem dX4_step_10 : decode cX4_step 10 = .ok (.bipush 24, 2) := by decide +kernel
theorem dX4_step_12 : decode cX4_step 12 = .ok (.iload_n 1, 1) := by decide +kernel
theorem dX4_step_13 : decode cX4_step 13 = .ok (.imul, 1) := by decide +kernel
theorem dX4_step_14 : decode cX4_step 14 = .ok (.aload_n 0, 1) := by decide +kernel
theorem dX4_step_15 : decode cX4_step 15 = .ok (.getfield 25, 3) := by decide +kernel
theorem dX4_step_18 : decode cX4_step 18 = .ok (.iload_n 1, 1) := by decide +kernel
theorem dX4_step_19 : decode cX4_step 19 = .ok (.iaload, 1) := by decide +kernel
theorem dX4_step_20 : decode cX4_step 20 = .ok (.iadd, 1) := by decide +kernel
theorem dX4_step_21 : decode cX4_step 21 = .ok (.istore_n 2, 1) := by decide +kernel
theorem dX4_step_22 : decode cX4_step 22 = .ok (.aload_n 0, 1) := by decide +kernel
theorem dX4_step_23 : decode cX4_step 23 = .ok (.getfield 25, 3) := by decide +kernel
theorem dX4_step_26 : decode cX4_step 26 = .ok (.iload_n 1, 1) := by decide +kernel
theorem dX4_step_27 : decode cX4_step 27 = .ok (.iaload, 1) := by decide +kernel
theorem dX4_step_28 : decode cX4_step 28 = .ok (.bipush 24, 2) := by decide +kernel
theorem dX4_step_30 : decode cX4_step 30 = .ok (.if_icmp .eq 12, 3) := by decide +kernel
theorem dX4_step_33 : decode cX4_step 33 = .ok (.aload_n 0, 1) := by decide +kernel
theorem dX4_step_34 : decode cX4_step 34 = .ok (.getfield 7, 3) := by decide +kernel
theorem dX4_step_37 : decode cX4_step 37 = .ok (.iload_n 2, 1) := by decide +kernel
theorem dX4_step_38 : decode cX4_step 38 = .ok (.iaload, 1) := by decide +kernel
theorem dX4_step_39 : decode cX4_step 39 = .ok (.ifCond .ne 5, 3) := by decide +kernel
theorem dX4_step_42 : decode cX4_step 42 = .ok (.iconst 2, 1) := by decide +kernel
theorem dX4_step_43 : decode cX4_step 43 = .ok (.ireturn, 1) := by decide +kernel
theorem dX4_step_44 : decode cX4_step 44 = .ok (.iconst 4, 1) := by decide +kernel
theorem dX4_step_45 : decode cX4_step 45 = .ok (.iload_n 1, 1) := by decide +kernel
theorem dX4_step_46 : decode cX4_step 46 = .ok (.imul, 1) := by decide +kernel
theorem dX4_step_47 : decode cX4_step 47 = .ok (.aload_n 0, 1) := by decide +kernel
theorem dX4_step_48 : decode cX4_step 48 = .ok (.getfield 13, 3) := by decide +kernel
theorem dX4_step_51 : decode cX4_step 51 = .ok (.iload_n 2, 1) := by decide +kernel
theorem dX4_step_52 : decode cX4_step 52 = .ok (.iaload, 1) := by decide +kernel
theorem dX4_step_53 : decode cX4_step 53 = .ok (.iadd, 1) := by decide +kernel
theorem dX4_step_54 : decode cX4_step 54 = .ok (.istore_n 3, 1) := by decide +kernel
theorem dX4_step_55 : decode cX4_step 55 = .ok (.aload_n 0, 1) := by decide +kernel
theorem dX4_step_56 : decode cX4_step 56 = .ok (.getfield 22, 3) := by decide +kernel
theorem dX4_step_59 : decode cX4_step 59 = .ok (.iconst 4, 1) := by decide +kernel
theorem dX4_step_60 : decode cX4_step 60 = .ok (.iload_n 1, 1) := by decide +kernel
theorem dX4_step_61 : decode cX4_step 61 = .ok (.imul, 1) := by decide +kernel
theorem dX4_step_62 : decode cX4_step 62 = .ok (.aload_n 0, 1) := by decide +kernel
theorem dX4_step_63 : decode cX4_step 63 = .ok (.getfield 16, 3) := by decide +kernel
theorem dX4_step_66 : decode cX4_step 66 = .ok (.iload_n 2, 1) := by decide +kernel
theorem dX4_step_67 : decode cX4_step 67 = .ok (.iaload, 1) := by decide +kernel
theorem dX4_step_68 : decode cX4_step 68 = .ok (.iadd, 1) := by decide +kernel
theorem dX4_step_69 : decode cX4_step 69 = .ok (.iaload, 1) := by decide +kernel
theorem dX4_step_70 : decode cX4_step 70 = .ok (.istore 4, 2) := by decide +kernel
theorem dX4_step_72 : decode cX4_step 72 = .ok (.aload_n 0, 1) := by decide +kernel
theorem dX4_step_73 : decode cX4_step 73 = .ok (.getfield 19, 3) := by decide +kernel
theorem dX4_step_76 : decode cX4_step 76 = .ok (.iload_n 2, 1) := by decide +kernel
theorem dX4_step_77 : decode cX4_step 77 = .ok (.iaload, 1) := by decide +kernel
theorem dX4_step_78 : decode cX4_step 78 = .ok (.istore 5, 2) := by decide +kernel
theorem dX4_step_80 : decode cX4_step 80 = .ok (.iload 4, 2) := by decide +kernel
theorem dX4_step_82 : decode cX4_step 82 = .ok (.iload 5, 2) := by decide +kernel
theorem dX4_step_84 : decode cX4_step 84 = .ok (.iadd, 1) := by decide +kernel
theorem dX4_step_85 : decode cX4_step 85 = .ok (.bipush 31, 2) := by decide +kernel
theorem dX4_step_87 : decode cX4_step 87 = .ok (.iand, 1) := by decide +kernel
theorem dX4_step_88 : decode cX4_step 88 = .ok (.istore 6, 2) := by decide +kernel
theorem dX4_step_90 : decode cX4_step 90 = .ok (.aload_n 0, 1) := by decide +kernel
theorem dX4_step_91 : decode cX4_step 91 = .ok (.getfield 7, 3) := by decide +kernel
theorem dX4_step_94 : decode cX4_step 94 = .ok (.iload_n 2, 1) := by decide +kernel
theorem dX4_step_95 : decode cX4_step 95 = .ok (.iaload, 1) := by decide +kernel
theorem dX4_step_96 : decode cX4_step 96 = .ok (.tableswitch 103 3 9 #[44, 103, 92, 92, 59, 68, 80], 44) := by decide +kernel
theorem dX4_step_140 : decode cX4_step 140 = .ok (.aload_n 0, 1) := by decide +kernel
theorem dX4_step_141 : decode cX4_step 141 = .ok (.iload_n 1, 1) := by decide +kernel
theorem dX4_step_142 : decode cX4_step 142 = .ok (.iconst 0, 1) := by decide +kernel
theorem dX4_step_143 : decode cX4_step 143 = .ok (.iload 6, 2) := by decide +kernel
theorem dX4_step_145 : decode cX4_step 145 = .ok (.aload_n 0, 1) := by decide +kernel
theorem dX4_step_146 : decode cX4_step 146 = .ok (.getfield 22, 3) := by decide +kernel
theorem dX4_step_149 : decode cX4_step 149 = .ok (.iload_n 3, 1) := by decide +kernel
theorem dX4_step_150 : decode cX4_step 150 = .ok (.iaload, 1) := by decide +kernel
theorem dX4_step_151 : decode cX4_step 151 = .ok (.invokevirtual 88, 3) := by decide +kernel
theorem dX4_step_154 : decode cX4_step 154 = .ok (.ireturn, 1) := by decide +kernel
theorem dX4_step_155 : decode cX4_step 155 = .ok (.aload_n 0, 1) := by decide +kernel
theorem dX4_step_156 : decode cX4_step 156 = .ok (.iload_n 1, 1) := by decide +kernel
theorem dX4_step_157 : decode cX4_step 157 = .ok (.iconst 3, 1) := by decide +kernel
theorem dX4_step_158 : decode cX4_step 158 = .ok (.iconst 0, 1) := by decide +kernel
theorem dX4_step_159 : decode cX4_step 159 = .ok (.iconst 0, 1) := by decide +kernel
theorem dX4_step_160 : decode cX4_step 160 = .ok (.invokevirtual 88, 3) := by decide +kernel
theorem dX4_step_163 : decode cX4_step 163 = .ok (.ireturn, 1) := by decide +kernel
theorem dX4_step_164 : decode cX4_step 164 = .ok (.aload_n 0, 1) := by decide +kernel
theorem dX4_step_165 : decode cX4_step 165 = .ok (.iload_n 1, 1) := by decide +kernel
theorem dX4_step_166 : decode cX4_step 166 = .ok (.iconst 1, 1) := by decide +kernel
theorem dX4_step_167 : decode cX4_step 167 = .ok (.iload 6, 2) := by decide +kernel
theorem dX4_step_169 : decode cX4_step 169 = .ok (.iconst 4, 1) := by decide +kernel
theorem dX4_step_170 : decode cX4_step 170 = .ok (.idiv, 1) := by decide +kernel
theorem dX4_step_171 : decode cX4_step 171 = .ok (.iconst 0, 1) := by decide +kernel
theorem dX4_step_172 : decode cX4_step 172 = .ok (.invokevirtual 88, 3) := by decide +kernel
theorem dX4_step_175 : decode cX4_step 175 = .ok (.ireturn, 1) := by decide +kernel
theorem dX4_step_176 : decode cX4_step 176 = .ok (.aload_n 0, 1) := by decide +kernel
theorem dX4_step_177 : decode cX4_step 177 = .ok (.iload_n 1, 1) := by decide +kernel
theorem dX4_step_178 : decode cX4_step 178 = .ok (.iconst 2, 1) := by decide +kernel
theorem dX4_step_179 : decode cX4_step 179 = .ok (.iload 6, 2) := by decide +kernel
theorem dX4_step_181 : decode cX4_step 181 = .ok (.iconst 4, 1) := by decide +kernel
theorem dX4_step_182 : decode cX4_step 182 = .ok (.idiv, 1) := by decide +kernel
theorem dX4_step_183 : decode cX4_step 183 = .ok (.iconst 0, 1) := by decide +kernel
theorem dX4_step_184 : decode cX4_step 184 = .ok (.invokevirtual 88, 3) := by decide +kernel
theorem dX4_step_187 : decode cX4_step 187 = .ok (.ireturn, 1) := by decide +kernel
theorem dX4_step_188 : decode cX4_step 188 = .ok (.aload_n 0, 1) := by decide +kernel
theorem dX4_step_189 : decode cX4_step 189 = .ok (.getfield 31, 3) := by decide +kernel
theorem dX4_step_192 : decode cX4_step 192 = .ok (.iload_n 1, 1) := by decide +kernel
theorem dX4_step_193 : decode cX4_step 193 = .ok (.iaload, 1) := by decide +kernel
theorem dX4_step_194 : decode cX4_step 194 = .ok (.ifCond .le 5, 3) := by decide +kernel
theorem dX4_step_197 : decode cX4_step 197 = .ok (.iconst 1, 1) := by decide +kernel
theorem dX4_step_198 : decode cX4_step 198 = .ok (.ireturn, 1) := by decide +kernel
theorem dX4_step_199 : decode cX4_step 199 = .ok (.aload_n 0, 1) := by decide +kernel
theorem dX4_step_200 : decode cX4_step 200 = .ok (.getfield 25, 3) := by decide +kernel
theorem dX4_step_203 : decode cX4_step 203 = .ok (.iload_n 1, 1) := by decide +kernel
theorem dX4_step_204 : decode cX4_step 204 = .ok (.dup2, 1) := by decide +kernel
theorem dX4_step_205 : decode cX4_step 205 = .ok (.iaload, 1) := by decide +kernel
theorem dX4_step_206 : decode cX4_step 206 = .ok (.iconst 1, 1) := by decide +kernel
theorem dX4_step_207 : decode cX4_step 207 = .ok (.iadd, 1) := by decide +kernel
theorem dX4_step_208 : decode cX4_step 208 = .ok (.iastore, 1) := by decide +kernel
theorem dX4_step_209 : decode cX4_step 209 = .ok (.aload_n 0, 1) := by decide +kernel
theorem dX4_step_210 : decode cX4_step 210 = .ok (.getfield 7, 3) := by decide +kernel
theorem dX4_step_213 : decode cX4_step 213 = .ok (.iload_n 2, 1) := by decide +kernel
theorem dX4_step_214 : decode cX4_step 214 = .ok (.iaload, 1) := by decide +kernel
theorem dX4_step_215 : decode cX4_step 215 = .ok (.bipush 10, 2) := by decide +kernel
theorem dX4_step_217 : decode cX4_step 217 = .ok (.if_icmp .ne 32, 3) := by decide +kernel
theorem dX4_step_220 : decode cX4_step 220 = .ok (.aload_n 0, 1) := by decide +kernel
theorem dX4_step_221 : decode cX4_step 221 = .ok (.getfield 25, 3) := by decide +kernel
theorem dX4_step_224 : decode cX4_step 224 = .ok (.iload_n 1, 1) := by decide +kernel
theorem dX4_step_225 : decode cX4_step 225 = .ok (.aload_n 0, 1) := by decide +kernel
theorem dX4_step_226 : decode cX4_step 226 = .ok (.getfield 22, 3) := by decide +kernel
theorem dX4_step_229 : decode cX4_step 229 = .ok (.iload_n 3, 1) := by decide +kernel
theorem dX4_step_230 : decode cX4_step 230 = .ok (.iaload, 1) := by decide +kernel
theorem dX4_step_231 : decode cX4_step 231 = .ok (.ifCond .eq 8, 3) := by decide +kernel
theorem dX4_step_234 : decode cX4_step 234 = .ok (.iload 5, 2) := by decide +kernel
theorem dX4_step_236 : decode cX4_step 236 = .ok (.goto 9, 3) := by decide +kernel
theorem dX4_step_239 : decode cX4_step 239 = .ok (.aload_n 0, 1) := by decide +kernel
theorem dX4_step_240 : decode cX4_step 240 = .ok (.getfield 25, 3) := by decide +kernel
theorem dX4_step_243 : decode cX4_step 243 = .ok (.iload_n 1, 1) := by decide +kernel
theorem dX4_step_244 : decode cX4_step 244 = .ok (.iaload, 1) := by decide +kernel
theorem dX4_step_245 : decode cX4_step 245 = .ok (.iastore, 1) := by decide +kernel
theorem dX4_step_246 : decode cX4_step 246 = .ok (.goto 90, 3) := by decide +kernel
theorem dX4_step_249 : decode cX4_step 249 = .ok (.aload_n 0, 1) := by decide +kernel
theorem dX4_step_250 : decode cX4_step 250 = .ok (.getfield 7, 3) := by decide +kernel
theorem dX4_step_253 : decode cX4_step 253 = .ok (.iload_n 2, 1) := by decide +kernel
theorem dX4_step_254 : decode cX4_step 254 = .ok (.iaload, 1) := by decide +kernel
theorem dX4_step_255 : decode cX4_step 255 = .ok (.iconst 5, 1) := by decide +kernel
theorem dX4_step_256 : decode cX4_step 256 = .ok (.if_icmp .ne 19, 3) := by decide +kernel
theorem dX4_step_259 : decode cX4_step 259 = .ok (.aload_n 0, 1) := by decide +kernel
theorem dX4_step_260 : decode cX4_step 260 = .ok (.iload_n 1, 1) := by decide +kernel
theorem dX4_step_261 : decode cX4_step 261 = .ok (.iload 6, 2) := by decide +kernel
theorem dX4_step_263 : decode cX4_step 263 = .ok (.aload_n 0, 1) := by decide +kernel
theorem dX4_step_264 : decode cX4_step 264 = .ok (.getfield 22, 3) := by decide +kernel
theorem dX4_step_267 : decode cX4_step 267 = .ok (.iload_n 3, 1) := by decide +kernel
theorem dX4_step_268 : decode cX4_step 268 = .ok (.iaload, 1) := by decide +kernel
theorem dX4_step_269 : decode cX4_step 269 = .ok (.invokevirtual 92, 3) := by decide +kernel
theorem dX4_step_272 : decode cX4_step 272 = .ok (.goto 64, 3) := by decide +kernel
theorem dX4_step_275 : decode cX4_step 275 = .ok (.aload_n 0, 1) := by decide +kernel
theorem dX4_step_276 : decode cX4_step 276 = .ok (.getfield 7, 3) := by decide +kernel
theorem dX4_step_279 : decode cX4_step 279 = .ok (.iload_n 2, 1) := by decide +kernel
theorem dX4_step_280 : decode cX4_step 280 = .ok (.iaload, 1) := by decide +kernel
theorem dX4_step_281 : decode cX4_step 281 = .ok (.bipush 6, 2) := by decide +kernel
theorem dX4_step_283 : decode cX4_step 283 = .ok (.if_icmp .eq 53, 3) := by decide +kernel
theorem dX4_step_286 : decode cX4_step 286 = .ok (.aload_n 0, 1) := by decide +kernel
theorem dX4_step_287 : decode cX4_step 287 = .ok (.getfield 22, 3) := by decide +kernel
theorem dX4_step_290 : decode cX4_step 290 = .ok (.iload_n 3, 1) := by decide +kernel
theorem dX4_step_291 : decode cX4_step 291 = .ok (.aload_n 0, 1) := by decide +kernel
theorem dX4_step_292 : decode cX4_step 292 = .ok (.getfield 7, 3) := by decide +kernel
theorem dX4_step_295 : decode cX4_step 295 = .ok (.iload_n 2, 1) := by decide +kernel
theorem dX4_step_296 : decode cX4_step 296 = .ok (.iaload, 1) := by decide +kernel
theorem dX4_step_297 : decode cX4_step 297 = .ok (.iconst 1, 1) := by decide +kernel
theorem dX4_step_298 : decode cX4_step 298 = .ok (.if_icmp .ne 8, 3) := by decide +kernel
theorem dX4_step_301 : decode cX4_step 301 = .ok (.iload 5, 2) := by decide +kernel
theorem dX4_step_303 : decode cX4_step 303 = .ok (.goto 32, 3) := by decide +kernel
theorem dX4_step_306 : decode cX4_step 306 = .ok (.aload_n 0, 1) := by decide +kernel
theorem dX4_step_307 : decode cX4_step 307 = .ok (.getfield 7, 3) := by decide +kernel
theorem dX4_step_310 : decode cX4_step 310 = .ok (.iload_n 2, 1) := by decide +kernel
theorem dX4_step_311 : decode cX4_step 311 = .ok (.iaload, 1) := by decide +kernel
theorem dX4_step_312 : decode cX4_step 312 = .ok (.iconst 2, 1) := by decide +kernel
theorem dX4_step_313 : decode cX4_step 313 = .ok (.if_icmp .ne 13, 3) := by decide +kernel
theorem dX4_step_316 : decode cX4_step 316 = .ok (.aload_n 0, 1) := by decide +kernel
theorem dX4_step_317 : decode cX4_step 317 = .ok (.iload_n 1, 1) := by decide +kernel
theorem dX4_step_318 : decode cX4_step 318 = .ok (.iload 6, 2) := by decide +kernel
theorem dX4_step_320 : decode cX4_step 320 = .ok (.invokevirtual 96, 3) := by decide +kernel
theorem dX4_step_323 : decode cX4_step 323 = .ok (.goto 12, 3) := by decide +kernel
theorem dX4_step_326 : decode cX4_step 326 = .ok (.aload_n 0, 1) := by decide +kernel
theorem dX4_step_327 : decode cX4_step 327 = .ok (.getfield 22, 3) := by decide +kernel
theorem dX4_step_330 : decode cX4_step 330 = .ok (.iload_n 3, 1) := by decide +kernel
theorem dX4_step_331 : decode cX4_step 331 = .ok (.iaload, 1) := by decide +kernel
theorem dX4_step_332 : decode cX4_step 332 = .ok (.iload 4, 2) := by decide +kernel
theorem dX4_step_334 : decode cX4_step 334 = .ok (.iadd, 1) := by decide +kernel
theorem dX4_step_335 : decode cX4_step 335 = .ok (.iastore, 1) := by decide +kernel
theorem dX4_step_336 : decode cX4_step 336 = .ok (.iconst 0, 1) := by decide +kernel
theorem dX4_step_337 : decode cX4_step 337 = .ok (.ireturn, 1) := by decide +kernel
theorem dX4_swap_0 : decode cX4_swap 0 = .ok (.aload_n 0, 1) := by decide +kernel
theorem dX4_swap_1 : decode cX4_swap 1 = .ok (.getfield 43, 3) := by decide +kernel
theorem dX4_swap_4 : decode cX4_swap 4 = .ok (.iload_n 2, 1) := by decide +kernel
theorem dX4_swap_5 : decode cX4_swap 5 = .ok (.iaload, 1) := by decide +kernel
theorem dX4_swap_6 : decode cX4_swap 6 = .ok (.aload_n 0, 1) := by decide +kernel
theorem dX4_swap_7 : decode cX4_swap 7 = .ok (.getfield 22, 3) := by decide +kernel
theorem dX4_swap_10 : decode cX4_swap 10 = .ok (.iconst 4, 1) := by decide +kernel
theorem dX4_swap_11 : decode cX4_swap 11 = .ok (.iload_n 1, 1) := by decide +kernel
theorem dX4_swap_12 : decode cX4_swap 12 = .ok (.imul, 1) := by decide +kernel
theorem dX4_swap_13 : decode cX4_swap 13 = .ok (.iaload, 1) := by decide +kernel
theorem dX4_swap_14 : decode cX4_swap 14 = .ok (.if_icmp .ne 12, 3) := by decide +kernel
theorem dX4_swap_17 : decode cX4_swap 17 = .ok (.aload_n 0, 1) := by decide +kernel
theorem dX4_swap_18 : decode cX4_swap 18 = .ok (.iload_n 2, 1) := by decide +kernel
theorem dX4_swap_19 : decode cX4_swap 19 = .ok (.iload_n 3, 1) := by decide +kernel
theorem dX4_swap_20 : decode cX4_swap 20 = .ok (.invokevirtual 81, 3) := by decide +kernel
theorem dX4_swap_23 : decode cX4_swap 23 = .ok (.goto 17, 3) := by decide +kernel
theorem dX4_swap_26 : decode cX4_swap 26 = .ok (.aload_n 0, 1) := by decide +kernel
theorem dX4_swap_27 : decode cX4_swap 27 = .ok (.getfield 22, 3) := by decide +kernel
theorem dX4_swap_30 : decode cX4_swap 30 = .ok (.iconst 4, 1) := by decide +kernel
theorem dX4_swap_31 : decode cX4_swap 31 = .ok (.iload_n 1, 1) := by decide +kernel
theorem dX4_swap_32 : decode cX4_swap 32 = .ok (.imul, 1) := by decide +kernel
theorem dX4_swap_33 : decode cX4_swap 33 = .ok (.aload_n 0, 1) := by decide +kernel
theorem dX4_swap_34 : decode cX4_swap 34 = .ok (.getfield 43, 3) := by decide +kernel
theorem dX4_swap_37 : decode cX4_swap 37 = .ok (.iload_n 2, 1) := by decide +kernel
theorem dX4_swap_38 : decode cX4_swap 38 = .ok (.iaload, 1) := by decide +kernel
theorem dX4_swap_39 : decode cX4_swap 39 = .ok (.iastore, 1) := by decide +kernel
theorem dX4_swap_40 : decode cX4_swap 40 = .ok (.return_, 1) := by decide +kernel
theorem dX4_run_0 : decode cX4_run 0 = .ok (.aload_n 0, 1) := by decide +kernel
theorem dX4_run_1 : decode cX4_run 1 = .ok (.iload_n 1, 1) := by decide +kernel
theorem dX4_run_2 : decode cX4_run 2 = .ok (.invokevirtual 62, 3) := by decide +kernel
theorem dX4_run_5 : decode cX4_run 5 = .ok (.ifCond .eq 13, 3) := by decide +kernel
theorem dX4_run_8 : decode cX4_run 8 = .ok (.iload_n 2, 1) := by decide +kernel
theorem dX4_run_9 : decode cX4_run 9 = .ok (.ifCond .lt 9, 3) := by decide +kernel
theorem dX4_run_12 : decode cX4_run 12 = .ok (.iload_n 2, 1) := by decide +kernel
theorem dX4_run_13 : decode cX4_run 13 = .ok (.bipush 20, 2) := by decide +kernel
theorem dX4_run_15 : decode cX4_run 15 = .ok (.if_icmp .le 5, 3) := by decide +kernel
theorem dX4_run_18 : decode cX4_run 18 = .ok (.iconst (-1), 1) := by decide +kernel
theorem dX4_run_19 : decode cX4_run 19 = .ok (.ireturn, 1) := by decide +kernel
theorem dX4_run_20 : decode cX4_run 20 = .ok (.iconst 0, 1) := by decide +kernel
theorem dX4_run_21 : decode cX4_run 21 = .ok (.istore_n 3, 1) := by decide +kernel
theorem dX4_run_22 : decode cX4_run 22 = .ok (.iload_n 3, 1) := by decide +kernel
theorem dX4_run_23 : decode cX4_run 23 = .ok (.iload_n 2, 1) := by decide +kernel
theorem dX4_run_24 : decode cX4_run 24 = .ok (.if_icmp .ge 17, 3) := by decide +kernel
theorem dX4_run_27 : decode cX4_run 27 = .ok (.aload_n 0, 1) := by decide +kernel
theorem dX4_run_28 : decode cX4_run 28 = .ok (.iload_n 1, 1) := by decide +kernel
theorem dX4_run_29 : decode cX4_run 29 = .ok (.invokevirtual 100, 3) := by decide +kernel
theorem dX4_run_32 : decode cX4_run 32 = .ok (.ifCond .ne 9, 3) := by decide +kernel
theorem dX4_run_35 : decode cX4_run 35 = .ok (.iinc 3 1, 3) := by decide +kernel
theorem dX4_run_38 : decode cX4_run 38 = .ok (.goto (-16), 3) := by decide +kernel
theorem dX4_run_41 : decode cX4_run 41 = .ok (.iload_n 3, 1) := by decide +kernel
theorem dX4_run_42 : decode cX4_run 42 = .ok (.ireturn, 1) := by decide +kernel
theorem dX4_register_0 : decode cX4_register 0 = .ok (.aload_n 0, 1) := by decide +kernel
theorem dX4_register_1 : decode cX4_register 1 = .ok (.iload_n 1, 1) := by decide +kernel
theorem dX4_register_2 : decode cX4_register 2 = .ok (.invokevirtual 62, 3) := by decide +kernel
theorem dX4_register_5 : decode cX4_register 5 = .ok (.ifCond .eq 25, 3) := by decide +kernel
theorem dX4_register_8 : decode cX4_register 8 = .ok (.iload_n 2, 1) := by decide +kernel
theorem dX4_register_9 : decode cX4_register 9 = .ok (.ifCond .lt 21, 3) := by decide +kernel
theorem dX4_register_12 : decode cX4_register 12 = .ok (.iload_n 2, 1) := by decide +kernel
theorem dX4_register_13 : decode cX4_register 13 = .ok (.iconst 3, 1) := by decide +kernel
theorem dX4_register_14 : decode cX4_register 14 = .ok (.if_icmp .gt 16, 3) := by decide +kernel
theorem dX4_register_17 : decode cX4_register 17 = .ok (.aload_n 0, 1) := by decide +kernel
theorem dX4_register_18 : decode cX4_register 18 = .ok (.getfield 22, 3) := by decide +kernel
theorem dX4_register_21 : decode cX4_register 21 = .ok (.iconst 4, 1) := by decide +kernel
theorem dX4_register_22 : decode cX4_register 22 = .ok (.iload_n 1, 1) := by decide +kernel
theorem dX4_register_23 : decode cX4_register 23 = .ok (.imul, 1) := by decide +kernel
theorem dX4_register_24 : decode cX4_register 24 = .ok (.iload_n 2, 1) := by decide +kernel
theorem dX4_register_25 : decode cX4_register 25 = .ok (.iadd, 1) := by decide +kernel
theorem dX4_register_26 : decode cX4_register 26 = .ok (.iaload, 1) := by decide +kernel
theorem dX4_register_27 : decode cX4_register 27 = .ok (.goto 4, 3) := by decide +kernel
theorem dX4_register_30 : decode cX4_register 30 = .ok (.iconst 0, 1) := by decide +kernel
theorem dX4_register_31 : decode cX4_register 31 = .ok (.ireturn, 1) := by decide +kernel
theorem dX4_place_0 : decode cX4_place 0 = .ok (.aload_n 0, 1) := by decide +kernel
theorem dX4_place_1 : decode cX4_place 1 = .ok (.iload_n 1, 1) := by decide +kernel
theorem dX4_place_2 : decode cX4_place 2 = .ok (.invokevirtual 62, 3) := by decide +kernel
theorem dX4_place_5 : decode cX4_place 5 = .ok (.ifCond .eq 12, 3) := by decide +kernel
theorem dX4_place_8 : decode cX4_place 8 = .ok (.aload_n 0, 1) := by decide +kernel
theorem dX4_place_9 : decode cX4_place 9 = .ok (.getfield 25, 3) := by decide +kernel
theorem dX4_place_12 : decode cX4_place 12 = .ok (.iload_n 1, 1) := by decide +kernel
theorem dX4_place_13 : decode cX4_place 13 = .ok (.iaload, 1) := by decide +kernel
theorem dX4_place_14 : decode cX4_place 14 = .ok (.goto 4, 3) := by decide +kernel
theorem dX4_place_17 : decode cX4_place 17 = .ok (.iconst (-1), 1) := by decide +kernel
theorem dX4_place_18 : decode cX4_place 18 = .ok (.ireturn, 1) := by decide +kernel
theorem dX4_pending_0 : decode cX4_pending 0 = .ok (.aload_n 0, 1) := by decide +kernel
theorem dX4_pending_1 : decode cX4_pending 1 = .ok (.iload_n 1, 1) := by decide +kernel
theorem dX4_pending_2 : decode cX4_pending 2 = .ok (.invokevirtual 62, 3) := by decide +kernel
theorem dX4_pending_5 : decode cX4_pending 5 = .ok (.ifCond .eq 12, 3) := by decide +kernel
theorem dX4_pending_8 : decode cX4_pending 8 = .ok (.aload_n 0, 1) := by decide +kernel
theorem dX4_pending_9 : decode cX4_pending 9 = .ok (.getfield 31, 3) := by decide +kernel
theorem dX4_pending_12 : decode cX4_pending 12 = .ok (.iload_n 1, 1) := by decide +kernel
theorem dX4_pending_13 : decode cX4_pending 13 = .ok (.iaload, 1) := by decide +kernel
theorem dX4_pending_14 : decode cX4_pending 14 = .ok (.goto 4, 3) := by decide +kernel
theorem dX4_pending_17 : decode cX4_pending 17 = .ok (.iconst (-1), 1) := by decide +kernel
theorem dX4_pending_18 : decode cX4_pending 18 = .ok (.ireturn, 1) := by decide +kernel
theorem dX4_entry_0 : decode cX4_entry 0 = .ok (.aload_n 0, 1) := by decide +kernel
theorem dX4_entry_1 : decode cX4_entry 1 = .ok (.iload_n 1, 1) := by decide +kernel
theorem dX4_entry_2 : decode cX4_entry 2 = .ok (.invokevirtual 62, 3) := by decide +kernel
theorem dX4_entry_5 : decode cX4_entry 5 = .ok (.ifCond .eq 26, 3) := by decide +kernel
theorem dX4_entry_8 : decode cX4_entry 8 = .ok (.iload_n 2, 1) := by decide +kernel
theorem dX4_entry_9 : decode cX4_entry 9 = .ok (.ifCond .lt 22, 3) := by decide +kernel
theorem dX4_entry_12 : decode cX4_entry 12 = .ok (.iload_n 2, 1) := by decide +kernel
theorem dX4_entry_13 : decode cX4_entry 13 = .ok (.aload_n 0, 1) := by decide +kernel
theorem dX4_entry_14 : decode cX4_entry 14 = .ok (.getfield 31, 3) := by decide +kernel
theorem dX4_entry_17 : decode cX4_entry 17 = .ok (.iload_n 1, 1) := by decide +kernel
theorem dX4_entry_18 : decode cX4_entry 18 = .ok (.iaload, 1) := by decide +kernel
theorem dX4_entry_19 : decode cX4_entry 19 = .ok (.if_icmp .ge 12, 3) := by decide +kernel
theorem dX4_entry_22 : decode cX4_entry 22 = .ok (.iload_n 3, 1) := by decide +kernel
theorem dX4_entry_23 : decode cX4_entry 23 = .ok (.ifCond .lt 8, 3) := by decide +kernel
theorem dX4_entry_26 : decode cX4_entry 26 = .ok (.iload_n 3, 1) := by decide +kernel
theorem dX4_entry_27 : decode cX4_entry 27 = .ok (.iconst 2, 1) := by decide +kernel
theorem dX4_entry_28 : decode cX4_entry 28 = .ok (.if_icmp .le 5, 3) := by decide +kernel
theorem dX4_entry_31 : decode cX4_entry 31 = .ok (.iconst (-1), 1) := by decide +kernel
theorem dX4_entry_32 : decode cX4_entry 32 = .ok (.ireturn, 1) := by decide +kernel
theorem dX4_entry_33 : decode cX4_entry 33 = .ok (.bipush 8, 2) := by decide +kernel
theorem dX4_entry_35 : decode cX4_entry 35 = .ok (.iload_n 1, 1) := by decide +kernel
theorem dX4_entry_36 : decode cX4_entry 36 = .ok (.imul, 1) := by decide +kernel
theorem dX4_entry_37 : decode cX4_entry 37 = .ok (.iload_n 2, 1) := by decide +kernel
theorem dX4_entry_38 : decode cX4_entry 38 = .ok (.iadd, 1) := by decide +kernel
theorem dX4_entry_39 : decode cX4_entry 39 = .ok (.istore 4, 2) := by decide +kernel
theorem dX4_entry_41 : decode cX4_entry 41 = .ok (.iload_n 3, 1) := by decide +kernel
theorem dX4_entry_42 : decode cX4_entry 42 = .ok (.ifCond .ne 13, 3) := by decide +kernel
theorem dX4_entry_45 : decode cX4_entry 45 = .ok (.aload_n 0, 1) := by decide +kernel
theorem dX4_entry_46 : decode cX4_entry 46 = .ok (.getfield 34, 3) := by decide +kernel
theorem dX4_entry_49 : decode cX4_entry 49 = .ok (.iload 4, 2) := by decide +kernel
theorem dX4_entry_51 : decode cX4_entry 51 = .ok (.iaload, 1) := by decide +kernel
theorem dX4_entry_52 : decode cX4_entry 52 = .ok (.goto 25, 3) := by decide +kernel
theorem dX4_entry_55 : decode cX4_entry 55 = .ok (.iload_n 3, 1) := by decide +kernel
theorem dX4_entry_56 : decode cX4_entry 56 = .ok (.iconst 1, 1) := by decide +kernel
theorem dX4_entry_57 : decode cX4_entry 57 = .ok (.if_icmp .ne 13, 3) := by decide +kernel
theorem dX4_entry_60 : decode cX4_entry 60 = .ok (.aload_n 0, 1) := by decide +kernel
theorem dX4_entry_61 : decode cX4_entry 61 = .ok (.getfield 37, 3) := by decide +kernel
theorem dX4_entry_64 : decode cX4_entry 64 = .ok (.iload 4, 2) := by decide +kernel
theorem dX4_entry_66 : decode cX4_entry 66 = .ok (.iaload, 1) := by decide +kernel
theorem dX4_entry_67 : decode cX4_entry 67 = .ok (.goto 10, 3) := by decide +kernel
theorem dX4_entry_70 : decode cX4_entry 70 = .ok (.aload_n 0, 1) := by decide +kernel
theorem dX4_entry_71 : decode cX4_entry 71 = .ok (.getfield 40, 3) := by decide +kernel
theorem dX4_entry_74 : decode cX4_entry 74 = .ok (.iload 4, 2) := by decide +kernel
theorem dX4_entry_76 : decode cX4_entry 76 = .ok (.iaload, 1) := by decide +kernel
theorem dX4_entry_77 : decode cX4_entry 77 = .ok (.ireturn, 1) := by decide +kernel
theorem dX4_memory_0 : decode cX4_memory 0 = .ok (.iload_n 1, 1) := by decide +kernel
theorem dX4_memory_1 : decode cX4_memory 1 = .ok (.ifCond .lt 9, 3) := by decide +kernel
theorem dX4_memory_4 : decode cX4_memory 4 = .ok (.iload_n 1, 1) := by decide +kernel
theorem dX4_memory_5 : decode cX4_memory 5 = .ok (.bipush 31, 2) := by decide +kernel
theorem dX4_memory_7 : decode cX4_memory 7 = .ok (.if_icmp .le 7, 3) := by decide +kernel
theorem dX4_memory_10 : decode cX4_memory 10 = .ok (.iconst 0, 1) := by decide +kernel
theorem dX4_memory_11 : decode cX4_memory 11 = .ok (.goto 9, 3) := by decide +kernel
theorem dX4_memory_14 : decode cX4_memory 14 = .ok (.aload_n 0, 1) := by decide +kernel
theorem dX4_memory_15 : decode cX4_memory 15 = .ok (.getfield 43, 3) := by decide +kernel
theorem dX4_memory_18 : decode cX4_memory 18 = .ok (.iload_n 1, 1) := by decide +kernel
theorem dX4_memory_19 : decode cX4_memory 19 = .ok (.iaload, 1) := by decide +kernel
theorem dX4_memory_20 : decode cX4_memory 20 = .ok (.ireturn, 1) := by decide +kernel
theorem dX4_storage_0 : decode cX4_storage 0 = .ok (.iload_n 1, 1) := by decide +kernel
theorem dX4_storage_1 : decode cX4_storage 1 = .ok (.ifCond .lt 9, 3) := by decide +kernel
theorem dX4_storage_4 : decode cX4_storage 4 = .ok (.iload_n 1, 1) := by decide +kernel
theorem dX4_storage_5 : decode cX4_storage 5 = .ok (.bipush 31, 2) := by decide +kernel
theorem dX4_storage_7 : decode cX4_storage 7 = .ok (.if_icmp .le 7, 3) := by decide +kernel
theorem dX4_storage_10 : decode cX4_storage 10 = .ok (.iconst 0, 1) := by decide +kernel
theorem dX4_storage_11 : decode cX4_storage 11 = .ok (.goto 9, 3) := by decide +kernel
theorem dX4_storage_14 : decode cX4_storage 14 = .ok (.aload_n 0, 1) := by decide +kernel
theorem dX4_storage_15 : decode cX4_storage 15 = .ok (.getfield 46, 3) := by decide +kernel
theorem dX4_storage_18 : decode cX4_storage 18 = .ok (.iload_n 1, 1) := by decide +kernel
theorem dX4_storage_19 : decode cX4_storage 19 = .ok (.iaload, 1) := by decide +kernel
theorem dX4_storage_20 : decode cX4_storage 20 = .ok (.ireturn, 1) := by decide +kernel
theorem dX4_cores_0 : decode cX4_cores 0 = .ok (.aload_n 0, 1) := by decide +kernel
theorem dX4_cores_1 : decode cX4_cores 1 = .ok (.getfield 55, 3) := by decide +kernel
theorem dX4_cores_4 : decode cX4_cores 4 = .ok (.ireturn, 1) := by decide +kernel
