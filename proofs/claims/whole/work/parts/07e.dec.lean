theorem dX9_wantRule_141 : decode cX9_wantRule 141 = .ok (.iload_n 3, 1) := by decide +kernel
theorem dX9_wantRule_142 : decode cX9_wantRule 142 = .ok (.ifCond .ne 9, 3) := by decide +kernel
theorem dX9_wantRule_145 : decode cX9_wantRule 145 = .ok (.ldc2_w 200, 3) := by decide +kernel
theorem dX9_wantRule_148 : decode cX9_wantRule 148 = .ok (.goto 6, 3) := by decide +kernel
theorem dX9_wantRule_151 : decode cX9_wantRule 151 = .ok (.ldc2_w 202, 3) := by decide +kernel
theorem dX9_wantRule_154 : decode cX9_wantRule 154 = .ok (.invokevirtual 187, 3) := by decide +kernel
theorem dX9_wantRule_157 : decode cX9_wantRule 157 = .ok (.invokevirtual 181, 3) := by decide +kernel
theorem dX9_wantRule_160 : decode cX9_wantRule 160 = .ok (.aload_n 0, 1) := by decide +kernel
theorem dX9_wantRule_161 : decode cX9_wantRule 161 = .ok (.iload_n 3, 1) := by decide +kernel
theorem dX9_wantRule_162 : decode cX9_wantRule 162 = .ok (.iconst 2, 1) := by decide +kernel
theorem dX9_wantRule_163 : decode cX9_wantRule 163 = .ok (.if_icmp .ne 7, 3) := by decide +kernel
theorem dX9_wantRule_166 : decode cX9_wantRule 166 = .ok (.iconst 1, 1) := by decide +kernel
theorem dX9_wantRule_167 : decode cX9_wantRule 167 = .ok (.goto 4, 3) := by decide +kernel
theorem dX9_wantRule_170 : decode cX9_wantRule 170 = .ok (.iconst 0, 1) := by decide +kernel
theorem dX9_wantRule_171 : decode cX9_wantRule 171 = .ok (.iload_n 3, 1) := by decide +kernel
theorem dX9_wantRule_172 : decode cX9_wantRule 172 = .ok (.ifCond .ne 8, 3) := by decide +kernel
theorem dX9_wantRule_175 : decode cX9_wantRule 175 = .ok (.bipush 11, 2) := by decide +kernel
theorem dX9_wantRule_177 : decode cX9_wantRule 177 = .ok (.goto 25, 3) := by decide +kernel
theorem dX9_wantRule_180 : decode cX9_wantRule 180 = .ok (.iload_n 3, 1) := by decide +kernel
theorem dX9_wantRule_181 : decode cX9_wantRule 181 = .ok (.iconst 1, 1) := by decide +kernel
theorem dX9_wantRule_182 : decode cX9_wantRule 182 = .ok (.if_icmp .ne 8, 3) := by decide +kernel
theorem dX9_wantRule_185 : decode cX9_wantRule 185 = .ok (.bipush 99, 2) := by decide +kernel
theorem dX9_wantRule_187 : decode cX9_wantRule 187 = .ok (.goto 15, 3) := by decide +kernel
theorem dX9_wantRule_190 : decode cX9_wantRule 190 = .ok (.iload_n 3, 1) := by decide +kernel
theorem dX9_wantRule_191 : decode cX9_wantRule 191 = .ok (.iconst 2, 1) := by decide +kernel
theorem dX9_wantRule_192 : decode cX9_wantRule 192 = .ok (.if_icmp .ne 8, 3) := by decide +kernel
theorem dX9_wantRule_195 : decode cX9_wantRule 195 = .ok (.bipush 20, 2) := by decide +kernel
theorem dX9_wantRule_197 : decode cX9_wantRule 197 = .ok (.goto 5, 3) := by decide +kernel
theorem dX9_wantRule_200 : decode cX9_wantRule 200 = .ok (.bipush 9, 2) := by decide +kernel
theorem dX9_wantRule_202 : decode cX9_wantRule 202 = .ok (.invokevirtual 197, 3) := by decide +kernel
theorem dX9_wantRule_205 : decode cX9_wantRule 205 = .ok (.istore 5, 2) := by decide +kernel
theorem dX9_wantRule_207 : decode cX9_wantRule 207 = .ok (.iload 5, 2) := by decide +kernel
theorem dX9_wantRule_209 : decode cX9_wantRule 209 = .ok (.istore 6, 2) := by decide +kernel
theorem dX9_wantRule_211 : decode cX9_wantRule 211 = .ok (.iload_n 3, 1) := by decide +kernel
theorem dX9_wantRule_212 : decode cX9_wantRule 212 = .ok (.ifCond .ne 33, 3) := by decide +kernel
theorem dX9_wantRule_215 : decode cX9_wantRule 215 = .ok (.aload_n 0, 1) := by decide +kernel
theorem dX9_wantRule_216 : decode cX9_wantRule 216 = .ok (.getfield 175, 3) := by decide +kernel
theorem dX9_wantRule_219 : decode cX9_wantRule 219 = .ok (.ifCond .ge 26, 3) := by decide +kernel
theorem dX9_wantRule_222 : decode cX9_wantRule 222 = .ok (.aload_n 0, 1) := by decide +kernel
theorem dX9_wantRule_223 : decode cX9_wantRule 223 = .ok (.bipush 45, 2) := by decide +kernel
theorem dX9_wantRule_225 : decode cX9_wantRule 225 = .ok (.invokevirtual 204, 3) := by decide +kernel
theorem dX9_wantRule_228 : decode cX9_wantRule 228 = .ok (.ifCond .eq 17, 3) := by decide +kernel
theorem dX9_wantRule_231 : decode cX9_wantRule 231 = .ok (.aload_n 0, 1) := by decide +kernel
theorem dX9_wantRule_232 : decode cX9_wantRule 232 = .ok (.invokevirtual 178, 3) := by decide +kernel
theorem dX9_wantRule_235 : decode cX9_wantRule 235 = .ok (.aload_n 0, 1) := by decide +kernel
theorem dX9_wantRule_236 : decode cX9_wantRule 236 = .ok (.iload 5, 2) := by decide +kernel
theorem dX9_wantRule_238 : decode cX9_wantRule 238 = .ok (.bipush 11, 2) := by decide +kernel
theorem dX9_wantRule_240 : decode cX9_wantRule 240 = .ok (.invokevirtual 197, 3) := by decide +kernel
theorem dX9_wantRule_243 : decode cX9_wantRule 243 = .ok (.istore 6, 2) := by decide +kernel
theorem dX9_wantRule_245 : decode cX9_wantRule 245 = .ok (.aload_n 0, 1) := by decide +kernel
theorem dX9_wantRule_246 : decode cX9_wantRule 246 = .ok (.getfield 31, 3) := by decide +kernel
theorem dX9_wantRule_249 : decode cX9_wantRule 249 = .ok (.iload_n 2, 1) := by decide +kernel
theorem dX9_wantRule_250 : decode cX9_wantRule 250 = .ok (.iload_n 3, 1) := by decide +kernel
theorem dX9_wantRule_251 : decode cX9_wantRule 251 = .ok (.iastore, 1) := by decide +kernel
theorem dX9_wantRule_252 : decode cX9_wantRule 252 = .ok (.aload_n 0, 1) := by decide +kernel
theorem dX9_wantRule_253 : decode cX9_wantRule 253 = .ok (.getfield 31, 3) := by decide +kernel
theorem dX9_wantRule_256 : decode cX9_wantRule 256 = .ok (.iload_n 2, 1) := by decide +kernel
theorem dX9_wantRule_257 : decode cX9_wantRule 257 = .ok (.iconst 1, 1) := by decide +kernel
theorem dX9_wantRule_258 : decode cX9_wantRule 258 = .ok (.iadd, 1) := by decide +kernel
theorem dX9_wantRule_259 : decode cX9_wantRule 259 = .ok (.iload 4, 2) := by decide +kernel
theorem dX9_wantRule_261 : decode cX9_wantRule 261 = .ok (.iastore, 1) := by decide +kernel
theorem dX9_wantRule_262 : decode cX9_wantRule 262 = .ok (.aload_n 0, 1) := by decide +kernel
theorem dX9_wantRule_263 : decode cX9_wantRule 263 = .ok (.getfield 31, 3) := by decide +kernel
theorem dX9_wantRule_266 : decode cX9_wantRule 266 = .ok (.iload_n 2, 1) := by decide +kernel
theorem dX9_wantRule_267 : decode cX9_wantRule 267 = .ok (.iconst 2, 1) := by decide +kernel
theorem dX9_wantRule_268 : decode cX9_wantRule 268 = .ok (.iadd, 1) := by decide +kernel
theorem dX9_wantRule_269 : decode cX9_wantRule 269 = .ok (.iload 5, 2) := by decide +kernel
theorem dX9_wantRule_271 : decode cX9_wantRule 271 = .ok (.iastore, 1) := by decide +kernel
theorem dX9_wantRule_272 : decode cX9_wantRule 272 = .ok (.aload_n 0, 1) := by decide +kernel
theorem dX9_wantRule_273 : decode cX9_wantRule 273 = .ok (.getfield 31, 3) := by decide +kernel
theorem dX9_wantRule_276 : decode cX9_wantRule 276 = .ok (.iload_n 2, 1) := by decide +kernel
theorem dX9_wantRule_277 : decode cX9_wantRule 277 = .ok (.iconst 3, 1) := by decide +kernel
theorem dX9_wantRule_278 : decode cX9_wantRule 278 = .ok (.iadd, 1) := by decide +kernel
theorem dX9_wantRule_279 : decode cX9_wantRule 279 = .ok (.iload 6, 2) := by decide +kernel
theorem dX9_wantRule_281 : decode cX9_wantRule 281 = .ok (.iastore, 1) := by decide +kernel
theorem dX9_wantRule_282 : decode cX9_wantRule 282 = .ok (.return_, 1) := by decide +kernel
theorem dX9_text_0 : decode cX9_text 0 = .ok (.iload_n 1, 1) := by decide +kernel
theorem dX9_text_1 : decode cX9_text 1 = .ok (.iconst 0, 1) := by decide +kernel
theorem dX9_text_2 : decode cX9_text 2 = .ok (.sipush 9999, 3) := by decide +kernel
theorem dX9_text_5 : decode cX9_text 5 = .ok (.invokestatic 79, 3) := by decide +kernel
theorem dX9_text_8 : decode cX9_text 8 = .ok (.ifCond .ne 9, 3) := by decide +kernel
theorem dX9_text_11 : decode cX9_text 11 = .ok (.aload_n 0, 1) := by decide +kernel
theorem dX9_text_12 : decode cX9_text 12 = .ok (.iconst 1, 1) := by decide +kernel
theorem dX9_text_13 : decode cX9_text 13 = .ok (.invokevirtual 97, 3) := by decide +kernel
theorem dX9_text_16 : decode cX9_text 16 = .ok (.ireturn, 1) := by decide +kernel
theorem dX9_text_17 : decode cX9_text 17 = .ok (.aload_n 0, 1) := by decide +kernel
theorem dX9_text_18 : decode cX9_text 18 = .ok (.getfield 13, 3) := by decide +kernel
theorem dX9_text_21 : decode cX9_text 21 = .ok (.iconst 2, 1) := by decide +kernel
theorem dX9_text_22 : decode cX9_text 22 = .ok (.iaload, 1) := by decide +kernel
theorem dX9_text_23 : decode cX9_text 23 = .ok (.bipush 8, 2) := by decide +kernel
theorem dX9_text_25 : decode cX9_text 25 = .ok (.if_icmp .ne 9, 3) := by decide +kernel
theorem dX9_text_28 : decode cX9_text 28 = .ok (.aload_n 0, 1) := by decide +kernel
theorem dX9_text_29 : decode cX9_text 29 = .ok (.iconst 2, 1) := by decide +kernel
theorem dX9_text_30 : decode cX9_text 30 = .ok (.invokevirtual 97, 3) := by decide +kernel
theorem dX9_text_33 : decode cX9_text 33 = .ok (.ireturn, 1) := by decide +kernel
theorem dX9_text_34 : decode cX9_text 34 = .ok (.aload_n 0, 1) := by decide +kernel
theorem dX9_text_35 : decode cX9_text 35 = .ok (.iconst (-1), 1) := by decide +kernel
theorem dX9_text_36 : decode cX9_text 36 = .ok (.putfield 175, 3) := by decide +kernel
theorem dX9_text_39 : decode cX9_text 39 = .ok (.aload_n 0, 1) := by decide +kernel
theorem dX9_text_40 : decode cX9_text 40 = .ok (.iconst 0, 1) := by decide +kernel
theorem dX9_text_41 : decode cX9_text 41 = .ok (.putfield 152, 3) := by decide +kernel
theorem dX9_text_44 : decode cX9_text 44 = .ok (.aload_n 0, 1) := by decide +kernel
theorem dX9_text_45 : decode cX9_text 45 = .ok (.invokevirtual 178, 3) := by decide +kernel
theorem dX9_text_48 : decode cX9_text 48 = .ok (.iconst 0, 1) := by decide +kernel
theorem dX9_text_49 : decode cX9_text 49 = .ok (.istore_n 2, 1) := by decide +kernel
theorem dX9_text_50 : decode cX9_text 50 = .ok (.iconst 1, 1) := by decide +kernel
theorem dX9_text_51 : decode cX9_text 51 = .ok (.istore_n 3, 1) := by decide +kernel
theorem dX9_text_52 : decode cX9_text 52 = .ok (.iload_n 3, 1) := by decide +kernel
theorem dX9_text_53 : decode cX9_text 53 = .ok (.ifCond .eq 44, 3) := by decide +kernel
theorem dX9_text_56 : decode cX9_text 56 = .ok (.aload_n 0, 1) := by decide +kernel
theorem dX9_text_57 : decode cX9_text 57 = .ok (.iload_n 2, 1) := by decide +kernel
theorem dX9_text_58 : decode cX9_text 58 = .ok (.invokevirtual 207, 3) := by decide +kernel
theorem dX9_text_61 : decode cX9_text 61 = .ok (.iinc 2 1, 3) := by decide +kernel
theorem dX9_text_64 : decode cX9_text 64 = .ok (.aload_n 0, 1) := by decide +kernel
theorem dX9_text_65 : decode cX9_text 65 = .ok (.getfield 175, 3) := by decide +kernel
theorem dX9_text_68 : decode cX9_text 68 = .ok (.ifCond .ge 16, 3) := by decide +kernel
theorem dX9_text_71 : decode cX9_text 71 = .ok (.aload_n 0, 1) := by decide +kernel
theorem dX9_text_72 : decode cX9_text 72 = .ok (.bipush 59, 2) := by decide +kernel
theorem dX9_text_74 : decode cX9_text 74 = .ok (.invokevirtual 204, 3) := by decide +kernel
theorem dX9_text_77 : decode cX9_text 77 = .ok (.ifCond .eq 7, 3) := by decide +kernel
theorem dX9_text_80 : decode cX9_text 80 = .ok (.iconst 1, 1) := by decide +kernel
theorem dX9_text_81 : decode cX9_text 81 = .ok (.goto 4, 3) := by decide +kernel
theorem dX9_text_84 : decode cX9_text 84 = .ok (.iconst 0, 1) := by decide +kernel
theorem dX9_text_85 : decode cX9_text 85 = .ok (.istore_n 3, 1) := by decide +kernel
theorem dX9_text_86 : decode cX9_text 86 = .ok (.iload_n 3, 1) := by decide +kernel
theorem dX9_text_87 : decode cX9_text 87 = .ok (.ifCond .eq (-35), 3) := by decide +kernel
theorem dX9_text_90 : decode cX9_text 90 = .ok (.aload_n 0, 1) := by decide +kernel
theorem dX9_text_91 : decode cX9_text 91 = .ok (.invokevirtual 178, 3) := by decide +kernel
theorem dX9_text_94 : decode cX9_text 94 = .ok (.goto (-42), 3) := by decide +kernel
theorem dX9_text_97 : decode cX9_text 97 = .ok (.aload_n 0, 1) := by decide +kernel
theorem dX9_text_98 : decode cX9_text 98 = .ok (.aload_n 0, 1) := by decide +kernel
theorem dX9_text_99 : decode cX9_text 99 = .ok (.getfield 162, 3) := by decide +kernel
theorem dX9_text_102 : decode cX9_text 102 = .ok (.ifCond .ne 7, 3) := by decide +kernel
theorem dX9_text_105 : decode cX9_text 105 = .ok (.iconst 1, 1) := by decide +kernel
theorem dX9_text_106 : decode cX9_text 106 = .ok (.goto 4, 3) := by decide +kernel
theorem dX9_text_109 : decode cX9_text 109 = .ok (.iconst 0, 1) := by decide +kernel
theorem dX9_text_110 : decode cX9_text 110 = .ok (.invokevirtual 181, 3) := by decide +kernel
theorem dX9_text_113 : decode cX9_text 113 = .ok (.aload_n 0, 1) := by decide +kernel
theorem dX9_text_114 : decode cX9_text 114 = .ok (.getfield 175, 3) := by decide +kernel
theorem dX9_text_117 : decode cX9_text 117 = .ok (.ifCond .lt 10, 3) := by decide +kernel
theorem dX9_text_120 : decode cX9_text 120 = .ok (.iconst (-1), 1) := by decide +kernel
theorem dX9_text_121 : decode cX9_text 121 = .ok (.aload_n 0, 1) := by decide +kernel
theorem dX9_text_122 : decode cX9_text 122 = .ok (.getfield 175, 3) := by decide +kernel
theorem dX9_text_125 : decode cX9_text 125 = .ok (.isub, 1) := by decide +kernel
theorem dX9_text_126 : decode cX9_text 126 = .ok (.ireturn, 1) := by decide +kernel
theorem dX9_text_127 : decode cX9_text 127 = .ok (.aload_n 0, 1) := by decide +kernel
theorem dX9_text_128 : decode cX9_text 128 = .ok (.getfield 28, 3) := by decide +kernel
theorem dX9_text_131 : decode cX9_text 131 = .ok (.iconst 2, 1) := by decide +kernel
theorem dX9_text_132 : decode cX9_text 132 = .ok (.aload_n 0, 1) := by decide +kernel
theorem dX9_text_133 : decode cX9_text 133 = .ok (.getfield 13, 3) := by decide +kernel
theorem dX9_text_136 : decode cX9_text 136 = .ok (.iconst 2, 1) := by decide +kernel
theorem dX9_text_137 : decode cX9_text 137 = .ok (.iaload, 1) := by decide +kernel
theorem dX9_text_138 : decode cX9_text 138 = .ok (.imul, 1) := by decide +kernel
theorem dX9_text_139 : decode cX9_text 139 = .ok (.iload_n 1, 1) := by decide +kernel
theorem dX9_text_140 : decode cX9_text 140 = .ok (.iastore, 1) := by decide +kernel
theorem dX9_text_141 : decode cX9_text 141 = .ok (.aload_n 0, 1) := by decide +kernel
theorem dX9_text_142 : decode cX9_text 142 = .ok (.getfield 28, 3) := by decide +kernel
theorem dX9_text_145 : decode cX9_text 145 = .ok (.iconst 2, 1) := by decide +kernel
theorem dX9_text_146 : decode cX9_text 146 = .ok (.aload_n 0, 1) := by decide +kernel
theorem dX9_text_147 : decode cX9_text 147 = .ok (.getfield 13, 3) := by decide +kernel
theorem dX9_text_150 : decode cX9_text 150 = .ok (.iconst 2, 1) := by decide +kernel
theorem dX9_text_151 : decode cX9_text 151 = .ok (.iaload, 1) := by decide +kernel
theorem dX9_text_152 : decode cX9_text 152 = .ok (.imul, 1) := by decide +kernel
theorem dX9_text_153 : decode cX9_text 153 = .ok (.iconst 1, 1) := by decide +kernel
theorem dX9_text_154 : decode cX9_text 154 = .ok (.iadd, 1) := by decide +kernel
theorem dX9_text_155 : decode cX9_text 155 = .ok (.iload_n 2, 1) := by decide +kernel
theorem dX9_text_156 : decode cX9_text 156 = .ok (.iastore, 1) := by decide +kernel
theorem dX9_text_157 : decode cX9_text 157 = .ok (.aload_n 0, 1) := by decide +kernel
theorem dX9_text_158 : decode cX9_text 158 = .ok (.getfield 13, 3) := by decide +kernel
theorem dX9_text_161 : decode cX9_text 161 = .ok (.iconst 2, 1) := by decide +kernel
theorem dX9_text_162 : decode cX9_text 162 = .ok (.dup2, 1) := by decide +kernel
theorem dX9_text_163 : decode cX9_text 163 = .ok (.iaload, 1) := by decide +kernel
theorem dX9_text_164 : decode cX9_text 164 = .ok (.iconst 1, 1) := by decide +kernel
theorem dX9_text_165 : decode cX9_text 165 = .ok (.iadd, 1) := by decide +kernel
theorem dX9_text_166 : decode cX9_text 166 = .ok (.iastore, 1) := by decide +kernel
theorem dX9_text_167 : decode cX9_text 167 = .ok (.aload_n 0, 1) := by decide +kernel
theorem dX9_text_168 : decode cX9_text 168 = .ok (.iconst 0, 1) := by decide +kernel
theorem dX9_text_169 : decode cX9_text 169 = .ok (.putfield 149, 3) := by decide +kernel
theorem dX9_text_172 : decode cX9_text 172 = .ok (.aload_n 0, 1) := by decide +kernel
theorem dX9_text_173 : decode cX9_text 173 = .ok (.getfield 13, 3) := by decide +kernel
theorem dX9_text_176 : decode cX9_text 176 = .ok (.iconst 2, 1) := by decide +kernel
theorem dX9_text_177 : decode cX9_text 177 = .ok (.iaload, 1) := by decide +kernel
theorem dX9_text_178 : decode cX9_text 178 = .ok (.iconst 1, 1) := by decide +kernel
theorem dX9_text_179 : decode cX9_text 179 = .ok (.isub, 1) := by decide +kernel
theorem dX9_text_180 : decode cX9_text 180 = .ok (.ireturn, 1) := by decide +kernel
theorem dX9_ruleOf_0 : decode cX9_ruleOf 0 = .ok (.aload_n 0, 1) := by decide +kernel
theorem dX9_ruleOf_1 : decode cX9_ruleOf 1 = .ok (.getfield 13, 3) := by decide +kernel
theorem dX9_ruleOf_4 : decode cX9_ruleOf 4 = .ok (.iconst 2, 1) := by decide +kernel
theorem dX9_ruleOf_5 : decode cX9_ruleOf 5 = .ok (.iaload, 1) := by decide +kernel
theorem dX9_ruleOf_6 : decode cX9_ruleOf 6 = .ok (.iconst 1, 1) := by decide +kernel
theorem dX9_ruleOf_7 : decode cX9_ruleOf 7 = .ok (.isub, 1) := by decide +kernel
theorem dX9_ruleOf_8 : decode cX9_ruleOf 8 = .ok (.istore_n 3, 1) := by decide +kernel
theorem dX9_ruleOf_9 : decode cX9_ruleOf 9 = .ok (.iload_n 3, 1) := by decide +kernel
theorem dX9_ruleOf_10 : decode cX9_ruleOf 10 = .ok (.ifCond .lt 90, 3) := by decide +kernel
theorem dX9_ruleOf_13 : decode cX9_ruleOf 13 = .ok (.iconst 0, 1) := by decide +kernel
theorem dX9_ruleOf_14 : decode cX9_ruleOf 14 = .ok (.istore 4, 2) := by decide +kernel
theorem dX9_ruleOf_16 : decode cX9_ruleOf 16 = .ok (.iload 4, 2) := by decide +kernel
theorem dX9_ruleOf_18 : decode cX9_ruleOf 18 = .ok (.aload_n 0, 1) := by decide +kernel
theorem dX9_ruleOf_19 : decode cX9_ruleOf 19 = .ok (.getfield 28, 3) := by decide +kernel
theorem dX9_ruleOf_22 : decode cX9_ruleOf 22 = .ok (.iconst 2, 1) := by decide +kernel
theorem dX9_ruleOf_23 : decode cX9_ruleOf 23 = .ok (.iload_n 3, 1) := by decide +kernel
theorem dX9_ruleOf_24 : decode cX9_ruleOf 24 = .ok (.imul, 1) := by decide +kernel
theorem dX9_ruleOf_25 : decode cX9_ruleOf 25 = .ok (.iconst 1, 1) := by decide +kernel
theorem dX9_ruleOf_26 : decode cX9_ruleOf 26 = .ok (.iadd, 1) := by decide +kernel
theorem dX9_ruleOf_27 : decode cX9_ruleOf 27 = .ok (.iaload, 1) := by decide +kernel
theorem dX9_ruleOf_28 : decode cX9_ruleOf 28 = .ok (.if_icmp .ge 66, 3) := by decide +kernel
theorem dX9_ruleOf_31 : decode cX9_ruleOf 31 = .ok (.aload_n 0, 1) := by decide +kernel
theorem dX9_ruleOf_32 : decode cX9_ruleOf 32 = .ok (.getfield 28, 3) := by decide +kernel
theorem dX9_ruleOf_35 : decode cX9_ruleOf 35 = .ok (.iconst 2, 1) := by decide +kernel
theorem dX9_ruleOf_36 : decode cX9_ruleOf 36 = .ok (.iload_n 3, 1) := by decide +kernel
theorem dX9_ruleOf_37 : decode cX9_ruleOf 37 = .ok (.imul, 1) := by decide +kernel
theorem dX9_ruleOf_38 : decode cX9_ruleOf 38 = .ok (.iaload, 1) := by decide +kernel
theorem dX9_ruleOf_39 : decode cX9_ruleOf 39 = .ok (.aload_n 0, 1) := by decide +kernel
theorem dX9_ruleOf_40 : decode cX9_ruleOf 40 = .ok (.getfield 13, 3) := by decide +kernel
theorem dX9_ruleOf_43 : decode cX9_ruleOf 43 = .ok (.iconst 4, 1) := by decide +kernel
theorem dX9_ruleOf_44 : decode cX9_ruleOf 44 = .ok (.iaload, 1) := by decide +kernel
theorem dX9_ruleOf_45 : decode cX9_ruleOf 45 = .ok (.if_icmp .gt 49, 3) := by decide +kernel
theorem dX9_ruleOf_48 : decode cX9_ruleOf 48 = .ok (.bipush 6, 2) := by decide +kernel
theorem dX9_ruleOf_50 : decode cX9_ruleOf 50 = .ok (.iload_n 3, 1) := by decide +kernel
theorem dX9_ruleOf_51 : decode cX9_ruleOf 51 = .ok (.imul, 1) := by decide +kernel
theorem dX9_ruleOf_52 : decode cX9_ruleOf 52 = .ok (.iload 4, 2) := by decide +kernel
theorem dX9_ruleOf_54 : decode cX9_ruleOf 54 = .ok (.iadd, 1) := by decide +kernel
theorem dX9_ruleOf_55 : decode cX9_ruleOf 55 = .ok (.istore 5, 2) := by decide +kernel
theorem dX9_ruleOf_57 : decode cX9_ruleOf 57 = .ok (.aload_n 0, 1) := by decide +kernel
theorem dX9_ruleOf_58 : decode cX9_ruleOf 58 = .ok (.getfield 31, 3) := by decide +kernel
theorem dX9_ruleOf_61 : decode cX9_ruleOf 61 = .ok (.iconst 4, 1) := by decide +kernel
theorem dX9_ruleOf_62 : decode cX9_ruleOf 62 = .ok (.iload 5, 2) := by decide +kernel
theorem dX9_ruleOf_64 : decode cX9_ruleOf 64 = .ok (.imul, 1) := by decide +kernel
theorem dX9_ruleOf_65 : decode cX9_ruleOf 65 = .ok (.iaload, 1) := by decide +kernel
theorem dX9_ruleOf_66 : decode cX9_ruleOf 66 = .ok (.iload_n 1, 1) := by decide +kernel
theorem dX9_ruleOf_67 : decode cX9_ruleOf 67 = .ok (.if_icmp .ne 21, 3) := by decide +kernel
theorem dX9_ruleOf_70 : decode cX9_ruleOf 70 = .ok (.aload_n 0, 1) := by decide +kernel
theorem dX9_ruleOf_71 : decode cX9_ruleOf 71 = .ok (.getfield 31, 3) := by decide +kernel
theorem dX9_ruleOf_74 : decode cX9_ruleOf 74 = .ok (.iconst 4, 1) := by decide +kernel
theorem dX9_ruleOf_75 : decode cX9_ruleOf 75 = .ok (.iload 5, 2) := by decide +kernel
theorem dX9_ruleOf_77 : decode cX9_ruleOf 77 = .ok (.imul, 1) := by decide +kernel
theorem dX9_ruleOf_78 : decode cX9_ruleOf 78 = .ok (.iconst 1, 1) := by decide +kernel
theorem dX9_ruleOf_79 : decode cX9_ruleOf 79 = .ok (.iadd, 1) := by decide +kernel
theorem dX9_ruleOf_80 : decode cX9_ruleOf 80 = .ok (.iaload, 1) := by decide +kernel
theorem dX9_ruleOf_81 : decode cX9_ruleOf 81 = .ok (.iload_n 2, 1) := by decide +kernel
theorem dX9_ruleOf_82 : decode cX9_ruleOf 82 = .ok (.if_icmp .ne 6, 3) := by decide +kernel
theorem dX9_ruleOf_85 : decode cX9_ruleOf 85 = .ok (.iload 5, 2) := by decide +kernel
theorem dX9_ruleOf_87 : decode cX9_ruleOf 87 = .ok (.ireturn, 1) := by decide +kernel
theorem dX9_ruleOf_88 : decode cX9_ruleOf 88 = .ok (.iinc 4 1, 3) := by decide +kernel
theorem dX9_ruleOf_91 : decode cX9_ruleOf 91 = .ok (.goto (-75), 3) := by decide +kernel
theorem dX9_ruleOf_94 : decode cX9_ruleOf 94 = .ok (.iinc 3 (-1), 3) := by decide +kernel
theorem dX9_ruleOf_97 : decode cX9_ruleOf 97 = .ok (.goto (-88), 3) := by decide +kernel
theorem dX9_ruleOf_100 : decode cX9_ruleOf 100 = .ok (.iconst (-1), 1) := by decide +kernel
theorem dX9_ruleOf_101 : decode cX9_ruleOf 101 = .ok (.ireturn, 1) := by decide +kernel
theorem dX9_means_0 : decode cX9_means 0 = .ok (.iload_n 1, 1) := by decide +kernel
theorem dX9_means_1 : decode cX9_means 1 = .ok (.iconst 0, 1) := by decide +kernel
theorem dX9_means_2 : decode cX9_means 2 = .ok (.bipush 15, 2) := by decide +kernel
theorem dX9_means_4 : decode cX9_means 4 = .ok (.invokestatic 79, 3) := by decide +kernel
theorem dX9_means_7 : decode cX9_means 7 = .ok (.ifCond .ne 9, 3) := by decide +kernel
theorem dX9_means_10 : decode cX9_means 10 = .ok (.aload_n 0, 1) := by decide +kernel
theorem dX9_means_11 : decode cX9_means 11 = .ok (.iconst 1, 1) := by decide +kernel
theorem dX9_means_12 : decode cX9_means 12 = .ok (.invokevirtual 97, 3) := by decide +kernel
theorem dX9_means_15 : decode cX9_means 15 = .ok (.ireturn, 1) := by decide +kernel
theorem dX9_means_16 : decode cX9_means 16 = .ok (.aload_n 0, 1) := by decide +kernel
theorem dX9_means_17 : decode cX9_means 17 = .ok (.iconst 0, 1) := by decide +kernel
theorem dX9_means_18 : decode cX9_means 18 = .ok (.iload_n 1, 1) := by decide +kernel
theorem dX9_means_19 : decode cX9_means 19 = .ok (.invokevirtual 127, 3) := by decide +kernel
theorem dX9_means_22 : decode cX9_means 22 = .ok (.istore_n 2, 1) := by decide +kernel
theorem dX9_means_23 : decode cX9_means 23 = .ok (.iload_n 2, 1) := by decide +kernel
theorem dX9_means_24 : decode cX9_means 24 = .ok (.ifCond .ge 9, 3) := by decide +kernel
theorem dX9_means_27 : decode cX9_means 27 = .ok (.sipush 4095, 3) := by decide +kernel
theorem dX9_means_30 : decode cX9_means 30 = .ok (.goto 26, 3) := by decide +kernel
theorem dX9_means_33 : decode cX9_means 33 = .ok (.aload_n 0, 1) := by decide +kernel
theorem dX9_means_34 : decode cX9_means 34 = .ok (.getfield 31, 3) := by decide +kernel
theorem dX9_means_37 : decode cX9_means 37 = .ok (.iconst 4, 1) := by decide +kernel
theorem dX9_means_38 : decode cX9_means 38 = .ok (.iload_n 2, 1) := by decide +kernel
theorem dX9_means_39 : decode cX9_means 39 = .ok (.imul, 1) := by decide +kernel
theorem dX9_means_40 : decode cX9_means 40 = .ok (.iconst 2, 1) := by decide +kernel
theorem dX9_means_41 : decode cX9_means 41 = .ok (.iadd, 1) := by decide +kernel
theorem dX9_means_42 : decode cX9_means 42 = .ok (.iaload, 1) := by decide +kernel
theorem dX9_means_43 : decode cX9_means 43 = .ok (.aload_n 0, 1) := by decide +kernel
theorem dX9_means_44 : decode cX9_means 44 = .ok (.getfield 31, 3) := by decide +kernel
theorem dX9_means_47 : decode cX9_means 47 = .ok (.iconst 4, 1) := by decide +kernel
theorem dX9_means_48 : decode cX9_means 48 = .ok (.iload_n 2, 1) := by decide +kernel
theorem dX9_means_49 : decode cX9_means 49 = .ok (.imul, 1) := by decide +kernel
theorem dX9_means_50 : decode cX9_means 50 = .ok (.iconst 3, 1) := by decide +kernel
theorem dX9_means_51 : decode cX9_means 51 = .ok (.iadd, 1) := by decide +kernel
theorem dX9_means_52 : decode cX9_means 52 = .ok (.iaload, 1) := by decide +kernel
theorem dX9_means_53 : decode cX9_means 53 = .ok (.invokestatic 130, 3) := by decide +kernel
theorem dX9_means_56 : decode cX9_means 56 = .ok (.ireturn, 1) := by decide +kernel
theorem dX9_ruleAbout_0 : decode cX9_ruleAbout 0 = .ok (.iload_n 1, 1) := by decide +kernel
theorem dX9_ruleAbout_1 : decode cX9_ruleAbout 1 = .ok (.iconst 4, 1) := by decide +kernel
theorem dX9_ruleAbout_2 : decode cX9_ruleAbout 2 = .ok (.if_icmp .ge 12, 3) := by decide +kernel
theorem dX9_ruleAbout_5 : decode cX9_ruleAbout 5 = .ok (.aload_n 0, 1) := by decide +kernel
theorem dX9_ruleAbout_6 : decode cX9_ruleAbout 6 = .ok (.iconst 1, 1) := by decide +kernel
theorem dX9_ruleAbout_7 : decode cX9_ruleAbout 7 = .ok (.iload_n 1, 1) := by decide +kernel
theorem dX9_ruleAbout_8 : decode cX9_ruleAbout 8 = .ok (.invokevirtual 127, 3) := by decide +kernel
theorem dX9_ruleAbout_11 : decode cX9_ruleAbout 11 = .ok (.goto 43, 3) := by decide +kernel
theorem dX9_ruleAbout_14 : decode cX9_ruleAbout 14 = .ok (.iload_n 1, 1) := by decide +kernel
theorem dX9_ruleAbout_15 : decode cX9_ruleAbout 15 = .ok (.iconst 4, 1) := by decide +kernel
theorem dX9_ruleAbout_16 : decode cX9_ruleAbout 16 = .ok (.if_icmp .ne 12, 3) := by decide +kernel
theorem dX9_ruleAbout_19 : decode cX9_ruleAbout 19 = .ok (.aload_n 0, 1) := by decide +kernel
theorem dX9_ruleAbout_20 : decode cX9_ruleAbout 20 = .ok (.iconst 2, 1) := by decide +kernel
theorem dX9_ruleAbout_21 : decode cX9_ruleAbout 21 = .ok (.iconst 0, 1) := by decide +kernel
theorem dX9_ruleAbout_22 : decode cX9_ruleAbout 22 = .ok (.invokevirtual 127, 3) := by decide +kernel
theorem dX9_ruleAbout_25 : decode cX9_ruleAbout 25 = .ok (.goto 29, 3) := by decide +kernel
theorem dX9_ruleAbout_28 : decode cX9_ruleAbout 28 = .ok (.iload_n 1, 1) := by decide +kernel
theorem dX9_ruleAbout_29 : decode cX9_ruleAbout 29 = .ok (.bipush 8, 2) := by decide +kernel
theorem dX9_ruleAbout_31 : decode cX9_ruleAbout 31 = .ok (.if_icmp .ge 14, 3) := by decide +kernel
theorem dX9_ruleAbout_34 : decode cX9_ruleAbout 34 = .ok (.aload_n 0, 1) := by decide +kernel
theorem dX9_ruleAbout_35 : decode cX9_ruleAbout 35 = .ok (.iconst 3, 1) := by decide +kernel
theorem dX9_ruleAbout_36 : decode cX9_ruleAbout 36 = .ok (.iload_n 1, 1) := by decide +kernel
theorem dX9_ruleAbout_37 : decode cX9_ruleAbout 37 = .ok (.iconst 5, 1) := by decide +kernel
theorem dX9_ruleAbout_38 : decode cX9_ruleAbout 38 = .ok (.isub, 1) := by decide +kernel
theorem dX9_ruleAbout_39 : decode cX9_ruleAbout 39 = .ok (.invokevirtual 127, 3) := by decide +kernel
theorem dX9_ruleAbout_42 : decode cX9_ruleAbout 42 = .ok (.goto 12, 3) := by decide +kernel
theorem dX9_ruleAbout_45 : decode cX9_ruleAbout 45 = .ok (.aload_n 0, 1) := by decide +kernel
theorem dX9_ruleAbout_46 : decode cX9_ruleAbout 46 = .ok (.iconst 0, 1) := by decide +kernel
theorem dX9_ruleAbout_47 : decode cX9_ruleAbout 47 = .ok (.iload_n 1, 1) := by decide +kernel
theorem dX9_ruleAbout_48 : decode cX9_ruleAbout 48 = .ok (.bipush 8, 2) := by decide +kernel
theorem dX9_ruleAbout_50 : decode cX9_ruleAbout 50 = .ok (.isub, 1) := by decide +kernel
theorem dX9_ruleAbout_51 : decode cX9_ruleAbout 51 = .ok (.invokevirtual 127, 3) := by decide +kernel
theorem dX9_ruleAbout_54 : decode cX9_ruleAbout 54 = .ok (.ireturn, 1) := by decide +kernel
theorem dX9_lawOf_0 : decode cX9_lawOf 0 = .ok (.aload_n 0, 1) := by decide +kernel
theorem dX9_lawOf_1 : decode cX9_lawOf 1 = .ok (.iload_n 1, 1) := by decide +kernel
theorem dX9_lawOf_2 : decode cX9_lawOf 2 = .ok (.invokevirtual 210, 3) := by decide +kernel
theorem dX9_lawOf_5 : decode cX9_lawOf 5 = .ok (.istore_n 2, 1) := by decide +kernel
theorem dX9_lawOf_6 : decode cX9_lawOf 6 = .ok (.iload_n 2, 1) := by decide +kernel
theorem dX9_lawOf_7 : decode cX9_lawOf 7 = .ok (.ifCond .lt 16, 3) := by decide +kernel
theorem dX9_lawOf_10 : decode cX9_lawOf 10 = .ok (.aload_n 0, 1) := by decide +kernel
theorem dX9_lawOf_11 : decode cX9_lawOf 11 = .ok (.getfield 31, 3) := by decide +kernel
theorem dX9_lawOf_14 : decode cX9_lawOf 14 = .ok (.iconst 4, 1) := by decide +kernel
theorem dX9_lawOf_15 : decode cX9_lawOf 15 = .ok (.iload_n 2, 1) := by decide +kernel
theorem dX9_lawOf_16 : decode cX9_lawOf 16 = .ok (.imul, 1) := by decide +kernel
theorem dX9_lawOf_17 : decode cX9_lawOf 17 = .ok (.iconst 2, 1) := by decide +kernel
theorem dX9_lawOf_18 : decode cX9_lawOf 18 = .ok (.iadd, 1) := by decide +kernel
theorem dX9_lawOf_19 : decode cX9_lawOf 19 = .ok (.iaload, 1) := by decide +kernel
theorem dX9_lawOf_20 : decode cX9_lawOf 20 = .ok (.goto 24, 3) := by decide +kernel
theorem dX9_lawOf_23 : decode cX9_lawOf 23 = .ok (.iload_n 1, 1) := by decide +kernel
theorem dX9_lawOf_24 : decode cX9_lawOf 24 = .ok (.iconst 4, 1) := by decide +kernel
theorem dX9_lawOf_25 : decode cX9_lawOf 25 = .ok (.if_icmp .ge 7, 3) := by decide +kernel
theorem dX9_lawOf_28 : decode cX9_lawOf 28 = .ok (.iconst 0, 1) := by decide +kernel
theorem dX9_lawOf_29 : decode cX9_lawOf 29 = .ok (.goto 15, 3) := by decide +kernel
theorem dX9_lawOf_32 : decode cX9_lawOf 32 = .ok (.iload_n 1, 1) := by decide +kernel
theorem dX9_lawOf_33 : decode cX9_lawOf 33 = .ok (.iconst 4, 1) := by decide +kernel
theorem dX9_lawOf_34 : decode cX9_lawOf 34 = .ok (.if_icmp .ne 7, 3) := by decide +kernel
theorem dX9_lawOf_37 : decode cX9_lawOf 37 = .ok (.iconst 4, 1) := by decide +kernel
theorem dX9_lawOf_38 : decode cX9_lawOf 38 = .ok (.goto 6, 3) := by decide +kernel
theorem dX9_lawOf_41 : decode cX9_lawOf 41 = .ok (.iload_n 1, 1) := by decide +kernel
theorem dX9_lawOf_42 : decode cX9_lawOf 42 = .ok (.iconst 5, 1) := by decide +kernel
theorem dX9_lawOf_43 : decode cX9_lawOf 43 = .ok (.isub, 1) := by decide +kernel
theorem dX9_lawOf_44 : decode cX9_lawOf 44 = .ok (.ireturn, 1) := by decide +kernel
theorem dX9_law_0 : decode cX9_law 0 = .ok (.iload_n 1, 1) := by decide +kernel
theorem dX9_law_1 : decode cX9_law 1 = .ok (.iconst 0, 1) := by decide +kernel
theorem dX9_law_2 : decode cX9_law 2 = .ok (.bipush 7, 2) := by decide +kernel
theorem dX9_law_4 : decode cX9_law 4 = .ok (.invokestatic 79, 3) := by decide +kernel
theorem dX9_law_7 : decode cX9_law 7 = .ok (.ifCond .eq 11, 3) := by decide +kernel
theorem dX9_law_10 : decode cX9_law 10 = .ok (.aload_n 0, 1) := by decide +kernel
theorem dX9_law_11 : decode cX9_law 11 = .ok (.iload_n 1, 1) := by decide +kernel
theorem dX9_law_12 : decode cX9_law 12 = .ok (.invokevirtual 143, 3) := by decide +kernel
theorem dX9_law_15 : decode cX9_law 15 = .ok (.goto 8, 3) := by decide +kernel
theorem dX9_law_18 : decode cX9_law 18 = .ok (.aload_n 0, 1) := by decide +kernel
theorem dX9_law_19 : decode cX9_law 19 = .ok (.iconst 1, 1) := by decide +kernel
theorem dX9_law_20 : decode cX9_law 20 = .ok (.invokevirtual 97, 3) := by decide +kernel
theorem dX9_law_23 : decode cX9_law 23 = .ok (.ireturn, 1) := by decide +kernel
theorem dX9_why_0 : decode cX9_why 0 = .ok (.iload_n 1, 1) := by decide +kernel
theorem dX9_why_1 : decode cX9_why 1 = .ok (.iconst 0, 1) := by decide +kernel
theorem dX9_why_2 : decode cX9_why 2 = .ok (.bipush 23, 2) := by decide +kernel
theorem dX9_why_4 : decode cX9_why 4 = .ok (.invokestatic 79, 3) := by decide +kernel
theorem dX9_why_7 : decode cX9_why 7 = .ok (.ifCond .ne 9, 3) := by decide +kernel
theorem dX9_why_10 : decode cX9_why 10 = .ok (.aload_n 0, 1) := by decide +kernel
theorem dX9_why_11 : decode cX9_why 11 = .ok (.iconst 1, 1) := by decide +kernel
theorem dX9_why_12 : decode cX9_why 12 = .ok (.invokevirtual 97, 3) := by decide +kernel
theorem dX9_why_15 : decode cX9_why 15 = .ok (.ireturn, 1) := by decide +kernel
theorem dX9_why_16 : decode cX9_why 16 = .ok (.aload_n 0, 1) := by decide +kernel
theorem dX9_why_17 : decode cX9_why 17 = .ok (.iload_n 1, 1) := by decide +kernel
theorem dX9_why_18 : decode cX9_why 18 = .ok (.invokevirtual 210, 3) := by decide +kernel
theorem dX9_why_21 : decode cX9_why 21 = .ok (.istore_n 2, 1) := by decide +kernel
theorem dX9_why_22 : decode cX9_why 22 = .ok (.iload_n 2, 1) := by decide +kernel
theorem dX9_why_23 : decode cX9_why 23 = .ok (.ifCond .ge 11, 3) := by decide +kernel
theorem dX9_why_26 : decode cX9_why 26 = .ok (.aload_n 0, 1) := by decide +kernel
theorem dX9_why_27 : decode cX9_why 27 = .ok (.iconst 4, 1) := by decide +kernel
theorem dX9_why_28 : decode cX9_why 28 = .ok (.invokevirtual 97, 3) := by decide +kernel
theorem dX9_why_31 : decode cX9_why 31 = .ok (.goto 15, 3) := by decide +kernel
theorem dX9_why_34 : decode cX9_why 34 = .ok (.bipush 10, 2) := by decide +kernel
theorem dX9_why_36 : decode cX9_why 36 = .ok (.iload_n 2, 1) := by decide +kernel
theorem dX9_why_37 : decode cX9_why 37 = .ok (.bipush 6, 2) := by decide +kernel
theorem dX9_why_39 : decode cX9_why 39 = .ok (.idiv, 1) := by decide +kernel
theorem dX9_why_40 : decode cX9_why 40 = .ok (.imul, 1) := by decide +kernel
theorem dX9_why_41 : decode cX9_why 41 = .ok (.iload_n 2, 1) := by decide +kernel
theorem dX9_why_42 : decode cX9_why 42 = .ok (.bipush 6, 2) := by decide +kernel
theorem dX9_why_44 : decode cX9_why 44 = .ok (.irem, 1) := by decide +kernel
theorem dX9_why_45 : decode cX9_why 45 = .ok (.iadd, 1) := by decide +kernel
theorem dX9_why_46 : decode cX9_why 46 = .ok (.ireturn, 1) := by decide +kernel
theorem dX9_prepare_0 : decode cX9_prepare 0 = .ok (.aload_n 0, 1) := by decide +kernel
theorem dX9_prepare_1 : decode cX9_prepare 1 = .ok (.iload_n 1, 1) := by decide +kernel
theorem dX9_prepare_2 : decode cX9_prepare 2 = .ok (.invokevirtual 109, 3) := by decide +kernel
theorem dX9_prepare_5 : decode cX9_prepare 5 = .ok (.iconst 0, 1) := by decide +kernel
theorem dX9_prepare_6 : decode cX9_prepare 6 = .ok (.istore_n 2, 1) := by decide +kernel
theorem dX9_prepare_7 : decode cX9_prepare 7 = .ok (.iload_n 2, 1) := by decide +kernel
theorem dX9_prepare_8 : decode cX9_prepare 8 = .ok (.aload_n 0, 1) := by decide +kernel
theorem dX9_prepare_9 : decode cX9_prepare 9 = .ok (.getfield 13, 3) := by decide +kernel
theorem dX9_prepare_12 : decode cX9_prepare 12 = .ok (.iconst 0, 1) := by decide +kernel
theorem dX9_prepare_13 : decode cX9_prepare 13 = .ok (.iaload, 1) := by decide +kernel
theorem dX9_prepare_14 : decode cX9_prepare 14 = .ok (.if_icmp .ge 18, 3) := by decide +kernel
theorem dX9_prepare_17 : decode cX9_prepare 17 = .ok (.aload_n 0, 1) := by decide +kernel
theorem dX9_prepare_18 : decode cX9_prepare 18 = .ok (.getfield 50, 3) := by decide +kernel
theorem dX9_prepare_21 : decode cX9_prepare 21 = .ok (.iload_n 2, 1) := by decide +kernel
theorem dX9_prepare_22 : decode cX9_prepare 22 = .ok (.sipush 4095, 3) := by decide +kernel
theorem dX9_prepare_25 : decode cX9_prepare 25 = .ok (.iastore, 1) := by decide +kernel
theorem dX9_prepare_26 : decode cX9_prepare 26 = .ok (.iinc 2 1, 3) := by decide +kernel
theorem dX9_prepare_29 : decode cX9_prepare 29 = .ok (.goto (-22), 3) := by decide +kernel
theorem dX9_prepare_32 : decode cX9_prepare 32 = .ok (.iconst 0, 1) := by decide +kernel
theorem dX9_prepare_33 : decode cX9_prepare 33 = .ok (.istore_n 2, 1) := by decide +kernel
theorem dX9_prepare_34 : decode cX9_prepare 34 = .ok (.iload_n 2, 1) := by decide +kernel
theorem dX9_prepare_35 : decode cX9_prepare 35 = .ok (.aload_n 0, 1) := by decide +kernel
theorem dX9_prepare_36 : decode cX9_prepare 36 = .ok (.getfield 13, 3) := by decide +kernel
theorem dX9_prepare_39 : decode cX9_prepare 39 = .ok (.iconst 1, 1) := by decide +kernel
theorem dX9_prepare_40 : decode cX9_prepare 40 = .ok (.iaload, 1) := by decide +kernel
theorem dX9_prepare_41 : decode cX9_prepare 41 = .ok (.if_icmp .ge 37, 3) := by decide +kernel
theorem dX9_prepare_44 : decode cX9_prepare 44 = .ok (.aload_n 0, 1) := by decide +kernel
theorem dX9_prepare_45 : decode cX9_prepare 45 = .ok (.getfield 37, 3) := by decide +kernel
theorem dX9_prepare_48 : decode cX9_prepare 48 = .ok (.iload_n 2, 1) := by decide +kernel
theorem dX9_prepare_49 : decode cX9_prepare 49 = .ok (.baload, 1) := by decide +kernel
theorem dX9_prepare_50 : decode cX9_prepare 50 = .ok (.ifCond .eq 22, 3) := by decide +kernel
theorem dX9_prepare_53 : decode cX9_prepare 53 = .ok (.aload_n 0, 1) := by decide +kernel
theorem dX9_prepare_54 : decode cX9_prepare 54 = .ok (.getfield 50, 3) := by decide +kernel
theorem dX9_prepare_57 : decode cX9_prepare 57 = .ok (.aload_n 0, 1) := by decide +kernel
theorem dX9_prepare_58 : decode cX9_prepare 58 = .ok (.iload_n 2, 1) := by decide +kernel
theorem dX9_prepare_59 : decode cX9_prepare 59 = .ok (.iconst 1, 1) := by decide +kernel
theorem dX9_prepare_60 : decode cX9_prepare 60 = .ok (.invokevirtual 120, 3) := by decide +kernel
theorem dX9_prepare_63 : decode cX9_prepare 63 = .ok (.dup2, 1) := by decide +kernel
theorem dX9_prepare_64 : decode cX9_prepare 64 = .ok (.iaload, 1) := by decide +kernel
theorem dX9_prepare_65 : decode cX9_prepare 65 = .ok (.aload_n 0, 1) := by decide +kernel
theorem dX9_prepare_66 : decode cX9_prepare 66 = .ok (.iload_n 2, 1) := by decide +kernel
theorem dX9_prepare_67 : decode cX9_prepare 67 = .ok (.invokevirtual 133, 3) := by decide +kernel
theorem dX9_prepare_70 : decode cX9_prepare 70 = .ok (.iand, 1) := by decide +kernel
theorem dX9_prepare_71 : decode cX9_prepare 71 = .ok (.iastore, 1) := by decide +kernel
theorem dX9_prepare_72 : decode cX9_prepare 72 = .ok (.iinc 2 1, 3) := by decide +kernel
theorem dX9_prepare_75 : decode cX9_prepare 75 = .ok (.goto (-41), 3) := by decide +kernel
theorem dX9_prepare_78 : decode cX9_prepare 78 = .ok (.aload_n 0, 1) := by decide +kernel
theorem dX9_prepare_79 : decode cX9_prepare 79 = .ok (.aload_n 0, 1) := by decide +kernel
theorem dX9_prepare_80 : decode cX9_prepare 80 = .ok (.iconst 4, 1) := by decide +kernel
theorem dX9_prepare_81 : decode cX9_prepare 81 = .ok (.invokevirtual 143, 3) := by decide +kernel
theorem dX9_prepare_84 : decode cX9_prepare 84 = .ok (.putfield 213, 3) := by decide +kernel
theorem dX9_prepare_87 : decode cX9_prepare 87 = .ok (.iconst 0, 1) := by decide +kernel
theorem dX9_prepare_88 : decode cX9_prepare 88 = .ok (.istore_n 2, 1) := by decide +kernel
theorem dX9_prepare_89 : decode cX9_prepare 89 = .ok (.iload_n 2, 1) := by decide +kernel
theorem dX9_prepare_90 : decode cX9_prepare 90 = .ok (.iconst 3, 1) := by decide +kernel
theorem dX9_prepare_91 : decode cX9_prepare 91 = .ok (.if_icmp .ge 22, 3) := by decide +kernel
theorem dX9_prepare_94 : decode cX9_prepare 94 = .ok (.aload_n 0, 1) := by decide +kernel
theorem dX9_prepare_95 : decode cX9_prepare 95 = .ok (.getfield 53, 3) := by decide +kernel
theorem dX9_prepare_98 : decode cX9_prepare 98 = .ok (.iload_n 2, 1) := by decide +kernel
theorem dX9_prepare_99 : decode cX9_prepare 99 = .ok (.aload_n 0, 1) := by decide +kernel
theorem dX9_prepare_100 : decode cX9_prepare 100 = .ok (.iconst 5, 1) := by decide +kernel
theorem dX9_prepare_101 : decode cX9_prepare 101 = .ok (.iload_n 2, 1) := by decide +kernel
theorem dX9_prepare_102 : decode cX9_prepare 102 = .ok (.iadd, 1) := by decide +kernel
theorem dX9_prepare_103 : decode cX9_prepare 103 = .ok (.invokevirtual 143, 3) := by decide +kernel
theorem dX9_prepare_106 : decode cX9_prepare 106 = .ok (.iastore, 1) := by decide +kernel
theorem dX9_prepare_107 : decode cX9_prepare 107 = .ok (.iinc 2 1, 3) := by decide +kernel
theorem dX9_prepare_110 : decode cX9_prepare 110 = .ok (.goto (-21), 3) := by decide +kernel
theorem dX9_prepare_113 : decode cX9_prepare 113 = .ok (.return_, 1) := by decide +kernel
theorem dX9_span_0 : decode cX9_span 0 = .ok (.aload_n 0, 1) := by decide +kernel
theorem dX9_span_1 : decode cX9_span 1 = .ok (.iload_n 1, 1) := by decide +kernel
theorem dX9_span_2 : decode cX9_span 2 = .ok (.invokevirtual 101, 3) := by decide +kernel
theorem dX9_span_5 : decode cX9_span 5 = .ok (.ifCond .ne 9, 3) := by decide +kernel
theorem dX9_span_8 : decode cX9_span 8 = .ok (.aload_n 0, 1) := by decide +kernel
theorem dX9_span_9 : decode cX9_span 9 = .ok (.iconst 1, 1) := by decide +kernel
theorem dX9_span_10 : decode cX9_span 10 = .ok (.invokevirtual 97, 3) := by decide +kernel
theorem dX9_span_13 : decode cX9_span 13 = .ok (.ireturn, 1) := by decide +kernel
theorem dX9_span_14 : decode cX9_span 14 = .ok (.aload_n 0, 1) := by decide +kernel
theorem dX9_span_15 : decode cX9_span 15 = .ok (.iconst (-1), 1) := by decide +kernel
theorem dX9_span_16 : decode cX9_span 16 = .ok (.invokevirtual 216, 3) := by decide +kernel
theorem dX9_span_19 : decode cX9_span 19 = .ok (.aload_n 0, 1) := by decide +kernel
theorem dX9_span_20 : decode cX9_span 20 = .ok (.getfield 50, 3) := by decide +kernel
theorem dX9_span_23 : decode cX9_span 23 = .ok (.iload_n 1, 1) := by decide +kernel
theorem dX9_span_24 : decode cX9_span 24 = .ok (.iaload, 1) := by decide +kernel
theorem dX9_span_25 : decode cX9_span 25 = .ok (.ireturn, 1) := by decide +kernel
theorem dX9_beside_0 : decode cX9_beside 0 = .ok (.aload_n 0, 1) := by decide +kernel
theorem dX9_beside_1 : decode cX9_beside 1 = .ok (.iload_n 1, 1) := by decide +kernel
theorem dX9_beside_2 : decode cX9_beside 2 = .ok (.invokevirtual 113, 3) := by decide +kernel
theorem dX9_beside_5 : decode cX9_beside 5 = .ok (.ifCond .ne 9, 3) := by decide +kernel
theorem dX9_beside_8 : decode cX9_beside 8 = .ok (.aload_n 0, 1) := by decide +kernel
theorem dX9_beside_9 : decode cX9_beside 9 = .ok (.iconst 1, 1) := by decide +kernel
theorem dX9_beside_10 : decode cX9_beside 10 = .ok (.invokevirtual 97, 3) := by decide +kernel
theorem dX9_beside_13 : decode cX9_beside 13 = .ok (.ireturn, 1) := by decide +kernel
theorem dX9_beside_14 : decode cX9_beside 14 = .ok (.aload_n 0, 1) := by decide +kernel
theorem dX9_beside_15 : decode cX9_beside 15 = .ok (.iload_n 1, 1) := by decide +kernel
theorem dX9_beside_16 : decode cX9_beside 16 = .ok (.invokevirtual 216, 3) := by decide +kernel
theorem dX9_beside_19 : decode cX9_beside 19 = .ok (.aload_n 0, 1) := by decide +kernel
theorem dX9_beside_20 : decode cX9_beside 20 = .ok (.getfield 50, 3) := by decide +kernel
theorem dX9_beside_23 : decode cX9_beside 23 = .ok (.aload_n 0, 1) := by decide +kernel
theorem dX9_beside_24 : decode cX9_beside 24 = .ok (.iload_n 1, 1) := by decide +kernel
theorem dX9_beside_25 : decode cX9_beside 25 = .ok (.iconst 1, 1) := by decide +kernel
theorem dX9_beside_26 : decode cX9_beside 26 = .ok (.invokevirtual 120, 3) := by decide +kernel
theorem dX9_beside_29 : decode cX9_beside 29 = .ok (.iaload, 1) := by decide +kernel
theorem dX9_beside_30 : decode cX9_beside 30 = .ok (.ireturn, 1) := by decide +kernel
theorem dX9_silent_0 : decode cX9_silent 0 = .ok (.aload_n 0, 1) := by decide +kernel
theorem dX9_silent_1 : decode cX9_silent 1 = .ok (.iconst (-1), 1) := by decide +kernel
theorem dX9_silent_2 : decode cX9_silent 2 = .ok (.invokevirtual 109, 3) := by decide +kernel
theorem dX9_silent_5 : decode cX9_silent 5 = .ok (.iconst 1, 1) := by decide +kernel
theorem dX9_silent_6 : decode cX9_silent 6 = .ok (.aload_n 0, 1) := by decide +kernel
theorem dX9_silent_7 : decode cX9_silent 7 = .ok (.getfield 13, 3) := by decide +kernel
theorem dX9_silent_10 : decode cX9_silent 10 = .ok (.iconst 0, 1) := by decide +kernel
theorem dX9_silent_11 : decode cX9_silent 11 = .ok (.iaload, 1) := by decide +kernel
theorem dX9_silent_12 : decode cX9_silent 12 = .ok (.ishl, 1) := by decide +kernel
theorem dX9_silent_13 : decode cX9_silent 13 = .ok (.iconst 1, 1) := by decide +kernel
theorem dX9_silent_14 : decode cX9_silent 14 = .ok (.isub, 1) := by decide +kernel
theorem dX9_silent_15 : decode cX9_silent 15 = .ok (.istore_n 1, 1) := by decide +kernel
theorem dX9_silent_16 : decode cX9_silent 16 = .ok (.iconst 0, 1) := by decide +kernel
theorem dX9_silent_17 : decode cX9_silent 17 = .ok (.istore_n 2, 1) := by decide +kernel
theorem dX9_silent_18 : decode cX9_silent 18 = .ok (.iload_n 2, 1) := by decide +kernel
theorem dX9_silent_19 : decode cX9_silent 19 = .ok (.aload_n 0, 1) := by decide +kernel
theorem dX9_silent_20 : decode cX9_silent 20 = .ok (.getfield 13, 3) := by decide +kernel
theorem dX9_silent_23 : decode cX9_silent 23 = .ok (.iconst 1, 1) := by decide +kernel
theorem dX9_silent_24 : decode cX9_silent 24 = .ok (.iaload, 1) := by decide +kernel
theorem dX9_silent_25 : decode cX9_silent 25 = .ok (.if_icmp .ge 35, 3) := by decide +kernel
theorem dX9_silent_28 : decode cX9_silent 28 = .ok (.iload_n 1, 1) := by decide +kernel
theorem dX9_silent_29 : decode cX9_silent 29 = .ok (.aload_n 0, 1) := by decide +kernel
theorem dX9_silent_30 : decode cX9_silent 30 = .ok (.getfield 37, 3) := by decide +kernel
theorem dX9_silent_33 : decode cX9_silent 33 = .ok (.iload_n 2, 1) := by decide +kernel
theorem dX9_silent_34 : decode cX9_silent 34 = .ok (.baload, 1) := by decide +kernel
theorem dX9_silent_35 : decode cX9_silent 35 = .ok (.ifCond .eq 16, 3) := by decide +kernel
theorem dX9_silent_38 : decode cX9_silent 38 = .ok (.iconst 1, 1) := by decide +kernel
theorem dX9_silent_39 : decode cX9_silent 39 = .ok (.aload_n 0, 1) := by decide +kernel
theorem dX9_silent_40 : decode cX9_silent 40 = .ok (.iload_n 2, 1) := by decide +kernel
theorem dX9_silent_41 : decode cX9_silent 41 = .ok (.iconst 1, 1) := by decide +kernel
theorem dX9_silent_42 : decode cX9_silent 42 = .ok (.invokevirtual 120, 3) := by decide +kernel
theorem dX9_silent_45 : decode cX9_silent 45 = .ok (.ishl, 1) := by decide +kernel
theorem dX9_silent_46 : decode cX9_silent 46 = .ok (.iconst (-1), 1) := by decide +kernel
theorem dX9_silent_47 : decode cX9_silent 47 = .ok (.ixor, 1) := by decide +kernel
theorem dX9_silent_48 : decode cX9_silent 48 = .ok (.goto 4, 3) := by decide +kernel
theorem dX9_silent_51 : decode cX9_silent 51 = .ok (.iload_n 1, 1) := by decide +kernel
theorem dX9_silent_52 : decode cX9_silent 52 = .ok (.iand, 1) := by decide +kernel
theorem dX9_silent_53 : decode cX9_silent 53 = .ok (.istore_n 1, 1) := by decide +kernel
theorem dX9_silent_54 : decode cX9_silent 54 = .ok (.iinc 2 1, 3) := by decide +kernel
theorem dX9_silent_57 : decode cX9_silent 57 = .ok (.goto (-39), 3) := by decide +kernel
theorem dX9_silent_60 : decode cX9_silent 60 = .ok (.iload_n 1, 1) := by decide +kernel
theorem dX9_silent_61 : decode cX9_silent 61 = .ok (.ireturn, 1) := by decide +kernel
theorem dX9_stepOf_0 : decode cX9_stepOf 0 = .ok (.iload_n 1, 1) := by decide +kernel
theorem dX9_stepOf_1 : decode cX9_stepOf 1 = .ok (.sipush 1000, 3) := by decide +kernel
theorem dX9_stepOf_4 : decode cX9_stepOf 4 = .ok (.idiv, 1) := by decide +kernel
theorem dX9_stepOf_5 : decode cX9_stepOf 5 = .ok (.istore_n 3, 1) := by decide +kernel
theorem dX9_stepOf_6 : decode cX9_stepOf 6 = .ok (.iload_n 3, 1) := by decide +kernel
theorem dX9_stepOf_7 : decode cX9_stepOf 7 = .ok (.bipush 12, 2) := by decide +kernel
theorem dX9_stepOf_9 : decode cX9_stepOf 9 = .ok (.irem, 1) := by decide +kernel
theorem dX9_stepOf_10 : decode cX9_stepOf 10 = .ok (.aload_n 0, 1) := by decide +kernel
theorem dX9_stepOf_11 : decode cX9_stepOf 11 = .ok (.getfield 19, 3) := by decide +kernel
theorem dX9_stepOf_14 : decode cX9_stepOf 14 = .ok (.iload_n 2, 1) := by decide +kernel
theorem dX9_stepOf_15 : decode cX9_stepOf 15 = .ok (.iaload, 1) := by decide +kernel
theorem dX9_stepOf_16 : decode cX9_stepOf 16 = .ok (.bipush 12, 2) := by decide +kernel
theorem dX9_stepOf_18 : decode cX9_stepOf 18 = .ok (.irem, 1) := by decide +kernel
theorem dX9_stepOf_19 : decode cX9_stepOf 19 = .ok (.isub, 1) := by decide +kernel
theorem dX9_stepOf_20 : decode cX9_stepOf 20 = .ok (.istore 4, 2) := by decide +kernel
theorem dX9_stepOf_22 : decode cX9_stepOf 22 = .ok (.iload_n 3, 1) := by decide +kernel
theorem dX9_stepOf_23 : decode cX9_stepOf 23 = .ok (.bipush 12, 2) := by decide +kernel
theorem dX9_stepOf_25 : decode cX9_stepOf 25 = .ok (.idiv, 1) := by decide +kernel
theorem dX9_stepOf_26 : decode cX9_stepOf 26 = .ok (.aload_n 0, 1) := by decide +kernel
theorem dX9_stepOf_27 : decode cX9_stepOf 27 = .ok (.getfield 19, 3) := by decide +kernel
theorem dX9_stepOf_30 : decode cX9_stepOf 30 = .ok (.iload_n 2, 1) := by decide +kernel
theorem dX9_stepOf_31 : decode cX9_stepOf 31 = .ok (.iaload, 1) := by decide +kernel
theorem dX9_stepOf_32 : decode cX9_stepOf 32 = .ok (.bipush 12, 2) := by decide +kernel
theorem dX9_stepOf_34 : decode cX9_stepOf 34 = .ok (.idiv, 1) := by decide +kernel
theorem dX9_stepOf_35 : decode cX9_stepOf 35 = .ok (.isub, 1) := by decide +kernel
theorem dX9_stepOf_36 : decode cX9_stepOf 36 = .ok (.istore 5, 2) := by decide +kernel
theorem dX9_stepOf_38 : decode cX9_stepOf 38 = .ok (.iload_n 1, 1) := by decide +kernel
theorem dX9_stepOf_39 : decode cX9_stepOf 39 = .ok (.bipush 10, 2) := by decide +kernel
theorem dX9_stepOf_41 : decode cX9_stepOf 41 = .ok (.idiv, 1) := by decide +kernel
theorem dX9_stepOf_42 : decode cX9_stepOf 42 = .ok (.bipush 100, 2) := by decide +kernel
theorem dX9_stepOf_44 : decode cX9_stepOf 44 = .ok (.irem, 1) := by decide +kernel
theorem dX9_stepOf_45 : decode cX9_stepOf 45 = .ok (.aload_n 0, 1) := by decide +kernel
theorem dX9_stepOf_46 : decode cX9_stepOf 46 = .ok (.getfield 53, 3) := by decide +kernel
theorem dX9_stepOf_49 : decode cX9_stepOf 49 = .ok (.aload_n 0, 1) := by decide +kernel
theorem dX9_stepOf_50 : decode cX9_stepOf 50 = .ok (.getfield 16, 3) := by decide +kernel
theorem dX9_stepOf_53 : decode cX9_stepOf 53 = .ok (.aload_n 0, 1) := by decide +kernel
theorem dX9_stepOf_54 : decode cX9_stepOf 54 = .ok (.getfield 19, 3) := by decide +kernel
theorem dX9_stepOf_57 : decode cX9_stepOf 57 = .ok (.iload_n 2, 1) := by decide +kernel
theorem dX9_stepOf_58 : decode cX9_stepOf 58 = .ok (.iaload, 1) := by decide +kernel
theorem dX9_stepOf_59 : decode cX9_stepOf 59 = .ok (.iaload, 1) := by decide +kernel
theorem dX9_stepOf_60 : decode cX9_stepOf 60 = .ok (.iaload, 1) := by decide +kernel
theorem dX9_stepOf_61 : decode cX9_stepOf 61 = .ok (.iadd, 1) := by decide +kernel
theorem dX9_stepOf_62 : decode cX9_stepOf 62 = .ok (.iload 4, 2) := by decide +kernel
theorem dX9_stepOf_64 : decode cX9_stepOf 64 = .ok (.iload 4, 2) := by decide +kernel
theorem dX9_stepOf_66 : decode cX9_stepOf 66 = .ok (.imul, 1) := by decide +kernel
theorem dX9_stepOf_67 : decode cX9_stepOf 67 = .ok (.iload 5, 2) := by decide +kernel
theorem dX9_stepOf_69 : decode cX9_stepOf 69 = .ok (.iload 5, 2) := by decide +kernel
theorem dX9_stepOf_71 : decode cX9_stepOf 71 = .ok (.imul, 1) := by decide +kernel
theorem dX9_stepOf_72 : decode cX9_stepOf 72 = .ok (.iadd, 1) := by decide +kernel
theorem dX9_stepOf_73 : decode cX9_stepOf 73 = .ok (.bipush 9, 2) := by decide +kernel
theorem dX9_stepOf_75 : decode cX9_stepOf 75 = .ok (.iload_n 1, 1) := by decide +kernel
theorem dX9_stepOf_76 : decode cX9_stepOf 76 = .ok (.bipush 10, 2) := by decide +kernel
theorem dX9_stepOf_78 : decode cX9_stepOf 78 = .ok (.irem, 1) := by decide +kernel
theorem dX9_stepOf_79 : decode cX9_stepOf 79 = .ok (.imul, 1) := by decide +kernel
theorem dX9_stepOf_80 : decode cX9_stepOf 80 = .ok (.iadd, 1) := by decide +kernel
theorem dX9_stepOf_81 : decode cX9_stepOf 81 = .ok (.aload_n 0, 1) := by decide +kernel
theorem dX9_stepOf_82 : decode cX9_stepOf 82 = .ok (.getfield 213, 3) := by decide +kernel
theorem dX9_stepOf_85 : decode cX9_stepOf 85 = .ok (.idiv, 1) := by decide +kernel
theorem dX9_stepOf_86 : decode cX9_stepOf 86 = .ok (.isub, 1) := by decide +kernel
theorem dX9_stepOf_87 : decode cX9_stepOf 87 = .ok (.istore 6, 2) := by decide +kernel
theorem dX9_stepOf_89 : decode cX9_stepOf 89 = .ok (.iload 6, 2) := by decide +kernel
theorem dX9_stepOf_91 : decode cX9_stepOf 91 = .ok (.ifCond .ge 7, 3) := by decide +kernel
theorem dX9_stepOf_94 : decode cX9_stepOf 94 = .ok (.iconst 0, 1) := by decide +kernel
theorem dX9_stepOf_95 : decode cX9_stepOf 95 = .ok (.goto 17, 3) := by decide +kernel
theorem dX9_stepOf_98 : decode cX9_stepOf 98 = .ok (.iload 6, 2) := by decide +kernel
theorem dX9_stepOf_100 : decode cX9_stepOf 100 = .ok (.bipush 11, 2) := by decide +kernel
theorem dX9_stepOf_102 : decode cX9_stepOf 102 = .ok (.if_icmp .le 8, 3) := by decide +kernel
theorem dX9_stepOf_105 : decode cX9_stepOf 105 = .ok (.bipush 11, 2) := by decide +kernel
theorem dX9_stepOf_107 : decode cX9_stepOf 107 = .ok (.goto 5, 3) := by decide +kernel
theorem dX9_stepOf_110 : decode cX9_stepOf 110 = .ok (.iload 6, 2) := by decide +kernel
theorem dX9_stepOf_112 : decode cX9_stepOf 112 = .ok (.ireturn, 1) := by decide +kernel
theorem dX9_missAt_0 : decode cX9_missAt 0 = .ok (.aload_n 0, 1) := by decide +kernel
theorem dX9_missAt_1 : decode cX9_missAt 1 = .ok (.iload_n 1, 1) := by decide +kernel
theorem dX9_missAt_2 : decode cX9_missAt 2 = .ok (.iload_n 2, 1) := by decide +kernel
theorem dX9_missAt_3 : decode cX9_missAt 3 = .ok (.invokevirtual 219, 3) := by decide +kernel
theorem dX9_missAt_6 : decode cX9_missAt 6 = .ok (.istore_n 3, 1) := by decide +kernel
theorem dX9_missAt_7 : decode cX9_missAt 7 = .ok (.bipush 12, 2) := by decide +kernel
theorem dX9_missAt_9 : decode cX9_missAt 9 = .ok (.istore 4, 2) := by decide +kernel
theorem dX9_missAt_11 : decode cX9_missAt 11 = .ok (.iconst 0, 1) := by decide +kernel
theorem dX9_missAt_12 : decode cX9_missAt 12 = .ok (.istore 5, 2) := by decide +kernel
theorem dX9_missAt_14 : decode cX9_missAt 14 = .ok (.iload 5, 2) := by decide +kernel
theorem dX9_missAt_16 : decode cX9_missAt 16 = .ok (.bipush 12, 2) := by decide +kernel
theorem dX9_missAt_18 : decode cX9_missAt 18 = .ok (.if_icmp .ge 59, 3) := by decide +kernel
theorem dX9_missAt_21 : decode cX9_missAt 21 = .ok (.iload 5, 2) := by decide +kernel
theorem dX9_missAt_23 : decode cX9_missAt 23 = .ok (.iload_n 3, 1) := by decide +kernel
theorem dX9_missAt_24 : decode cX9_missAt 24 = .ok (.if_icmp .ge 10, 3) := by decide +kernel
theorem dX9_missAt_27 : decode cX9_missAt 27 = .ok (.iload_n 3, 1) := by decide +kernel
theorem dX9_missAt_28 : decode cX9_missAt 28 = .ok (.iload 5, 2) := by decide +kernel
theorem dX9_missAt_30 : decode cX9_missAt 30 = .ok (.isub, 1) := by decide +kernel
theorem dX9_missAt_31 : decode cX9_missAt 31 = .ok (.goto 7, 3) := by decide +kernel
theorem dX9_missAt_34 : decode cX9_missAt 34 = .ok (.iload 5, 2) := by decide +kernel
theorem dX9_missAt_36 : decode cX9_missAt 36 = .ok (.iload_n 3, 1) := by decide +kernel
theorem dX9_missAt_37 : decode cX9_missAt 37 = .ok (.isub, 1) := by decide +kernel
theorem dX9_missAt_38 : decode cX9_missAt 38 = .ok (.istore 6, 2) := by decide +kernel
theorem dX9_missAt_40 : decode cX9_missAt 40 = .ok (.aload_n 0, 1) := by decide +kernel
theorem dX9_missAt_41 : decode cX9_missAt 41 = .ok (.getfield 50, 3) := by decide +kernel
theorem dX9_missAt_44 : decode cX9_missAt 44 = .ok (.iload_n 2, 1) := by decide +kernel
theorem dX9_missAt_45 : decode cX9_missAt 45 = .ok (.iaload, 1) := by decide +kernel
theorem dX9_missAt_46 : decode cX9_missAt 46 = .ok (.iload 5, 2) := by decide +kernel
theorem dX9_missAt_48 : decode cX9_missAt 48 = .ok (.ishr, 1) := by decide +kernel
theorem dX9_missAt_49 : decode cX9_missAt 49 = .ok (.iconst 1, 1) := by decide +kernel
theorem dX9_missAt_50 : decode cX9_missAt 50 = .ok (.iand, 1) := by decide +kernel
theorem dX9_missAt_51 : decode cX9_missAt 51 = .ok (.iconst 1, 1) := by decide +kernel
theorem dX9_missAt_52 : decode cX9_missAt 52 = .ok (.if_icmp .ne 15, 3) := by decide +kernel
theorem dX9_missAt_55 : decode cX9_missAt 55 = .ok (.iload 6, 2) := by decide +kernel
theorem dX9_missAt_57 : decode cX9_missAt 57 = .ok (.iload 4, 2) := by decide +kernel
theorem dX9_missAt_59 : decode cX9_missAt 59 = .ok (.if_icmp .ge 8, 3) := by decide +kernel
theorem dX9_missAt_62 : decode cX9_missAt 62 = .ok (.iload 6, 2) := by decide +kernel
theorem dX9_missAt_64 : decode cX9_missAt 64 = .ok (.goto 5, 3) := by decide +kernel
theorem dX9_missAt_67 : decode cX9_missAt 67 = .ok (.iload 4, 2) := by decide +kernel
theorem dX9_missAt_69 : decode cX9_missAt 69 = .ok (.istore 4, 2) := by decide +kernel
theorem dX9_missAt_71 : decode cX9_missAt 71 = .ok (.iinc 5 1, 3) := by decide +kernel
theorem dX9_missAt_74 : decode cX9_missAt 74 = .ok (.goto (-60), 3) := by decide +kernel
theorem dX9_missAt_77 : decode cX9_missAt 77 = .ok (.iload 4, 2) := by decide +kernel
theorem dX9_missAt_79 : decode cX9_missAt 79 = .ok (.ireturn, 1) := by decide +kernel
theorem dX9_missOf_0 : decode cX9_missOf 0 = .ok (.iconst 0, 1) := by decide +kernel
theorem dX9_missOf_1 : decode cX9_missOf 1 = .ok (.istore_n 2, 1) := by decide +kernel
theorem dX9_missOf_2 : decode cX9_missOf 2 = .ok (.iconst 0, 1) := by decide +kernel
theorem dX9_missOf_3 : decode cX9_missOf 3 = .ok (.istore_n 3, 1) := by decide +kernel
theorem dX9_missOf_4 : decode cX9_missOf 4 = .ok (.iload_n 3, 1) := by decide +kernel
theorem dX9_missOf_5 : decode cX9_missOf 5 = .ok (.aload_n 0, 1) := by decide +kernel
theorem dX9_missOf_6 : decode cX9_missOf 6 = .ok (.getfield 13, 3) := by decide +kernel
theorem dX9_missOf_9 : decode cX9_missOf 9 = .ok (.iconst 0, 1) := by decide +kernel
theorem dX9_missOf_10 : decode cX9_missOf 10 = .ok (.iaload, 1) := by decide +kernel
theorem dX9_missOf_11 : decode cX9_missOf 11 = .ok (.if_icmp .ge 18, 3) := by decide +kernel
theorem dX9_missOf_14 : decode cX9_missOf 14 = .ok (.iload_n 2, 1) := by decide +kernel
theorem dX9_missOf_15 : decode cX9_missOf 15 = .ok (.aload_n 0, 1) := by decide +kernel
theorem dX9_missOf_16 : decode cX9_missOf 16 = .ok (.iload_n 1, 1) := by decide +kernel
theorem dX9_missOf_17 : decode cX9_missOf 17 = .ok (.iload_n 3, 1) := by decide +kernel
theorem dX9_missOf_18 : decode cX9_missOf 18 = .ok (.invokevirtual 222, 3) := by decide +kernel
theorem dX9_missOf_21 : decode cX9_missOf 21 = .ok (.iadd, 1) := by decide +kernel
theorem dX9_missOf_22 : decode cX9_missOf 22 = .ok (.istore_n 2, 1) := by decide +kernel
theorem dX9_missOf_23 : decode cX9_missOf 23 = .ok (.iinc 3 1, 3) := by decide +kernel
theorem dX9_missOf_26 : decode cX9_missOf 26 = .ok (.goto (-22), 3) := by decide +kernel
theorem dX9_missOf_29 : decode cX9_missOf 29 = .ok (.iload_n 2, 1) := by decide +kernel
theorem dX9_missOf_30 : decode cX9_missOf 30 = .ok (.ireturn, 1) := by decide +kernel
theorem dX9_step_0 : decode cX9_step 0 = .ok (.iload_n 1, 1) := by decide +kernel
theorem dX9_step_1 : decode cX9_step 1 = .ok (.i2l, 1) := by decide +kernel
theorem dX9_step_2 : decode cX9_step 2 = .ok (.invokestatic 225, 3) := by decide +kernel
theorem dX9_step_5 : decode cX9_step 5 = .ok (.ifCond .eq 11, 3) := by decide +kernel
theorem dX9_step_8 : decode cX9_step 8 = .ok (.aload_n 0, 1) := by decide +kernel
theorem dX9_step_9 : decode cX9_step 9 = .ok (.iload_n 2, 1) := by decide +kernel
theorem dX9_step_10 : decode cX9_step 10 = .ok (.invokevirtual 101, 3) := by decide +kernel
theorem dX9_step_13 : decode cX9_step 13 = .ok (.ifCond .ne 9, 3) := by decide +kernel
theorem dX9_step_16 : decode cX9_step 16 = .ok (.aload_n 0, 1) := by decide +kernel
theorem dX9_step_17 : decode cX9_step 17 = .ok (.iconst 1, 1) := by decide +kernel
theorem dX9_step_18 : decode cX9_step 18 = .ok (.invokevirtual 97, 3) := by decide +kernel
theorem dX9_step_21 : decode cX9_step 21 = .ok (.ireturn, 1) := by decide +kernel
theorem dX9_step_22 : decode cX9_step 22 = .ok (.aload_n 0, 1) := by decide +kernel
theorem dX9_step_23 : decode cX9_step 23 = .ok (.iconst (-1), 1) := by decide +kernel
theorem dX9_step_24 : decode cX9_step 24 = .ok (.invokevirtual 216, 3) := by decide +kernel
theorem dX9_step_27 : decode cX9_step 27 = .ok (.aload_n 0, 1) := by decide +kernel
theorem dX9_step_28 : decode cX9_step 28 = .ok (.iload_n 1, 1) := by decide +kernel
theorem dX9_step_29 : decode cX9_step 29 = .ok (.iload_n 2, 1) := by decide +kernel
theorem dX9_step_30 : decode cX9_step 30 = .ok (.invokevirtual 219, 3) := by decide +kernel
theorem dX9_step_33 : decode cX9_step 33 = .ok (.ireturn, 1) := by decide +kernel
theorem dX9_miss_0 : decode cX9_miss 0 = .ok (.iload_n 1, 1) := by decide +kernel
theorem dX9_miss_1 : decode cX9_miss 1 = .ok (.i2l, 1) := by decide +kernel
theorem dX9_miss_2 : decode cX9_miss 2 = .ok (.invokestatic 225, 3) := by decide +kernel
theorem dX9_miss_5 : decode cX9_miss 5 = .ok (.ifCond .eq 16, 3) := by decide +kernel
theorem dX9_miss_8 : decode cX9_miss 8 = .ok (.iload_n 2, 1) := by decide +kernel
theorem dX9_miss_9 : decode cX9_miss 9 = .ok (.iconst (-1), 1) := by decide +kernel
theorem dX9_miss_10 : decode cX9_miss 10 = .ok (.if_icmp .eq 17, 3) := by decide +kernel
theorem dX9_miss_13 : decode cX9_miss 13 = .ok (.aload_n 0, 1) := by decide +kernel
theorem dX9_miss_14 : decode cX9_miss 14 = .ok (.iload_n 2, 1) := by decide +kernel
theorem dX9_miss_15 : decode cX9_miss 15 = .ok (.invokevirtual 101, 3) := by decide +kernel
theorem dX9_miss_18 : decode cX9_miss 18 = .ok (.ifCond .ne 9, 3) := by decide +kernel
theorem dX9_miss_21 : decode cX9_miss 21 = .ok (.aload_n 0, 1) := by decide +kernel
theorem dX9_miss_22 : decode cX9_miss 22 = .ok (.iconst 1, 1) := by decide +kernel
theorem dX9_miss_23 : decode cX9_miss 23 = .ok (.invokevirtual 97, 3) := by decide +kernel
theorem dX9_miss_26 : decode cX9_miss 26 = .ok (.ireturn, 1) := by decide +kernel
theorem dX9_miss_27 : decode cX9_miss 27 = .ok (.aload_n 0, 1) := by decide +kernel
theorem dX9_miss_28 : decode cX9_miss 28 = .ok (.iconst (-1), 1) := by decide +kernel
theorem dX9_miss_29 : decode cX9_miss 29 = .ok (.invokevirtual 216, 3) := by decide +kernel
theorem dX9_miss_32 : decode cX9_miss 32 = .ok (.iload_n 2, 1) := by decide +kernel
theorem dX9_miss_33 : decode cX9_miss 33 = .ok (.ifCond .ge 11, 3) := by decide +kernel
theorem dX9_miss_36 : decode cX9_miss 36 = .ok (.aload_n 0, 1) := by decide +kernel
theorem dX9_miss_37 : decode cX9_miss 37 = .ok (.iload_n 1, 1) := by decide +kernel
theorem dX9_miss_38 : decode cX9_miss 38 = .ok (.invokevirtual 228, 3) := by decide +kernel
theorem dX9_miss_41 : decode cX9_miss 41 = .ok (.goto 9, 3) := by decide +kernel
theorem dX9_miss_44 : decode cX9_miss 44 = .ok (.aload_n 0, 1) := by decide +kernel
theorem dX9_miss_45 : decode cX9_miss 45 = .ok (.iload_n 1, 1) := by decide +kernel
theorem dX9_miss_46 : decode cX9_miss 46 = .ok (.iload_n 2, 1) := by decide +kernel
theorem dX9_miss_47 : decode cX9_miss 47 = .ok (.invokevirtual 222, 3) := by decide +kernel
theorem dX9_miss_50 : decode cX9_miss 50 = .ok (.ireturn, 1) := by decide +kernel
theorem dX9_twoOf_0 : decode cX9_twoOf 0 = .ok (.iconst 0, 1) := by decide +kernel
theorem dX9_twoOf_1 : decode cX9_twoOf 1 = .ok (.istore_n 3, 1) := by decide +kernel
theorem dX9_twoOf_2 : decode cX9_twoOf 2 = .ok (.iconst 0, 1) := by decide +kernel
theorem dX9_twoOf_3 : decode cX9_twoOf 3 = .ok (.istore 4, 2) := by decide +kernel
theorem dX9_twoOf_5 : decode cX9_twoOf 5 = .ok (.iload 4, 2) := by decide +kernel
theorem dX9_twoOf_7 : decode cX9_twoOf 7 = .ok (.aload_n 0, 1) := by decide +kernel
theorem dX9_twoOf_8 : decode cX9_twoOf 8 = .ok (.getfield 13, 3) := by decide +kernel
theorem dX9_twoOf_11 : decode cX9_twoOf 11 = .ok (.iconst 0, 1) := by decide +kernel
theorem dX9_twoOf_12 : decode cX9_twoOf 12 = .ok (.iaload, 1) := by decide +kernel
theorem dX9_twoOf_13 : decode cX9_twoOf 13 = .ok (.if_icmp .ge 44, 3) := by decide +kernel
theorem dX9_twoOf_16 : decode cX9_twoOf 16 = .ok (.aload_n 0, 1) := by decide +kernel
theorem dX9_twoOf_17 : decode cX9_twoOf 17 = .ok (.iload_n 1, 1) := by decide +kernel
theorem dX9_twoOf_18 : decode cX9_twoOf 18 = .ok (.iload 4, 2) := by decide +kernel
theorem dX9_twoOf_20 : decode cX9_twoOf 20 = .ok (.invokevirtual 222, 3) := by decide +kernel
theorem dX9_twoOf_23 : decode cX9_twoOf 23 = .ok (.istore 5, 2) := by decide +kernel
theorem dX9_twoOf_25 : decode cX9_twoOf 25 = .ok (.aload_n 0, 1) := by decide +kernel
theorem dX9_twoOf_26 : decode cX9_twoOf 26 = .ok (.iload_n 2, 1) := by decide +kernel
theorem dX9_twoOf_27 : decode cX9_twoOf 27 = .ok (.iload 4, 2) := by decide +kernel
theorem dX9_twoOf_29 : decode cX9_twoOf 29 = .ok (.invokevirtual 222, 3) := by decide +kernel
theorem dX9_twoOf_32 : decode cX9_twoOf 32 = .ok (.istore 6, 2) := by decide +kernel
theorem dX9_twoOf_34 : decode cX9_twoOf 34 = .ok (.iload_n 3, 1) := by decide +kernel
theorem dX9_twoOf_35 : decode cX9_twoOf 35 = .ok (.iload 5, 2) := by decide +kernel
theorem dX9_twoOf_37 : decode cX9_twoOf 37 = .ok (.iload 6, 2) := by decide +kernel
theorem dX9_twoOf_39 : decode cX9_twoOf 39 = .ok (.if_icmp .ge 8, 3) := by decide +kernel
theorem dX9_twoOf_42 : decode cX9_twoOf 42 = .ok (.iload 5, 2) := by decide +kernel
theorem dX9_twoOf_44 : decode cX9_twoOf 44 = .ok (.goto 5, 3) := by decide +kernel
theorem dX9_twoOf_47 : decode cX9_twoOf 47 = .ok (.iload 6, 2) := by decide +kernel
theorem dX9_twoOf_49 : decode cX9_twoOf 49 = .ok (.iadd, 1) := by decide +kernel
theorem dX9_twoOf_50 : decode cX9_twoOf 50 = .ok (.istore_n 3, 1) := by decide +kernel
theorem dX9_twoOf_51 : decode cX9_twoOf 51 = .ok (.iinc 4 1, 3) := by decide +kernel
theorem dX9_twoOf_54 : decode cX9_twoOf 54 = .ok (.goto (-49), 3) := by decide +kernel
theorem dX9_twoOf_57 : decode cX9_twoOf 57 = .ok (.iload_n 3, 1) := by decide +kernel
theorem dX9_twoOf_58 : decode cX9_twoOf 58 = .ok (.ireturn, 1) := by decide +kernel
theorem dX9_two_0 : decode cX9_two 0 = .ok (.iload_n 1, 1) := by decide +kernel
theorem dX9_two_1 : decode cX9_two 1 = .ok (.i2l, 1) := by decide +kernel
theorem dX9_two_2 : decode cX9_two 2 = .ok (.invokestatic 225, 3) := by decide +kernel
theorem dX9_two_5 : decode cX9_two 5 = .ok (.ifCond .eq 11, 3) := by decide +kernel
theorem dX9_two_8 : decode cX9_two 8 = .ok (.iload_n 2, 1) := by decide +kernel
theorem dX9_two_9 : decode cX9_two 9 = .ok (.i2l, 1) := by decide +kernel
theorem dX9_two_10 : decode cX9_two 10 = .ok (.invokestatic 225, 3) := by decide +kernel
theorem dX9_two_13 : decode cX9_two 13 = .ok (.ifCond .ne 9, 3) := by decide +kernel
theorem dX9_two_16 : decode cX9_two 16 = .ok (.aload_n 0, 1) := by decide +kernel
theorem dX9_two_17 : decode cX9_two 17 = .ok (.iconst 1, 1) := by decide +kernel
theorem dX9_two_18 : decode cX9_two 18 = .ok (.invokevirtual 97, 3) := by decide +kernel
theorem dX9_two_21 : decode cX9_two 21 = .ok (.ireturn, 1) := by decide +kernel
theorem dX9_two_22 : decode cX9_two 22 = .ok (.aload_n 0, 1) := by decide +kernel
theorem dX9_two_23 : decode cX9_two 23 = .ok (.iconst (-1), 1) := by decide +kernel
theorem dX9_two_24 : decode cX9_two 24 = .ok (.invokevirtual 216, 3) := by decide +kernel
theorem dX9_two_27 : decode cX9_two 27 = .ok (.aload_n 0, 1) := by decide +kernel
theorem dX9_two_28 : decode cX9_two 28 = .ok (.iload_n 1, 1) := by decide +kernel
theorem dX9_two_29 : decode cX9_two 29 = .ok (.iload_n 2, 1) := by decide +kernel
theorem dX9_two_30 : decode cX9_two 30 = .ok (.invokevirtual 231, 3) := by decide +kernel
theorem dX9_two_33 : decode cX9_two 33 = .ok (.ireturn, 1) := by decide +kernel
theorem dX9_split_0 : decode cX9_split 0 = .ok (.iload_n 1, 1) := by decide +kernel
theorem dX9_split_1 : decode cX9_split 1 = .ok (.i2l, 1) := by decide +kernel
theorem dX9_split_2 : decode cX9_split 2 = .ok (.invokestatic 225, 3) := by decide +kernel
theorem dX9_split_5 : decode cX9_split 5 = .ok (.ifCond .eq 11, 3) := by decide +kernel
theorem dX9_split_8 : decode cX9_split 8 = .ok (.iload_n 2, 1) := by decide +kernel
theorem dX9_split_9 : decode cX9_split 9 = .ok (.i2l, 1) := by decide +kernel
theorem dX9_split_10 : decode cX9_split 10 = .ok (.invokestatic 225, 3) := by decide +kernel
theorem dX9_split_13 : decode cX9_split 13 = .ok (.ifCond .ne 9, 3) := by decide +kernel
theorem dX9_split_16 : decode cX9_split 16 = .ok (.aload_n 0, 1) := by decide +kernel
theorem dX9_split_17 : decode cX9_split 17 = .ok (.iconst 1, 1) := by decide +kernel
theorem dX9_split_18 : decode cX9_split 18 = .ok (.invokevirtual 97, 3) := by decide +kernel
theorem dX9_split_21 : decode cX9_split 21 = .ok (.ireturn, 1) := by decide +kernel
theorem dX9_split_22 : decode cX9_split 22 = .ok (.aload_n 0, 1) := by decide +kernel
theorem dX9_split_23 : decode cX9_split 23 = .ok (.iconst (-1), 1) := by decide +kernel
theorem dX9_split_24 : decode cX9_split 24 = .ok (.invokevirtual 216, 3) := by decide +kernel
theorem dX9_split_27 : decode cX9_split 27 = .ok (.iconst 0, 1) := by decide +kernel
theorem dX9_split_28 : decode cX9_split 28 = .ok (.istore_n 3, 1) := by decide +kernel
theorem dX9_split_29 : decode cX9_split 29 = .ok (.iconst 0, 1) := by decide +kernel
theorem dX9_split_30 : decode cX9_split 30 = .ok (.istore 4, 2) := by decide +kernel
theorem dX9_split_32 : decode cX9_split 32 = .ok (.iload 4, 2) := by decide +kernel
theorem dX9_split_34 : decode cX9_split 34 = .ok (.aload_n 0, 1) := by decide +kernel
theorem dX9_split_35 : decode cX9_split 35 = .ok (.getfield 13, 3) := by decide +kernel
theorem dX9_split_38 : decode cX9_split 38 = .ok (.iconst 0, 1) := by decide +kernel
theorem dX9_split_39 : decode cX9_split 39 = .ok (.iaload, 1) := by decide +kernel
theorem dX9_split_40 : decode cX9_split 40 = .ok (.if_icmp .ge 37, 3) := by decide +kernel
theorem dX9_split_43 : decode cX9_split 43 = .ok (.iload_n 3, 1) := by decide +kernel
theorem dX9_split_44 : decode cX9_split 44 = .ok (.aload_n 0, 1) := by decide +kernel
theorem dX9_split_45 : decode cX9_split 45 = .ok (.iload_n 2, 1) := by decide +kernel
theorem dX9_split_46 : decode cX9_split 46 = .ok (.iload 4, 2) := by decide +kernel
theorem dX9_split_48 : decode cX9_split 48 = .ok (.invokevirtual 222, 3) := by decide +kernel
theorem dX9_split_51 : decode cX9_split 51 = .ok (.aload_n 0, 1) := by decide +kernel
theorem dX9_split_52 : decode cX9_split 52 = .ok (.iload_n 1, 1) := by decide +kernel
theorem dX9_split_53 : decode cX9_split 53 = .ok (.iload 4, 2) := by decide +kernel
theorem dX9_split_55 : decode cX9_split 55 = .ok (.invokevirtual 222, 3) := by decide +kernel
theorem dX9_split_58 : decode cX9_split 58 = .ok (.if_icmp .ge 10, 3) := by decide +kernel
theorem dX9_split_61 : decode cX9_split 61 = .ok (.iconst 1, 1) := by decide +kernel
theorem dX9_split_62 : decode cX9_split 62 = .ok (.iload 4, 2) := by decide +kernel
theorem dX9_split_64 : decode cX9_split 64 = .ok (.ishl, 1) := by decide +kernel
theorem dX9_split_65 : decode cX9_split 65 = .ok (.goto 4, 3) := by decide +kernel
theorem dX9_split_68 : decode cX9_split 68 = .ok (.iconst 0, 1) := by decide +kernel
theorem dX9_split_69 : decode cX9_split 69 = .ok (.ior, 1) := by decide +kernel
theorem dX9_split_70 : decode cX9_split 70 = .ok (.istore_n 3, 1) := by decide +kernel
theorem dX9_split_71 : decode cX9_split 71 = .ok (.iinc 4 1, 3) := by decide +kernel
theorem dX9_split_74 : decode cX9_split 74 = .ok (.goto (-42), 3) := by decide +kernel
theorem dX9_split_77 : decode cX9_split 77 = .ok (.iload_n 3, 1) := by decide +kernel
theorem dX9_split_78 : decode cX9_split 78 = .ok (.ireturn, 1) := by decide +kernel
theorem dX9_noPairs_0 : decode cX9_noPairs 0 = .ok (.iload_n 1, 1) := by decide +kernel
theorem dX9_noPairs_1 : decode cX9_noPairs 1 = .ok (.invokestatic 104, 3) := by decide +kernel
theorem dX9_noPairs_4 : decode cX9_noPairs 4 = .ok (.ifCond .ne 5, 3) := by decide +kernel
theorem dX9_noPairs_7 : decode cX9_noPairs 7 = .ok (.iconst 1, 1) := by decide +kernel
theorem dX9_noPairs_8 : decode cX9_noPairs 8 = .ok (.ireturn, 1) := by decide +kernel
theorem dX9_noPairs_9 : decode cX9_noPairs 9 = .ok (.aload_n 0, 1) := by decide +kernel
theorem dX9_noPairs_10 : decode cX9_noPairs 10 = .ok (.getfield 63, 3) := by decide +kernel
theorem dX9_noPairs_13 : decode cX9_noPairs 13 = .ok (.iload_n 1, 1) := by decide +kernel
theorem dX9_noPairs_14 : decode cX9_noPairs 14 = .ok (.iaload, 1) := by decide +kernel
theorem dX9_noPairs_15 : decode cX9_noPairs 15 = .ok (.ifCond .ne 6, 3) := by decide +kernel
theorem dX9_noPairs_18 : decode cX9_noPairs 18 = .ok (.bipush 6, 2) := by decide +kernel
theorem dX9_noPairs_20 : decode cX9_noPairs 20 = .ok (.ireturn, 1) := by decide +kernel
theorem dX9_noPairs_21 : decode cX9_noPairs 21 = .ok (.aload_n 0, 1) := by decide +kernel
theorem dX9_noPairs_22 : decode cX9_noPairs 22 = .ok (.getfield 66, 3) := by decide +kernel
theorem dX9_noPairs_25 : decode cX9_noPairs 25 = .ok (.iload_n 1, 1) := by decide +kernel
theorem dX9_noPairs_26 : decode cX9_noPairs 26 = .ok (.iaload, 1) := by decide +kernel
theorem dX9_noPairs_27 : decode cX9_noPairs 27 = .ok (.iconst 2, 1) := by decide +kernel
theorem dX9_noPairs_28 : decode cX9_noPairs 28 = .ok (.bipush 12, 2) := by decide +kernel
theorem dX9_noPairs_30 : decode cX9_noPairs 30 = .ok (.invokestatic 79, 3) := by decide +kernel
theorem dX9_noPairs_33 : decode cX9_noPairs 33 = .ok (.ifCond .ne 6, 3) := by decide +kernel
theorem dX9_noPairs_36 : decode cX9_noPairs 36 = .ok (.bipush 7, 2) := by decide +kernel
theorem dX9_noPairs_38 : decode cX9_noPairs 38 = .ok (.ireturn, 1) := by decide +kernel
theorem dX9_noPairs_39 : decode cX9_noPairs 39 = .ok (.iconst 0, 1) := by decide +kernel
theorem dX9_noPairs_40 : decode cX9_noPairs 40 = .ok (.istore_n 2, 1) := by decide +kernel
theorem dX9_noPairs_41 : decode cX9_noPairs 41 = .ok (.iload_n 2, 1) := by decide +kernel
theorem dX9_noPairs_42 : decode cX9_noPairs 42 = .ok (.aload_n 0, 1) := by decide +kernel
theorem dX9_noPairs_43 : decode cX9_noPairs 43 = .ok (.getfield 66, 3) := by decide +kernel
theorem dX9_noPairs_46 : decode cX9_noPairs 46 = .ok (.iload_n 1, 1) := by decide +kernel
theorem dX9_noPairs_47 : decode cX9_noPairs 47 = .ok (.iaload, 1) := by decide +kernel
theorem dX9_noPairs_48 : decode cX9_noPairs 48 = .ok (.if_icmp .ge 28, 3) := by decide +kernel
theorem dX9_noPairs_51 : decode cX9_noPairs 51 = .ok (.aload_n 0, 1) := by decide +kernel
theorem dX9_noPairs_52 : decode cX9_noPairs 52 = .ok (.getfield 69, 3) := by decide +kernel
theorem dX9_noPairs_55 : decode cX9_noPairs 55 = .ok (.bipush 40, 2) := by decide +kernel
theorem dX9_noPairs_57 : decode cX9_noPairs 57 = .ok (.iload_n 1, 1) := by decide +kernel
theorem dX9_noPairs_58 : decode cX9_noPairs 58 = .ok (.imul, 1) := by decide +kernel
theorem dX9_noPairs_59 : decode cX9_noPairs 59 = .ok (.iload_n 2, 1) := by decide +kernel
theorem dX9_noPairs_60 : decode cX9_noPairs 60 = .ok (.iadd, 1) := by decide +kernel
theorem dX9_noPairs_61 : decode cX9_noPairs 61 = .ok (.laload, 1) := by decide +kernel
theorem dX9_noPairs_62 : decode cX9_noPairs 62 = .ok (.invokestatic 225, 3) := by decide +kernel
theorem dX9_noPairs_65 : decode cX9_noPairs 65 = .ok (.ifCond .ne 5, 3) := by decide +kernel
theorem dX9_noPairs_68 : decode cX9_noPairs 68 = .ok (.iconst 1, 1) := by decide +kernel
theorem dX9_noPairs_69 : decode cX9_noPairs 69 = .ok (.ireturn, 1) := by decide +kernel
theorem dX9_noPairs_70 : decode cX9_noPairs 70 = .ok (.iinc 2 1, 3) := by decide +kernel
theorem dX9_noPairs_73 : decode cX9_noPairs 73 = .ok (.goto (-32), 3) := by decide +kernel
theorem dX9_noPairs_76 : decode cX9_noPairs 76 = .ok (.iconst 0, 1) := by decide +kernel
theorem dX9_noPairs_77 : decode cX9_noPairs 77 = .ok (.ireturn, 1) := by decide +kernel
theorem dX9_shakeOn_0 : decode cX9_shakeOn 0 = .ok (.aload_n 0, 1) := by decide +kernel
theorem dX9_shakeOn_1 : decode cX9_shakeOn 1 = .ok (.getfield 69, 3) := by decide +kernel
theorem dX9_shakeOn_4 : decode cX9_shakeOn 4 = .ok (.bipush 40, 2) := by decide +kernel
theorem dX9_shakeOn_6 : decode cX9_shakeOn 6 = .ok (.iload_n 1, 1) := by decide +kernel
theorem dX9_shakeOn_7 : decode cX9_shakeOn 7 = .ok (.imul, 1) := by decide +kernel
theorem dX9_shakeOn_8 : decode cX9_shakeOn 8 = .ok (.iload_n 2, 1) := by decide +kernel
theorem dX9_shakeOn_9 : decode cX9_shakeOn 9 = .ok (.iadd, 1) := by decide +kernel
theorem dX9_shakeOn_10 : decode cX9_shakeOn 10 = .ok (.laload, 1) := by decide +kernel
theorem dX9_shakeOn_11 : decode cX9_shakeOn 11 = .ok (.l2i, 1) := by decide +kernel
theorem dX9_shakeOn_12 : decode cX9_shakeOn 12 = .ok (.ireturn, 1) := by decide +kernel
theorem dX9_pairOf_0 : decode cX9_pairOf 0 = .ok (.iconst 1, 1) := by decide +kernel
theorem dX9_pairOf_1 : decode cX9_pairOf 1 = .ok (.istore_n 2, 1) := by decide +kernel
theorem dX9_pairOf_2 : decode cX9_pairOf 2 = .ok (.aload_n 0, 1) := by decide +kernel
theorem dX9_pairOf_3 : decode cX9_pairOf 3 = .ok (.aload_n 0, 1) := by decide +kernel
theorem dX9_pairOf_4 : decode cX9_pairOf 4 = .ok (.iload_n 1, 1) := by decide +kernel
theorem dX9_pairOf_5 : decode cX9_pairOf 5 = .ok (.iconst 0, 1) := by decide +kernel
theorem dX9_pairOf_6 : decode cX9_pairOf 6 = .ok (.invokevirtual 234, 3) := by decide +kernel
theorem dX9_pairOf_9 : decode cX9_pairOf 9 = .ok (.aload_n 0, 1) := by decide +kernel
theorem dX9_pairOf_10 : decode cX9_pairOf 10 = .ok (.iload_n 1, 1) := by decide +kernel
theorem dX9_pairOf_11 : decode cX9_pairOf 11 = .ok (.iconst 1, 1) := by decide +kernel
theorem dX9_pairOf_12 : decode cX9_pairOf 12 = .ok (.invokevirtual 234, 3) := by decide +kernel
theorem dX9_pairOf_15 : decode cX9_pairOf 15 = .ok (.invokevirtual 231, 3) := by decide +kernel
theorem dX9_pairOf_18 : decode cX9_pairOf 18 = .ok (.istore_n 3, 1) := by decide +kernel
theorem dX9_pairOf_19 : decode cX9_pairOf 19 = .ok (.iconst 0, 1) := by decide +kernel
theorem dX9_pairOf_20 : decode cX9_pairOf 20 = .ok (.istore 4, 2) := by decide +kernel
theorem dX9_pairOf_22 : decode cX9_pairOf 22 = .ok (.iload 4, 2) := by decide +kernel
theorem dX9_pairOf_24 : decode cX9_pairOf 24 = .ok (.aload_n 0, 1) := by decide +kernel
theorem dX9_pairOf_25 : decode cX9_pairOf 25 = .ok (.getfield 66, 3) := by decide +kernel
theorem dX9_pairOf_28 : decode cX9_pairOf 28 = .ok (.iload_n 1, 1) := by decide +kernel
theorem dX9_pairOf_29 : decode cX9_pairOf 29 = .ok (.iaload, 1) := by decide +kernel
theorem dX9_pairOf_30 : decode cX9_pairOf 30 = .ok (.if_icmp .ge 70, 3) := by decide +kernel
theorem dX9_pairOf_33 : decode cX9_pairOf 33 = .ok (.iload 4, 2) := by decide +kernel
theorem dX9_pairOf_35 : decode cX9_pairOf 35 = .ok (.iconst 1, 1) := by decide +kernel
theorem dX9_pairOf_36 : decode cX9_pairOf 36 = .ok (.iadd, 1) := by decide +kernel
theorem dX9_pairOf_37 : decode cX9_pairOf 37 = .ok (.istore 5, 2) := by decide +kernel
theorem dX9_pairOf_39 : decode cX9_pairOf 39 = .ok (.iload 5, 2) := by decide +kernel
theorem dX9_pairOf_41 : decode cX9_pairOf 41 = .ok (.aload_n 0, 1) := by decide +kernel
theorem dX9_pairOf_42 : decode cX9_pairOf 42 = .ok (.getfield 66, 3) := by decide +kernel
theorem dX9_pairOf_45 : decode cX9_pairOf 45 = .ok (.iload_n 1, 1) := by decide +kernel
theorem dX9_pairOf_46 : decode cX9_pairOf 46 = .ok (.iaload, 1) := by decide +kernel
theorem dX9_pairOf_47 : decode cX9_pairOf 47 = .ok (.if_icmp .ge 47, 3) := by decide +kernel
theorem dX9_pairOf_50 : decode cX9_pairOf 50 = .ok (.aload_n 0, 1) := by decide +kernel
theorem dX9_pairOf_51 : decode cX9_pairOf 51 = .ok (.aload_n 0, 1) := by decide +kernel
theorem dX9_pairOf_52 : decode cX9_pairOf 52 = .ok (.iload_n 1, 1) := by decide +kernel
theorem dX9_pairOf_53 : decode cX9_pairOf 53 = .ok (.iload 4, 2) := by decide +kernel
theorem dX9_pairOf_55 : decode cX9_pairOf 55 = .ok (.invokevirtual 234, 3) := by decide +kernel
theorem dX9_pairOf_58 : decode cX9_pairOf 58 = .ok (.aload_n 0, 1) := by decide +kernel
theorem dX9_pairOf_59 : decode cX9_pairOf 59 = .ok (.iload_n 1, 1) := by decide +kernel
theorem dX9_pairOf_60 : decode cX9_pairOf 60 = .ok (.iload 5, 2) := by decide +kernel
theorem dX9_pairOf_62 : decode cX9_pairOf 62 = .ok (.invokevirtual 234, 3) := by decide +kernel
theorem dX9_pairOf_65 : decode cX9_pairOf 65 = .ok (.invokevirtual 231, 3) := by decide +kernel
theorem dX9_pairOf_68 : decode cX9_pairOf 68 = .ok (.istore 6, 2) := by decide +kernel
theorem dX9_pairOf_70 : decode cX9_pairOf 70 = .ok (.iload 6, 2) := by decide +kernel
theorem dX9_pairOf_72 : decode cX9_pairOf 72 = .ok (.iload_n 3, 1) := by decide +kernel
theorem dX9_pairOf_73 : decode cX9_pairOf 73 = .ok (.if_icmp .ge 15, 3) := by decide +kernel
theorem dX9_pairOf_76 : decode cX9_pairOf 76 = .ok (.iload 6, 2) := by decide +kernel
theorem dX9_pairOf_78 : decode cX9_pairOf 78 = .ok (.istore_n 3, 1) := by decide +kernel
theorem dX9_pairOf_79 : decode cX9_pairOf 79 = .ok (.bipush 100, 2) := by decide +kernel
theorem dX9_pairOf_81 : decode cX9_pairOf 81 = .ok (.iload 4, 2) := by decide +kernel
theorem dX9_pairOf_83 : decode cX9_pairOf 83 = .ok (.imul, 1) := by decide +kernel
theorem dX9_pairOf_84 : decode cX9_pairOf 84 = .ok (.iload 5, 2) := by decide +kernel
theorem dX9_pairOf_86 : decode cX9_pairOf 86 = .ok (.iadd, 1) := by decide +kernel
theorem dX9_pairOf_87 : decode cX9_pairOf 87 = .ok (.istore_n 2, 1) := by decide +kernel
theorem dX9_pairOf_88 : decode cX9_pairOf 88 = .ok (.iinc 5 1, 3) := by decide +kernel
theorem dX9_pairOf_91 : decode cX9_pairOf 91 = .ok (.goto (-52), 3) := by decide +kernel
theorem dX9_pairOf_94 : decode cX9_pairOf 94 = .ok (.iinc 4 1, 3) := by decide +kernel
theorem dX9_pairOf_97 : decode cX9_pairOf 97 = .ok (.goto (-75), 3) := by decide +kernel
theorem dX9_pairOf_100 : decode cX9_pairOf 100 = .ok (.iload_n 2, 1) := by decide +kernel
theorem dX9_pairOf_101 : decode cX9_pairOf 101 = .ok (.ireturn, 1) := by decide +kernel
theorem dX9_pair_0 : decode cX9_pair 0 = .ok (.aload_n 0, 1) := by decide +kernel
theorem dX9_pair_1 : decode cX9_pair 1 = .ok (.iload_n 1, 1) := by decide +kernel
theorem dX9_pair_2 : decode cX9_pair 2 = .ok (.invokevirtual 237, 3) := by decide +kernel
theorem dX9_pair_5 : decode cX9_pair 5 = .ok (.istore_n 2, 1) := by decide +kernel
theorem dX9_pair_6 : decode cX9_pair 6 = .ok (.iload_n 2, 1) := by decide +kernel
theorem dX9_pair_7 : decode cX9_pair 7 = .ok (.ifCond .eq 9, 3) := by decide +kernel
theorem dX9_pair_10 : decode cX9_pair 10 = .ok (.aload_n 0, 1) := by decide +kernel
theorem dX9_pair_11 : decode cX9_pair 11 = .ok (.iload_n 2, 1) := by decide +kernel
theorem dX9_pair_12 : decode cX9_pair 12 = .ok (.invokevirtual 97, 3) := by decide +kernel
theorem dX9_pair_15 : decode cX9_pair 15 = .ok (.ireturn, 1) := by decide +kernel
theorem dX9_pair_16 : decode cX9_pair 16 = .ok (.aload_n 0, 1) := by decide +kernel
theorem dX9_pair_17 : decode cX9_pair 17 = .ok (.iconst (-1), 1) := by decide +kernel
theorem dX9_pair_18 : decode cX9_pair 18 = .ok (.invokevirtual 216, 3) := by decide +kernel
theorem dX9_pair_21 : decode cX9_pair 21 = .ok (.aload_n 0, 1) := by decide +kernel
theorem dX9_pair_22 : decode cX9_pair 22 = .ok (.iload_n 1, 1) := by decide +kernel
theorem dX9_pair_23 : decode cX9_pair 23 = .ok (.invokevirtual 240, 3) := by decide +kernel
theorem dX9_pair_26 : decode cX9_pair 26 = .ok (.ireturn, 1) := by decide +kernel
theorem dX9_night_0 : decode cX9_night 0 = .ok (.aload_n 0, 1) := by decide +kernel
theorem dX9_night_1 : decode cX9_night 1 = .ok (.iload_n 1, 1) := by decide +kernel
theorem dX9_night_2 : decode cX9_night 2 = .ok (.invokevirtual 237, 3) := by decide +kernel
theorem dX9_night_5 : decode cX9_night 5 = .ok (.istore_n 2, 1) := by decide +kernel
theorem dX9_night_6 : decode cX9_night 6 = .ok (.iload_n 2, 1) := by decide +kernel
theorem dX9_night_7 : decode cX9_night 7 = .ok (.ifCond .eq 9, 3) := by decide +kernel
theorem dX9_night_10 : decode cX9_night 10 = .ok (.aload_n 0, 1) := by decide +kernel
theorem dX9_night_11 : decode cX9_night 11 = .ok (.iload_n 2, 1) := by decide +kernel
theorem dX9_night_12 : decode cX9_night 12 = .ok (.invokevirtual 97, 3) := by decide +kernel
theorem dX9_night_15 : decode cX9_night 15 = .ok (.ireturn, 1) := by decide +kernel
theorem dX9_night_16 : decode cX9_night 16 = .ok (.aload_n 0, 1) := by decide +kernel
theorem dX9_night_17 : decode cX9_night 17 = .ok (.iconst (-1), 1) := by decide +kernel
theorem dX9_night_18 : decode cX9_night 18 = .ok (.invokevirtual 216, 3) := by decide +kernel
theorem dX9_night_21 : decode cX9_night 21 = .ok (.aload_n 0, 1) := by decide +kernel
theorem dX9_night_22 : decode cX9_night 22 = .ok (.iload_n 1, 1) := by decide +kernel
theorem dX9_night_23 : decode cX9_night 23 = .ok (.invokevirtual 240, 3) := by decide +kernel
theorem dX9_night_26 : decode cX9_night 26 = .ok (.istore_n 3, 1) := by decide +kernel
theorem dX9_night_27 : decode cX9_night 27 = .ok (.aload_n 0, 1) := by decide +kernel
theorem dX9_night_28 : decode cX9_night 28 = .ok (.aload_n 0, 1) := by decide +kernel
theorem dX9_night_29 : decode cX9_night 29 = .ok (.iload_n 1, 1) := by decide +kernel
theorem dX9_night_30 : decode cX9_night 30 = .ok (.iconst 0, 1) := by decide +kernel
theorem dX9_night_31 : decode cX9_night 31 = .ok (.invokevirtual 234, 3) := by decide +kernel
theorem dX9_night_34 : decode cX9_night 34 = .ok (.invokevirtual 228, 3) := by decide +kernel
theorem dX9_night_37 : decode cX9_night 37 = .ok (.istore 4, 2) := by decide +kernel
theorem dX9_night_39 : decode cX9_night 39 = .ok (.iconst 1, 1) := by decide +kernel
theorem dX9_night_40 : decode cX9_night 40 = .ok (.istore 5, 2) := by decide +kernel
theorem dX9_night_42 : decode cX9_night 42 = .ok (.iload 5, 2) := by decide +kernel
theorem dX9_night_44 : decode cX9_night 44 = .ok (.aload_n 0, 1) := by decide +kernel
theorem dX9_night_45 : decode cX9_night 45 = .ok (.getfield 66, 3) := by decide +kernel
theorem dX9_night_48 : decode cX9_night 48 = .ok (.iload_n 1, 1) := by decide +kernel
theorem dX9_night_49 : decode cX9_night 49 = .ok (.iaload, 1) := by decide +kernel
theorem dX9_night_50 : decode cX9_night 50 = .ok (.if_icmp .ge 38, 3) := by decide +kernel
theorem dX9_night_53 : decode cX9_night 53 = .ok (.aload_n 0, 1) := by decide +kernel
theorem dX9_night_54 : decode cX9_night 54 = .ok (.aload_n 0, 1) := by decide +kernel
theorem dX9_night_55 : decode cX9_night 55 = .ok (.iload_n 1, 1) := by decide +kernel
theorem dX9_night_56 : decode cX9_night 56 = .ok (.iload 5, 2) := by decide +kernel
theorem dX9_night_58 : decode cX9_night 58 = .ok (.invokevirtual 234, 3) := by decide +kernel
theorem dX9_night_61 : decode cX9_night 61 = .ok (.invokevirtual 228, 3) := by decide +kernel
theorem dX9_night_64 : decode cX9_night 64 = .ok (.istore 6, 2) := by decide +kernel
theorem dX9_night_66 : decode cX9_night 66 = .ok (.iload 6, 2) := by decide +kernel
theorem dX9_night_68 : decode cX9_night 68 = .ok (.iload 4, 2) := by decide +kernel
theorem dX9_night_70 : decode cX9_night 70 = .ok (.if_icmp .ge 8, 3) := by decide +kernel
theorem dX9_night_73 : decode cX9_night 73 = .ok (.iload 6, 2) := by decide +kernel
theorem dX9_night_75 : decode cX9_night 75 = .ok (.goto 5, 3) := by decide +kernel
theorem dX9_night_78 : decode cX9_night 78 = .ok (.iload 4, 2) := by decide +kernel
theorem dX9_night_80 : decode cX9_night 80 = .ok (.istore 4, 2) := by decide +kernel
theorem dX9_night_82 : decode cX9_night 82 = .ok (.iinc 5 1, 3) := by decide +kernel
theorem dX9_night_85 : decode cX9_night 85 = .ok (.goto (-43), 3) := by decide +kernel
theorem dX9_night_88 : decode cX9_night 88 = .ok (.iload 4, 2) := by decide +kernel
theorem dX9_night_90 : decode cX9_night 90 = .ok (.aload_n 0, 1) := by decide +kernel
theorem dX9_night_91 : decode cX9_night 91 = .ok (.aload_n 0, 1) := by decide +kernel
theorem dX9_night_92 : decode cX9_night 92 = .ok (.iload_n 1, 1) := by decide +kernel
theorem dX9_night_93 : decode cX9_night 93 = .ok (.iload_n 3, 1) := by decide +kernel
theorem dX9_night_94 : decode cX9_night 94 = .ok (.bipush 100, 2) := by decide +kernel
theorem dX9_night_96 : decode cX9_night 96 = .ok (.idiv, 1) := by decide +kernel
theorem dX9_night_97 : decode cX9_night 97 = .ok (.invokevirtual 234, 3) := by decide +kernel
theorem dX9_night_100 : decode cX9_night 100 = .ok (.aload_n 0, 1) := by decide +kernel
theorem dX9_night_101 : decode cX9_night 101 = .ok (.iload_n 1, 1) := by decide +kernel
theorem dX9_night_102 : decode cX9_night 102 = .ok (.iload_n 3, 1) := by decide +kernel
theorem dX9_night_103 : decode cX9_night 103 = .ok (.bipush 100, 2) := by decide +kernel
theorem dX9_night_105 : decode cX9_night 105 = .ok (.irem, 1) := by decide +kernel
theorem dX9_night_106 : decode cX9_night 106 = .ok (.invokevirtual 234, 3) := by decide +kernel
theorem dX9_night_109 : decode cX9_night 109 = .ok (.invokevirtual 231, 3) := by decide +kernel
theorem dX9_night_112 : decode cX9_night 112 = .ok (.isub, 1) := by decide +kernel
theorem dX9_night_113 : decode cX9_night 113 = .ok (.ireturn, 1) := by decide +kernel
theorem dX9_fits_0 : decode cX9_fits 0 = .ok (.iload_n 1, 1) := by decide +kernel
theorem dX9_fits_1 : decode cX9_fits 1 = .ok (.i2l, 1) := by decide +kernel
theorem dX9_fits_2 : decode cX9_fits 2 = .ok (.invokestatic 225, 3) := by decide +kernel
theorem dX9_fits_5 : decode cX9_fits 5 = .ok (.ifCond .ne 9, 3) := by decide +kernel
theorem dX9_fits_8 : decode cX9_fits 8 = .ok (.aload_n 0, 1) := by decide +kernel
theorem dX9_fits_9 : decode cX9_fits 9 = .ok (.iconst 1, 1) := by decide +kernel
theorem dX9_fits_10 : decode cX9_fits 10 = .ok (.invokevirtual 97, 3) := by decide +kernel
theorem dX9_fits_13 : decode cX9_fits 13 = .ok (.ireturn, 1) := by decide +kernel
theorem dX9_fits_14 : decode cX9_fits 14 = .ok (.aload_n 0, 1) := by decide +kernel
theorem dX9_fits_15 : decode cX9_fits 15 = .ok (.iconst (-1), 1) := by decide +kernel
theorem dX9_fits_16 : decode cX9_fits 16 = .ok (.invokevirtual 216, 3) := by decide +kernel
theorem dX9_fits_19 : decode cX9_fits 19 = .ok (.iconst 0, 1) := by decide +kernel
theorem dX9_fits_20 : decode cX9_fits 20 = .ok (.istore_n 2, 1) := by decide +kernel
theorem dX9_fits_21 : decode cX9_fits 21 = .ok (.iconst 0, 1) := by decide +kernel
theorem dX9_fits_22 : decode cX9_fits 22 = .ok (.istore_n 3, 1) := by decide +kernel
theorem dX9_fits_23 : decode cX9_fits 23 = .ok (.iload_n 3, 1) := by decide +kernel
theorem dX9_fits_24 : decode cX9_fits 24 = .ok (.aload_n 0, 1) := by decide +kernel
theorem dX9_fits_25 : decode cX9_fits 25 = .ok (.getfield 13, 3) := by decide +kernel
theorem dX9_fits_28 : decode cX9_fits 28 = .ok (.iconst 1, 1) := by decide +kernel
theorem dX9_fits_29 : decode cX9_fits 29 = .ok (.iaload, 1) := by decide +kernel
theorem dX9_fits_30 : decode cX9_fits 30 = .ok (.if_icmp .ge 108, 3) := by decide +kernel
theorem dX9_fits_33 : decode cX9_fits 33 = .ok (.aload_n 0, 1) := by decide +kernel
theorem dX9_fits_34 : decode cX9_fits 34 = .ok (.iconst 0, 1) := by decide +kernel
theorem dX9_fits_35 : decode cX9_fits 35 = .ok (.aload_n 0, 1) := by decide +kernel
theorem dX9_fits_36 : decode cX9_fits 36 = .ok (.iload_n 3, 1) := by decide +kernel
theorem dX9_fits_37 : decode cX9_fits 37 = .ok (.iconst 2, 1) := by decide +kernel
theorem dX9_fits_38 : decode cX9_fits 38 = .ok (.invokevirtual 120, 3) := by decide +kernel
theorem dX9_fits_41 : decode cX9_fits 41 = .ok (.invokevirtual 127, 3) := by decide +kernel
theorem dX9_fits_44 : decode cX9_fits 44 = .ok (.istore 4, 2) := by decide +kernel
theorem dX9_fits_46 : decode cX9_fits 46 = .ok (.iload 4, 2) := by decide +kernel
theorem dX9_fits_48 : decode cX9_fits 48 = .ok (.ifCond .lt 32, 3) := by decide +kernel
theorem dX9_fits_51 : decode cX9_fits 51 = .ok (.aload_n 0, 1) := by decide +kernel
theorem dX9_fits_52 : decode cX9_fits 52 = .ok (.getfield 31, 3) := by decide +kernel
theorem dX9_fits_55 : decode cX9_fits 55 = .ok (.iconst 4, 1) := by decide +kernel
theorem dX9_fits_56 : decode cX9_fits 56 = .ok (.iload 4, 2) := by decide +kernel
theorem dX9_fits_58 : decode cX9_fits 58 = .ok (.imul, 1) := by decide +kernel
theorem dX9_fits_59 : decode cX9_fits 59 = .ok (.iconst 2, 1) := by decide +kernel
theorem dX9_fits_60 : decode cX9_fits 60 = .ok (.iadd, 1) := by decide +kernel
theorem dX9_fits_61 : decode cX9_fits 61 = .ok (.iaload, 1) := by decide +kernel
theorem dX9_fits_62 : decode cX9_fits 62 = .ok (.aload_n 0, 1) := by decide +kernel
theorem dX9_fits_63 : decode cX9_fits 63 = .ok (.getfield 31, 3) := by decide +kernel
theorem dX9_fits_66 : decode cX9_fits 66 = .ok (.iconst 4, 1) := by decide +kernel
theorem dX9_fits_67 : decode cX9_fits 67 = .ok (.iload 4, 2) := by decide +kernel
theorem dX9_fits_69 : decode cX9_fits 69 = .ok (.imul, 1) := by decide +kernel
theorem dX9_fits_70 : decode cX9_fits 70 = .ok (.iconst 3, 1) := by decide +kernel
theorem dX9_fits_71 : decode cX9_fits 71 = .ok (.iadd, 1) := by decide +kernel
theorem dX9_fits_72 : decode cX9_fits 72 = .ok (.iaload, 1) := by decide +kernel
theorem dX9_fits_73 : decode cX9_fits 73 = .ok (.if_icmp .ne 7, 3) := by decide +kernel
theorem dX9_fits_76 : decode cX9_fits 76 = .ok (.iconst 1, 1) := by decide +kernel
theorem dX9_fits_77 : decode cX9_fits 77 = .ok (.goto 4, 3) := by decide +kernel
theorem dX9_fits_80 : decode cX9_fits 80 = .ok (.iconst 0, 1) := by decide +kernel
theorem dX9_fits_81 : decode cX9_fits 81 = .ok (.istore 5, 2) := by decide +kernel
theorem dX9_fits_83 : decode cX9_fits 83 = .ok (.iload_n 2, 1) := by decide +kernel
theorem dX9_fits_84 : decode cX9_fits 84 = .ok (.aload_n 0, 1) := by decide +kernel
theorem dX9_fits_85 : decode cX9_fits 85 = .ok (.getfield 37, 3) := by decide +kernel
theorem dX9_fits_88 : decode cX9_fits 88 = .ok (.iload_n 3, 1) := by decide +kernel
theorem dX9_fits_89 : decode cX9_fits 89 = .ok (.baload, 1) := by decide +kernel
theorem dX9_fits_90 : decode cX9_fits 90 = .ok (.ifCond .eq 39, 3) := by decide +kernel
theorem dX9_fits_93 : decode cX9_fits 93 = .ok (.iload 5, 2) := by decide +kernel
theorem dX9_fits_95 : decode cX9_fits 95 = .ok (.ifCond .eq 34, 3) := by decide +kernel
theorem dX9_fits_98 : decode cX9_fits 98 = .ok (.aload_n 0, 1) := by decide +kernel
theorem dX9_fits_99 : decode cX9_fits 99 = .ok (.getfield 31, 3) := by decide +kernel
theorem dX9_fits_102 : decode cX9_fits 102 = .ok (.iconst 4, 1) := by decide +kernel
theorem dX9_fits_103 : decode cX9_fits 103 = .ok (.iload 4, 2) := by decide +kernel
theorem dX9_fits_105 : decode cX9_fits 105 = .ok (.imul, 1) := by decide +kernel
theorem dX9_fits_106 : decode cX9_fits 106 = .ok (.iconst 2, 1) := by decide +kernel
theorem dX9_fits_107 : decode cX9_fits 107 = .ok (.iadd, 1) := by decide +kernel
theorem dX9_fits_108 : decode cX9_fits 108 = .ok (.iaload, 1) := by decide +kernel
theorem dX9_fits_109 : decode cX9_fits 109 = .ok (.aload_n 0, 1) := by decide +kernel
theorem dX9_fits_110 : decode cX9_fits 110 = .ok (.iload_n 1, 1) := by decide +kernel
theorem dX9_fits_111 : decode cX9_fits 111 = .ok (.aload_n 0, 1) := by decide +kernel
theorem dX9_fits_112 : decode cX9_fits 112 = .ok (.iload_n 3, 1) := by decide +kernel
theorem dX9_fits_113 : decode cX9_fits 113 = .ok (.iconst 1, 1) := by decide +kernel
theorem dX9_fits_114 : decode cX9_fits 114 = .ok (.invokevirtual 120, 3) := by decide +kernel
theorem dX9_fits_117 : decode cX9_fits 117 = .ok (.invokevirtual 219, 3) := by decide +kernel
theorem dX9_fits_120 : decode cX9_fits 120 = .ok (.if_icmp .ne 9, 3) := by decide +kernel
theorem dX9_fits_123 : decode cX9_fits 123 = .ok (.iconst 1, 1) := by decide +kernel
theorem dX9_fits_124 : decode cX9_fits 124 = .ok (.iload_n 3, 1) := by decide +kernel
theorem dX9_fits_125 : decode cX9_fits 125 = .ok (.ishl, 1) := by decide +kernel
theorem dX9_fits_126 : decode cX9_fits 126 = .ok (.goto 4, 3) := by decide +kernel
theorem dX9_fits_129 : decode cX9_fits 129 = .ok (.iconst 0, 1) := by decide +kernel
theorem dX9_fits_130 : decode cX9_fits 130 = .ok (.ior, 1) := by decide +kernel
theorem dX9_fits_131 : decode cX9_fits 131 = .ok (.istore_n 2, 1) := by decide +kernel
theorem dX9_fits_132 : decode cX9_fits 132 = .ok (.iinc 3 1, 3) := by decide +kernel
theorem dX9_fits_135 : decode cX9_fits 135 = .ok (.goto (-112), 3) := by decide +kernel
theorem dX9_fits_138 : decode cX9_fits 138 = .ok (.iload_n 2, 1) := by decide +kernel
theorem dX9_fits_139 : decode cX9_fits 139 = .ok (.ireturn, 1) := by decide +kernel
theorem dX9_fallOf_0 : decode cX9_fallOf 0 = .ok (.iload_n 3, 1) := by decide +kernel
theorem dX9_fallOf_1 : decode cX9_fallOf 1 = .ok (.ifCond .ne 7, 3) := by decide +kernel
theorem dX9_fallOf_4 : decode cX9_fallOf 4 = .ok (.iconst 5, 1) := by decide +kernel
theorem dX9_fallOf_5 : decode cX9_fallOf 5 = .ok (.goto 14, 3) := by decide +kernel
theorem dX9_fallOf_8 : decode cX9_fallOf 8 = .ok (.iload_n 3, 1) := by decide +kernel
theorem dX9_fallOf_9 : decode cX9_fallOf 9 = .ok (.iconst 1, 1) := by decide +kernel
theorem dX9_fallOf_10 : decode cX9_fallOf 10 = .ok (.if_icmp .ne 7, 3) := by decide +kernel
theorem dX9_fallOf_13 : decode cX9_fallOf 13 = .ok (.iconst 3, 1) := by decide +kernel
theorem dX9_fallOf_14 : decode cX9_fallOf 14 = .ok (.goto 5, 3) := by decide +kernel
theorem dX9_fallOf_17 : decode cX9_fallOf 17 = .ok (.bipush 7, 2) := by decide +kernel
theorem dX9_fallOf_19 : decode cX9_fallOf 19 = .ok (.istore 4, 2) := by decide +kernel
theorem dX9_fallOf_21 : decode cX9_fallOf 21 = .ok (.iload_n 3, 1) := by decide +kernel
theorem dX9_fallOf_22 : decode cX9_fallOf 22 = .ok (.ifCond .ne 8, 3) := by decide +kernel
theorem dX9_fallOf_25 : decode cX9_fallOf 25 = .ok (.bipush 10, 2) := by decide +kernel
theorem dX9_fallOf_27 : decode cX9_fallOf 27 = .ok (.goto 14, 3) := by decide +kernel
theorem dX9_fallOf_30 : decode cX9_fallOf 30 = .ok (.iload_n 3, 1) := by decide +kernel
theorem dX9_fallOf_31 : decode cX9_fallOf 31 = .ok (.iconst 1, 1) := by decide +kernel
theorem dX9_fallOf_32 : decode cX9_fallOf 32 = .ok (.if_icmp .ne 8, 3) := by decide +kernel
theorem dX9_fallOf_35 : decode cX9_fallOf 35 = .ok (.bipush 11, 2) := by decide +kernel
theorem dX9_fallOf_37 : decode cX9_fallOf 37 = .ok (.goto 4, 3) := by decide +kernel
theorem dX9_fallOf_40 : decode cX9_fallOf 40 = .ok (.iconst 5, 1) := by decide +kernel
theorem dX9_fallOf_41 : decode cX9_fallOf 41 = .ok (.istore 5, 2) := by decide +kernel
theorem dX9_fallOf_43 : decode cX9_fallOf 43 = .ok (.iload_n 1, 1) := by decide +kernel
theorem dX9_fallOf_44 : decode cX9_fallOf 44 = .ok (.iload 4, 2) := by decide +kernel
theorem dX9_fallOf_46 : decode cX9_fallOf 46 = .ok (.if_icmp .le 18, 3) := by decide +kernel
theorem dX9_fallOf_49 : decode cX9_fallOf 49 = .ok (.iload_n 2, 1) := by decide +kernel
theorem dX9_fallOf_50 : decode cX9_fallOf 50 = .ok (.iload_n 1, 1) := by decide +kernel
theorem dX9_fallOf_51 : decode cX9_fallOf 51 = .ok (.iload 4, 2) := by decide +kernel
theorem dX9_fallOf_53 : decode cX9_fallOf 53 = .ok (.isub, 1) := by decide +kernel
theorem dX9_fallOf_54 : decode cX9_fallOf 54 = .ok (.iload 5, 2) := by decide +kernel
theorem dX9_fallOf_56 : decode cX9_fallOf 56 = .ok (.imul, 1) := by decide +kernel
theorem dX9_fallOf_57 : decode cX9_fallOf 57 = .ok (.imul, 1) := by decide +kernel
theorem dX9_fallOf_58 : decode cX9_fallOf 58 = .ok (.bipush 100, 2) := by decide +kernel
theorem dX9_fallOf_60 : decode cX9_fallOf 60 = .ok (.idiv, 1) := by decide +kernel
theorem dX9_fallOf_61 : decode cX9_fallOf 61 = .ok (.goto 4, 3) := by decide +kernel
theorem dX9_fallOf_64 : decode cX9_fallOf 64 = .ok (.iconst 0, 1) := by decide +kernel
theorem dX9_fallOf_65 : decode cX9_fallOf 65 = .ok (.ireturn, 1) := by decide +kernel
theorem dX9_falls_0 : decode cX9_falls 0 = .ok (.iload_n 1, 1) := by decide +kernel
theorem dX9_falls_1 : decode cX9_falls 1 = .ok (.i2l, 1) := by decide +kernel
theorem dX9_falls_2 : decode cX9_falls 2 = .ok (.invokestatic 225, 3) := by decide +kernel
theorem dX9_falls_5 : decode cX9_falls 5 = .ok (.ifCond .eq 20, 3) := by decide +kernel
theorem dX9_falls_8 : decode cX9_falls 8 = .ok (.aload_n 0, 1) := by decide +kernel
theorem dX9_falls_9 : decode cX9_falls 9 = .ok (.iload_n 2, 1) := by decide +kernel
theorem dX9_falls_10 : decode cX9_falls 10 = .ok (.invokevirtual 101, 3) := by decide +kernel
theorem dX9_falls_13 : decode cX9_falls 13 = .ok (.ifCond .eq 12, 3) := by decide +kernel
theorem dX9_falls_16 : decode cX9_falls 16 = .ok (.iload_n 3, 1) := by decide +kernel
theorem dX9_falls_17 : decode cX9_falls 17 = .ok (.iconst 0, 1) := by decide +kernel
theorem dX9_falls_18 : decode cX9_falls 18 = .ok (.iconst 3, 1) := by decide +kernel
theorem dX9_falls_19 : decode cX9_falls 19 = .ok (.invokestatic 79, 3) := by decide +kernel
theorem dX9_falls_22 : decode cX9_falls 22 = .ok (.ifCond .ne 9, 3) := by decide +kernel
theorem dX9_falls_25 : decode cX9_falls 25 = .ok (.aload_n 0, 1) := by decide +kernel
theorem dX9_falls_26 : decode cX9_falls 26 = .ok (.iconst 1, 1) := by decide +kernel
theorem dX9_falls_27 : decode cX9_falls 27 = .ok (.invokevirtual 97, 3) := by decide +kernel
theorem dX9_falls_30 : decode cX9_falls 30 = .ok (.ireturn, 1) := by decide +kernel
theorem dX9_falls_31 : decode cX9_falls 31 = .ok (.aload_n 0, 1) := by decide +kernel
theorem dX9_falls_32 : decode cX9_falls 32 = .ok (.iconst (-1), 1) := by decide +kernel
theorem dX9_falls_33 : decode cX9_falls 33 = .ok (.invokevirtual 216, 3) := by decide +kernel
theorem dX9_falls_36 : decode cX9_falls 36 = .ok (.aload_n 0, 1) := by decide +kernel
theorem dX9_falls_37 : decode cX9_falls 37 = .ok (.iload_n 1, 1) := by decide +kernel
theorem dX9_falls_38 : decode cX9_falls 38 = .ok (.iload_n 2, 1) := by decide +kernel
theorem dX9_falls_39 : decode cX9_falls 39 = .ok (.invokevirtual 219, 3) := by decide +kernel
theorem dX9_falls_42 : decode cX9_falls 42 = .ok (.istore 4, 2) := by decide +kernel
theorem dX9_falls_44 : decode cX9_falls 44 = .ok (.iconst 0, 1) := by decide +kernel
theorem dX9_falls_45 : decode cX9_falls 45 = .ok (.istore 5, 2) := by decide +kernel
theorem dX9_falls_47 : decode cX9_falls 47 = .ok (.iconst 0, 1) := by decide +kernel
theorem dX9_falls_48 : decode cX9_falls 48 = .ok (.istore 6, 2) := by decide +kernel
theorem dX9_falls_50 : decode cX9_falls 50 = .ok (.iload 6, 2) := by decide +kernel
theorem dX9_falls_52 : decode cX9_falls 52 = .ok (.iconst 3, 1) := by decide +kernel
theorem dX9_falls_53 : decode cX9_falls 53 = .ok (.if_icmp .ge 51, 3) := by decide +kernel
theorem dX9_falls_56 : decode cX9_falls 56 = .ok (.iload 5, 2) := by decide +kernel
theorem dX9_falls_58 : decode cX9_falls 58 = .ok (.iload_n 3, 1) := by decide +kernel
theorem dX9_falls_59 : decode cX9_falls 59 = .ok (.iconst 3, 1) := by decide +kernel
theorem dX9_falls_60 : decode cX9_falls 60 = .ok (.if_icmp .eq 9, 3) := by decide +kernel
theorem dX9_falls_63 : decode cX9_falls 63 = .ok (.iload_n 3, 1) := by decide +kernel
theorem dX9_falls_64 : decode cX9_falls 64 = .ok (.iload 6, 2) := by decide +kernel
theorem dX9_falls_66 : decode cX9_falls 66 = .ok (.if_icmp .ne 28, 3) := by decide +kernel
theorem dX9_falls_69 : decode cX9_falls 69 = .ok (.aload_n 0, 1) := by decide +kernel
theorem dX9_falls_70 : decode cX9_falls 70 = .ok (.iload 4, 2) := by decide +kernel
theorem dX9_falls_72 : decode cX9_falls 72 = .ok (.aload_n 0, 1) := by decide +kernel
theorem dX9_falls_73 : decode cX9_falls 73 = .ok (.getfield 22, 3) := by decide +kernel
theorem dX9_falls_76 : decode cX9_falls 76 = .ok (.bipush 6, 2) := by decide +kernel
theorem dX9_falls_78 : decode cX9_falls 78 = .ok (.iload_n 2, 1) := by decide +kernel
theorem dX9_falls_79 : decode cX9_falls 79 = .ok (.imul, 1) := by decide +kernel
theorem dX9_falls_80 : decode cX9_falls 80 = .ok (.iconst 3, 1) := by decide +kernel
theorem dX9_falls_81 : decode cX9_falls 81 = .ok (.iadd, 1) := by decide +kernel
theorem dX9_falls_82 : decode cX9_falls 82 = .ok (.iload 6, 2) := by decide +kernel
theorem dX9_falls_84 : decode cX9_falls 84 = .ok (.iadd, 1) := by decide +kernel
theorem dX9_falls_85 : decode cX9_falls 85 = .ok (.iaload, 1) := by decide +kernel
theorem dX9_falls_86 : decode cX9_falls 86 = .ok (.iload 6, 2) := by decide +kernel
theorem dX9_falls_88 : decode cX9_falls 88 = .ok (.invokevirtual 243, 3) := by decide +kernel
theorem dX9_falls_91 : decode cX9_falls 91 = .ok (.goto 4, 3) := by decide +kernel
theorem dX9_falls_94 : decode cX9_falls 94 = .ok (.iconst 0, 1) := by decide +kernel
theorem dX9_falls_95 : decode cX9_falls 95 = .ok (.iadd, 1) := by decide +kernel
theorem dX9_falls_96 : decode cX9_falls 96 = .ok (.istore 5, 2) := by decide +kernel
theorem dX9_falls_98 : decode cX9_falls 98 = .ok (.iinc 6 1, 3) := by decide +kernel
theorem dX9_falls_101 : decode cX9_falls 101 = .ok (.goto (-51), 3) := by decide +kernel
theorem dX9_falls_104 : decode cX9_falls 104 = .ok (.iload 5, 2) := by decide +kernel
theorem dX9_falls_106 : decode cX9_falls 106 = .ok (.ireturn, 1) := by decide +kernel
theorem dX9_weightOf_0 : decode cX9_weightOf 0 = .ok (.iload_n 0, 1) := by decide +kernel
theorem dX9_weightOf_1 : decode cX9_weightOf 1 = .ok (.bipush 10, 2) := by decide +kernel
theorem dX9_weightOf_3 : decode cX9_weightOf 3 = .ok (.if_icmp .le 7, 3) := by decide +kernel
theorem dX9_weightOf_6 : decode cX9_weightOf 6 = .ok (.iconst 0, 1) := by decide +kernel
theorem dX9_weightOf_7 : decode cX9_weightOf 7 = .ok (.goto 11, 3) := by decide +kernel
theorem dX9_weightOf_10 : decode cX9_weightOf 10 = .ok (.iconst 1, 1) := by decide +kernel
theorem dX9_weightOf_11 : decode cX9_weightOf 11 = .ok (.iconst 2, 1) := by decide +kernel
theorem dX9_weightOf_12 : decode cX9_weightOf 12 = .ok (.bipush 10, 2) := by decide +kernel
theorem dX9_weightOf_14 : decode cX9_weightOf 14 = .ok (.iload_n 0, 1) := by decide +kernel
theorem dX9_weightOf_15 : decode cX9_weightOf 15 = .ok (.isub, 1) := by decide +kernel
theorem dX9_weightOf_16 : decode cX9_weightOf 16 = .ok (.imul, 1) := by decide +kernel
theorem dX9_weightOf_17 : decode cX9_weightOf 17 = .ok (.ishl, 1) := by decide +kernel
theorem dX9_weightOf_18 : decode cX9_weightOf 18 = .ok (.ireturn, 1) := by decide +kernel
theorem dX9_weight_0 : decode cX9_weight 0 = .ok (.iload_n 1, 1) := by decide +kernel
theorem dX9_weight_1 : decode cX9_weight 1 = .ok (.i2l, 1) := by decide +kernel
theorem dX9_weight_2 : decode cX9_weight 2 = .ok (.invokestatic 225, 3) := by decide +kernel
theorem dX9_weight_5 : decode cX9_weight 5 = .ok (.ifCond .ne 9, 3) := by decide +kernel
theorem dX9_weight_8 : decode cX9_weight 8 = .ok (.aload_n 0, 1) := by decide +kernel
theorem dX9_weight_9 : decode cX9_weight 9 = .ok (.iconst 1, 1) := by decide +kernel
theorem dX9_weight_10 : decode cX9_weight 10 = .ok (.invokevirtual 97, 3) := by decide +kernel
theorem dX9_weight_13 : decode cX9_weight 13 = .ok (.ireturn, 1) := by decide +kernel
theorem dX9_weight_14 : decode cX9_weight 14 = .ok (.aload_n 0, 1) := by decide +kernel
theorem dX9_weight_15 : decode cX9_weight 15 = .ok (.iconst (-1), 1) := by decide +kernel
theorem dX9_weight_16 : decode cX9_weight 16 = .ok (.invokevirtual 216, 3) := by decide +kernel
theorem dX9_weight_19 : decode cX9_weight 19 = .ok (.aload_n 0, 1) := by decide +kernel
theorem dX9_weight_20 : decode cX9_weight 20 = .ok (.iload_n 1, 1) := by decide +kernel
theorem dX9_weight_21 : decode cX9_weight 21 = .ok (.invokevirtual 228, 3) := by decide +kernel
theorem dX9_weight_24 : decode cX9_weight 24 = .ok (.invokestatic 247, 3) := by decide +kernel
theorem dX9_weight_27 : decode cX9_weight 27 = .ok (.ireturn, 1) := by decide +kernel
theorem dX9_isDepth_0 : decode cX9_isDepth 0 = .ok (.iload_n 0, 1) := by decide +kernel
theorem dX9_isDepth_1 : decode cX9_isDepth 1 = .ok (.iconst 0, 1) := by decide +kernel
theorem dX9_isDepth_2 : decode cX9_isDepth 2 = .ok (.iconst 3, 1) := by decide +kernel
theorem dX9_isDepth_3 : decode cX9_isDepth 3 = .ok (.invokestatic 79, 3) := by decide +kernel
theorem dX9_isDepth_6 : decode cX9_isDepth 6 = .ok (.ireturn, 1) := by decide +kernel
theorem dX9_sweep_0 : decode cX9_sweep 0 = .ok (.aload_n 0, 1) := by decide +kernel
theorem dX9_sweep_1 : decode cX9_sweep 1 = .ok (.lconst 0, 1) := by decide +kernel
theorem dX9_sweep_2 : decode cX9_sweep 2 = .ok (.putfield 250, 3) := by decide +kernel
theorem dX9_sweep_5 : decode cX9_sweep 5 = .ok (.aload_n 0, 1) := by decide +kernel
theorem dX9_sweep_6 : decode cX9_sweep 6 = .ok (.iconst (-1), 1) := by decide +kernel
theorem dX9_sweep_7 : decode cX9_sweep 7 = .ok (.putfield 253, 3) := by decide +kernel
theorem dX9_sweep_10 : decode cX9_sweep 10 = .ok (.aload_n 0, 1) := by decide +kernel
theorem dX9_sweep_11 : decode cX9_sweep 11 = .ok (.iconst 0, 1) := by decide +kernel
theorem dX9_sweep_12 : decode cX9_sweep 12 = .ok (.putfield 256, 3) := by decide +kernel
theorem dX9_sweep_15 : decode cX9_sweep 15 = .ok (.iconst 0, 1) := by decide +kernel
theorem dX9_sweep_16 : decode cX9_sweep 16 = .ok (.istore_n 2, 1) := by decide +kernel
theorem dX9_sweep_17 : decode cX9_sweep 17 = .ok (.iload_n 2, 1) := by decide +kernel
theorem dX9_sweep_18 : decode cX9_sweep 18 = .ok (.sipush 144, 3) := by decide +kernel
theorem dX9_sweep_21 : decode cX9_sweep 21 = .ok (.if_icmp .ge 110, 3) := by decide +kernel
theorem dX9_sweep_24 : decode cX9_sweep 24 = .ok (.aload_n 0, 1) := by decide +kernel
theorem dX9_sweep_25 : decode cX9_sweep 25 = .ok (.getfield 56, 3) := by decide +kernel
theorem dX9_sweep_28 : decode cX9_sweep 28 = .ok (.iload_n 2, 1) := by decide +kernel
theorem dX9_sweep_29 : decode cX9_sweep 29 = .ok (.lconst 0, 1) := by decide +kernel
theorem dX9_sweep_30 : decode cX9_sweep 30 = .ok (.lastore, 1) := by decide +kernel
theorem dX9_sweep_31 : decode cX9_sweep 31 = .ok (.iconst 0, 1) := by decide +kernel
theorem dX9_sweep_32 : decode cX9_sweep 32 = .ok (.istore_n 3, 1) := by decide +kernel
theorem dX9_sweep_33 : decode cX9_sweep 33 = .ok (.iload_n 3, 1) := by decide +kernel
theorem dX9_sweep_34 : decode cX9_sweep 34 = .ok (.bipush 40, 2) := by decide +kernel
theorem dX9_sweep_36 : decode cX9_sweep 36 = .ok (.if_icmp .ge 74, 3) := by decide +kernel
theorem dX9_sweep_39 : decode cX9_sweep 39 = .ok (.sipush 1000, 3) := by decide +kernel
theorem dX9_sweep_42 : decode cX9_sweep 42 = .ok (.iload_n 2, 1) := by decide +kernel
theorem dX9_sweep_43 : decode cX9_sweep 43 = .ok (.imul, 1) := by decide +kernel
theorem dX9_sweep_44 : decode cX9_sweep 44 = .ok (.bipush 10, 2) := by decide +kernel
theorem dX9_sweep_46 : decode cX9_sweep 46 = .ok (.iload_n 3, 1) := by decide +kernel
theorem dX9_sweep_47 : decode cX9_sweep 47 = .ok (.imul, 1) := by decide +kernel
theorem dX9_sweep_48 : decode cX9_sweep 48 = .ok (.iadd, 1) := by decide +kernel
theorem dX9_sweep_49 : decode cX9_sweep 49 = .ok (.iload_n 1, 1) := by decide +kernel
theorem dX9_sweep_50 : decode cX9_sweep 50 = .ok (.iadd, 1) := by decide +kernel
theorem dX9_sweep_51 : decode cX9_sweep 51 = .ok (.istore 4, 2) := by decide +kernel
theorem dX9_sweep_53 : decode cX9_sweep 53 = .ok (.aload_n 0, 1) := by decide +kernel
theorem dX9_sweep_54 : decode cX9_sweep 54 = .ok (.iload 4, 2) := by decide +kernel
theorem dX9_sweep_56 : decode cX9_sweep 56 = .ok (.invokevirtual 228, 3) := by decide +kernel
theorem dX9_sweep_59 : decode cX9_sweep 59 = .ok (.istore 5, 2) := by decide +kernel
theorem dX9_sweep_61 : decode cX9_sweep 61 = .ok (.aload_n 0, 1) := by decide +kernel
theorem dX9_sweep_62 : decode cX9_sweep 62 = .ok (.getfield 56, 3) := by decide +kernel
theorem dX9_sweep_65 : decode cX9_sweep 65 = .ok (.iload_n 2, 1) := by decide +kernel
theorem dX9_sweep_66 : decode cX9_sweep 66 = .ok (.dup2, 1) := by decide +kernel
theorem dX9_sweep_67 : decode cX9_sweep 67 = .ok (.laload, 1) := by decide +kernel
theorem dX9_sweep_68 : decode cX9_sweep 68 = .ok (.iload 5, 2) := by decide +kernel
theorem dX9_sweep_70 : decode cX9_sweep 70 = .ok (.invokestatic 247, 3) := by decide +kernel
theorem dX9_sweep_73 : decode cX9_sweep 73 = .ok (.i2l, 1) := by decide +kernel
theorem dX9_sweep_74 : decode cX9_sweep 74 = .ok (.ladd, 1) := by decide +kernel
theorem dX9_sweep_75 : decode cX9_sweep 75 = .ok (.lastore, 1) := by decide +kernel
theorem dX9_sweep_76 : decode cX9_sweep 76 = .ok (.aload_n 0, 1) := by decide +kernel
theorem dX9_sweep_77 : decode cX9_sweep 77 = .ok (.getfield 253, 3) := by decide +kernel
theorem dX9_sweep_80 : decode cX9_sweep 80 = .ok (.ifCond .lt 12, 3) := by decide +kernel
theorem dX9_sweep_83 : decode cX9_sweep 83 = .ok (.iload 5, 2) := by decide +kernel
theorem dX9_sweep_85 : decode cX9_sweep 85 = .ok (.aload_n 0, 1) := by decide +kernel
theorem dX9_sweep_86 : decode cX9_sweep 86 = .ok (.getfield 256, 3) := by decide +kernel
theorem dX9_sweep_89 : decode cX9_sweep 89 = .ok (.if_icmp .ge 15, 3) := by decide +kernel
theorem dX9_sweep_92 : decode cX9_sweep 92 = .ok (.aload_n 0, 1) := by decide +kernel
theorem dX9_sweep_93 : decode cX9_sweep 93 = .ok (.iload 4, 2) := by decide +kernel
theorem dX9_sweep_95 : decode cX9_sweep 95 = .ok (.putfield 253, 3) := by decide +kernel
theorem dX9_sweep_98 : decode cX9_sweep 98 = .ok (.aload_n 0, 1) := by decide +kernel
theorem dX9_sweep_99 : decode cX9_sweep 99 = .ok (.iload 5, 2) := by decide +kernel
theorem dX9_sweep_101 : decode cX9_sweep 101 = .ok (.putfield 256, 3) := by decide +kernel
theorem dX9_sweep_104 : decode cX9_sweep 104 = .ok (.iinc 3 1, 3) := by decide +kernel
theorem dX9_sweep_107 : decode cX9_sweep 107 = .ok (.goto (-74), 3) := by decide +kernel
theorem dX9_sweep_110 : decode cX9_sweep 110 = .ok (.aload_n 0, 1) := by decide +kernel
theorem dX9_sweep_111 : decode cX9_sweep 111 = .ok (.dup, 1) := by decide +kernel
theorem dX9_sweep_112 : decode cX9_sweep 112 = .ok (.getfield 250, 3) := by decide +kernel
theorem dX9_sweep_115 : decode cX9_sweep 115 = .ok (.aload_n 0, 1) := by decide +kernel
theorem dX9_sweep_116 : decode cX9_sweep 116 = .ok (.getfield 56, 3) := by decide +kernel
theorem dX9_sweep_119 : decode cX9_sweep 119 = .ok (.iload_n 2, 1) := by decide +kernel
theorem dX9_sweep_120 : decode cX9_sweep 120 = .ok (.laload, 1) := by decide +kernel
theorem dX9_sweep_121 : decode cX9_sweep 121 = .ok (.ladd, 1) := by decide +kernel
theorem dX9_sweep_122 : decode cX9_sweep 122 = .ok (.putfield 250, 3) := by decide +kernel
theorem dX9_sweep_125 : decode cX9_sweep 125 = .ok (.iinc 2 1, 3) := by decide +kernel
theorem dX9_sweep_128 : decode cX9_sweep 128 = .ok (.goto (-111), 3) := by decide +kernel
theorem dX9_sweep_131 : decode cX9_sweep 131 = .ok (.return_, 1) := by decide +kernel
theorem dX9_odds_0 : decode cX9_odds 0 = .ok (.iload_n 1, 1) := by decide +kernel
theorem dX9_odds_1 : decode cX9_odds 1 = .ok (.invokestatic 259, 3) := by decide +kernel
theorem dX9_odds_4 : decode cX9_odds 4 = .ok (.ifCond .eq 15, 3) := by decide +kernel
theorem dX9_odds_7 : decode cX9_odds 7 = .ok (.iload_n 2, 1) := by decide +kernel
theorem dX9_odds_8 : decode cX9_odds 8 = .ok (.iconst (-1), 1) := by decide +kernel
theorem dX9_odds_9 : decode cX9_odds 9 = .ok (.if_icmp .eq 17, 3) := by decide +kernel
theorem dX9_odds_12 : decode cX9_odds 12 = .ok (.iload_n 2, 1) := by decide +kernel
theorem dX9_odds_13 : decode cX9_odds 13 = .ok (.invokestatic 93, 3) := by decide +kernel
theorem dX9_odds_16 : decode cX9_odds 16 = .ok (.ifCond .ne 10, 3) := by decide +kernel
theorem dX9_odds_19 : decode cX9_odds 19 = .ok (.aload_n 0, 1) := by decide +kernel
theorem dX9_odds_20 : decode cX9_odds 20 = .ok (.iconst 1, 1) := by decide +kernel
theorem dX9_odds_21 : decode cX9_odds 21 = .ok (.invokevirtual 97, 3) := by decide +kernel
theorem dX9_odds_24 : decode cX9_odds 24 = .ok (.i2l, 1) := by decide +kernel
theorem dX9_odds_25 : decode cX9_odds 25 = .ok (.lreturn, 1) := by decide +kernel
theorem dX9_odds_26 : decode cX9_odds 26 = .ok (.aload_n 0, 1) := by decide +kernel
theorem dX9_odds_27 : decode cX9_odds 27 = .ok (.iconst (-1), 1) := by decide +kernel
theorem dX9_odds_28 : decode cX9_odds 28 = .ok (.invokevirtual 216, 3) := by decide +kernel
theorem dX9_odds_31 : decode cX9_odds 31 = .ok (.aload_n 0, 1) := by decide +kernel
theorem dX9_odds_32 : decode cX9_odds 32 = .ok (.iload_n 1, 1) := by decide +kernel
theorem dX9_odds_33 : decode cX9_odds 33 = .ok (.invokevirtual 262, 3) := by decide +kernel
theorem dX9_odds_36 : decode cX9_odds 36 = .ok (.iload_n 2, 1) := by decide +kernel
theorem dX9_odds_37 : decode cX9_odds 37 = .ok (.ifCond .ge 10, 3) := by decide +kernel
theorem dX9_odds_40 : decode cX9_odds 40 = .ok (.aload_n 0, 1) := by decide +kernel
theorem dX9_odds_41 : decode cX9_odds 41 = .ok (.getfield 250, 3) := by decide +kernel
theorem dX9_odds_44 : decode cX9_odds 44 = .ok (.goto 9, 3) := by decide +kernel
theorem dX9_odds_47 : decode cX9_odds 47 = .ok (.aload_n 0, 1) := by decide +kernel
theorem dX9_odds_48 : decode cX9_odds 48 = .ok (.getfield 56, 3) := by decide +kernel
theorem dX9_odds_51 : decode cX9_odds 51 = .ok (.iload_n 2, 1) := by decide +kernel
theorem dX9_odds_52 : decode cX9_odds 52 = .ok (.laload, 1) := by decide +kernel
theorem dX9_odds_53 : decode cX9_odds 53 = .ok (.lreturn, 1) := by decide +kernel
theorem dX9_best_0 : decode cX9_best 0 = .ok (.iload_n 1, 1) := by decide +kernel
theorem dX9_best_1 : decode cX9_best 1 = .ok (.invokestatic 259, 3) := by decide +kernel
theorem dX9_best_4 : decode cX9_best 4 = .ok (.ifCond .ne 9, 3) := by decide +kernel
theorem dX9_best_7 : decode cX9_best 7 = .ok (.aload_n 0, 1) := by decide +kernel
theorem dX9_best_8 : decode cX9_best 8 = .ok (.iconst 1, 1) := by decide +kernel
theorem dX9_best_9 : decode cX9_best 9 = .ok (.invokevirtual 97, 3) := by decide +kernel
theorem dX9_best_12 : decode cX9_best 12 = .ok (.ireturn, 1) := by decide +kernel
theorem dX9_best_13 : decode cX9_best 13 = .ok (.aload_n 0, 1) := by decide +kernel
theorem dX9_best_14 : decode cX9_best 14 = .ok (.iconst (-1), 1) := by decide +kernel
theorem dX9_best_15 : decode cX9_best 15 = .ok (.invokevirtual 216, 3) := by decide +kernel
theorem dX9_best_18 : decode cX9_best 18 = .ok (.aload_n 0, 1) := by decide +kernel
theorem dX9_best_19 : decode cX9_best 19 = .ok (.iload_n 1, 1) := by decide +kernel
theorem dX9_best_20 : decode cX9_best 20 = .ok (.invokevirtual 262, 3) := by decide +kernel
theorem dX9_best_23 : decode cX9_best 23 = .ok (.aload_n 0, 1) := by decide +kernel
theorem dX9_best_24 : decode cX9_best 24 = .ok (.getfield 253, 3) := by decide +kernel
theorem dX9_best_27 : decode cX9_best 27 = .ok (.ireturn, 1) := by decide +kernel
theorem dX9_narrow_0 : decode cX9_narrow 0 = .ok (.iload_n 1, 1) := by decide +kernel
theorem dX9_narrow_1 : decode cX9_narrow 1 = .ok (.invokestatic 259, 3) := by decide +kernel
theorem dX9_narrow_4 : decode cX9_narrow 4 = .ok (.ifCond .eq 13, 3) := by decide +kernel
theorem dX9_narrow_7 : decode cX9_narrow 7 = .ok (.iload_n 2, 1) := by decide +kernel
theorem dX9_narrow_8 : decode cX9_narrow 8 = .ok (.iconst 0, 1) := by decide +kernel
theorem dX9_narrow_9 : decode cX9_narrow 9 = .ok (.bipush 100, 2) := by decide +kernel
theorem dX9_narrow_11 : decode cX9_narrow 11 = .ok (.invokestatic 79, 3) := by decide +kernel
theorem dX9_narrow_14 : decode cX9_narrow 14 = .ok (.ifCond .ne 9, 3) := by decide +kernel
theorem dX9_narrow_17 : decode cX9_narrow 17 = .ok (.aload_n 0, 1) := by decide +kernel
theorem dX9_narrow_18 : decode cX9_narrow 18 = .ok (.iconst 1, 1) := by decide +kernel
theorem dX9_narrow_19 : decode cX9_narrow 19 = .ok (.invokevirtual 97, 3) := by decide +kernel
theorem dX9_narrow_22 : decode cX9_narrow 22 = .ok (.ireturn, 1) := by decide +kernel
theorem dX9_narrow_23 : decode cX9_narrow 23 = .ok (.aload_n 0, 1) := by decide +kernel
theorem dX9_narrow_24 : decode cX9_narrow 24 = .ok (.iconst (-1), 1) := by decide +kernel
theorem dX9_narrow_25 : decode cX9_narrow 25 = .ok (.invokevirtual 216, 3) := by decide +kernel
theorem dX9_narrow_28 : decode cX9_narrow 28 = .ok (.aload_n 0, 1) := by decide +kernel
theorem dX9_narrow_29 : decode cX9_narrow 29 = .ok (.iload_n 1, 1) := by decide +kernel
theorem dX9_narrow_30 : decode cX9_narrow 30 = .ok (.invokevirtual 262, 3) := by decide +kernel
theorem dX9_narrow_33 : decode cX9_narrow 33 = .ok (.aload_n 0, 1) := by decide +kernel
theorem dX9_narrow_34 : decode cX9_narrow 34 = .ok (.getfield 250, 3) := by decide +kernel
theorem dX9_narrow_37 : decode cX9_narrow 37 = .ok (.lconst 0, 1) := by decide +kernel
theorem dX9_narrow_38 : decode cX9_narrow 38 = .ok (.lcmp, 1) := by decide +kernel
theorem dX9_narrow_39 : decode cX9_narrow 39 = .ok (.ifCond .ne 9, 3) := by decide +kernel
theorem dX9_narrow_42 : decode cX9_narrow 42 = .ok (.aload_n 0, 1) := by decide +kernel
theorem dX9_narrow_43 : decode cX9_narrow 43 = .ok (.iconst 4, 1) := by decide +kernel
theorem dX9_narrow_44 : decode cX9_narrow 44 = .ok (.invokevirtual 97, 3) := by decide +kernel
theorem dX9_narrow_47 : decode cX9_narrow 47 = .ok (.ireturn, 1) := by decide +kernel
theorem dX9_narrow_48 : decode cX9_narrow 48 = .ok (.iconst 0, 1) := by decide +kernel
theorem dX9_narrow_49 : decode cX9_narrow 49 = .ok (.istore_n 3, 1) := by decide +kernel
theorem dX9_narrow_50 : decode cX9_narrow 50 = .ok (.lconst 0, 1) := by decide +kernel
theorem dX9_narrow_51 : decode cX9_narrow 51 = .ok (.lstore 4, 2) := by decide +kernel
theorem dX9_narrow_53 : decode cX9_narrow 53 = .ok (.ldc2_w 265, 3) := by decide +kernel
theorem dX9_narrow_56 : decode cX9_narrow 56 = .ok (.lload 4, 2) := by decide +kernel
theorem dX9_narrow_58 : decode cX9_narrow 58 = .ok (.lmul, 1) := by decide +kernel
theorem dX9_narrow_59 : decode cX9_narrow 59 = .ok (.iload_n 2, 1) := by decide +kernel
theorem dX9_narrow_60 : decode cX9_narrow 60 = .ok (.i2l, 1) := by decide +kernel
theorem dX9_narrow_61 : decode cX9_narrow 61 = .ok (.aload_n 0, 1) := by decide +kernel
theorem dX9_narrow_62 : decode cX9_narrow 62 = .ok (.getfield 250, 3) := by decide +kernel
theorem dX9_narrow_65 : decode cX9_narrow 65 = .ok (.lmul, 1) := by decide +kernel
theorem dX9_narrow_66 : decode cX9_narrow 66 = .ok (.lcmp, 1) := by decide +kernel
theorem dX9_narrow_67 : decode cX9_narrow 67 = .ok (.ifCond .ge 78, 3) := by decide +kernel
theorem dX9_narrow_70 : decode cX9_narrow 70 = .ok (.iconst 0, 1) := by decide +kernel
theorem dX9_narrow_71 : decode cX9_narrow 71 = .ok (.istore 6, 2) := by decide +kernel
theorem dX9_narrow_73 : decode cX9_narrow 73 = .ok (.iconst 1, 1) := by decide +kernel
theorem dX9_narrow_74 : decode cX9_narrow 74 = .ok (.istore 7, 2) := by decide +kernel
theorem dX9_narrow_76 : decode cX9_narrow 76 = .ok (.iload 7, 2) := by decide +kernel
theorem dX9_narrow_78 : decode cX9_narrow 78 = .ok (.sipush 144, 3) := by decide +kernel
theorem dX9_narrow_81 : decode cX9_narrow 81 = .ok (.if_icmp .ge 36, 3) := by decide +kernel
theorem dX9_narrow_84 : decode cX9_narrow 84 = .ok (.aload_n 0, 1) := by decide +kernel
theorem dX9_narrow_85 : decode cX9_narrow 85 = .ok (.getfield 56, 3) := by decide +kernel
theorem dX9_narrow_88 : decode cX9_narrow 88 = .ok (.iload 7, 2) := by decide +kernel
theorem dX9_narrow_90 : decode cX9_narrow 90 = .ok (.laload, 1) := by decide +kernel
theorem dX9_narrow_91 : decode cX9_narrow 91 = .ok (.aload_n 0, 1) := by decide +kernel
theorem dX9_narrow_92 : decode cX9_narrow 92 = .ok (.getfield 56, 3) := by decide +kernel
theorem dX9_narrow_95 : decode cX9_narrow 95 = .ok (.iload 6, 2) := by decide +kernel
theorem dX9_narrow_97 : decode cX9_narrow 97 = .ok (.laload, 1) := by decide +kernel
theorem dX9_narrow_98 : decode cX9_narrow 98 = .ok (.lcmp, 1) := by decide +kernel
theorem dX9_narrow_99 : decode cX9_narrow 99 = .ok (.ifCond .le 8, 3) := by decide +kernel
theorem dX9_narrow_102 : decode cX9_narrow 102 = .ok (.iload 7, 2) := by decide +kernel
theorem dX9_narrow_104 : decode cX9_narrow 104 = .ok (.goto 5, 3) := by decide +kernel
theorem dX9_narrow_107 : decode cX9_narrow 107 = .ok (.iload 6, 2) := by decide +kernel
theorem dX9_narrow_109 : decode cX9_narrow 109 = .ok (.istore 6, 2) := by decide +kernel
theorem dX9_narrow_111 : decode cX9_narrow 111 = .ok (.iinc 7 1, 3) := by decide +kernel
theorem dX9_narrow_114 : decode cX9_narrow 114 = .ok (.goto (-38), 3) := by decide +kernel
theorem dX9_narrow_117 : decode cX9_narrow 117 = .ok (.lload 4, 2) := by decide +kernel
theorem dX9_narrow_119 : decode cX9_narrow 119 = .ok (.aload_n 0, 1) := by decide +kernel
theorem dX9_narrow_120 : decode cX9_narrow 120 = .ok (.getfield 56, 3) := by decide +kernel
theorem dX9_narrow_123 : decode cX9_narrow 123 = .ok (.iload 6, 2) := by decide +kernel
theorem dX9_narrow_125 : decode cX9_narrow 125 = .ok (.laload, 1) := by decide +kernel
theorem dX9_narrow_126 : decode cX9_narrow 126 = .ok (.ladd, 1) := by decide +kernel
theorem dX9_narrow_127 : decode cX9_narrow 127 = .ok (.lstore 4, 2) := by decide +kernel
theorem dX9_narrow_129 : decode cX9_narrow 129 = .ok (.aload_n 0, 1) := by decide +kernel
theorem dX9_narrow_130 : decode cX9_narrow 130 = .ok (.getfield 56, 3) := by decide +kernel
theorem dX9_narrow_133 : decode cX9_narrow 133 = .ok (.iload 6, 2) := by decide +kernel
theorem dX9_narrow_135 : decode cX9_narrow 135 = .ok (.ldc2_w 168, 3) := by decide +kernel
theorem dX9_narrow_138 : decode cX9_narrow 138 = .ok (.lastore, 1) := by decide +kernel
theorem dX9_narrow_139 : decode cX9_narrow 139 = .ok (.iinc 3 1, 3) := by decide +kernel
theorem dX9_narrow_142 : decode cX9_narrow 142 = .ok (.goto (-89), 3) := by decide +kernel
theorem dX9_narrow_145 : decode cX9_narrow 145 = .ok (.iload_n 3, 1) := by decide +kernel
theorem dX9_narrow_146 : decode cX9_narrow 146 = .ok (.ireturn, 1) := by decide +kernel
theorem dX9_judge_0 : decode cX9_judge 0 = .ok (.iload_n 1, 1) := by decide +kernel
theorem dX9_judge_1 : decode cX9_judge 1 = .ok (.invokestatic 259, 3) := by decide +kernel
theorem dX9_judge_4 : decode cX9_judge 4 = .ok (.ifCond .eq 10, 3) := by decide +kernel
theorem dX9_judge_7 : decode cX9_judge 7 = .ok (.iload_n 2, 1) := by decide +kernel
theorem dX9_judge_8 : decode cX9_judge 8 = .ok (.invokestatic 104, 3) := by decide +kernel
theorem dX9_judge_11 : decode cX9_judge 11 = .ok (.ifCond .ne 9, 3) := by decide +kernel
theorem dX9_judge_14 : decode cX9_judge 14 = .ok (.aload_n 0, 1) := by decide +kernel
theorem dX9_judge_15 : decode cX9_judge 15 = .ok (.iconst 1, 1) := by decide +kernel
theorem dX9_judge_16 : decode cX9_judge 16 = .ok (.invokevirtual 97, 3) := by decide +kernel
theorem dX9_judge_19 : decode cX9_judge 19 = .ok (.ireturn, 1) := by decide +kernel
theorem dX9_judge_20 : decode cX9_judge 20 = .ok (.aload_n 0, 1) := by decide +kernel
theorem dX9_judge_21 : decode cX9_judge 21 = .ok (.getfield 63, 3) := by decide +kernel
theorem dX9_judge_24 : decode cX9_judge 24 = .ok (.iload_n 2, 1) := by decide +kernel
theorem dX9_judge_25 : decode cX9_judge 25 = .ok (.iaload, 1) := by decide +kernel
theorem dX9_judge_26 : decode cX9_judge 26 = .ok (.ifCond .ne 10, 3) := by decide +kernel
theorem dX9_judge_29 : decode cX9_judge 29 = .ok (.aload_n 0, 1) := by decide +kernel
theorem dX9_judge_30 : decode cX9_judge 30 = .ok (.bipush 6, 2) := by decide +kernel
theorem dX9_judge_32 : decode cX9_judge 32 = .ok (.invokevirtual 97, 3) := by decide +kernel
theorem dX9_judge_35 : decode cX9_judge 35 = .ok (.ireturn, 1) := by decide +kernel
theorem dX9_judge_36 : decode cX9_judge 36 = .ok (.iconst 0, 1) := by decide +kernel
theorem dX9_judge_37 : decode cX9_judge 37 = .ok (.istore_n 3, 1) := by decide +kernel
theorem dX9_judge_38 : decode cX9_judge 38 = .ok (.iload_n 3, 1) := by decide +kernel
theorem dX9_judge_39 : decode cX9_judge 39 = .ok (.aload_n 0, 1) := by decide +kernel
theorem dX9_judge_40 : decode cX9_judge 40 = .ok (.getfield 66, 3) := by decide +kernel
theorem dX9_judge_43 : decode cX9_judge 43 = .ok (.iload_n 2, 1) := by decide +kernel
theorem dX9_judge_44 : decode cX9_judge 44 = .ok (.iaload, 1) := by decide +kernel
theorem dX9_judge_45 : decode cX9_judge 45 = .ok (.if_icmp .ge 44, 3) := by decide +kernel
theorem dX9_judge_48 : decode cX9_judge 48 = .ok (.aload_n 0, 1) := by decide +kernel
theorem dX9_judge_49 : decode cX9_judge 49 = .ok (.getfield 69, 3) := by decide +kernel
theorem dX9_judge_52 : decode cX9_judge 52 = .ok (.bipush 40, 2) := by decide +kernel
theorem dX9_judge_54 : decode cX9_judge 54 = .ok (.iload_n 2, 1) := by decide +kernel
theorem dX9_judge_55 : decode cX9_judge 55 = .ok (.imul, 1) := by decide +kernel
theorem dX9_judge_56 : decode cX9_judge 56 = .ok (.iload_n 3, 1) := by decide +kernel
theorem dX9_judge_57 : decode cX9_judge 57 = .ok (.iadd, 1) := by decide +kernel
theorem dX9_judge_58 : decode cX9_judge 58 = .ok (.laload, 1) := by decide +kernel
theorem dX9_judge_59 : decode cX9_judge 59 = .ok (.lstore 4, 2) := by decide +kernel
theorem dX9_judge_61 : decode cX9_judge 61 = .ok (.lload 4, 2) := by decide +kernel
theorem dX9_judge_63 : decode cX9_judge 63 = .ok (.lconst 0, 1) := by decide +kernel
theorem dX9_judge_64 : decode cX9_judge 64 = .ok (.lcmp, 1) := by decide +kernel
theorem dX9_judge_65 : decode cX9_judge 65 = .ok (.ifCond .lt 12, 3) := by decide +kernel
theorem dX9_judge_68 : decode cX9_judge 68 = .ok (.lload 4, 2) := by decide +kernel
theorem dX9_judge_70 : decode cX9_judge 70 = .ok (.ldc2_w 267, 3) := by decide +kernel
theorem dX9_judge_73 : decode cX9_judge 73 = .ok (.lcmp, 1) := by decide +kernel
theorem dX9_judge_74 : decode cX9_judge 74 = .ok (.ifCond .le 9, 3) := by decide +kernel
theorem dX9_judge_77 : decode cX9_judge 77 = .ok (.aload_n 0, 1) := by decide +kernel
theorem dX9_judge_78 : decode cX9_judge 78 = .ok (.iconst 1, 1) := by decide +kernel
theorem dX9_judge_79 : decode cX9_judge 79 = .ok (.invokevirtual 97, 3) := by decide +kernel
theorem dX9_judge_82 : decode cX9_judge 82 = .ok (.ireturn, 1) := by decide +kernel
theorem dX9_judge_83 : decode cX9_judge 83 = .ok (.iinc 3 1, 3) := by decide +kernel
theorem dX9_judge_86 : decode cX9_judge 86 = .ok (.goto (-48), 3) := by decide +kernel
theorem dX9_judge_89 : decode cX9_judge 89 = .ok (.aload_n 0, 1) := by decide +kernel
theorem dX9_judge_90 : decode cX9_judge 90 = .ok (.iconst (-1), 1) := by decide +kernel
theorem dX9_judge_91 : decode cX9_judge 91 = .ok (.invokevirtual 216, 3) := by decide +kernel
theorem dX9_judge_94 : decode cX9_judge 94 = .ok (.aload_n 0, 1) := by decide +kernel
theorem dX9_judge_95 : decode cX9_judge 95 = .ok (.iload_n 1, 1) := by decide +kernel
theorem dX9_judge_96 : decode cX9_judge 96 = .ok (.invokevirtual 262, 3) := by decide +kernel
theorem dX9_judge_99 : decode cX9_judge 99 = .ok (.aload_n 0, 1) := by decide +kernel
theorem dX9_judge_100 : decode cX9_judge 100 = .ok (.getfield 250, 3) := by decide +kernel
theorem dX9_judge_103 : decode cX9_judge 103 = .ok (.lconst 0, 1) := by decide +kernel
theorem dX9_judge_104 : decode cX9_judge 104 = .ok (.lcmp, 1) := by decide +kernel
theorem dX9_judge_105 : decode cX9_judge 105 = .ok (.ifCond .ne 9, 3) := by decide +kernel
theorem dX9_judge_108 : decode cX9_judge 108 = .ok (.aload_n 0, 1) := by decide +kernel
theorem dX9_judge_109 : decode cX9_judge 109 = .ok (.iconst 4, 1) := by decide +kernel
theorem dX9_judge_110 : decode cX9_judge 110 = .ok (.invokevirtual 97, 3) := by decide +kernel
theorem dX9_judge_113 : decode cX9_judge 113 = .ok (.ireturn, 1) := by decide +kernel
