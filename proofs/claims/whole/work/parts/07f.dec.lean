theorem dX9_judge_114 : decode cX9_judge 114 = .ok (.lconst 0, 1) := by decide +kernel
theorem dX9_judge_115 : decode cX9_judge 115 = .ok (.lstore_n 3, 1) := by decide +kernel
theorem dX9_judge_116 : decode cX9_judge 116 = .ok (.iconst 0, 1) := by decide +kernel
theorem dX9_judge_117 : decode cX9_judge 117 = .ok (.istore 5, 2) := by decide +kernel
theorem dX9_judge_119 : decode cX9_judge 119 = .ok (.iload 5, 2) := by decide +kernel
theorem dX9_judge_121 : decode cX9_judge 121 = .ok (.sipush 144, 3) := by decide +kernel
theorem dX9_judge_124 : decode cX9_judge 124 = .ok (.if_icmp .ge 82, 3) := by decide +kernel
theorem dX9_judge_127 : decode cX9_judge 127 = .ok (.iconst 0, 1) := by decide +kernel
theorem dX9_judge_128 : decode cX9_judge 128 = .ok (.istore 6, 2) := by decide +kernel
theorem dX9_judge_130 : decode cX9_judge 130 = .ok (.iconst 0, 1) := by decide +kernel
theorem dX9_judge_131 : decode cX9_judge 131 = .ok (.istore 7, 2) := by decide +kernel
theorem dX9_judge_133 : decode cX9_judge 133 = .ok (.iload 7, 2) := by decide +kernel
theorem dX9_judge_135 : decode cX9_judge 135 = .ok (.aload_n 0, 1) := by decide +kernel
theorem dX9_judge_136 : decode cX9_judge 136 = .ok (.getfield 66, 3) := by decide +kernel
theorem dX9_judge_139 : decode cX9_judge 139 = .ok (.iload_n 2, 1) := by decide +kernel
theorem dX9_judge_140 : decode cX9_judge 140 = .ok (.iaload, 1) := by decide +kernel
theorem dX9_judge_141 : decode cX9_judge 141 = .ok (.if_icmp .ge 40, 3) := by decide +kernel
theorem dX9_judge_144 : decode cX9_judge 144 = .ok (.iload 6, 2) := by decide +kernel
theorem dX9_judge_146 : decode cX9_judge 146 = .ok (.ifCond .ne 22, 3) := by decide +kernel
theorem dX9_judge_149 : decode cX9_judge 149 = .ok (.aload_n 0, 1) := by decide +kernel
theorem dX9_judge_150 : decode cX9_judge 150 = .ok (.getfield 69, 3) := by decide +kernel
theorem dX9_judge_153 : decode cX9_judge 153 = .ok (.bipush 40, 2) := by decide +kernel
theorem dX9_judge_155 : decode cX9_judge 155 = .ok (.iload_n 2, 1) := by decide +kernel
theorem dX9_judge_156 : decode cX9_judge 156 = .ok (.imul, 1) := by decide +kernel
theorem dX9_judge_157 : decode cX9_judge 157 = .ok (.iload 7, 2) := by decide +kernel
theorem dX9_judge_159 : decode cX9_judge 159 = .ok (.iadd, 1) := by decide +kernel
theorem dX9_judge_160 : decode cX9_judge 160 = .ok (.laload, 1) := by decide +kernel
theorem dX9_judge_161 : decode cX9_judge 161 = .ok (.iload 5, 2) := by decide +kernel
theorem dX9_judge_163 : decode cX9_judge 163 = .ok (.i2l, 1) := by decide +kernel
theorem dX9_judge_164 : decode cX9_judge 164 = .ok (.lcmp, 1) := by decide +kernel
theorem dX9_judge_165 : decode cX9_judge 165 = .ok (.ifCond .ne 7, 3) := by decide +kernel
theorem dX9_judge_168 : decode cX9_judge 168 = .ok (.iconst 1, 1) := by decide +kernel
theorem dX9_judge_169 : decode cX9_judge 169 = .ok (.goto 4, 3) := by decide +kernel
theorem dX9_judge_172 : decode cX9_judge 172 = .ok (.iconst 0, 1) := by decide +kernel
theorem dX9_judge_173 : decode cX9_judge 173 = .ok (.istore 6, 2) := by decide +kernel
theorem dX9_judge_175 : decode cX9_judge 175 = .ok (.iinc 7 1, 3) := by decide +kernel
theorem dX9_judge_178 : decode cX9_judge 178 = .ok (.goto (-45), 3) := by decide +kernel
theorem dX9_judge_181 : decode cX9_judge 181 = .ok (.lload_n 3, 1) := by decide +kernel
theorem dX9_judge_182 : decode cX9_judge 182 = .ok (.iload 6, 2) := by decide +kernel
theorem dX9_judge_184 : decode cX9_judge 184 = .ok (.ifCond .eq 13, 3) := by decide +kernel
theorem dX9_judge_187 : decode cX9_judge 187 = .ok (.aload_n 0, 1) := by decide +kernel
theorem dX9_judge_188 : decode cX9_judge 188 = .ok (.getfield 56, 3) := by decide +kernel
theorem dX9_judge_191 : decode cX9_judge 191 = .ok (.iload 5, 2) := by decide +kernel
theorem dX9_judge_193 : decode cX9_judge 193 = .ok (.laload, 1) := by decide +kernel
theorem dX9_judge_194 : decode cX9_judge 194 = .ok (.goto 4, 3) := by decide +kernel
theorem dX9_judge_197 : decode cX9_judge 197 = .ok (.lconst 0, 1) := by decide +kernel
theorem dX9_judge_198 : decode cX9_judge 198 = .ok (.ladd, 1) := by decide +kernel
theorem dX9_judge_199 : decode cX9_judge 199 = .ok (.lstore_n 3, 1) := by decide +kernel
theorem dX9_judge_200 : decode cX9_judge 200 = .ok (.iinc 5 1, 3) := by decide +kernel
theorem dX9_judge_203 : decode cX9_judge 203 = .ok (.goto (-84), 3) := by decide +kernel
theorem dX9_judge_206 : decode cX9_judge 206 = .ok (.ldc2_w 265, 3) := by decide +kernel
theorem dX9_judge_209 : decode cX9_judge 209 = .ok (.lload_n 3, 1) := by decide +kernel
theorem dX9_judge_210 : decode cX9_judge 210 = .ok (.lmul, 1) := by decide +kernel
theorem dX9_judge_211 : decode cX9_judge 211 = .ok (.aload_n 0, 1) := by decide +kernel
theorem dX9_judge_212 : decode cX9_judge 212 = .ok (.getfield 250, 3) := by decide +kernel
theorem dX9_judge_215 : decode cX9_judge 215 = .ok (.ldiv, 1) := by decide +kernel
theorem dX9_judge_216 : decode cX9_judge 216 = .ok (.l2i, 1) := by decide +kernel
theorem dX9_judge_217 : decode cX9_judge 217 = .ok (.ireturn, 1) := by decide +kernel
theorem dX9_next__0 : decode cX9_next_ 0 = .ok (.iload_n 1, 1) := by decide +kernel
theorem dX9_next__1 : decode cX9_next_ 1 = .ok (.invokestatic 259, 3) := by decide +kernel
theorem dX9_next__4 : decode cX9_next_ 4 = .ok (.ifCond .ne 9, 3) := by decide +kernel
theorem dX9_next__7 : decode cX9_next_ 7 = .ok (.aload_n 0, 1) := by decide +kernel
theorem dX9_next__8 : decode cX9_next_ 8 = .ok (.iconst 1, 1) := by decide +kernel
theorem dX9_next__9 : decode cX9_next_ 9 = .ok (.invokevirtual 97, 3) := by decide +kernel
theorem dX9_next__12 : decode cX9_next_ 12 = .ok (.ireturn, 1) := by decide +kernel
theorem dX9_next__13 : decode cX9_next_ 13 = .ok (.aload_n 0, 1) := by decide +kernel
theorem dX9_next__14 : decode cX9_next_ 14 = .ok (.iconst (-1), 1) := by decide +kernel
theorem dX9_next__15 : decode cX9_next_ 15 = .ok (.invokevirtual 216, 3) := by decide +kernel
theorem dX9_next__18 : decode cX9_next_ 18 = .ok (.aload_n 0, 1) := by decide +kernel
theorem dX9_next__19 : decode cX9_next_ 19 = .ok (.iload_n 1, 1) := by decide +kernel
theorem dX9_next__20 : decode cX9_next_ 20 = .ok (.invokevirtual 262, 3) := by decide +kernel
theorem dX9_next__23 : decode cX9_next_ 23 = .ok (.iconst 0, 1) := by decide +kernel
theorem dX9_next__24 : decode cX9_next_ 24 = .ok (.istore_n 2, 1) := by decide +kernel
theorem dX9_next__25 : decode cX9_next_ 25 = .ok (.iload_n 2, 1) := by decide +kernel
theorem dX9_next__26 : decode cX9_next_ 26 = .ok (.sipush 192, 3) := by decide +kernel
theorem dX9_next__29 : decode cX9_next_ 29 = .ok (.if_icmp .ge 16, 3) := by decide +kernel
theorem dX9_next__32 : decode cX9_next_ 32 = .ok (.aload_n 0, 1) := by decide +kernel
theorem dX9_next__33 : decode cX9_next_ 33 = .ok (.getfield 60, 3) := by decide +kernel
theorem dX9_next__36 : decode cX9_next_ 36 = .ok (.iload_n 2, 1) := by decide +kernel
theorem dX9_next__37 : decode cX9_next_ 37 = .ok (.iconst 0, 1) := by decide +kernel
theorem dX9_next__38 : decode cX9_next_ 38 = .ok (.iastore, 1) := by decide +kernel
theorem dX9_next__39 : decode cX9_next_ 39 = .ok (.iinc 2 1, 3) := by decide +kernel
theorem dX9_next__42 : decode cX9_next_ 42 = .ok (.goto (-17), 3) := by decide +kernel
theorem dX9_next__45 : decode cX9_next_ 45 = .ok (.iconst 0, 1) := by decide +kernel
theorem dX9_next__46 : decode cX9_next_ 46 = .ok (.istore_n 2, 1) := by decide +kernel
theorem dX9_next__47 : decode cX9_next_ 47 = .ok (.iload_n 2, 1) := by decide +kernel
theorem dX9_next__48 : decode cX9_next_ 48 = .ok (.sipush 144, 3) := by decide +kernel
theorem dX9_next__51 : decode cX9_next_ 51 = .ok (.if_icmp .ge 105, 3) := by decide +kernel
theorem dX9_next__54 : decode cX9_next_ 54 = .ok (.iconst 0, 1) := by decide +kernel
theorem dX9_next__55 : decode cX9_next_ 55 = .ok (.istore_n 3, 1) := by decide +kernel
theorem dX9_next__56 : decode cX9_next_ 56 = .ok (.iload_n 3, 1) := by decide +kernel
theorem dX9_next__57 : decode cX9_next_ 57 = .ok (.bipush 40, 2) := by decide +kernel
theorem dX9_next__59 : decode cX9_next_ 59 = .ok (.if_icmp .ge 91, 3) := by decide +kernel
theorem dX9_next__62 : decode cX9_next_ 62 = .ok (.sipush 1000, 3) := by decide +kernel
theorem dX9_next__65 : decode cX9_next_ 65 = .ok (.iload_n 2, 1) := by decide +kernel
theorem dX9_next__66 : decode cX9_next_ 66 = .ok (.imul, 1) := by decide +kernel
theorem dX9_next__67 : decode cX9_next_ 67 = .ok (.bipush 10, 2) := by decide +kernel
theorem dX9_next__69 : decode cX9_next_ 69 = .ok (.iload_n 3, 1) := by decide +kernel
theorem dX9_next__70 : decode cX9_next_ 70 = .ok (.imul, 1) := by decide +kernel
theorem dX9_next__71 : decode cX9_next_ 71 = .ok (.iadd, 1) := by decide +kernel
theorem dX9_next__72 : decode cX9_next_ 72 = .ok (.iload_n 1, 1) := by decide +kernel
theorem dX9_next__73 : decode cX9_next_ 73 = .ok (.iadd, 1) := by decide +kernel
theorem dX9_next__74 : decode cX9_next_ 74 = .ok (.istore 4, 2) := by decide +kernel
theorem dX9_next__76 : decode cX9_next_ 76 = .ok (.aload_n 0, 1) := by decide +kernel
theorem dX9_next__77 : decode cX9_next_ 77 = .ok (.iload 4, 2) := by decide +kernel
theorem dX9_next__79 : decode cX9_next_ 79 = .ok (.invokevirtual 228, 3) := by decide +kernel
theorem dX9_next__82 : decode cX9_next_ 82 = .ok (.aload_n 0, 1) := by decide +kernel
theorem dX9_next__83 : decode cX9_next_ 83 = .ok (.getfield 256, 3) := by decide +kernel
theorem dX9_next__86 : decode cX9_next_ 86 = .ok (.if_icmp .ne 7, 3) := by decide +kernel
theorem dX9_next__89 : decode cX9_next_ 89 = .ok (.iconst 1, 1) := by decide +kernel
theorem dX9_next__90 : decode cX9_next_ 90 = .ok (.goto 4, 3) := by decide +kernel
theorem dX9_next__93 : decode cX9_next_ 93 = .ok (.iconst 0, 1) := by decide +kernel
theorem dX9_next__94 : decode cX9_next_ 94 = .ok (.istore 5, 2) := by decide +kernel
theorem dX9_next__96 : decode cX9_next_ 96 = .ok (.iconst 0, 1) := by decide +kernel
theorem dX9_next__97 : decode cX9_next_ 97 = .ok (.istore 6, 2) := by decide +kernel
theorem dX9_next__99 : decode cX9_next_ 99 = .ok (.iload 6, 2) := by decide +kernel
theorem dX9_next__101 : decode cX9_next_ 101 = .ok (.aload_n 0, 1) := by decide +kernel
theorem dX9_next__102 : decode cX9_next_ 102 = .ok (.getfield 13, 3) := by decide +kernel
theorem dX9_next__105 : decode cX9_next_ 105 = .ok (.iconst 0, 1) := by decide +kernel
theorem dX9_next__106 : decode cX9_next_ 106 = .ok (.iaload, 1) := by decide +kernel
theorem dX9_next__107 : decode cX9_next_ 107 = .ok (.if_icmp .ge 37, 3) := by decide +kernel
theorem dX9_next__110 : decode cX9_next_ 110 = .ok (.iload 5, 2) := by decide +kernel
theorem dX9_next__112 : decode cX9_next_ 112 = .ok (.ifCond .eq 32, 3) := by decide +kernel
theorem dX9_next__115 : decode cX9_next_ 115 = .ok (.aload_n 0, 1) := by decide +kernel
theorem dX9_next__116 : decode cX9_next_ 116 = .ok (.getfield 60, 3) := by decide +kernel
theorem dX9_next__119 : decode cX9_next_ 119 = .ok (.bipush 12, 2) := by decide +kernel
theorem dX9_next__121 : decode cX9_next_ 121 = .ok (.iload 6, 2) := by decide +kernel
theorem dX9_next__123 : decode cX9_next_ 123 = .ok (.imul, 1) := by decide +kernel
theorem dX9_next__124 : decode cX9_next_ 124 = .ok (.aload_n 0, 1) := by decide +kernel
theorem dX9_next__125 : decode cX9_next_ 125 = .ok (.iload 4, 2) := by decide +kernel
theorem dX9_next__127 : decode cX9_next_ 127 = .ok (.iload 6, 2) := by decide +kernel
theorem dX9_next__129 : decode cX9_next_ 129 = .ok (.invokevirtual 219, 3) := by decide +kernel
theorem dX9_next__132 : decode cX9_next_ 132 = .ok (.iadd, 1) := by decide +kernel
theorem dX9_next__133 : decode cX9_next_ 133 = .ok (.dup2, 1) := by decide +kernel
theorem dX9_next__134 : decode cX9_next_ 134 = .ok (.iaload, 1) := by decide +kernel
theorem dX9_next__135 : decode cX9_next_ 135 = .ok (.iconst 1, 1) := by decide +kernel
theorem dX9_next__136 : decode cX9_next_ 136 = .ok (.iadd, 1) := by decide +kernel
theorem dX9_next__137 : decode cX9_next_ 137 = .ok (.iastore, 1) := by decide +kernel
theorem dX9_next__138 : decode cX9_next_ 138 = .ok (.iinc 6 1, 3) := by decide +kernel
theorem dX9_next__141 : decode cX9_next_ 141 = .ok (.goto (-42), 3) := by decide +kernel
theorem dX9_next__144 : decode cX9_next_ 144 = .ok (.iinc 3 1, 3) := by decide +kernel
theorem dX9_next__147 : decode cX9_next_ 147 = .ok (.goto (-91), 3) := by decide +kernel
theorem dX9_next__150 : decode cX9_next_ 150 = .ok (.iinc 2 1, 3) := by decide +kernel
theorem dX9_next__153 : decode cX9_next_ 153 = .ok (.goto (-106), 3) := by decide +kernel
theorem dX9_next__156 : decode cX9_next_ 156 = .ok (.iconst (-1), 1) := by decide +kernel
theorem dX9_next__157 : decode cX9_next_ 157 = .ok (.istore_n 2, 1) := by decide +kernel
theorem dX9_next__158 : decode cX9_next_ 158 = .ok (.iconst 0, 1) := by decide +kernel
theorem dX9_next__159 : decode cX9_next_ 159 = .ok (.istore_n 3, 1) := by decide +kernel
theorem dX9_next__160 : decode cX9_next_ 160 = .ok (.iconst 0, 1) := by decide +kernel
theorem dX9_next__161 : decode cX9_next_ 161 = .ok (.istore 4, 2) := by decide +kernel
theorem dX9_next__163 : decode cX9_next_ 163 = .ok (.iload 4, 2) := by decide +kernel
theorem dX9_next__165 : decode cX9_next_ 165 = .ok (.aload_n 0, 1) := by decide +kernel
theorem dX9_next__166 : decode cX9_next_ 166 = .ok (.getfield 13, 3) := by decide +kernel
theorem dX9_next__169 : decode cX9_next_ 169 = .ok (.iconst 0, 1) := by decide +kernel
theorem dX9_next__170 : decode cX9_next_ 170 = .ok (.iaload, 1) := by decide +kernel
theorem dX9_next__171 : decode cX9_next_ 171 = .ok (.if_icmp .ge 96, 3) := by decide +kernel
theorem dX9_next__174 : decode cX9_next_ 174 = .ok (.iconst 0, 1) := by decide +kernel
theorem dX9_next__175 : decode cX9_next_ 175 = .ok (.istore 5, 2) := by decide +kernel
theorem dX9_next__177 : decode cX9_next_ 177 = .ok (.iconst 0, 1) := by decide +kernel
theorem dX9_next__178 : decode cX9_next_ 178 = .ok (.istore 6, 2) := by decide +kernel
theorem dX9_next__180 : decode cX9_next_ 180 = .ok (.iload 6, 2) := by decide +kernel
theorem dX9_next__182 : decode cX9_next_ 182 = .ok (.bipush 12, 2) := by decide +kernel
theorem dX9_next__184 : decode cX9_next_ 184 = .ok (.if_icmp .ge 47, 3) := by decide +kernel
theorem dX9_next__187 : decode cX9_next_ 187 = .ok (.aload_n 0, 1) := by decide +kernel
theorem dX9_next__188 : decode cX9_next_ 188 = .ok (.getfield 60, 3) := by decide +kernel
theorem dX9_next__191 : decode cX9_next_ 191 = .ok (.bipush 12, 2) := by decide +kernel
theorem dX9_next__193 : decode cX9_next_ 193 = .ok (.iload 4, 2) := by decide +kernel
theorem dX9_next__195 : decode cX9_next_ 195 = .ok (.imul, 1) := by decide +kernel
theorem dX9_next__196 : decode cX9_next_ 196 = .ok (.iload 6, 2) := by decide +kernel
theorem dX9_next__198 : decode cX9_next_ 198 = .ok (.iadd, 1) := by decide +kernel
theorem dX9_next__199 : decode cX9_next_ 199 = .ok (.iaload, 1) := by decide +kernel
theorem dX9_next__200 : decode cX9_next_ 200 = .ok (.iload 5, 2) := by decide +kernel
theorem dX9_next__202 : decode cX9_next_ 202 = .ok (.if_icmp .le 19, 3) := by decide +kernel
theorem dX9_next__205 : decode cX9_next_ 205 = .ok (.aload_n 0, 1) := by decide +kernel
theorem dX9_next__206 : decode cX9_next_ 206 = .ok (.getfield 60, 3) := by decide +kernel
theorem dX9_next__209 : decode cX9_next_ 209 = .ok (.bipush 12, 2) := by decide +kernel
theorem dX9_next__211 : decode cX9_next_ 211 = .ok (.iload 4, 2) := by decide +kernel
theorem dX9_next__213 : decode cX9_next_ 213 = .ok (.imul, 1) := by decide +kernel
theorem dX9_next__214 : decode cX9_next_ 214 = .ok (.iload 6, 2) := by decide +kernel
theorem dX9_next__216 : decode cX9_next_ 216 = .ok (.iadd, 1) := by decide +kernel
theorem dX9_next__217 : decode cX9_next_ 217 = .ok (.iaload, 1) := by decide +kernel
theorem dX9_next__218 : decode cX9_next_ 218 = .ok (.goto 5, 3) := by decide +kernel
theorem dX9_next__221 : decode cX9_next_ 221 = .ok (.iload 5, 2) := by decide +kernel
theorem dX9_next__223 : decode cX9_next_ 223 = .ok (.istore 5, 2) := by decide +kernel
theorem dX9_next__225 : decode cX9_next_ 225 = .ok (.iinc 6 1, 3) := by decide +kernel
theorem dX9_next__228 : decode cX9_next_ 228 = .ok (.goto (-48), 3) := by decide +kernel
theorem dX9_next__231 : decode cX9_next_ 231 = .ok (.aload_n 0, 1) := by decide +kernel
theorem dX9_next__232 : decode cX9_next_ 232 = .ok (.getfield 50, 3) := by decide +kernel
theorem dX9_next__235 : decode cX9_next_ 235 = .ok (.iload 4, 2) := by decide +kernel
theorem dX9_next__237 : decode cX9_next_ 237 = .ok (.iaload, 1) := by decide +kernel
theorem dX9_next__238 : decode cX9_next_ 238 = .ok (.invokestatic 269, 3) := by decide +kernel
theorem dX9_next__241 : decode cX9_next_ 241 = .ok (.iconst 1, 1) := by decide +kernel
theorem dX9_next__242 : decode cX9_next_ 242 = .ok (.if_icmp .le 19, 3) := by decide +kernel
theorem dX9_next__245 : decode cX9_next_ 245 = .ok (.iload_n 2, 1) := by decide +kernel
theorem dX9_next__246 : decode cX9_next_ 246 = .ok (.ifCond .lt 9, 3) := by decide +kernel
theorem dX9_next__249 : decode cX9_next_ 249 = .ok (.iload 5, 2) := by decide +kernel
theorem dX9_next__251 : decode cX9_next_ 251 = .ok (.iload_n 3, 1) := by decide +kernel
theorem dX9_next__252 : decode cX9_next_ 252 = .ok (.if_icmp .ge 9, 3) := by decide +kernel
theorem dX9_next__255 : decode cX9_next_ 255 = .ok (.iload 4, 2) := by decide +kernel
theorem dX9_next__257 : decode cX9_next_ 257 = .ok (.istore_n 2, 1) := by decide +kernel
theorem dX9_next__258 : decode cX9_next_ 258 = .ok (.iload 5, 2) := by decide +kernel
theorem dX9_next__260 : decode cX9_next_ 260 = .ok (.istore_n 3, 1) := by decide +kernel
theorem dX9_next__261 : decode cX9_next_ 261 = .ok (.iinc 4 1, 3) := by decide +kernel
theorem dX9_next__264 : decode cX9_next_ 264 = .ok (.goto (-101), 3) := by decide +kernel
theorem dX9_next__267 : decode cX9_next_ 267 = .ok (.iload_n 2, 1) := by decide +kernel
theorem dX9_next__268 : decode cX9_next_ 268 = .ok (.ifCond .ge 11, 3) := by decide +kernel
theorem dX9_next__271 : decode cX9_next_ 271 = .ok (.aload_n 0, 1) := by decide +kernel
theorem dX9_next__272 : decode cX9_next_ 272 = .ok (.iconst 4, 1) := by decide +kernel
theorem dX9_next__273 : decode cX9_next_ 273 = .ok (.invokevirtual 97, 3) := by decide +kernel
theorem dX9_next__276 : decode cX9_next_ 276 = .ok (.goto 4, 3) := by decide +kernel
theorem dX9_next__279 : decode cX9_next_ 279 = .ok (.iload_n 2, 1) := by decide +kernel
theorem dX9_next__280 : decode cX9_next_ 280 = .ok (.ireturn, 1) := by decide +kernel
theorem dX9_without_0 : decode cX9_without 0 = .ok (.iload_n 1, 1) := by decide +kernel
theorem dX9_without_1 : decode cX9_without 1 = .ok (.invokestatic 259, 3) := by decide +kernel
theorem dX9_without_4 : decode cX9_without 4 = .ok (.ifCond .eq 11, 3) := by decide +kernel
theorem dX9_without_7 : decode cX9_without 7 = .ok (.aload_n 0, 1) := by decide +kernel
theorem dX9_without_8 : decode cX9_without 8 = .ok (.iload_n 2, 1) := by decide +kernel
theorem dX9_without_9 : decode cX9_without 9 = .ok (.invokevirtual 113, 3) := by decide +kernel
theorem dX9_without_12 : decode cX9_without 12 = .ok (.ifCond .ne 9, 3) := by decide +kernel
theorem dX9_without_15 : decode cX9_without 15 = .ok (.aload_n 0, 1) := by decide +kernel
theorem dX9_without_16 : decode cX9_without 16 = .ok (.iconst 1, 1) := by decide +kernel
theorem dX9_without_17 : decode cX9_without 17 = .ok (.invokevirtual 97, 3) := by decide +kernel
theorem dX9_without_20 : decode cX9_without 20 = .ok (.ireturn, 1) := by decide +kernel
theorem dX9_without_21 : decode cX9_without 21 = .ok (.aload_n 0, 1) := by decide +kernel
theorem dX9_without_22 : decode cX9_without 22 = .ok (.iload_n 2, 1) := by decide +kernel
theorem dX9_without_23 : decode cX9_without 23 = .ok (.invokevirtual 216, 3) := by decide +kernel
theorem dX9_without_26 : decode cX9_without 26 = .ok (.aload_n 0, 1) := by decide +kernel
theorem dX9_without_27 : decode cX9_without 27 = .ok (.iload_n 1, 1) := by decide +kernel
theorem dX9_without_28 : decode cX9_without 28 = .ok (.invokevirtual 262, 3) := by decide +kernel
theorem dX9_without_31 : decode cX9_without 31 = .ok (.aload_n 0, 1) := by decide +kernel
theorem dX9_without_32 : decode cX9_without 32 = .ok (.getfield 256, 3) := by decide +kernel
theorem dX9_without_35 : decode cX9_without 35 = .ok (.ireturn, 1) := by decide +kernel
theorem dX9_note_0 : decode cX9_note 0 = .ok (.iload_n 1, 1) := by decide +kernel
theorem dX9_note_1 : decode cX9_note 1 = .ok (.i2l, 1) := by decide +kernel
theorem dX9_note_2 : decode cX9_note 2 = .ok (.invokestatic 225, 3) := by decide +kernel
theorem dX9_note_5 : decode cX9_note 5 = .ok (.ifCond .ne 9, 3) := by decide +kernel
theorem dX9_note_8 : decode cX9_note 8 = .ok (.aload_n 0, 1) := by decide +kernel
theorem dX9_note_9 : decode cX9_note 9 = .ok (.iconst 1, 1) := by decide +kernel
theorem dX9_note_10 : decode cX9_note 10 = .ok (.invokevirtual 97, 3) := by decide +kernel
theorem dX9_note_13 : decode cX9_note 13 = .ok (.ireturn, 1) := by decide +kernel
theorem dX9_note_14 : decode cX9_note 14 = .ok (.aload_n 0, 1) := by decide +kernel
theorem dX9_note_15 : decode cX9_note 15 = .ok (.getfield 13, 3) := by decide +kernel
theorem dX9_note_18 : decode cX9_note 18 = .ok (.iconst 3, 1) := by decide +kernel
theorem dX9_note_19 : decode cX9_note 19 = .ok (.iaload, 1) := by decide +kernel
theorem dX9_note_20 : decode cX9_note 20 = .ok (.bipush 20, 2) := by decide +kernel
theorem dX9_note_22 : decode cX9_note 22 = .ok (.if_icmp .ne 9, 3) := by decide +kernel
theorem dX9_note_25 : decode cX9_note 25 = .ok (.aload_n 0, 1) := by decide +kernel
theorem dX9_note_26 : decode cX9_note 26 = .ok (.iconst 2, 1) := by decide +kernel
theorem dX9_note_27 : decode cX9_note 27 = .ok (.invokevirtual 97, 3) := by decide +kernel
theorem dX9_note_30 : decode cX9_note 30 = .ok (.ireturn, 1) := by decide +kernel
theorem dX9_note_31 : decode cX9_note 31 = .ok (.aload_n 0, 1) := by decide +kernel
theorem dX9_note_32 : decode cX9_note 32 = .ok (.iconst (-1), 1) := by decide +kernel
theorem dX9_note_33 : decode cX9_note 33 = .ok (.invokevirtual 216, 3) := by decide +kernel
theorem dX9_note_36 : decode cX9_note 36 = .ok (.iconst 3, 1) := by decide +kernel
theorem dX9_note_37 : decode cX9_note 37 = .ok (.aload_n 0, 1) := by decide +kernel
theorem dX9_note_38 : decode cX9_note 38 = .ok (.getfield 13, 3) := by decide +kernel
theorem dX9_note_41 : decode cX9_note 41 = .ok (.iconst 3, 1) := by decide +kernel
theorem dX9_note_42 : decode cX9_note 42 = .ok (.iaload, 1) := by decide +kernel
theorem dX9_note_43 : decode cX9_note 43 = .ok (.imul, 1) := by decide +kernel
theorem dX9_note_44 : decode cX9_note 44 = .ok (.istore_n 2, 1) := by decide +kernel
theorem dX9_note_45 : decode cX9_note 45 = .ok (.aload_n 0, 1) := by decide +kernel
theorem dX9_note_46 : decode cX9_note 46 = .ok (.getfield 34, 3) := by decide +kernel
theorem dX9_note_49 : decode cX9_note 49 = .ok (.iload_n 2, 1) := by decide +kernel
theorem dX9_note_50 : decode cX9_note 50 = .ok (.iload_n 1, 1) := by decide +kernel
theorem dX9_note_51 : decode cX9_note 51 = .ok (.iastore, 1) := by decide +kernel
theorem dX9_note_52 : decode cX9_note 52 = .ok (.aload_n 0, 1) := by decide +kernel
theorem dX9_note_53 : decode cX9_note 53 = .ok (.getfield 34, 3) := by decide +kernel
theorem dX9_note_56 : decode cX9_note 56 = .ok (.iload_n 2, 1) := by decide +kernel
theorem dX9_note_57 : decode cX9_note 57 = .ok (.iconst 1, 1) := by decide +kernel
theorem dX9_note_58 : decode cX9_note 58 = .ok (.iadd, 1) := by decide +kernel
theorem dX9_note_59 : decode cX9_note 59 = .ok (.aload_n 0, 1) := by decide +kernel
theorem dX9_note_60 : decode cX9_note 60 = .ok (.iload_n 1, 1) := by decide +kernel
theorem dX9_note_61 : decode cX9_note 61 = .ok (.invokevirtual 228, 3) := by decide +kernel
theorem dX9_note_64 : decode cX9_note 64 = .ok (.iastore, 1) := by decide +kernel
theorem dX9_note_65 : decode cX9_note 65 = .ok (.aload_n 0, 1) := by decide +kernel
theorem dX9_note_66 : decode cX9_note 66 = .ok (.getfield 34, 3) := by decide +kernel
theorem dX9_note_69 : decode cX9_note 69 = .ok (.iload_n 2, 1) := by decide +kernel
theorem dX9_note_70 : decode cX9_note 70 = .ok (.iconst 2, 1) := by decide +kernel
theorem dX9_note_71 : decode cX9_note 71 = .ok (.iadd, 1) := by decide +kernel
theorem dX9_note_72 : decode cX9_note 72 = .ok (.aload_n 0, 1) := by decide +kernel
theorem dX9_note_73 : decode cX9_note 73 = .ok (.getfield 13, 3) := by decide +kernel
theorem dX9_note_76 : decode cX9_note 76 = .ok (.iconst 4, 1) := by decide +kernel
theorem dX9_note_77 : decode cX9_note 77 = .ok (.iaload, 1) := by decide +kernel
theorem dX9_note_78 : decode cX9_note 78 = .ok (.iastore, 1) := by decide +kernel
theorem dX9_note_79 : decode cX9_note 79 = .ok (.aload_n 0, 1) := by decide +kernel
theorem dX9_note_80 : decode cX9_note 80 = .ok (.getfield 13, 3) := by decide +kernel
theorem dX9_note_83 : decode cX9_note 83 = .ok (.iconst 3, 1) := by decide +kernel
theorem dX9_note_84 : decode cX9_note 84 = .ok (.dup2, 1) := by decide +kernel
theorem dX9_note_85 : decode cX9_note 85 = .ok (.iaload, 1) := by decide +kernel
theorem dX9_note_86 : decode cX9_note 86 = .ok (.iconst 1, 1) := by decide +kernel
theorem dX9_note_87 : decode cX9_note 87 = .ok (.iadd, 1) := by decide +kernel
theorem dX9_note_88 : decode cX9_note 88 = .ok (.iastore, 1) := by decide +kernel
theorem dX9_note_89 : decode cX9_note 89 = .ok (.aload_n 0, 1) := by decide +kernel
theorem dX9_note_90 : decode cX9_note 90 = .ok (.getfield 13, 3) := by decide +kernel
theorem dX9_note_93 : decode cX9_note 93 = .ok (.iconst 3, 1) := by decide +kernel
theorem dX9_note_94 : decode cX9_note 94 = .ok (.iaload, 1) := by decide +kernel
theorem dX9_note_95 : decode cX9_note 95 = .ok (.iconst 1, 1) := by decide +kernel
theorem dX9_note_96 : decode cX9_note 96 = .ok (.isub, 1) := by decide +kernel
theorem dX9_note_97 : decode cX9_note 97 = .ok (.ireturn, 1) := by decide +kernel
theorem dX9_noted_0 : decode cX9_noted 0 = .ok (.iload_n 1, 1) := by decide +kernel
theorem dX9_noted_1 : decode cX9_noted 1 = .ok (.iconst 0, 1) := by decide +kernel
theorem dX9_noted_2 : decode cX9_noted 2 = .ok (.aload_n 0, 1) := by decide +kernel
theorem dX9_noted_3 : decode cX9_noted 3 = .ok (.getfield 13, 3) := by decide +kernel
theorem dX9_noted_6 : decode cX9_noted 6 = .ok (.iconst 3, 1) := by decide +kernel
theorem dX9_noted_7 : decode cX9_noted 7 = .ok (.iaload, 1) := by decide +kernel
theorem dX9_noted_8 : decode cX9_noted 8 = .ok (.iconst 1, 1) := by decide +kernel
theorem dX9_noted_9 : decode cX9_noted 9 = .ok (.isub, 1) := by decide +kernel
theorem dX9_noted_10 : decode cX9_noted 10 = .ok (.invokestatic 79, 3) := by decide +kernel
theorem dX9_noted_13 : decode cX9_noted 13 = .ok (.ifCond .eq 12, 3) := by decide +kernel
theorem dX9_noted_16 : decode cX9_noted 16 = .ok (.iload_n 2, 1) := by decide +kernel
theorem dX9_noted_17 : decode cX9_noted 17 = .ok (.iconst 0, 1) := by decide +kernel
theorem dX9_noted_18 : decode cX9_noted 18 = .ok (.iconst 3, 1) := by decide +kernel
theorem dX9_noted_19 : decode cX9_noted 19 = .ok (.invokestatic 79, 3) := by decide +kernel
theorem dX9_noted_22 : decode cX9_noted 22 = .ok (.ifCond .ne 9, 3) := by decide +kernel
theorem dX9_noted_25 : decode cX9_noted 25 = .ok (.aload_n 0, 1) := by decide +kernel
theorem dX9_noted_26 : decode cX9_noted 26 = .ok (.iconst 1, 1) := by decide +kernel
theorem dX9_noted_27 : decode cX9_noted 27 = .ok (.invokevirtual 97, 3) := by decide +kernel
theorem dX9_noted_30 : decode cX9_noted 30 = .ok (.ireturn, 1) := by decide +kernel
theorem dX9_noted_31 : decode cX9_noted 31 = .ok (.aload_n 0, 1) := by decide +kernel
theorem dX9_noted_32 : decode cX9_noted 32 = .ok (.iconst (-1), 1) := by decide +kernel
theorem dX9_noted_33 : decode cX9_noted 33 = .ok (.invokevirtual 216, 3) := by decide +kernel
theorem dX9_noted_36 : decode cX9_noted 36 = .ok (.iload_n 2, 1) := by decide +kernel
theorem dX9_noted_37 : decode cX9_noted 37 = .ok (.iconst 3, 1) := by decide +kernel
theorem dX9_noted_38 : decode cX9_noted 38 = .ok (.if_icmp .ge 16, 3) := by decide +kernel
theorem dX9_noted_41 : decode cX9_noted 41 = .ok (.aload_n 0, 1) := by decide +kernel
theorem dX9_noted_42 : decode cX9_noted 42 = .ok (.getfield 34, 3) := by decide +kernel
theorem dX9_noted_45 : decode cX9_noted 45 = .ok (.iconst 3, 1) := by decide +kernel
theorem dX9_noted_46 : decode cX9_noted 46 = .ok (.iload_n 1, 1) := by decide +kernel
theorem dX9_noted_47 : decode cX9_noted 47 = .ok (.imul, 1) := by decide +kernel
theorem dX9_noted_48 : decode cX9_noted 48 = .ok (.iload_n 2, 1) := by decide +kernel
theorem dX9_noted_49 : decode cX9_noted 49 = .ok (.iadd, 1) := by decide +kernel
theorem dX9_noted_50 : decode cX9_noted 50 = .ok (.iaload, 1) := by decide +kernel
theorem dX9_noted_51 : decode cX9_noted 51 = .ok (.goto 15, 3) := by decide +kernel
theorem dX9_noted_54 : decode cX9_noted 54 = .ok (.aload_n 0, 1) := by decide +kernel
theorem dX9_noted_55 : decode cX9_noted 55 = .ok (.aload_n 0, 1) := by decide +kernel
theorem dX9_noted_56 : decode cX9_noted 56 = .ok (.getfield 34, 3) := by decide +kernel
theorem dX9_noted_59 : decode cX9_noted 59 = .ok (.iconst 3, 1) := by decide +kernel
theorem dX9_noted_60 : decode cX9_noted 60 = .ok (.iload_n 1, 1) := by decide +kernel
theorem dX9_noted_61 : decode cX9_noted 61 = .ok (.imul, 1) := by decide +kernel
theorem dX9_noted_62 : decode cX9_noted 62 = .ok (.iaload, 1) := by decide +kernel
theorem dX9_noted_63 : decode cX9_noted 63 = .ok (.invokevirtual 228, 3) := by decide +kernel
theorem dX9_noted_66 : decode cX9_noted 66 = .ok (.ireturn, 1) := by decide +kernel
theorem dX9_news_0 : decode cX9_news 0 = .ok (.aload_n 0, 1) := by decide +kernel
theorem dX9_news_1 : decode cX9_news 1 = .ok (.iconst (-1), 1) := by decide +kernel
theorem dX9_news_2 : decode cX9_news 2 = .ok (.invokevirtual 216, 3) := by decide +kernel
theorem dX9_news_5 : decode cX9_news 5 = .ok (.iconst 0, 1) := by decide +kernel
theorem dX9_news_6 : decode cX9_news 6 = .ok (.istore_n 1, 1) := by decide +kernel
theorem dX9_news_7 : decode cX9_news 7 = .ok (.iconst 0, 1) := by decide +kernel
theorem dX9_news_8 : decode cX9_news 8 = .ok (.istore_n 2, 1) := by decide +kernel
theorem dX9_news_9 : decode cX9_news 9 = .ok (.iload_n 2, 1) := by decide +kernel
theorem dX9_news_10 : decode cX9_news 10 = .ok (.aload_n 0, 1) := by decide +kernel
theorem dX9_news_11 : decode cX9_news 11 = .ok (.getfield 13, 3) := by decide +kernel
theorem dX9_news_14 : decode cX9_news 14 = .ok (.iconst 3, 1) := by decide +kernel
theorem dX9_news_15 : decode cX9_news 15 = .ok (.iaload, 1) := by decide +kernel
theorem dX9_news_16 : decode cX9_news 16 = .ok (.if_icmp .ge 44, 3) := by decide +kernel
theorem dX9_news_19 : decode cX9_news 19 = .ok (.iload_n 1, 1) := by decide +kernel
theorem dX9_news_20 : decode cX9_news 20 = .ok (.aload_n 0, 1) := by decide +kernel
theorem dX9_news_21 : decode cX9_news 21 = .ok (.aload_n 0, 1) := by decide +kernel
theorem dX9_news_22 : decode cX9_news 22 = .ok (.getfield 34, 3) := by decide +kernel
theorem dX9_news_25 : decode cX9_news 25 = .ok (.iconst 3, 1) := by decide +kernel
theorem dX9_news_26 : decode cX9_news 26 = .ok (.iload_n 2, 1) := by decide +kernel
theorem dX9_news_27 : decode cX9_news 27 = .ok (.imul, 1) := by decide +kernel
theorem dX9_news_28 : decode cX9_news 28 = .ok (.iaload, 1) := by decide +kernel
theorem dX9_news_29 : decode cX9_news 29 = .ok (.invokevirtual 228, 3) := by decide +kernel
theorem dX9_news_32 : decode cX9_news 32 = .ok (.aload_n 0, 1) := by decide +kernel
theorem dX9_news_33 : decode cX9_news 33 = .ok (.getfield 34, 3) := by decide +kernel
theorem dX9_news_36 : decode cX9_news 36 = .ok (.iconst 3, 1) := by decide +kernel
theorem dX9_news_37 : decode cX9_news 37 = .ok (.iload_n 2, 1) := by decide +kernel
theorem dX9_news_38 : decode cX9_news 38 = .ok (.imul, 1) := by decide +kernel
theorem dX9_news_39 : decode cX9_news 39 = .ok (.iconst 1, 1) := by decide +kernel
theorem dX9_news_40 : decode cX9_news 40 = .ok (.iadd, 1) := by decide +kernel
theorem dX9_news_41 : decode cX9_news 41 = .ok (.iaload, 1) := by decide +kernel
theorem dX9_news_42 : decode cX9_news 42 = .ok (.if_icmp .eq 9, 3) := by decide +kernel
theorem dX9_news_45 : decode cX9_news 45 = .ok (.iconst 1, 1) := by decide +kernel
theorem dX9_news_46 : decode cX9_news 46 = .ok (.iload_n 2, 1) := by decide +kernel
theorem dX9_news_47 : decode cX9_news 47 = .ok (.ishl, 1) := by decide +kernel
theorem dX9_news_48 : decode cX9_news 48 = .ok (.goto 4, 3) := by decide +kernel
theorem dX9_news_51 : decode cX9_news 51 = .ok (.iconst 0, 1) := by decide +kernel
theorem dX9_news_52 : decode cX9_news 52 = .ok (.ior, 1) := by decide +kernel
theorem dX9_news_53 : decode cX9_news 53 = .ok (.istore_n 1, 1) := by decide +kernel
theorem dX9_news_54 : decode cX9_news 54 = .ok (.iinc 2 1, 3) := by decide +kernel
theorem dX9_news_57 : decode cX9_news 57 = .ok (.goto (-48), 3) := by decide +kernel
theorem dX9_news_60 : decode cX9_news 60 = .ok (.iload_n 1, 1) := by decide +kernel
theorem dX9_news_61 : decode cX9_news 61 = .ok (.ireturn, 1) := by decide +kernel
theorem dX9_isSheet_0 : decode cX9_isSheet 0 = .ok (.iload_n 0, 1) := by decide +kernel
theorem dX9_isSheet_1 : decode cX9_isSheet 1 = .ok (.iconst 0, 1) := by decide +kernel
theorem dX9_isSheet_2 : decode cX9_isSheet 2 = .ok (.iconst 3, 1) := by decide +kernel
theorem dX9_isSheet_3 : decode cX9_isSheet 3 = .ok (.invokestatic 79, 3) := by decide +kernel
theorem dX9_isSheet_6 : decode cX9_isSheet 6 = .ok (.ireturn, 1) := by decide +kernel
theorem dX9_sheet_0 : decode cX9_sheet 0 = .ok (.iload_n 1, 1) := by decide +kernel
theorem dX9_sheet_1 : decode cX9_sheet 1 = .ok (.invokestatic 104, 3) := by decide +kernel
theorem dX9_sheet_4 : decode cX9_sheet 4 = .ok (.ifCond .eq 25, 3) := by decide +kernel
theorem dX9_sheet_7 : decode cX9_sheet 7 = .ok (.iload_n 2, 1) := by decide +kernel
theorem dX9_sheet_8 : decode cX9_sheet 8 = .ok (.ifCond .eq 27, 3) := by decide +kernel
theorem dX9_sheet_11 : decode cX9_sheet 11 = .ok (.iload_n 2, 1) := by decide +kernel
theorem dX9_sheet_12 : decode cX9_sheet 12 = .ok (.bipush 8, 2) := by decide +kernel
theorem dX9_sheet_14 : decode cX9_sheet 14 = .ok (.if_icmp .eq 21, 3) := by decide +kernel
theorem dX9_sheet_17 : decode cX9_sheet 17 = .ok (.iload_n 2, 1) := by decide +kernel
theorem dX9_sheet_18 : decode cX9_sheet 18 = .ok (.bipush 16, 2) := by decide +kernel
theorem dX9_sheet_20 : decode cX9_sheet 20 = .ok (.if_icmp .eq 15, 3) := by decide +kernel
theorem dX9_sheet_23 : decode cX9_sheet 23 = .ok (.iload_n 2, 1) := by decide +kernel
theorem dX9_sheet_24 : decode cX9_sheet 24 = .ok (.bipush 64, 2) := by decide +kernel
theorem dX9_sheet_26 : decode cX9_sheet 26 = .ok (.if_icmp .eq 9, 3) := by decide +kernel
theorem dX9_sheet_29 : decode cX9_sheet 29 = .ok (.aload_n 0, 1) := by decide +kernel
theorem dX9_sheet_30 : decode cX9_sheet 30 = .ok (.iconst 1, 1) := by decide +kernel
theorem dX9_sheet_31 : decode cX9_sheet 31 = .ok (.invokevirtual 97, 3) := by decide +kernel
theorem dX9_sheet_34 : decode cX9_sheet 34 = .ok (.ireturn, 1) := by decide +kernel
theorem dX9_sheet_35 : decode cX9_sheet 35 = .ok (.iload_n 3, 1) := by decide +kernel
theorem dX9_sheet_36 : decode cX9_sheet 36 = .ok (.ifCond .ge 10, 3) := by decide +kernel
theorem dX9_sheet_39 : decode cX9_sheet 39 = .ok (.aload_n 0, 1) := by decide +kernel
theorem dX9_sheet_40 : decode cX9_sheet 40 = .ok (.bipush 7, 2) := by decide +kernel
theorem dX9_sheet_42 : decode cX9_sheet 42 = .ok (.invokevirtual 97, 3) := by decide +kernel
theorem dX9_sheet_45 : decode cX9_sheet 45 = .ok (.ireturn, 1) := by decide +kernel
theorem dX9_sheet_46 : decode cX9_sheet 46 = .ok (.iload_n 3, 1) := by decide +kernel
theorem dX9_sheet_47 : decode cX9_sheet 47 = .ok (.bipush 40, 2) := by decide +kernel
theorem dX9_sheet_49 : decode cX9_sheet 49 = .ok (.if_icmp .le 9, 3) := by decide +kernel
theorem dX9_sheet_52 : decode cX9_sheet 52 = .ok (.aload_n 0, 1) := by decide +kernel
theorem dX9_sheet_53 : decode cX9_sheet 53 = .ok (.iconst 1, 1) := by decide +kernel
theorem dX9_sheet_54 : decode cX9_sheet 54 = .ok (.invokevirtual 97, 3) := by decide +kernel
theorem dX9_sheet_57 : decode cX9_sheet 57 = .ok (.ireturn, 1) := by decide +kernel
theorem dX9_sheet_58 : decode cX9_sheet 58 = .ok (.aload_n 0, 1) := by decide +kernel
theorem dX9_sheet_59 : decode cX9_sheet 59 = .ok (.getfield 63, 3) := by decide +kernel
theorem dX9_sheet_62 : decode cX9_sheet 62 = .ok (.iload_n 1, 1) := by decide +kernel
theorem dX9_sheet_63 : decode cX9_sheet 63 = .ok (.iload_n 2, 1) := by decide +kernel
theorem dX9_sheet_64 : decode cX9_sheet 64 = .ok (.iastore, 1) := by decide +kernel
theorem dX9_sheet_65 : decode cX9_sheet 65 = .ok (.aload_n 0, 1) := by decide +kernel
theorem dX9_sheet_66 : decode cX9_sheet 66 = .ok (.getfield 66, 3) := by decide +kernel
theorem dX9_sheet_69 : decode cX9_sheet 69 = .ok (.iload_n 1, 1) := by decide +kernel
theorem dX9_sheet_70 : decode cX9_sheet 70 = .ok (.iload_n 2, 1) := by decide +kernel
theorem dX9_sheet_71 : decode cX9_sheet 71 = .ok (.ifCond .ne 7, 3) := by decide +kernel
theorem dX9_sheet_74 : decode cX9_sheet 74 = .ok (.iconst 0, 1) := by decide +kernel
theorem dX9_sheet_75 : decode cX9_sheet 75 = .ok (.goto 4, 3) := by decide +kernel
theorem dX9_sheet_78 : decode cX9_sheet 78 = .ok (.iload_n 3, 1) := by decide +kernel
theorem dX9_sheet_79 : decode cX9_sheet 79 = .ok (.iastore, 1) := by decide +kernel
theorem dX9_sheet_80 : decode cX9_sheet 80 = .ok (.iconst 0, 1) := by decide +kernel
theorem dX9_sheet_81 : decode cX9_sheet 81 = .ok (.istore 4, 2) := by decide +kernel
theorem dX9_sheet_83 : decode cX9_sheet 83 = .ok (.iload 4, 2) := by decide +kernel
theorem dX9_sheet_85 : decode cX9_sheet 85 = .ok (.bipush 40, 2) := by decide +kernel
theorem dX9_sheet_87 : decode cX9_sheet 87 = .ok (.if_icmp .ge 22, 3) := by decide +kernel
theorem dX9_sheet_90 : decode cX9_sheet 90 = .ok (.aload_n 0, 1) := by decide +kernel
theorem dX9_sheet_91 : decode cX9_sheet 91 = .ok (.getfield 69, 3) := by decide +kernel
theorem dX9_sheet_94 : decode cX9_sheet 94 = .ok (.bipush 40, 2) := by decide +kernel
theorem dX9_sheet_96 : decode cX9_sheet 96 = .ok (.iload_n 1, 1) := by decide +kernel
theorem dX9_sheet_97 : decode cX9_sheet 97 = .ok (.imul, 1) := by decide +kernel
theorem dX9_sheet_98 : decode cX9_sheet 98 = .ok (.iload 4, 2) := by decide +kernel
theorem dX9_sheet_100 : decode cX9_sheet 100 = .ok (.iadd, 1) := by decide +kernel
theorem dX9_sheet_101 : decode cX9_sheet 101 = .ok (.lconst 0, 1) := by decide +kernel
theorem dX9_sheet_102 : decode cX9_sheet 102 = .ok (.lastore, 1) := by decide +kernel
theorem dX9_sheet_103 : decode cX9_sheet 103 = .ok (.iinc 4 1, 3) := by decide +kernel
theorem dX9_sheet_106 : decode cX9_sheet 106 = .ok (.goto (-23), 3) := by decide +kernel
theorem dX9_sheet_109 : decode cX9_sheet 109 = .ok (.aload_n 0, 1) := by decide +kernel
theorem dX9_sheet_110 : decode cX9_sheet 110 = .ok (.getfield 66, 3) := by decide +kernel
theorem dX9_sheet_113 : decode cX9_sheet 113 = .ok (.iload_n 1, 1) := by decide +kernel
theorem dX9_sheet_114 : decode cX9_sheet 114 = .ok (.iaload, 1) := by decide +kernel
theorem dX9_sheet_115 : decode cX9_sheet 115 = .ok (.ireturn, 1) := by decide +kernel
theorem dX9_write_0 : decode cX9_write 0 = .ok (.iload_n 1, 1) := by decide +kernel
theorem dX9_write_1 : decode cX9_write 1 = .ok (.invokestatic 104, 3) := by decide +kernel
theorem dX9_write_4 : decode cX9_write 4 = .ok (.ifCond .ne 10, 3) := by decide +kernel
theorem dX9_write_7 : decode cX9_write 7 = .ok (.aload_n 0, 1) := by decide +kernel
theorem dX9_write_8 : decode cX9_write 8 = .ok (.iconst 1, 1) := by decide +kernel
theorem dX9_write_9 : decode cX9_write 9 = .ok (.invokevirtual 97, 3) := by decide +kernel
theorem dX9_write_12 : decode cX9_write 12 = .ok (.i2l, 1) := by decide +kernel
theorem dX9_write_13 : decode cX9_write 13 = .ok (.lreturn, 1) := by decide +kernel
theorem dX9_write_14 : decode cX9_write 14 = .ok (.aload_n 0, 1) := by decide +kernel
theorem dX9_write_15 : decode cX9_write 15 = .ok (.getfield 63, 3) := by decide +kernel
theorem dX9_write_18 : decode cX9_write 18 = .ok (.iload_n 1, 1) := by decide +kernel
theorem dX9_write_19 : decode cX9_write 19 = .ok (.iaload, 1) := by decide +kernel
theorem dX9_write_20 : decode cX9_write 20 = .ok (.ifCond .ne 11, 3) := by decide +kernel
theorem dX9_write_23 : decode cX9_write 23 = .ok (.aload_n 0, 1) := by decide +kernel
theorem dX9_write_24 : decode cX9_write 24 = .ok (.bipush 6, 2) := by decide +kernel
theorem dX9_write_26 : decode cX9_write 26 = .ok (.invokevirtual 97, 3) := by decide +kernel
theorem dX9_write_29 : decode cX9_write 29 = .ok (.i2l, 1) := by decide +kernel
theorem dX9_write_30 : decode cX9_write 30 = .ok (.lreturn, 1) := by decide +kernel
theorem dX9_write_31 : decode cX9_write 31 = .ok (.iload_n 2, 1) := by decide +kernel
theorem dX9_write_32 : decode cX9_write 32 = .ok (.iconst 0, 1) := by decide +kernel
theorem dX9_write_33 : decode cX9_write 33 = .ok (.aload_n 0, 1) := by decide +kernel
theorem dX9_write_34 : decode cX9_write 34 = .ok (.getfield 66, 3) := by decide +kernel
theorem dX9_write_37 : decode cX9_write 37 = .ok (.iload_n 1, 1) := by decide +kernel
theorem dX9_write_38 : decode cX9_write 38 = .ok (.iaload, 1) := by decide +kernel
theorem dX9_write_39 : decode cX9_write 39 = .ok (.iconst 1, 1) := by decide +kernel
theorem dX9_write_40 : decode cX9_write 40 = .ok (.isub, 1) := by decide +kernel
theorem dX9_write_41 : decode cX9_write 41 = .ok (.invokestatic 79, 3) := by decide +kernel
theorem dX9_write_44 : decode cX9_write 44 = .ok (.ifCond .ne 10, 3) := by decide +kernel
theorem dX9_write_47 : decode cX9_write 47 = .ok (.aload_n 0, 1) := by decide +kernel
theorem dX9_write_48 : decode cX9_write 48 = .ok (.iconst 1, 1) := by decide +kernel
theorem dX9_write_49 : decode cX9_write 49 = .ok (.invokevirtual 97, 3) := by decide +kernel
theorem dX9_write_52 : decode cX9_write 52 = .ok (.i2l, 1) := by decide +kernel
theorem dX9_write_53 : decode cX9_write 53 = .ok (.lreturn, 1) := by decide +kernel
theorem dX9_write_54 : decode cX9_write 54 = .ok (.aload_n 0, 1) := by decide +kernel
theorem dX9_write_55 : decode cX9_write 55 = .ok (.getfield 69, 3) := by decide +kernel
theorem dX9_write_58 : decode cX9_write 58 = .ok (.bipush 40, 2) := by decide +kernel
theorem dX9_write_60 : decode cX9_write 60 = .ok (.iload_n 1, 1) := by decide +kernel
theorem dX9_write_61 : decode cX9_write 61 = .ok (.imul, 1) := by decide +kernel
theorem dX9_write_62 : decode cX9_write 62 = .ok (.iload_n 2, 1) := by decide +kernel
theorem dX9_write_63 : decode cX9_write 63 = .ok (.iadd, 1) := by decide +kernel
theorem dX9_write_64 : decode cX9_write 64 = .ok (.laload, 1) := by decide +kernel
theorem dX9_write_65 : decode cX9_write 65 = .ok (.lstore 5, 2) := by decide +kernel
theorem dX9_write_67 : decode cX9_write 67 = .ok (.aload_n 0, 1) := by decide +kernel
theorem dX9_write_68 : decode cX9_write 68 = .ok (.getfield 69, 3) := by decide +kernel
theorem dX9_write_71 : decode cX9_write 71 = .ok (.bipush 40, 2) := by decide +kernel
theorem dX9_write_73 : decode cX9_write 73 = .ok (.iload_n 1, 1) := by decide +kernel
theorem dX9_write_74 : decode cX9_write 74 = .ok (.imul, 1) := by decide +kernel
theorem dX9_write_75 : decode cX9_write 75 = .ok (.iload_n 2, 1) := by decide +kernel
theorem dX9_write_76 : decode cX9_write 76 = .ok (.iadd, 1) := by decide +kernel
theorem dX9_write_77 : decode cX9_write 77 = .ok (.aload_n 0, 1) := by decide +kernel
theorem dX9_write_78 : decode cX9_write 78 = .ok (.getfield 63, 3) := by decide +kernel
theorem dX9_write_81 : decode cX9_write 81 = .ok (.iload_n 1, 1) := by decide +kernel
theorem dX9_write_82 : decode cX9_write 82 = .ok (.iaload, 1) := by decide +kernel
theorem dX9_write_83 : decode cX9_write 83 = .ok (.bipush 8, 2) := by decide +kernel
theorem dX9_write_85 : decode cX9_write 85 = .ok (.if_icmp .ne 10, 3) := by decide +kernel
theorem dX9_write_88 : decode cX9_write 88 = .ok (.lload_n 3, 1) := by decide +kernel
theorem dX9_write_89 : decode cX9_write 89 = .ok (.l2i, 1) := by decide +kernel
theorem dX9_write_90 : decode cX9_write 90 = .ok (.i2b, 1) := by decide +kernel
theorem dX9_write_91 : decode cX9_write 91 = .ok (.i2l, 1) := by decide +kernel
theorem dX9_write_92 : decode cX9_write 92 = .ok (.goto 22, 3) := by decide +kernel
theorem dX9_write_95 : decode cX9_write 95 = .ok (.aload_n 0, 1) := by decide +kernel
theorem dX9_write_96 : decode cX9_write 96 = .ok (.getfield 63, 3) := by decide +kernel
theorem dX9_write_99 : decode cX9_write 99 = .ok (.iload_n 1, 1) := by decide +kernel
theorem dX9_write_100 : decode cX9_write 100 = .ok (.iaload, 1) := by decide +kernel
theorem dX9_write_101 : decode cX9_write 101 = .ok (.bipush 16, 2) := by decide +kernel
theorem dX9_write_103 : decode cX9_write 103 = .ok (.if_icmp .ne 10, 3) := by decide +kernel
theorem dX9_write_106 : decode cX9_write 106 = .ok (.lload_n 3, 1) := by decide +kernel
theorem dX9_write_107 : decode cX9_write 107 = .ok (.l2i, 1) := by decide +kernel
theorem dX9_write_108 : decode cX9_write 108 = .ok (.i2s, 1) := by decide +kernel
theorem dX9_write_109 : decode cX9_write 109 = .ok (.i2l, 1) := by decide +kernel
theorem dX9_write_110 : decode cX9_write 110 = .ok (.goto 4, 3) := by decide +kernel
theorem dX9_write_113 : decode cX9_write 113 = .ok (.lload_n 3, 1) := by decide +kernel
theorem dX9_write_114 : decode cX9_write 114 = .ok (.lastore, 1) := by decide +kernel
theorem dX9_write_115 : decode cX9_write 115 = .ok (.lload 5, 2) := by decide +kernel
theorem dX9_write_117 : decode cX9_write 117 = .ok (.lreturn, 1) := by decide +kernel
theorem dX9_copy_0 : decode cX9_copy 0 = .ok (.iload_n 1, 1) := by decide +kernel
theorem dX9_copy_1 : decode cX9_copy 1 = .ok (.invokestatic 104, 3) := by decide +kernel
theorem dX9_copy_4 : decode cX9_copy 4 = .ok (.ifCond .eq 10, 3) := by decide +kernel
theorem dX9_copy_7 : decode cX9_copy 7 = .ok (.iload_n 3, 1) := by decide +kernel
theorem dX9_copy_8 : decode cX9_copy 8 = .ok (.invokestatic 104, 3) := by decide +kernel
theorem dX9_copy_11 : decode cX9_copy 11 = .ok (.ifCond .ne 9, 3) := by decide +kernel
theorem dX9_copy_14 : decode cX9_copy 14 = .ok (.aload_n 0, 1) := by decide +kernel
theorem dX9_copy_15 : decode cX9_copy 15 = .ok (.iconst 1, 1) := by decide +kernel
theorem dX9_copy_16 : decode cX9_copy 16 = .ok (.invokevirtual 97, 3) := by decide +kernel
theorem dX9_copy_19 : decode cX9_copy 19 = .ok (.ireturn, 1) := by decide +kernel
theorem dX9_copy_20 : decode cX9_copy 20 = .ok (.aload_n 0, 1) := by decide +kernel
theorem dX9_copy_21 : decode cX9_copy 21 = .ok (.getfield 63, 3) := by decide +kernel
theorem dX9_copy_24 : decode cX9_copy 24 = .ok (.iload_n 1, 1) := by decide +kernel
theorem dX9_copy_25 : decode cX9_copy 25 = .ok (.iaload, 1) := by decide +kernel
theorem dX9_copy_26 : decode cX9_copy 26 = .ok (.ifCond .eq 12, 3) := by decide +kernel
theorem dX9_copy_29 : decode cX9_copy 29 = .ok (.aload_n 0, 1) := by decide +kernel
theorem dX9_copy_30 : decode cX9_copy 30 = .ok (.getfield 63, 3) := by decide +kernel
theorem dX9_copy_33 : decode cX9_copy 33 = .ok (.iload_n 3, 1) := by decide +kernel
theorem dX9_copy_34 : decode cX9_copy 34 = .ok (.iaload, 1) := by decide +kernel
theorem dX9_copy_35 : decode cX9_copy 35 = .ok (.ifCond .ne 10, 3) := by decide +kernel
theorem dX9_copy_38 : decode cX9_copy 38 = .ok (.aload_n 0, 1) := by decide +kernel
theorem dX9_copy_39 : decode cX9_copy 39 = .ok (.bipush 6, 2) := by decide +kernel
theorem dX9_copy_41 : decode cX9_copy 41 = .ok (.invokevirtual 97, 3) := by decide +kernel
theorem dX9_copy_44 : decode cX9_copy 44 = .ok (.ireturn, 1) := by decide +kernel
theorem dX9_copy_45 : decode cX9_copy 45 = .ok (.aload_n 0, 1) := by decide +kernel
theorem dX9_copy_46 : decode cX9_copy 46 = .ok (.getfield 63, 3) := by decide +kernel
theorem dX9_copy_49 : decode cX9_copy 49 = .ok (.iload_n 1, 1) := by decide +kernel
theorem dX9_copy_50 : decode cX9_copy 50 = .ok (.iaload, 1) := by decide +kernel
theorem dX9_copy_51 : decode cX9_copy 51 = .ok (.aload_n 0, 1) := by decide +kernel
theorem dX9_copy_52 : decode cX9_copy 52 = .ok (.getfield 63, 3) := by decide +kernel
theorem dX9_copy_55 : decode cX9_copy 55 = .ok (.iload_n 3, 1) := by decide +kernel
theorem dX9_copy_56 : decode cX9_copy 56 = .ok (.iaload, 1) := by decide +kernel
theorem dX9_copy_57 : decode cX9_copy 57 = .ok (.if_icmp .eq 9, 3) := by decide +kernel
theorem dX9_copy_60 : decode cX9_copy 60 = .ok (.aload_n 0, 1) := by decide +kernel
theorem dX9_copy_61 : decode cX9_copy 61 = .ok (.iconst 3, 1) := by decide +kernel
theorem dX9_copy_62 : decode cX9_copy 62 = .ok (.invokevirtual 97, 3) := by decide +kernel
theorem dX9_copy_65 : decode cX9_copy 65 = .ok (.ireturn, 1) := by decide +kernel
theorem dX9_copy_66 : decode cX9_copy 66 = .ok (.iload_n 2, 1) := by decide +kernel
theorem dX9_copy_67 : decode cX9_copy 67 = .ok (.ifCond .lt 40, 3) := by decide +kernel
theorem dX9_copy_70 : decode cX9_copy 70 = .ok (.iload 4, 2) := by decide +kernel
theorem dX9_copy_72 : decode cX9_copy 72 = .ok (.ifCond .lt 35, 3) := by decide +kernel
theorem dX9_copy_75 : decode cX9_copy 75 = .ok (.iload 5, 2) := by decide +kernel
theorem dX9_copy_77 : decode cX9_copy 77 = .ok (.ifCond .lt 30, 3) := by decide +kernel
theorem dX9_copy_80 : decode cX9_copy 80 = .ok (.iload_n 2, 1) := by decide +kernel
theorem dX9_copy_81 : decode cX9_copy 81 = .ok (.aload_n 0, 1) := by decide +kernel
theorem dX9_copy_82 : decode cX9_copy 82 = .ok (.getfield 66, 3) := by decide +kernel
theorem dX9_copy_85 : decode cX9_copy 85 = .ok (.iload_n 1, 1) := by decide +kernel
theorem dX9_copy_86 : decode cX9_copy 86 = .ok (.iaload, 1) := by decide +kernel
theorem dX9_copy_87 : decode cX9_copy 87 = .ok (.iload 5, 2) := by decide +kernel
theorem dX9_copy_89 : decode cX9_copy 89 = .ok (.isub, 1) := by decide +kernel
theorem dX9_copy_90 : decode cX9_copy 90 = .ok (.if_icmp .gt 17, 3) := by decide +kernel
theorem dX9_copy_93 : decode cX9_copy 93 = .ok (.iload 4, 2) := by decide +kernel
theorem dX9_copy_95 : decode cX9_copy 95 = .ok (.aload_n 0, 1) := by decide +kernel
theorem dX9_copy_96 : decode cX9_copy 96 = .ok (.getfield 66, 3) := by decide +kernel
theorem dX9_copy_99 : decode cX9_copy 99 = .ok (.iload_n 3, 1) := by decide +kernel
theorem dX9_copy_100 : decode cX9_copy 100 = .ok (.iaload, 1) := by decide +kernel
theorem dX9_copy_101 : decode cX9_copy 101 = .ok (.iload 5, 2) := by decide +kernel
theorem dX9_copy_103 : decode cX9_copy 103 = .ok (.isub, 1) := by decide +kernel
theorem dX9_copy_104 : decode cX9_copy 104 = .ok (.if_icmp .le 9, 3) := by decide +kernel
theorem dX9_copy_107 : decode cX9_copy 107 = .ok (.aload_n 0, 1) := by decide +kernel
theorem dX9_copy_108 : decode cX9_copy 108 = .ok (.iconst 1, 1) := by decide +kernel
theorem dX9_copy_109 : decode cX9_copy 109 = .ok (.invokevirtual 97, 3) := by decide +kernel
theorem dX9_copy_112 : decode cX9_copy 112 = .ok (.ireturn, 1) := by decide +kernel
theorem dX9_copy_113 : decode cX9_copy 113 = .ok (.iconst 0, 1) := by decide +kernel
theorem dX9_copy_114 : decode cX9_copy 114 = .ok (.istore 6, 2) := by decide +kernel
theorem dX9_copy_116 : decode cX9_copy 116 = .ok (.iload 6, 2) := by decide +kernel
theorem dX9_copy_118 : decode cX9_copy 118 = .ok (.iload 5, 2) := by decide +kernel
theorem dX9_copy_120 : decode cX9_copy 120 = .ok (.if_icmp .ge 30, 3) := by decide +kernel
theorem dX9_copy_123 : decode cX9_copy 123 = .ok (.aload_n 0, 1) := by decide +kernel
theorem dX9_copy_124 : decode cX9_copy 124 = .ok (.getfield 72, 3) := by decide +kernel
theorem dX9_copy_127 : decode cX9_copy 127 = .ok (.iload 6, 2) := by decide +kernel
theorem dX9_copy_129 : decode cX9_copy 129 = .ok (.aload_n 0, 1) := by decide +kernel
theorem dX9_copy_130 : decode cX9_copy 130 = .ok (.getfield 69, 3) := by decide +kernel
theorem dX9_copy_133 : decode cX9_copy 133 = .ok (.bipush 40, 2) := by decide +kernel
theorem dX9_copy_135 : decode cX9_copy 135 = .ok (.iload_n 1, 1) := by decide +kernel
theorem dX9_copy_136 : decode cX9_copy 136 = .ok (.imul, 1) := by decide +kernel
theorem dX9_copy_137 : decode cX9_copy 137 = .ok (.iload_n 2, 1) := by decide +kernel
theorem dX9_copy_138 : decode cX9_copy 138 = .ok (.iadd, 1) := by decide +kernel
theorem dX9_copy_139 : decode cX9_copy 139 = .ok (.iload 6, 2) := by decide +kernel
theorem dX9_copy_141 : decode cX9_copy 141 = .ok (.iadd, 1) := by decide +kernel
theorem dX9_copy_142 : decode cX9_copy 142 = .ok (.laload, 1) := by decide +kernel
theorem dX9_copy_143 : decode cX9_copy 143 = .ok (.lastore, 1) := by decide +kernel
theorem dX9_copy_144 : decode cX9_copy 144 = .ok (.iinc 6 1, 3) := by decide +kernel
theorem dX9_copy_147 : decode cX9_copy 147 = .ok (.goto (-31), 3) := by decide +kernel
theorem dX9_copy_150 : decode cX9_copy 150 = .ok (.iconst 0, 1) := by decide +kernel
theorem dX9_copy_151 : decode cX9_copy 151 = .ok (.istore 6, 2) := by decide +kernel
theorem dX9_copy_153 : decode cX9_copy 153 = .ok (.iload 6, 2) := by decide +kernel
theorem dX9_copy_155 : decode cX9_copy 155 = .ok (.iload 5, 2) := by decide +kernel
theorem dX9_copy_157 : decode cX9_copy 157 = .ok (.if_icmp .ge 31, 3) := by decide +kernel
theorem dX9_copy_160 : decode cX9_copy 160 = .ok (.aload_n 0, 1) := by decide +kernel
theorem dX9_copy_161 : decode cX9_copy 161 = .ok (.getfield 69, 3) := by decide +kernel
theorem dX9_copy_164 : decode cX9_copy 164 = .ok (.bipush 40, 2) := by decide +kernel
theorem dX9_copy_166 : decode cX9_copy 166 = .ok (.iload_n 3, 1) := by decide +kernel
theorem dX9_copy_167 : decode cX9_copy 167 = .ok (.imul, 1) := by decide +kernel
theorem dX9_copy_168 : decode cX9_copy 168 = .ok (.iload 4, 2) := by decide +kernel
theorem dX9_copy_170 : decode cX9_copy 170 = .ok (.iadd, 1) := by decide +kernel
theorem dX9_copy_171 : decode cX9_copy 171 = .ok (.iload 6, 2) := by decide +kernel
theorem dX9_copy_173 : decode cX9_copy 173 = .ok (.iadd, 1) := by decide +kernel
theorem dX9_copy_174 : decode cX9_copy 174 = .ok (.aload_n 0, 1) := by decide +kernel
theorem dX9_copy_175 : decode cX9_copy 175 = .ok (.getfield 72, 3) := by decide +kernel
theorem dX9_copy_178 : decode cX9_copy 178 = .ok (.iload 6, 2) := by decide +kernel
theorem dX9_copy_180 : decode cX9_copy 180 = .ok (.laload, 1) := by decide +kernel
theorem dX9_copy_181 : decode cX9_copy 181 = .ok (.lastore, 1) := by decide +kernel
theorem dX9_copy_182 : decode cX9_copy 182 = .ok (.iinc 6 1, 3) := by decide +kernel
theorem dX9_copy_185 : decode cX9_copy 185 = .ok (.goto (-32), 3) := by decide +kernel
theorem dX9_copy_188 : decode cX9_copy 188 = .ok (.iload 5, 2) := by decide +kernel
theorem dX9_copy_190 : decode cX9_copy 190 = .ok (.ireturn, 1) := by decide +kernel
theorem dX9_move_0 : decode cX9_move 0 = .ok (.iconst 0, 1) := by decide +kernel
theorem dX9_move_1 : decode cX9_move 1 = .ok (.istore 4, 2) := by decide +kernel
theorem dX9_move_3 : decode cX9_move 3 = .ok (.iload 4, 2) := by decide +kernel
theorem dX9_move_5 : decode cX9_move 5 = .ok (.iload_n 2, 1) := by decide +kernel
theorem dX9_move_6 : decode cX9_move 6 = .ok (.if_icmp .ge 52, 3) := by decide +kernel
theorem dX9_move_9 : decode cX9_move 9 = .ok (.iload_n 3, 1) := by decide +kernel
theorem dX9_move_10 : decode cX9_move 10 = .ok (.ifCond .eq 19, 3) := by decide +kernel
theorem dX9_move_13 : decode cX9_move 13 = .ok (.aload_n 0, 1) := by decide +kernel
theorem dX9_move_14 : decode cX9_move 14 = .ok (.getfield 75, 3) := by decide +kernel
theorem dX9_move_17 : decode cX9_move 17 = .ok (.aload_n 0, 1) := by decide +kernel
theorem dX9_move_18 : decode cX9_move 18 = .ok (.getfield 272, 3) := by decide +kernel
theorem dX9_move_21 : decode cX9_move 21 = .ok (.aload_n 1, 1) := by decide +kernel
theorem dX9_move_22 : decode cX9_move 22 = .ok (.iload 4, 2) := by decide +kernel
theorem dX9_move_24 : decode cX9_move 24 = .ok (.iaload, 1) := by decide +kernel
theorem dX9_move_25 : decode cX9_move 25 = .ok (.iastore, 1) := by decide +kernel
theorem dX9_move_26 : decode cX9_move 26 = .ok (.goto 16, 3) := by decide +kernel
theorem dX9_move_29 : decode cX9_move 29 = .ok (.aload_n 1, 1) := by decide +kernel
theorem dX9_move_30 : decode cX9_move 30 = .ok (.iload 4, 2) := by decide +kernel
theorem dX9_move_32 : decode cX9_move 32 = .ok (.aload_n 0, 1) := by decide +kernel
theorem dX9_move_33 : decode cX9_move 33 = .ok (.getfield 75, 3) := by decide +kernel
theorem dX9_move_36 : decode cX9_move 36 = .ok (.aload_n 0, 1) := by decide +kernel
theorem dX9_move_37 : decode cX9_move 37 = .ok (.getfield 272, 3) := by decide +kernel
theorem dX9_move_40 : decode cX9_move 40 = .ok (.iaload, 1) := by decide +kernel
theorem dX9_move_41 : decode cX9_move 41 = .ok (.iastore, 1) := by decide +kernel
theorem dX9_move_42 : decode cX9_move 42 = .ok (.aload_n 0, 1) := by decide +kernel
theorem dX9_move_43 : decode cX9_move 43 = .ok (.dup, 1) := by decide +kernel
theorem dX9_move_44 : decode cX9_move 44 = .ok (.getfield 272, 3) := by decide +kernel
theorem dX9_move_47 : decode cX9_move 47 = .ok (.iconst 1, 1) := by decide +kernel
theorem dX9_move_48 : decode cX9_move 48 = .ok (.iadd, 1) := by decide +kernel
theorem dX9_move_49 : decode cX9_move 49 = .ok (.putfield 272, 3) := by decide +kernel
theorem dX9_move_52 : decode cX9_move 52 = .ok (.iinc 4 1, 3) := by decide +kernel
theorem dX9_move_55 : decode cX9_move 55 = .ok (.goto (-52), 3) := by decide +kernel
theorem dX9_move_58 : decode cX9_move 58 = .ok (.return_, 1) := by decide +kernel
theorem dX9_moveAll_0 : decode cX9_moveAll 0 = .ok (.aload_n 0, 1) := by decide +kernel
theorem dX9_moveAll_1 : decode cX9_moveAll 1 = .ok (.iconst 0, 1) := by decide +kernel
theorem dX9_moveAll_2 : decode cX9_moveAll 2 = .ok (.putfield 272, 3) := by decide +kernel
theorem dX9_moveAll_5 : decode cX9_moveAll 5 = .ok (.aload_n 0, 1) := by decide +kernel
theorem dX9_moveAll_6 : decode cX9_moveAll 6 = .ok (.aload_n 0, 1) := by decide +kernel
theorem dX9_moveAll_7 : decode cX9_moveAll 7 = .ok (.getfield 13, 3) := by decide +kernel
theorem dX9_moveAll_10 : decode cX9_moveAll 10 = .ok (.iconst 5, 1) := by decide +kernel
theorem dX9_moveAll_11 : decode cX9_moveAll 11 = .ok (.iload_n 1, 1) := by decide +kernel
theorem dX9_moveAll_12 : decode cX9_moveAll 12 = .ok (.invokevirtual 275, 3) := by decide +kernel
theorem dX9_moveAll_15 : decode cX9_moveAll 15 = .ok (.aload_n 0, 1) := by decide +kernel
theorem dX9_moveAll_16 : decode cX9_moveAll 16 = .ok (.aload_n 0, 1) := by decide +kernel
theorem dX9_moveAll_17 : decode cX9_moveAll 17 = .ok (.getfield 16, 3) := by decide +kernel
theorem dX9_moveAll_20 : decode cX9_moveAll 20 = .ok (.sipush 144, 3) := by decide +kernel
theorem dX9_moveAll_23 : decode cX9_moveAll 23 = .ok (.iload_n 1, 1) := by decide +kernel
theorem dX9_moveAll_24 : decode cX9_moveAll 24 = .ok (.invokevirtual 275, 3) := by decide +kernel
theorem dX9_moveAll_27 : decode cX9_moveAll 27 = .ok (.aload_n 0, 1) := by decide +kernel
theorem dX9_moveAll_28 : decode cX9_moveAll 28 = .ok (.aload_n 0, 1) := by decide +kernel
theorem dX9_moveAll_29 : decode cX9_moveAll 29 = .ok (.getfield 19, 3) := by decide +kernel
theorem dX9_moveAll_32 : decode cX9_moveAll 32 = .ok (.bipush 16, 2) := by decide +kernel
theorem dX9_moveAll_34 : decode cX9_moveAll 34 = .ok (.iload_n 1, 1) := by decide +kernel
theorem dX9_moveAll_35 : decode cX9_moveAll 35 = .ok (.invokevirtual 275, 3) := by decide +kernel
theorem dX9_moveAll_38 : decode cX9_moveAll 38 = .ok (.aload_n 0, 1) := by decide +kernel
theorem dX9_moveAll_39 : decode cX9_moveAll 39 = .ok (.aload_n 0, 1) := by decide +kernel
theorem dX9_moveAll_40 : decode cX9_moveAll 40 = .ok (.getfield 22, 3) := by decide +kernel
theorem dX9_moveAll_43 : decode cX9_moveAll 43 = .ok (.bipush 96, 2) := by decide +kernel
theorem dX9_moveAll_45 : decode cX9_moveAll 45 = .ok (.iload_n 1, 1) := by decide +kernel
theorem dX9_moveAll_46 : decode cX9_moveAll 46 = .ok (.invokevirtual 275, 3) := by decide +kernel
theorem dX9_moveAll_49 : decode cX9_moveAll 49 = .ok (.aload_n 0, 1) := by decide +kernel
theorem dX9_moveAll_50 : decode cX9_moveAll 50 = .ok (.aload_n 0, 1) := by decide +kernel
theorem dX9_moveAll_51 : decode cX9_moveAll 51 = .ok (.getfield 25, 3) := by decide +kernel
theorem dX9_moveAll_54 : decode cX9_moveAll 54 = .ok (.sipush 270, 3) := by decide +kernel
theorem dX9_moveAll_57 : decode cX9_moveAll 57 = .ok (.iload_n 1, 1) := by decide +kernel
theorem dX9_moveAll_58 : decode cX9_moveAll 58 = .ok (.invokevirtual 275, 3) := by decide +kernel
theorem dX9_moveAll_61 : decode cX9_moveAll 61 = .ok (.aload_n 0, 1) := by decide +kernel
theorem dX9_moveAll_62 : decode cX9_moveAll 62 = .ok (.aload_n 0, 1) := by decide +kernel
theorem dX9_moveAll_63 : decode cX9_moveAll 63 = .ok (.getfield 28, 3) := by decide +kernel
theorem dX9_moveAll_66 : decode cX9_moveAll 66 = .ok (.bipush 16, 2) := by decide +kernel
theorem dX9_moveAll_68 : decode cX9_moveAll 68 = .ok (.iload_n 1, 1) := by decide +kernel
theorem dX9_moveAll_69 : decode cX9_moveAll 69 = .ok (.invokevirtual 275, 3) := by decide +kernel
theorem dX9_moveAll_72 : decode cX9_moveAll 72 = .ok (.aload_n 0, 1) := by decide +kernel
theorem dX9_moveAll_73 : decode cX9_moveAll 73 = .ok (.aload_n 0, 1) := by decide +kernel
theorem dX9_moveAll_74 : decode cX9_moveAll 74 = .ok (.getfield 31, 3) := by decide +kernel
theorem dX9_moveAll_77 : decode cX9_moveAll 77 = .ok (.sipush 192, 3) := by decide +kernel
theorem dX9_moveAll_80 : decode cX9_moveAll 80 = .ok (.iload_n 1, 1) := by decide +kernel
theorem dX9_moveAll_81 : decode cX9_moveAll 81 = .ok (.invokevirtual 275, 3) := by decide +kernel
theorem dX9_moveAll_84 : decode cX9_moveAll 84 = .ok (.aload_n 0, 1) := by decide +kernel
theorem dX9_moveAll_85 : decode cX9_moveAll 85 = .ok (.aload_n 0, 1) := by decide +kernel
theorem dX9_moveAll_86 : decode cX9_moveAll 86 = .ok (.getfield 34, 3) := by decide +kernel
theorem dX9_moveAll_89 : decode cX9_moveAll 89 = .ok (.bipush 60, 2) := by decide +kernel
theorem dX9_moveAll_91 : decode cX9_moveAll 91 = .ok (.iload_n 1, 1) := by decide +kernel
theorem dX9_moveAll_92 : decode cX9_moveAll 92 = .ok (.invokevirtual 275, 3) := by decide +kernel
theorem dX9_moveAll_95 : decode cX9_moveAll 95 = .ok (.return_, 1) := by decide +kernel
theorem dX9_image_0 : decode cX9_image 0 = .ok (.aload_n 0, 1) := by decide +kernel
theorem dX9_image_1 : decode cX9_image 1 = .ok (.iconst 1, 1) := by decide +kernel
theorem dX9_image_2 : decode cX9_image 2 = .ok (.invokevirtual 279, 3) := by decide +kernel
theorem dX9_image_5 : decode cX9_image 5 = .ok (.aload_n 0, 1) := by decide +kernel
theorem dX9_image_6 : decode cX9_image 6 = .ok (.iconst 1, 1) := by decide +kernel
theorem dX9_image_7 : decode cX9_image 7 = .ok (.putfield 282, 3) := by decide +kernel
theorem dX9_image_10 : decode cX9_image 10 = .ok (.iconst 1, 1) := by decide +kernel
theorem dX9_image_11 : decode cX9_image 11 = .ok (.ireturn, 1) := by decide +kernel
theorem dX9_undo_0 : decode cX9_undo 0 = .ok (.aload_n 0, 1) := by decide +kernel
theorem dX9_undo_1 : decode cX9_undo 1 = .ok (.getfield 282, 3) := by decide +kernel
theorem dX9_undo_4 : decode cX9_undo 4 = .ok (.ifCond .ne 9, 3) := by decide +kernel
theorem dX9_undo_7 : decode cX9_undo 7 = .ok (.aload_n 0, 1) := by decide +kernel
theorem dX9_undo_8 : decode cX9_undo 8 = .ok (.iconst 4, 1) := by decide +kernel
theorem dX9_undo_9 : decode cX9_undo 9 = .ok (.invokevirtual 97, 3) := by decide +kernel
theorem dX9_undo_12 : decode cX9_undo 12 = .ok (.ireturn, 1) := by decide +kernel
theorem dX9_undo_13 : decode cX9_undo 13 = .ok (.aload_n 0, 1) := by decide +kernel
theorem dX9_undo_14 : decode cX9_undo 14 = .ok (.iconst 0, 1) := by decide +kernel
theorem dX9_undo_15 : decode cX9_undo 15 = .ok (.invokevirtual 279, 3) := by decide +kernel
theorem dX9_undo_18 : decode cX9_undo 18 = .ok (.aload_n 0, 1) := by decide +kernel
theorem dX9_undo_19 : decode cX9_undo 19 = .ok (.getfield 13, 3) := by decide +kernel
theorem dX9_undo_22 : decode cX9_undo 22 = .ok (.iconst 4, 1) := by decide +kernel
theorem dX9_undo_23 : decode cX9_undo 23 = .ok (.iaload, 1) := by decide +kernel
theorem dX9_undo_24 : decode cX9_undo 24 = .ok (.ireturn, 1) := by decide +kernel
theorem dX9_tear_0 : decode cX9_tear 0 = .ok (.aload_n 0, 1) := by decide +kernel
theorem dX9_tear_1 : decode cX9_tear 1 = .ok (.getfield 282, 3) := by decide +kernel
theorem dX9_tear_4 : decode cX9_tear 4 = .ok (.ifCond .eq 7, 3) := by decide +kernel
theorem dX9_tear_7 : decode cX9_tear 7 = .ok (.iconst 1, 1) := by decide +kernel
theorem dX9_tear_8 : decode cX9_tear 8 = .ok (.goto 4, 3) := by decide +kernel
theorem dX9_tear_11 : decode cX9_tear 11 = .ok (.iconst 0, 1) := by decide +kernel
theorem dX9_tear_12 : decode cX9_tear 12 = .ok (.istore_n 1, 1) := by decide +kernel
theorem dX9_tear_13 : decode cX9_tear 13 = .ok (.aload_n 0, 1) := by decide +kernel
theorem dX9_tear_14 : decode cX9_tear 14 = .ok (.iconst 0, 1) := by decide +kernel
theorem dX9_tear_15 : decode cX9_tear 15 = .ok (.putfield 282, 3) := by decide +kernel
theorem dX9_tear_18 : decode cX9_tear 18 = .ok (.iload_n 1, 1) := by decide +kernel
theorem dX9_tear_19 : decode cX9_tear 19 = .ok (.ireturn, 1) := by decide +kernel
theorem dX9_look_0 : decode cX9_look 0 = .ok (.iload_n 1, 1) := by decide +kernel
theorem dX9_look_1 : decode cX9_look 1 = .ok (.iconst 0, 1) := by decide +kernel
theorem dX9_look_2 : decode cX9_look 2 = .ok (.bipush 7, 2) := by decide +kernel
theorem dX9_look_4 : decode cX9_look 4 = .ok (.invokestatic 79, 3) := by decide +kernel
theorem dX9_look_7 : decode cX9_look 7 = .ok (.ifCond .ne 9, 3) := by decide +kernel
theorem dX9_look_10 : decode cX9_look 10 = .ok (.aload_n 0, 1) := by decide +kernel
theorem dX9_look_11 : decode cX9_look 11 = .ok (.iconst 1, 1) := by decide +kernel
theorem dX9_look_12 : decode cX9_look 12 = .ok (.invokevirtual 97, 3) := by decide +kernel
theorem dX9_look_15 : decode cX9_look 15 = .ok (.ireturn, 1) := by decide +kernel
theorem dX9_look_16 : decode cX9_look 16 = .ok (.aload_n 0, 1) := by decide +kernel
theorem dX9_look_17 : decode cX9_look 17 = .ok (.iconst (-1), 1) := by decide +kernel
theorem dX9_look_18 : decode cX9_look 18 = .ok (.invokevirtual 109, 3) := by decide +kernel
theorem dX9_look_21 : decode cX9_look 21 = .ok (.iconst 0, 1) := by decide +kernel
theorem dX9_look_22 : decode cX9_look 22 = .ok (.istore_n 2, 1) := by decide +kernel
theorem dX9_look_23 : decode cX9_look 23 = .ok (.iconst 0, 1) := by decide +kernel
theorem dX9_look_24 : decode cX9_look 24 = .ok (.istore_n 3, 1) := by decide +kernel
theorem dX9_look_25 : decode cX9_look 25 = .ok (.iload_n 3, 1) := by decide +kernel
theorem dX9_look_26 : decode cX9_look 26 = .ok (.aload_n 0, 1) := by decide +kernel
theorem dX9_look_27 : decode cX9_look 27 = .ok (.getfield 13, 3) := by decide +kernel
theorem dX9_look_30 : decode cX9_look 30 = .ok (.iconst 1, 1) := by decide +kernel
theorem dX9_look_31 : decode cX9_look 31 = .ok (.iaload, 1) := by decide +kernel
theorem dX9_look_32 : decode cX9_look 32 = .ok (.if_icmp .ge 47, 3) := by decide +kernel
theorem dX9_look_35 : decode cX9_look 35 = .ok (.iload_n 2, 1) := by decide +kernel
theorem dX9_look_36 : decode cX9_look 36 = .ok (.iload_n 1, 1) := by decide +kernel
theorem dX9_look_37 : decode cX9_look 37 = .ok (.iconst 2, 1) := by decide +kernel
theorem dX9_look_38 : decode cX9_look 38 = .ok (.if_icmp .ne 12, 3) := by decide +kernel
theorem dX9_look_41 : decode cX9_look 41 = .ok (.aload_n 0, 1) := by decide +kernel
theorem dX9_look_42 : decode cX9_look 42 = .ok (.getfield 37, 3) := by decide +kernel
theorem dX9_look_45 : decode cX9_look 45 = .ok (.iload_n 3, 1) := by decide +kernel
theorem dX9_look_46 : decode cX9_look 46 = .ok (.baload, 1) := by decide +kernel
theorem dX9_look_47 : decode cX9_look 47 = .ok (.ifCond .ne 19, 3) := by decide +kernel
theorem dX9_look_50 : decode cX9_look 50 = .ok (.iload_n 1, 1) := by decide +kernel
theorem dX9_look_51 : decode cX9_look 51 = .ok (.iconst 3, 1) := by decide +kernel
theorem dX9_look_52 : decode cX9_look 52 = .ok (.if_icmp .ne 18, 3) := by decide +kernel
theorem dX9_look_55 : decode cX9_look 55 = .ok (.aload_n 0, 1) := by decide +kernel
theorem dX9_look_56 : decode cX9_look 56 = .ok (.iload_n 3, 1) := by decide +kernel
theorem dX9_look_57 : decode cX9_look 57 = .ok (.bipush 6, 2) := by decide +kernel
theorem dX9_look_59 : decode cX9_look 59 = .ok (.invokevirtual 120, 3) := by decide +kernel
theorem dX9_look_62 : decode cX9_look 62 = .ok (.iconst 1, 1) := by decide +kernel
theorem dX9_look_63 : decode cX9_look 63 = .ok (.if_icmp .ne 7, 3) := by decide +kernel
theorem dX9_look_66 : decode cX9_look 66 = .ok (.iconst 1, 1) := by decide +kernel
theorem dX9_look_67 : decode cX9_look 67 = .ok (.goto 4, 3) := by decide +kernel
theorem dX9_look_70 : decode cX9_look 70 = .ok (.iconst 0, 1) := by decide +kernel
theorem dX9_look_71 : decode cX9_look 71 = .ok (.iadd, 1) := by decide +kernel
theorem dX9_look_72 : decode cX9_look 72 = .ok (.istore_n 2, 1) := by decide +kernel
theorem dX9_look_73 : decode cX9_look 73 = .ok (.iinc 3 1, 3) := by decide +kernel
theorem dX9_look_76 : decode cX9_look 76 = .ok (.goto (-51), 3) := by decide +kernel
theorem dX9_look_79 : decode cX9_look 79 = .ok (.iload_n 1, 1) := by decide +kernel
theorem dX9_look_80 : decode cX9_look 80 = .ok (.ifCond .ne 12, 3) := by decide +kernel
theorem dX9_look_83 : decode cX9_look 83 = .ok (.aload_n 0, 1) := by decide +kernel
theorem dX9_look_84 : decode cX9_look 84 = .ok (.getfield 13, 3) := by decide +kernel
theorem dX9_look_87 : decode cX9_look 87 = .ok (.iconst 0, 1) := by decide +kernel
theorem dX9_look_88 : decode cX9_look 88 = .ok (.iaload, 1) := by decide +kernel
theorem dX9_look_89 : decode cX9_look 89 = .ok (.goto 73, 3) := by decide +kernel
theorem dX9_look_92 : decode cX9_look 92 = .ok (.iload_n 1, 1) := by decide +kernel
theorem dX9_look_93 : decode cX9_look 93 = .ok (.iconst 1, 1) := by decide +kernel
theorem dX9_look_94 : decode cX9_look 94 = .ok (.if_icmp .ne 12, 3) := by decide +kernel
theorem dX9_look_97 : decode cX9_look 97 = .ok (.aload_n 0, 1) := by decide +kernel
theorem dX9_look_98 : decode cX9_look 98 = .ok (.getfield 13, 3) := by decide +kernel
theorem dX9_look_101 : decode cX9_look 101 = .ok (.iconst 1, 1) := by decide +kernel
theorem dX9_look_102 : decode cX9_look 102 = .ok (.iaload, 1) := by decide +kernel
theorem dX9_look_103 : decode cX9_look 103 = .ok (.goto 59, 3) := by decide +kernel
theorem dX9_look_106 : decode cX9_look 106 = .ok (.iload_n 1, 1) := by decide +kernel
theorem dX9_look_107 : decode cX9_look 107 = .ok (.iconst 4, 1) := by decide +kernel
theorem dX9_look_108 : decode cX9_look 108 = .ok (.if_icmp .ge 7, 3) := by decide +kernel
theorem dX9_look_111 : decode cX9_look 111 = .ok (.iload_n 2, 1) := by decide +kernel
theorem dX9_look_112 : decode cX9_look 112 = .ok (.goto 50, 3) := by decide +kernel
theorem dX9_look_115 : decode cX9_look 115 = .ok (.iload_n 1, 1) := by decide +kernel
theorem dX9_look_116 : decode cX9_look 116 = .ok (.iconst 4, 1) := by decide +kernel
theorem dX9_look_117 : decode cX9_look 117 = .ok (.if_icmp .ne 12, 3) := by decide +kernel
theorem dX9_look_120 : decode cX9_look 120 = .ok (.aload_n 0, 1) := by decide +kernel
theorem dX9_look_121 : decode cX9_look 121 = .ok (.getfield 13, 3) := by decide +kernel
theorem dX9_look_124 : decode cX9_look 124 = .ok (.iconst 2, 1) := by decide +kernel
theorem dX9_look_125 : decode cX9_look 125 = .ok (.iaload, 1) := by decide +kernel
theorem dX9_look_126 : decode cX9_look 126 = .ok (.goto 36, 3) := by decide +kernel
theorem dX9_look_129 : decode cX9_look 129 = .ok (.iload_n 1, 1) := by decide +kernel
theorem dX9_look_130 : decode cX9_look 130 = .ok (.iconst 5, 1) := by decide +kernel
theorem dX9_look_131 : decode cX9_look 131 = .ok (.if_icmp .ne 12, 3) := by decide +kernel
theorem dX9_look_134 : decode cX9_look 134 = .ok (.aload_n 0, 1) := by decide +kernel
theorem dX9_look_135 : decode cX9_look 135 = .ok (.getfield 13, 3) := by decide +kernel
theorem dX9_look_138 : decode cX9_look 138 = .ok (.iconst 3, 1) := by decide +kernel
theorem dX9_look_139 : decode cX9_look 139 = .ok (.iaload, 1) := by decide +kernel
theorem dX9_look_140 : decode cX9_look 140 = .ok (.goto 22, 3) := by decide +kernel
theorem dX9_look_143 : decode cX9_look 143 = .ok (.iload_n 1, 1) := by decide +kernel
theorem dX9_look_144 : decode cX9_look 144 = .ok (.bipush 6, 2) := by decide +kernel
theorem dX9_look_146 : decode cX9_look 146 = .ok (.if_icmp .ne 12, 3) := by decide +kernel
theorem dX9_look_149 : decode cX9_look 149 = .ok (.aload_n 0, 1) := by decide +kernel
theorem dX9_look_150 : decode cX9_look 150 = .ok (.getfield 13, 3) := by decide +kernel
theorem dX9_look_153 : decode cX9_look 153 = .ok (.iconst 4, 1) := by decide +kernel
theorem dX9_look_154 : decode cX9_look 154 = .ok (.iaload, 1) := by decide +kernel
theorem dX9_look_155 : decode cX9_look 155 = .ok (.goto 7, 3) := by decide +kernel
theorem dX9_look_158 : decode cX9_look 158 = .ok (.aload_n 0, 1) := by decide +kernel
theorem dX9_look_159 : decode cX9_look 159 = .ok (.getfield 149, 3) := by decide +kernel
theorem dX9_look_162 : decode cX9_look 162 = .ok (.ireturn, 1) := by decide +kernel
theorem dX9_status_0 : decode cX9_status 0 = .ok (.iload_n 1, 1) := by decide +kernel
theorem dX9_status_1 : decode cX9_status 1 = .ok (.iconst (-1), 1) := by decide +kernel
theorem dX9_status_2 : decode cX9_status 2 = .ok (.bipush 6, 2) := by decide +kernel
theorem dX9_status_4 : decode cX9_status 4 = .ok (.invokestatic 79, 3) := by decide +kernel
theorem dX9_status_7 : decode cX9_status 7 = .ok (.ifCond .ne 9, 3) := by decide +kernel
theorem dX9_status_10 : decode cX9_status 10 = .ok (.aload_n 0, 1) := by decide +kernel
theorem dX9_status_11 : decode cX9_status 11 = .ok (.iconst 1, 1) := by decide +kernel
theorem dX9_status_12 : decode cX9_status 12 = .ok (.invokevirtual 97, 3) := by decide +kernel
theorem dX9_status_15 : decode cX9_status 15 = .ok (.ireturn, 1) := by decide +kernel
theorem dX9_status_16 : decode cX9_status 16 = .ok (.iconst 0, 1) := by decide +kernel
theorem dX9_status_17 : decode cX9_status 17 = .ok (.istore_n 2, 1) := by decide +kernel
theorem dX9_status_18 : decode cX9_status 18 = .ok (.iconst 1, 1) := by decide +kernel
theorem dX9_status_19 : decode cX9_status 19 = .ok (.istore_n 3, 1) := by decide +kernel
theorem dX9_status_20 : decode cX9_status 20 = .ok (.iload_n 3, 1) := by decide +kernel
theorem dX9_status_21 : decode cX9_status 21 = .ok (.bipush 8, 2) := by decide +kernel
theorem dX9_status_23 : decode cX9_status 23 = .ok (.if_icmp .ge 34, 3) := by decide +kernel
theorem dX9_status_26 : decode cX9_status 26 = .ok (.iload_n 2, 1) := by decide +kernel
theorem dX9_status_27 : decode cX9_status 27 = .ok (.iload_n 1, 1) := by decide +kernel
theorem dX9_status_28 : decode cX9_status 28 = .ok (.iconst (-1), 1) := by decide +kernel
theorem dX9_status_29 : decode cX9_status 29 = .ok (.if_icmp .eq 10, 3) := by decide +kernel
theorem dX9_status_32 : decode cX9_status 32 = .ok (.iload_n 1, 1) := by decide +kernel
theorem dX9_status_33 : decode cX9_status 33 = .ok (.iload_n 3, 1) := by decide +kernel
theorem dX9_status_34 : decode cX9_status 34 = .ok (.iconst 1, 1) := by decide +kernel
theorem dX9_status_35 : decode cX9_status 35 = .ok (.isub, 1) := by decide +kernel
theorem dX9_status_36 : decode cX9_status 36 = .ok (.if_icmp .ne 12, 3) := by decide +kernel
theorem dX9_status_39 : decode cX9_status 39 = .ok (.aload_n 0, 1) := by decide +kernel
theorem dX9_status_40 : decode cX9_status 40 = .ok (.getfield 7, 3) := by decide +kernel
theorem dX9_status_43 : decode cX9_status 43 = .ok (.iload_n 3, 1) := by decide +kernel
theorem dX9_status_44 : decode cX9_status 44 = .ok (.iaload, 1) := by decide +kernel
theorem dX9_status_45 : decode cX9_status 45 = .ok (.goto 4, 3) := by decide +kernel
theorem dX9_status_48 : decode cX9_status 48 = .ok (.iconst 0, 1) := by decide +kernel
theorem dX9_status_49 : decode cX9_status 49 = .ok (.iadd, 1) := by decide +kernel
theorem dX9_status_50 : decode cX9_status 50 = .ok (.istore_n 2, 1) := by decide +kernel
theorem dX9_status_51 : decode cX9_status 51 = .ok (.iinc 3 1, 3) := by decide +kernel
theorem dX9_status_54 : decode cX9_status 54 = .ok (.goto (-34), 3) := by decide +kernel
theorem dX9_status_57 : decode cX9_status 57 = .ok (.iload_n 2, 1) := by decide +kernel
theorem dX9_status_58 : decode cX9_status 58 = .ok (.ireturn, 1) := by decide +kernel
theorem dJ6_bitCount_0f7a4_0 : decode cJ6_bitCount_0f7a4 0 = .ok (.iload_n 0, 1) := by decide +kernel
theorem dJ6_bitCount_0f7a4_1 : decode cJ6_bitCount_0f7a4 1 = .ok (.iload_n 0, 1) := by decide +kernel
theorem dJ6_bitCount_0f7a4_2 : decode cJ6_bitCount_0f7a4 2 = .ok (.iconst 1, 1) := by decide +kernel
theorem dJ6_bitCount_0f7a4_3 : decode cJ6_bitCount_0f7a4 3 = .ok (.iushr, 1) := by decide +kernel
theorem dJ6_bitCount_0f7a4_4 : decode cJ6_bitCount_0f7a4 4 = .ok (.ldc_w 265, 3) := by decide +kernel
theorem dJ6_bitCount_0f7a4_7 : decode cJ6_bitCount_0f7a4 7 = .ok (.iand, 1) := by decide +kernel
theorem dJ6_bitCount_0f7a4_8 : decode cJ6_bitCount_0f7a4 8 = .ok (.isub, 1) := by decide +kernel
theorem dJ6_bitCount_0f7a4_9 : decode cJ6_bitCount_0f7a4 9 = .ok (.istore_n 0, 1) := by decide +kernel
theorem dJ6_bitCount_0f7a4_10 : decode cJ6_bitCount_0f7a4 10 = .ok (.iload_n 0, 1) := by decide +kernel
theorem dJ6_bitCount_0f7a4_11 : decode cJ6_bitCount_0f7a4 11 = .ok (.ldc_w 266, 3) := by decide +kernel
theorem dJ6_bitCount_0f7a4_14 : decode cJ6_bitCount_0f7a4 14 = .ok (.iand, 1) := by decide +kernel
theorem dJ6_bitCount_0f7a4_15 : decode cJ6_bitCount_0f7a4 15 = .ok (.iload_n 0, 1) := by decide +kernel
theorem dJ6_bitCount_0f7a4_16 : decode cJ6_bitCount_0f7a4 16 = .ok (.iconst 2, 1) := by decide +kernel
theorem dJ6_bitCount_0f7a4_17 : decode cJ6_bitCount_0f7a4 17 = .ok (.iushr, 1) := by decide +kernel
theorem dJ6_bitCount_0f7a4_18 : decode cJ6_bitCount_0f7a4 18 = .ok (.ldc_w 266, 3) := by decide +kernel
theorem dJ6_bitCount_0f7a4_21 : decode cJ6_bitCount_0f7a4 21 = .ok (.iand, 1) := by decide +kernel
theorem dJ6_bitCount_0f7a4_22 : decode cJ6_bitCount_0f7a4 22 = .ok (.iadd, 1) := by decide +kernel
theorem dJ6_bitCount_0f7a4_23 : decode cJ6_bitCount_0f7a4 23 = .ok (.istore_n 0, 1) := by decide +kernel
theorem dJ6_bitCount_0f7a4_24 : decode cJ6_bitCount_0f7a4 24 = .ok (.iload_n 0, 1) := by decide +kernel
theorem dJ6_bitCount_0f7a4_25 : decode cJ6_bitCount_0f7a4 25 = .ok (.iload_n 0, 1) := by decide +kernel
theorem dJ6_bitCount_0f7a4_26 : decode cJ6_bitCount_0f7a4 26 = .ok (.iconst 4, 1) := by decide +kernel
theorem dJ6_bitCount_0f7a4_27 : decode cJ6_bitCount_0f7a4 27 = .ok (.iushr, 1) := by decide +kernel
theorem dJ6_bitCount_0f7a4_28 : decode cJ6_bitCount_0f7a4 28 = .ok (.iadd, 1) := by decide +kernel
theorem dJ6_bitCount_0f7a4_29 : decode cJ6_bitCount_0f7a4 29 = .ok (.ldc_w 267, 3) := by decide +kernel
theorem dJ6_bitCount_0f7a4_32 : decode cJ6_bitCount_0f7a4 32 = .ok (.iand, 1) := by decide +kernel
theorem dJ6_bitCount_0f7a4_33 : decode cJ6_bitCount_0f7a4 33 = .ok (.istore_n 0, 1) := by decide +kernel
theorem dJ6_bitCount_0f7a4_34 : decode cJ6_bitCount_0f7a4 34 = .ok (.iload_n 0, 1) := by decide +kernel
theorem dJ6_bitCount_0f7a4_35 : decode cJ6_bitCount_0f7a4 35 = .ok (.iload_n 0, 1) := by decide +kernel
theorem dJ6_bitCount_0f7a4_36 : decode cJ6_bitCount_0f7a4 36 = .ok (.bipush 8, 2) := by decide +kernel
theorem dJ6_bitCount_0f7a4_38 : decode cJ6_bitCount_0f7a4 38 = .ok (.iushr, 1) := by decide +kernel
theorem dJ6_bitCount_0f7a4_39 : decode cJ6_bitCount_0f7a4 39 = .ok (.iadd, 1) := by decide +kernel
theorem dJ6_bitCount_0f7a4_40 : decode cJ6_bitCount_0f7a4 40 = .ok (.istore_n 0, 1) := by decide +kernel
theorem dJ6_bitCount_0f7a4_41 : decode cJ6_bitCount_0f7a4 41 = .ok (.iload_n 0, 1) := by decide +kernel
theorem dJ6_bitCount_0f7a4_42 : decode cJ6_bitCount_0f7a4 42 = .ok (.iload_n 0, 1) := by decide +kernel
theorem dJ6_bitCount_0f7a4_43 : decode cJ6_bitCount_0f7a4 43 = .ok (.bipush 16, 2) := by decide +kernel
theorem dJ6_bitCount_0f7a4_45 : decode cJ6_bitCount_0f7a4 45 = .ok (.iushr, 1) := by decide +kernel
theorem dJ6_bitCount_0f7a4_46 : decode cJ6_bitCount_0f7a4 46 = .ok (.iadd, 1) := by decide +kernel
theorem dJ6_bitCount_0f7a4_47 : decode cJ6_bitCount_0f7a4 47 = .ok (.istore_n 0, 1) := by decide +kernel
theorem dJ6_bitCount_0f7a4_48 : decode cJ6_bitCount_0f7a4 48 = .ok (.iload_n 0, 1) := by decide +kernel
theorem dJ6_bitCount_0f7a4_49 : decode cJ6_bitCount_0f7a4 49 = .ok (.bipush 63, 2) := by decide +kernel
theorem dJ6_bitCount_0f7a4_51 : decode cJ6_bitCount_0f7a4 51 = .ok (.iand, 1) := by decide +kernel
theorem dJ6_bitCount_0f7a4_52 : decode cJ6_bitCount_0f7a4 52 = .ok (.ireturn, 1) := by decide +kernel
theorem dJ0_length_8abf5_0 : decode cJ0_length_8abf5 0 = .ok (.aload_n 0, 1) := by decide +kernel
theorem dJ0_length_8abf5_1 : decode cJ0_length_8abf5 1 = .ok (.getfield 9, 3) := by decide +kernel
theorem dJ0_length_8abf5_4 : decode cJ0_length_8abf5 4 = .ok (.arraylength, 1) := by decide +kernel
theorem dJ0_length_8abf5_5 : decode cJ0_length_8abf5 5 = .ok (.aload_n 0, 1) := by decide +kernel
theorem dJ0_length_8abf5_6 : decode cJ0_length_8abf5 6 = .ok (.invokevirtual 335, 3) := by decide +kernel
theorem dJ0_length_8abf5_9 : decode cJ0_length_8abf5 9 = .ok (.ishr, 1) := by decide +kernel
theorem dJ0_length_8abf5_10 : decode cJ0_length_8abf5 10 = .ok (.ireturn, 1) := by decide +kernel
theorem dJ0_charAt_5068e_0 : decode cJ0_charAt_5068e 0 = .ok (.aload_n 0, 1) := by decide +kernel
theorem dJ0_charAt_5068e_1 : decode cJ0_charAt_5068e 1 = .ok (.invokevirtual 492, 3) := by decide +kernel
theorem dJ0_charAt_5068e_4 : decode cJ0_charAt_5068e 4 = .ok (.ifCond .eq 12, 3) := by decide +kernel
theorem dJ0_charAt_5068e_7 : decode cJ0_charAt_5068e 7 = .ok (.aload_n 0, 1) := by decide +kernel
theorem dJ0_charAt_5068e_8 : decode cJ0_charAt_5068e 8 = .ok (.getfield 9, 3) := by decide +kernel
theorem dJ0_charAt_5068e_11 : decode cJ0_charAt_5068e 11 = .ok (.iload_n 1, 1) := by decide +kernel
theorem dJ0_charAt_5068e_12 : decode cJ0_charAt_5068e 12 = .ok (.invokestatic 495, 3) := by decide +kernel
theorem dJ0_charAt_5068e_15 : decode cJ0_charAt_5068e 15 = .ok (.ireturn, 1) := by decide +kernel
theorem dJ0_charAt_5068e_16 : decode cJ0_charAt_5068e 16 = .ok (.aload_n 0, 1) := by decide +kernel
theorem dJ0_charAt_5068e_17 : decode cJ0_charAt_5068e 17 = .ok (.getfield 9, 3) := by decide +kernel
theorem dJ0_charAt_5068e_20 : decode cJ0_charAt_5068e 20 = .ok (.iload_n 1, 1) := by decide +kernel
theorem dJ0_charAt_5068e_21 : decode cJ0_charAt_5068e 21 = .ok (.invokestatic 498, 3) := by decide +kernel
theorem dJ0_charAt_5068e_24 : decode cJ0_charAt_5068e 24 = .ok (.ireturn, 1) := by decide +kernel
theorem dJ0_coder_7d493_0 : decode cJ0_coder_7d493 0 = .ok (.getstatic 38, 3) := by decide +kernel
theorem dJ0_coder_7d493_3 : decode cJ0_coder_7d493 3 = .ok (.ifCond .eq 10, 3) := by decide +kernel
theorem dJ0_coder_7d493_6 : decode cJ0_coder_7d493 6 = .ok (.aload_n 0, 1) := by decide +kernel
theorem dJ0_coder_7d493_7 : decode cJ0_coder_7d493 7 = .ok (.getfield 15, 3) := by decide +kernel
theorem dJ0_coder_7d493_10 : decode cJ0_coder_7d493 10 = .ok (.goto 4, 3) := by decide +kernel
theorem dJ0_coder_7d493_13 : decode cJ0_coder_7d493 13 = .ok (.iconst 1, 1) := by decide +kernel
theorem dJ0_coder_7d493_14 : decode cJ0_coder_7d493 14 = .ok (.ireturn, 1) := by decide +kernel
theorem dJ0_isLatin1_aae02_0 : decode cJ0_isLatin1_aae02 0 = .ok (.getstatic 38, 3) := by decide +kernel
theorem dJ0_isLatin1_aae02_3 : decode cJ0_isLatin1_aae02 3 = .ok (.ifCond .eq 14, 3) := by decide +kernel
theorem dJ0_isLatin1_aae02_6 : decode cJ0_isLatin1_aae02 6 = .ok (.aload_n 0, 1) := by decide +kernel
theorem dJ0_isLatin1_aae02_7 : decode cJ0_isLatin1_aae02 7 = .ok (.getfield 15, 3) := by decide +kernel
theorem dJ0_isLatin1_aae02_10 : decode cJ0_isLatin1_aae02 10 = .ok (.ifCond .ne 7, 3) := by decide +kernel
theorem dJ0_isLatin1_aae02_13 : decode cJ0_isLatin1_aae02 13 = .ok (.iconst 1, 1) := by decide +kernel
theorem dJ0_isLatin1_aae02_14 : decode cJ0_isLatin1_aae02 14 = .ok (.goto 4, 3) := by decide +kernel
theorem dJ0_isLatin1_aae02_17 : decode cJ0_isLatin1_aae02 17 = .ok (.iconst 0, 1) := by decide +kernel
theorem dJ0_isLatin1_aae02_18 : decode cJ0_isLatin1_aae02 18 = .ok (.ireturn, 1) := by decide +kernel
theorem dJ0_checkIndex_df160_0 : decode cJ0_checkIndex_df160 0 = .ok (.iload_n 0, 1) := by decide +kernel
theorem dJ0_checkIndex_df160_1 : decode cJ0_checkIndex_df160 1 = .ok (.iload_n 1, 1) := by decide +kernel
theorem dJ0_checkIndex_df160_2 : decode cJ0_checkIndex_df160 2 = .ok (.getstatic 1053, 3) := by decide +kernel
theorem dJ0_checkIndex_df160_5 : decode cJ0_checkIndex_df160 5 = .ok (.invokestatic 1059, 3) := by decide +kernel
theorem dJ0_checkIndex_df160_8 : decode cJ0_checkIndex_df160 8 = .ok (.pop, 1) := by decide +kernel
theorem dJ0_checkIndex_df160_9 : decode cJ0_checkIndex_df160 9 = .ok (.return_, 1) := by decide +kernel
theorem dJ1_charAt_3b067_0 : decode cJ1_charAt_3b067 0 = .ok (.iload_n 1, 1) := by decide +kernel
theorem dJ1_charAt_3b067_1 : decode cJ1_charAt_3b067 1 = .ok (.aload_n 0, 1) := by decide +kernel
theorem dJ1_charAt_3b067_2 : decode cJ1_charAt_3b067 2 = .ok (.arraylength, 1) := by decide +kernel
theorem dJ1_charAt_3b067_3 : decode cJ1_charAt_3b067 3 = .ok (.invokestatic 9, 3) := by decide +kernel
theorem dJ1_charAt_3b067_6 : decode cJ1_charAt_3b067 6 = .ok (.aload_n 0, 1) := by decide +kernel
theorem dJ1_charAt_3b067_7 : decode cJ1_charAt_3b067 7 = .ok (.iload_n 1, 1) := by decide +kernel
theorem dJ1_charAt_3b067_8 : decode cJ1_charAt_3b067 8 = .ok (.baload, 1) := by decide +kernel
theorem dJ1_charAt_3b067_9 : decode cJ1_charAt_3b067 9 = .ok (.sipush 255, 3) := by decide +kernel
theorem dJ1_charAt_3b067_12 : decode cJ1_charAt_3b067 12 = .ok (.iand, 1) := by decide +kernel
theorem dJ1_charAt_3b067_13 : decode cJ1_charAt_3b067 13 = .ok (.i2c, 1) := by decide +kernel
theorem dJ1_charAt_3b067_14 : decode cJ1_charAt_3b067 14 = .ok (.ireturn, 1) := by decide +kernel
theorem dJ7_rangeCheck_23922_0 : decode cJ7_rangeCheck_23922 0 = .ok (.iload_n 1, 1) := by decide +kernel
theorem dJ7_rangeCheck_23922_1 : decode cJ7_rangeCheck_23922 1 = .ok (.iload_n 2, 1) := by decide +kernel
theorem dJ7_rangeCheck_23922_2 : decode cJ7_rangeCheck_23922 2 = .ok (.if_icmp .le 44, 3) := by decide +kernel
theorem dJ7_rangeCheck_23922_8 : decode cJ7_rangeCheck_23922 8 = .ok (.dup, 1) := by decide +kernel
theorem dJ7_rangeCheck_23922_12 : decode cJ7_rangeCheck_23922 12 = .ok (.dup, 1) := by decide +kernel
theorem dJ7_rangeCheck_23922_16 : decode cJ7_rangeCheck_23922 16 = .ok (.ldc 48, 2) := by decide +kernel
theorem dJ7_rangeCheck_23922_18 : decode cJ7_rangeCheck_23922 18 = .ok (.invokevirtual 50, 3) := by decide +kernel
theorem dJ7_rangeCheck_23922_21 : decode cJ7_rangeCheck_23922 21 = .ok (.iload_n 1, 1) := by decide +kernel
theorem dJ7_rangeCheck_23922_22 : decode cJ7_rangeCheck_23922 22 = .ok (.invokevirtual 54, 3) := by decide +kernel
theorem dJ7_rangeCheck_23922_25 : decode cJ7_rangeCheck_23922 25 = .ok (.ldc 57, 2) := by decide +kernel
theorem dJ7_rangeCheck_23922_27 : decode cJ7_rangeCheck_23922 27 = .ok (.invokevirtual 50, 3) := by decide +kernel
theorem dJ7_rangeCheck_23922_30 : decode cJ7_rangeCheck_23922 30 = .ok (.iload_n 2, 1) := by decide +kernel
theorem dJ7_rangeCheck_23922_31 : decode cJ7_rangeCheck_23922 31 = .ok (.invokevirtual 54, 3) := by decide +kernel
theorem dJ7_rangeCheck_23922_34 : decode cJ7_rangeCheck_23922 34 = .ok (.ldc 59, 2) := by decide +kernel
theorem dJ7_rangeCheck_23922_36 : decode cJ7_rangeCheck_23922 36 = .ok (.invokevirtual 50, 3) := by decide +kernel
theorem dJ7_rangeCheck_23922_39 : decode cJ7_rangeCheck_23922 39 = .ok (.invokevirtual 61, 3) := by decide +kernel
theorem dJ7_rangeCheck_23922_46 : decode cJ7_rangeCheck_23922 46 = .ok (.iload_n 1, 1) := by decide +kernel
theorem dJ7_rangeCheck_23922_47 : decode cJ7_rangeCheck_23922 47 = .ok (.ifCond .ge 12, 3) := by decide +kernel
theorem dJ7_rangeCheck_23922_53 : decode cJ7_rangeCheck_23922 53 = .ok (.dup, 1) := by decide +kernel
theorem dJ7_rangeCheck_23922_54 : decode cJ7_rangeCheck_23922 54 = .ok (.iload_n 1, 1) := by decide +kernel
theorem dJ7_rangeCheck_23922_59 : decode cJ7_rangeCheck_23922 59 = .ok (.iload_n 2, 1) := by decide +kernel
theorem dJ7_rangeCheck_23922_60 : decode cJ7_rangeCheck_23922 60 = .ok (.iload_n 0, 1) := by decide +kernel
theorem dJ7_rangeCheck_23922_61 : decode cJ7_rangeCheck_23922 61 = .ok (.if_icmp .le 12, 3) := by decide +kernel
theorem dJ7_rangeCheck_23922_67 : decode cJ7_rangeCheck_23922 67 = .ok (.dup, 1) := by decide +kernel
theorem dJ7_rangeCheck_23922_68 : decode cJ7_rangeCheck_23922 68 = .ok (.iload_n 2, 1) := by decide +kernel
theorem dJ7_rangeCheck_23922_73 : decode cJ7_rangeCheck_23922 73 = .ok (.return_, 1) := by decide +kernel
theorem dJ7_fill_bad5a_0 : decode cJ7_fill_bad5a 0 = .ok (.aload_n 0, 1) := by decide +kernel
theorem dJ7_fill_bad5a_1 : decode cJ7_fill_bad5a 1 = .ok (.arraylength, 1) := by decide +kernel
theorem dJ7_fill_bad5a_2 : decode cJ7_fill_bad5a 2 = .ok (.iload_n 1, 1) := by decide +kernel
theorem dJ7_fill_bad5a_3 : decode cJ7_fill_bad5a 3 = .ok (.iload_n 2, 1) := by decide +kernel
theorem dJ7_fill_bad5a_4 : decode cJ7_fill_bad5a 4 = .ok (.invokestatic 13, 3) := by decide +kernel
theorem dJ7_fill_bad5a_7 : decode cJ7_fill_bad5a 7 = .ok (.iload_n 1, 1) := by decide +kernel
theorem dJ7_fill_bad5a_8 : decode cJ7_fill_bad5a 8 = .ok (.istore 5, 2) := by decide +kernel
theorem dJ7_fill_bad5a_10 : decode cJ7_fill_bad5a 10 = .ok (.iload 5, 2) := by decide +kernel
theorem dJ7_fill_bad5a_12 : decode cJ7_fill_bad5a 12 = .ok (.iload_n 2, 1) := by decide +kernel
theorem dJ7_fill_bad5a_13 : decode cJ7_fill_bad5a 13 = .ok (.if_icmp .ge 14, 3) := by decide +kernel
theorem dJ7_fill_bad5a_16 : decode cJ7_fill_bad5a 16 = .ok (.aload_n 0, 1) := by decide +kernel
theorem dJ7_fill_bad5a_17 : decode cJ7_fill_bad5a 17 = .ok (.iload 5, 2) := by decide +kernel
theorem dJ7_fill_bad5a_19 : decode cJ7_fill_bad5a 19 = .ok (.lload_n 3, 1) := by decide +kernel
theorem dJ7_fill_bad5a_20 : decode cJ7_fill_bad5a 20 = .ok (.lastore, 1) := by decide +kernel
theorem dJ7_fill_bad5a_21 : decode cJ7_fill_bad5a 21 = .ok (.iinc 5 1, 3) := by decide +kernel
theorem dJ7_fill_bad5a_24 : decode cJ7_fill_bad5a 24 = .ok (.goto (-14), 3) := by decide +kernel
theorem dJ7_fill_bad5a_27 : decode cJ7_fill_bad5a 27 = .ok (.return_, 1) := by decide +kernel
theorem dJ7_fill_53178_0 : decode cJ7_fill_53178 0 = .ok (.iconst 0, 1) := by decide +kernel
theorem dJ7_fill_53178_1 : decode cJ7_fill_53178 1 = .ok (.istore_n 2, 1) := by decide +kernel
theorem dJ7_fill_53178_2 : decode cJ7_fill_53178 2 = .ok (.aload_n 0, 1) := by decide +kernel
theorem dJ7_fill_53178_3 : decode cJ7_fill_53178 3 = .ok (.arraylength, 1) := by decide +kernel
theorem dJ7_fill_53178_4 : decode cJ7_fill_53178 4 = .ok (.istore_n 3, 1) := by decide +kernel
theorem dJ7_fill_53178_5 : decode cJ7_fill_53178 5 = .ok (.iload_n 2, 1) := by decide +kernel
theorem dJ7_fill_53178_6 : decode cJ7_fill_53178 6 = .ok (.iload_n 3, 1) := by decide +kernel
theorem dJ7_fill_53178_7 : decode cJ7_fill_53178 7 = .ok (.if_icmp .ge 13, 3) := by decide +kernel
theorem dJ7_fill_53178_10 : decode cJ7_fill_53178 10 = .ok (.aload_n 0, 1) := by decide +kernel
theorem dJ7_fill_53178_11 : decode cJ7_fill_53178 11 = .ok (.iload_n 2, 1) := by decide +kernel
theorem dJ7_fill_53178_12 : decode cJ7_fill_53178 12 = .ok (.iload_n 1, 1) := by decide +kernel
theorem dJ7_fill_53178_13 : decode cJ7_fill_53178 13 = .ok (.iastore, 1) := by decide +kernel
theorem dJ7_fill_53178_14 : decode cJ7_fill_53178 14 = .ok (.iinc 2 1, 3) := by decide +kernel
theorem dJ7_fill_53178_17 : decode cJ7_fill_53178 17 = .ok (.goto (-12), 3) := by decide +kernel
theorem dJ7_fill_53178_20 : decode cJ7_fill_53178 20 = .ok (.return_, 1) := by decide +kernel
theorem dJ3_checkIndex_8e157_0 : decode cJ3_checkIndex_8e157 0 = .ok (.iload_n 0, 1) := by decide +kernel
theorem dJ3_checkIndex_8e157_1 : decode cJ3_checkIndex_8e157 1 = .ok (.ifCond .lt 8, 3) := by decide +kernel
theorem dJ3_checkIndex_8e157_4 : decode cJ3_checkIndex_8e157 4 = .ok (.iload_n 0, 1) := by decide +kernel
theorem dJ3_checkIndex_8e157_5 : decode cJ3_checkIndex_8e157 5 = .ok (.iload_n 1, 1) := by decide +kernel
theorem dJ3_checkIndex_8e157_6 : decode cJ3_checkIndex_8e157 6 = .ok (.if_icmp .lt 10, 3) := by decide +kernel
theorem dJ3_checkIndex_8e157_9 : decode cJ3_checkIndex_8e157 9 = .ok (.aload_n 2, 1) := by decide +kernel
theorem dJ3_checkIndex_8e157_10 : decode cJ3_checkIndex_8e157 10 = .ok (.iload_n 0, 1) := by decide +kernel
theorem dJ3_checkIndex_8e157_11 : decode cJ3_checkIndex_8e157 11 = .ok (.iload_n 1, 1) := by decide +kernel
theorem dJ3_checkIndex_8e157_12 : decode cJ3_checkIndex_8e157 12 = .ok (.invokestatic 95, 3) := by decide +kernel
theorem dJ3_checkIndex_8e157_16 : decode cJ3_checkIndex_8e157 16 = .ok (.iload_n 0, 1) := by decide +kernel
theorem dJ3_checkIndex_8e157_17 : decode cJ3_checkIndex_8e157 17 = .ok (.ireturn, 1) := by decide +kernel
