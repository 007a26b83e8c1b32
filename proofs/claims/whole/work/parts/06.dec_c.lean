theorem dX7_init_0 : decode cX7_init 0 = .ok (.aload_n 0, 1) := by decide +kernel
theorem dX7_init_1 : decode cX7_init 1 = .ok (.invokespecial 1, 3) := by decide +kernel
theorem dX7_init_4 : decode cX7_init 4 = .ok (.aload_n 0, 1) := by decide +kernel
theorem dX7_init_5 : decode cX7_init 5 = .ok (.bipush 30, 2) := by decide +kernel
theorem dX7_init_7 : decode cX7_init 7 = .ok (.newarray .int, 2) := by decide +kernel
theorem dX7_init_9 : decode cX7_init 9 = .ok (.putfield 7, 3) := by decide +kernel
theorem dX7_init_12 : decode cX7_init 12 = .ok (.aload_n 0, 1) := by decide +kernel
theorem dX7_init_13 : decode cX7_init 13 = .ok (.bipush 30, 2) := by decide +kernel
theorem dX7_init_15 : decode cX7_init 15 = .ok (.newarray .int, 2) := by decide +kernel
theorem dX7_init_17 : decode cX7_init 17 = .ok (.putfield 13, 3) := by decide +kernel
theorem dX7_init_20 : decode cX7_init 20 = .ok (.aload_n 0, 1) := by decide +kernel
theorem dX7_init_21 : decode cX7_init 21 = .ok (.bipush 30, 2) := by decide +kernel
theorem dX7_init_23 : decode cX7_init 23 = .ok (.newarray .int, 2) := by decide +kernel
theorem dX7_init_25 : decode cX7_init 25 = .ok (.putfield 16, 3) := by decide +kernel
theorem dX7_init_28 : decode cX7_init 28 = .ok (.aload_n 0, 1) := by decide +kernel
theorem dX7_init_29 : decode cX7_init 29 = .ok (.sipush 1080, 3) := by decide +kernel
theorem dX7_init_32 : decode cX7_init 32 = .ok (.newarray .int, 2) := by decide +kernel
theorem dX7_init_34 : decode cX7_init 34 = .ok (.putfield 19, 3) := by decide +kernel
theorem dX7_init_37 : decode cX7_init 37 = .ok (.aload_n 0, 1) := by decide +kernel
theorem dX7_init_38 : decode cX7_init 38 = .ok (.bipush 30, 2) := by decide +kernel
theorem dX7_init_40 : decode cX7_init 40 = .ok (.newarray .boolean, 2) := by decide +kernel
theorem dX7_init_42 : decode cX7_init 42 = .ok (.putfield 22, 3) := by decide +kernel
theorem dX7_init_45 : decode cX7_init 45 = .ok (.aload_n 0, 1) := by decide +kernel
theorem dX7_init_46 : decode cX7_init 46 = .ok (.bipush 40, 2) := by decide +kernel
theorem dX7_init_48 : decode cX7_init 48 = .ok (.newarray .int, 2) := by decide +kernel
theorem dX7_init_50 : decode cX7_init 50 = .ok (.putfield 26, 3) := by decide +kernel
theorem dX7_init_53 : decode cX7_init 53 = .ok (.aload_n 0, 1) := by decide +kernel
theorem dX7_init_54 : decode cX7_init 54 = .ok (.sipush 400, 3) := by decide +kernel
theorem dX7_init_57 : decode cX7_init 57 = .ok (.newarray .int, 2) := by decide +kernel
theorem dX7_init_59 : decode cX7_init 59 = .ok (.putfield 29, 3) := by decide +kernel
theorem dX7_init_62 : decode cX7_init 62 = .ok (.aload_n 0, 1) := by decide +kernel
theorem dX7_init_63 : decode cX7_init 63 = .ok (.sipush 400, 3) := by decide +kernel
theorem dX7_init_66 : decode cX7_init 66 = .ok (.newarray .int, 2) := by decide +kernel
theorem dX7_init_68 : decode cX7_init 68 = .ok (.putfield 32, 3) := by decide +kernel
theorem dX7_init_71 : decode cX7_init 71 = .ok (.aload_n 0, 1) := by decide +kernel
theorem dX7_init_72 : decode cX7_init 72 = .ok (.sipush 400, 3) := by decide +kernel
theorem dX7_init_75 : decode cX7_init 75 = .ok (.newarray .int, 2) := by decide +kernel
theorem dX7_init_77 : decode cX7_init 77 = .ok (.putfield 35, 3) := by decide +kernel
theorem dX7_init_80 : decode cX7_init 80 = .ok (.aload_n 0, 1) := by decide +kernel
theorem dX7_init_81 : decode cX7_init 81 = .ok (.sipush 400, 3) := by decide +kernel
theorem dX7_init_84 : decode cX7_init 84 = .ok (.newarray .int, 2) := by decide +kernel
theorem dX7_init_86 : decode cX7_init 86 = .ok (.putfield 38, 3) := by decide +kernel
theorem dX7_init_89 : decode cX7_init 89 = .ok (.aload_n 0, 1) := by decide +kernel
theorem dX7_init_90 : decode cX7_init 90 = .ok (.sipush 400, 3) := by decide +kernel
theorem dX7_init_93 : decode cX7_init 93 = .ok (.newarray .int, 2) := by decide +kernel
theorem dX7_init_95 : decode cX7_init 95 = .ok (.putfield 41, 3) := by decide +kernel
theorem dX7_init_98 : decode cX7_init 98 = .ok (.aload_n 0, 1) := by decide +kernel
theorem dX7_init_99 : decode cX7_init 99 = .ok (.sipush 400, 3) := by decide +kernel
theorem dX7_init_102 : decode cX7_init 102 = .ok (.newarray .int, 2) := by decide +kernel
theorem dX7_init_104 : decode cX7_init 104 = .ok (.putfield 44, 3) := by decide +kernel
theorem dX7_init_107 : decode cX7_init 107 = .ok (.aload_n 0, 1) := by decide +kernel
theorem dX7_init_108 : decode cX7_init 108 = .ok (.sipush 400, 3) := by decide +kernel
theorem dX7_init_111 : decode cX7_init 111 = .ok (.newarray .int, 2) := by decide +kernel
theorem dX7_init_113 : decode cX7_init 113 = .ok (.putfield 47, 3) := by decide +kernel
theorem dX7_init_116 : decode cX7_init 116 = .ok (.aload_n 0, 1) := by decide +kernel
theorem dX7_init_117 : decode cX7_init 117 = .ok (.sipush 400, 3) := by decide +kernel
theorem dX7_init_120 : decode cX7_init 120 = .ok (.newarray .int, 2) := by decide +kernel
theorem dX7_init_122 : decode cX7_init 122 = .ok (.putfield 50, 3) := by decide +kernel
theorem dX7_init_125 : decode cX7_init 125 = .ok (.aload_n 0, 1) := by decide +kernel
theorem dX7_init_126 : decode cX7_init 126 = .ok (.sipush 400, 3) := by decide +kernel
theorem dX7_init_129 : decode cX7_init 129 = .ok (.newarray .int, 2) := by decide +kernel
theorem dX7_init_131 : decode cX7_init 131 = .ok (.putfield 53, 3) := by decide +kernel
theorem dX7_init_134 : decode cX7_init 134 = .ok (.aload_n 0, 1) := by decide +kernel
theorem dX7_init_135 : decode cX7_init 135 = .ok (.bipush 6, 2) := by decide +kernel
theorem dX7_init_137 : decode cX7_init 137 = .ok (.newarray .int, 2) := by decide +kernel
theorem dX7_init_139 : decode cX7_init 139 = .ok (.putfield 56, 3) := by decide +kernel
theorem dX7_init_142 : decode cX7_init 142 = .ok (.aload_n 0, 1) := by decide +kernel
theorem dX7_init_143 : decode cX7_init 143 = .ok (.bipush 6, 2) := by decide +kernel
theorem dX7_init_145 : decode cX7_init 145 = .ok (.newarray .int, 2) := by decide +kernel
theorem dX7_init_147 : decode cX7_init 147 = .ok (.dup, 1) := by decide +kernel
theorem dX7_init_148 : decode cX7_init 148 = .ok (.iconst 0, 1) := by decide +kernel
theorem dX7_init_149 : decode cX7_init 149 = .ok (.bipush 100, 2) := by decide +kernel
theorem dX7_init_151 : decode cX7_init 151 = .ok (.iastore, 1) := by decide +kernel
theorem dX7_init_152 : decode cX7_init 152 = .ok (.dup, 1) := by decide +kernel
theorem dX7_init_153 : decode cX7_init 153 = .ok (.iconst 1, 1) := by decide +kernel
theorem dX7_init_154 : decode cX7_init 154 = .ok (.bipush 100, 2) := by decide +kernel
theorem dX7_init_156 : decode cX7_init 156 = .ok (.iastore, 1) := by decide +kernel
theorem dX7_init_157 : decode cX7_init 157 = .ok (.dup, 1) := by decide +kernel
theorem dX7_init_158 : decode cX7_init 158 = .ok (.iconst 2, 1) := by decide +kernel
theorem dX7_init_159 : decode cX7_init 159 = .ok (.bipush 100, 2) := by decide +kernel
theorem dX7_init_161 : decode cX7_init 161 = .ok (.iastore, 1) := by decide +kernel
theorem dX7_init_162 : decode cX7_init 162 = .ok (.dup, 1) := by decide +kernel
theorem dX7_init_163 : decode cX7_init 163 = .ok (.iconst 3, 1) := by decide +kernel
theorem dX7_init_164 : decode cX7_init 164 = .ok (.bipush 100, 2) := by decide +kernel
theorem dX7_init_166 : decode cX7_init 166 = .ok (.iastore, 1) := by decide +kernel
theorem dX7_init_167 : decode cX7_init 167 = .ok (.dup, 1) := by decide +kernel
theorem dX7_init_168 : decode cX7_init 168 = .ok (.iconst 4, 1) := by decide +kernel
theorem dX7_init_169 : decode cX7_init 169 = .ok (.bipush 100, 2) := by decide +kernel
theorem dX7_init_171 : decode cX7_init 171 = .ok (.iastore, 1) := by decide +kernel
theorem dX7_init_172 : decode cX7_init 172 = .ok (.dup, 1) := by decide +kernel
theorem dX7_init_173 : decode cX7_init 173 = .ok (.iconst 5, 1) := by decide +kernel
theorem dX7_init_174 : decode cX7_init 174 = .ok (.bipush 100, 2) := by decide +kernel
theorem dX7_init_176 : decode cX7_init 176 = .ok (.iastore, 1) := by decide +kernel
theorem dX7_init_177 : decode cX7_init 177 = .ok (.putfield 59, 3) := by decide +kernel
theorem dX7_init_180 : decode cX7_init 180 = .ok (.aload_n 0, 1) := by decide +kernel
theorem dX7_init_181 : decode cX7_init 181 = .ok (.bipush 6, 2) := by decide +kernel
theorem dX7_init_183 : decode cX7_init 183 = .ok (.newarray .int, 2) := by decide +kernel
theorem dX7_init_185 : decode cX7_init 185 = .ok (.putfield 62, 3) := by decide +kernel
theorem dX7_init_188 : decode cX7_init 188 = .ok (.aload_n 0, 1) := by decide +kernel
theorem dX7_init_189 : decode cX7_init 189 = .ok (.bipush 6, 2) := by decide +kernel
theorem dX7_init_191 : decode cX7_init 191 = .ok (.newarray .int, 2) := by decide +kernel
theorem dX7_init_193 : decode cX7_init 193 = .ok (.putfield 65, 3) := by decide +kernel
theorem dX7_init_196 : decode cX7_init 196 = .ok (.aload_n 0, 1) := by decide +kernel
theorem dX7_init_197 : decode cX7_init 197 = .ok (.bipush 30, 2) := by decide +kernel
theorem dX7_init_199 : decode cX7_init 199 = .ok (.newarray .int, 2) := by decide +kernel
theorem dX7_init_201 : decode cX7_init 201 = .ok (.putfield 68, 3) := by decide +kernel
theorem dX7_init_204 : decode cX7_init 204 = .ok (.aload_n 0, 1) := by decide +kernel
theorem dX7_init_205 : decode cX7_init 205 = .ok (.bipush 30, 2) := by decide +kernel
theorem dX7_init_207 : decode cX7_init 207 = .ok (.newarray .int, 2) := by decide +kernel
theorem dX7_init_209 : decode cX7_init 209 = .ok (.putfield 71, 3) := by decide +kernel
theorem dX7_init_212 : decode cX7_init 212 = .ok (.aload_n 0, 1) := by decide +kernel
theorem dX7_init_213 : decode cX7_init 213 = .ok (.bipush 30, 2) := by decide +kernel
theorem dX7_init_215 : decode cX7_init 215 = .ok (.newarray .int, 2) := by decide +kernel
theorem dX7_init_217 : decode cX7_init 217 = .ok (.putfield 74, 3) := by decide +kernel
theorem dX7_init_220 : decode cX7_init 220 = .ok (.aload_n 0, 1) := by decide +kernel
theorem dX7_init_221 : decode cX7_init 221 = .ok (.bipush 30, 2) := by decide +kernel
theorem dX7_init_223 : decode cX7_init 223 = .ok (.newarray .int, 2) := by decide +kernel
theorem dX7_init_225 : decode cX7_init 225 = .ok (.putfield 77, 3) := by decide +kernel
theorem dX7_init_228 : decode cX7_init 228 = .ok (.aload_n 0, 1) := by decide +kernel
theorem dX7_init_229 : decode cX7_init 229 = .ok (.sipush 360, 3) := by decide +kernel
theorem dX7_init_232 : decode cX7_init 232 = .ok (.newarray .int, 2) := by decide +kernel
theorem dX7_init_234 : decode cX7_init 234 = .ok (.putfield 80, 3) := by decide +kernel
theorem dX7_init_237 : decode cX7_init 237 = .ok (.aload_n 0, 1) := by decide +kernel
theorem dX7_init_238 : decode cX7_init 238 = .ok (.bipush 30, 2) := by decide +kernel
theorem dX7_init_240 : decode cX7_init 240 = .ok (.newarray .int, 2) := by decide +kernel
theorem dX7_init_242 : decode cX7_init 242 = .ok (.putfield 83, 3) := by decide +kernel
theorem dX7_init_245 : decode cX7_init 245 = .ok (.aload_n 0, 1) := by decide +kernel
theorem dX7_init_246 : decode cX7_init 246 = .ok (.bipush 30, 2) := by decide +kernel
theorem dX7_init_248 : decode cX7_init 248 = .ok (.newarray .int, 2) := by decide +kernel
theorem dX7_init_250 : decode cX7_init 250 = .ok (.putfield 86, 3) := by decide +kernel
theorem dX7_init_253 : decode cX7_init 253 = .ok (.aload_n 0, 1) := by decide +kernel
theorem dX7_init_254 : decode cX7_init 254 = .ok (.bipush 30, 2) := by decide +kernel
theorem dX7_init_256 : decode cX7_init 256 = .ok (.newarray .int, 2) := by decide +kernel
theorem dX7_init_258 : decode cX7_init 258 = .ok (.putfield 89, 3) := by decide +kernel
theorem dX7_init_261 : decode cX7_init 261 = .ok (.aload_n 0, 1) := by decide +kernel
theorem dX7_init_262 : decode cX7_init 262 = .ok (.bipush 30, 2) := by decide +kernel
theorem dX7_init_264 : decode cX7_init 264 = .ok (.newarray .int, 2) := by decide +kernel
theorem dX7_init_266 : decode cX7_init 266 = .ok (.putfield 92, 3) := by decide +kernel
theorem dX7_init_269 : decode cX7_init 269 = .ok (.aload_n 0, 1) := by decide +kernel
theorem dX7_init_270 : decode cX7_init 270 = .ok (.bipush 30, 2) := by decide +kernel
theorem dX7_init_272 : decode cX7_init 272 = .ok (.newarray .int, 2) := by decide +kernel
theorem dX7_init_274 : decode cX7_init 274 = .ok (.putfield 95, 3) := by decide +kernel
theorem dX7_init_277 : decode cX7_init 277 = .ok (.aload_n 0, 1) := by decide +kernel
theorem dX7_init_278 : decode cX7_init 278 = .ok (.bipush 30, 2) := by decide +kernel
theorem dX7_init_280 : decode cX7_init 280 = .ok (.newarray .int, 2) := by decide +kernel
theorem dX7_init_282 : decode cX7_init 282 = .ok (.putfield 98, 3) := by decide +kernel
theorem dX7_init_285 : decode cX7_init 285 = .ok (.aload_n 0, 1) := by decide +kernel
theorem dX7_init_286 : decode cX7_init 286 = .ok (.bipush 30, 2) := by decide +kernel
theorem dX7_init_288 : decode cX7_init 288 = .ok (.newarray .int, 2) := by decide +kernel
theorem dX7_init_290 : decode cX7_init 290 = .ok (.putfield 101, 3) := by decide +kernel
theorem dX7_init_293 : decode cX7_init 293 = .ok (.aload_n 0, 1) := by decide +kernel
theorem dX7_init_294 : decode cX7_init 294 = .ok (.bipush 30, 2) := by decide +kernel
theorem dX7_init_296 : decode cX7_init 296 = .ok (.newarray .int, 2) := by decide +kernel
theorem dX7_init_298 : decode cX7_init 298 = .ok (.putfield 104, 3) := by decide +kernel
theorem dX7_init_301 : decode cX7_init 301 = .ok (.aload_n 0, 1) := by decide +kernel
theorem dX7_init_302 : decode cX7_init 302 = .ok (.ldc 107, 2) := by decide +kernel
theorem dX7_init_304 : decode cX7_init 304 = .ok (.newarray .int, 2) := by decide +kernel
theorem dX7_init_306 : decode cX7_init 306 = .ok (.putfield 108, 3) := by decide +kernel
theorem dX7_init_309 : decode cX7_init 309 = .ok (.aload_n 0, 1) := by decide +kernel
theorem dX7_init_310 : decode cX7_init 310 = .ok (.bipush 36, 2) := by decide +kernel
theorem dX7_init_312 : decode cX7_init 312 = .ok (.newarray .int, 2) := by decide +kernel
theorem dX7_init_314 : decode cX7_init 314 = .ok (.putfield 111, 3) := by decide +kernel
theorem dX7_init_317 : decode cX7_init 317 = .ok (.return_, 1) := by decide +kernel
theorem dX7_thrown_0 : decode cX7_thrown 0 = .ok (.aload_n 0, 1) := by decide +kernel
theorem dX7_thrown_1 : decode cX7_thrown 1 = .ok (.getfield 114, 3) := by decide +kernel
theorem dX7_thrown_4 : decode cX7_thrown 4 = .ok (.ireturn, 1) := by decide +kernel
theorem dX7_right_0 : decode cX7_right 0 = .ok (.aload_n 0, 1) := by decide +kernel
theorem dX7_right_1 : decode cX7_right 1 = .ok (.getfield 114, 3) := by decide +kernel
theorem dX7_right_4 : decode cX7_right 4 = .ok (.ifCond .ne 12, 3) := by decide +kernel
theorem dX7_right_7 : decode cX7_right 7 = .ok (.iload_n 1, 1) := by decide +kernel
theorem dX7_right_8 : decode cX7_right 8 = .ok (.ifCond .ne 8, 3) := by decide +kernel
theorem dX7_right_11 : decode cX7_right 11 = .ok (.aload_n 0, 1) := by decide +kernel
theorem dX7_right_12 : decode cX7_right 12 = .ok (.iload_n 2, 1) := by decide +kernel
theorem dX7_right_13 : decode cX7_right 13 = .ok (.putfield 114, 3) := by decide +kernel
theorem dX7_right_16 : decode cX7_right 16 = .ok (.aload_n 0, 1) := by decide +kernel
theorem dX7_right_17 : decode cX7_right 17 = .ok (.getfield 114, 3) := by decide +kernel
theorem dX7_right_20 : decode cX7_right 20 = .ok (.ifCond .ne 7, 3) := by decide +kernel
theorem dX7_right_23 : decode cX7_right 23 = .ok (.iconst 1, 1) := by decide +kernel
theorem dX7_right_24 : decode cX7_right 24 = .ok (.goto 4, 3) := by decide +kernel
theorem dX7_right_27 : decode cX7_right 27 = .ok (.iconst 0, 1) := by decide +kernel
theorem dX7_right_28 : decode cX7_right 28 = .ok (.ireturn, 1) := by decide +kernel
theorem dX7_shell_0 : decode cX7_shell 0 = .ok (.aload_n 0, 1) := by decide +kernel
theorem dX7_shell_1 : decode cX7_shell 1 = .ok (.iconst 0, 1) := by decide +kernel
theorem dX7_shell_2 : decode cX7_shell 2 = .ok (.putfield 114, 3) := by decide +kernel
theorem dX7_shell_5 : decode cX7_shell 5 = .ok (.aload_n 0, 1) := by decide +kernel
theorem dX7_shell_6 : decode cX7_shell 6 = .ok (.getfield 118, 3) := by decide +kernel
theorem dX7_shell_9 : decode cX7_shell 9 = .ok (.bipush 30, 2) := by decide +kernel
theorem dX7_shell_11 : decode cX7_shell 11 = .ok (.if_icmp .eq 35, 3) := by decide +kernel
theorem dX7_shell_14 : decode cX7_shell 14 = .ok (.iload_n 1, 1) := by decide +kernel
theorem dX7_shell_15 : decode cX7_shell 15 = .ok (.iconst 1, 1) := by decide +kernel
theorem dX7_shell_16 : decode cX7_shell 16 = .ok (.if_icmp .lt 30, 3) := by decide +kernel
theorem dX7_shell_19 : decode cX7_shell 19 = .ok (.iload_n 1, 1) := by decide +kernel
theorem dX7_shell_20 : decode cX7_shell 20 = .ok (.bipush 6, 2) := by decide +kernel
theorem dX7_shell_22 : decode cX7_shell 22 = .ok (.if_icmp .gt 24, 3) := by decide +kernel
theorem dX7_shell_25 : decode cX7_shell 25 = .ok (.iload_n 2, 1) := by decide +kernel
theorem dX7_shell_26 : decode cX7_shell 26 = .ok (.iconst 1, 1) := by decide +kernel
theorem dX7_shell_27 : decode cX7_shell 27 = .ok (.if_icmp .lt 19, 3) := by decide +kernel
theorem dX7_shell_30 : decode cX7_shell 30 = .ok (.iload_n 2, 1) := by decide +kernel
theorem dX7_shell_31 : decode cX7_shell 31 = .ok (.bipush 6, 2) := by decide +kernel
theorem dX7_shell_33 : decode cX7_shell 33 = .ok (.if_icmp .gt 13, 3) := by decide +kernel
theorem dX7_shell_36 : decode cX7_shell 36 = .ok (.iload_n 3, 1) := by decide +kernel
theorem dX7_shell_37 : decode cX7_shell 37 = .ok (.ifCond .lt 9, 3) := by decide +kernel
theorem dX7_shell_40 : decode cX7_shell 40 = .ok (.iload_n 3, 1) := by decide +kernel
theorem dX7_shell_41 : decode cX7_shell 41 = .ok (.bipush 9, 2) := by decide +kernel
theorem dX7_shell_43 : decode cX7_shell 43 = .ok (.if_icmp .le 5, 3) := by decide +kernel
theorem dX7_shell_46 : decode cX7_shell 46 = .ok (.iconst (-1), 1) := by decide +kernel
theorem dX7_shell_47 : decode cX7_shell 47 = .ok (.ireturn, 1) := by decide +kernel
theorem dX7_shell_48 : decode cX7_shell 48 = .ok (.iconst 1, 1) := by decide +kernel
theorem dX7_shell_49 : decode cX7_shell 49 = .ok (.istore 10, 2) := by decide +kernel
theorem dX7_shell_51 : decode cX7_shell 51 = .ok (.iconst 0, 1) := by decide +kernel
theorem dX7_shell_52 : decode cX7_shell 52 = .ok (.istore 11, 2) := by decide +kernel
theorem dX7_shell_54 : decode cX7_shell 54 = .ok (.iload 11, 2) := by decide +kernel
theorem dX7_shell_56 : decode cX7_shell 56 = .ok (.iload_n 1, 1) := by decide +kernel
theorem dX7_shell_57 : decode cX7_shell 57 = .ok (.if_icmp .ge 135, 3) := by decide +kernel
theorem dX7_shell_60 : decode cX7_shell 60 = .ok (.iload 11, 2) := by decide +kernel
theorem dX7_shell_62 : decode cX7_shell 62 = .ok (.ifCond .ne 8, 3) := by decide +kernel
theorem dX7_shell_65 : decode cX7_shell 65 = .ok (.iload 4, 2) := by decide +kernel
theorem dX7_shell_67 : decode cX7_shell 67 = .ok (.goto 49, 3) := by decide +kernel
theorem dX7_shell_70 : decode cX7_shell 70 = .ok (.iload 11, 2) := by decide +kernel
theorem dX7_shell_72 : decode cX7_shell 72 = .ok (.iconst 1, 1) := by decide +kernel
theorem dX7_shell_73 : decode cX7_shell 73 = .ok (.if_icmp .ne 8, 3) := by decide +kernel
theorem dX7_shell_76 : decode cX7_shell 76 = .ok (.iload 5, 2) := by decide +kernel
theorem dX7_shell_78 : decode cX7_shell 78 = .ok (.goto 38, 3) := by decide +kernel
theorem dX7_shell_81 : decode cX7_shell 81 = .ok (.iload 11, 2) := by decide +kernel
theorem dX7_shell_83 : decode cX7_shell 83 = .ok (.iconst 2, 1) := by decide +kernel
theorem dX7_shell_84 : decode cX7_shell 84 = .ok (.if_icmp .ne 8, 3) := by decide +kernel
theorem dX7_shell_87 : decode cX7_shell 87 = .ok (.iload 6, 2) := by decide +kernel
theorem dX7_shell_89 : decode cX7_shell 89 = .ok (.goto 27, 3) := by decide +kernel
theorem dX7_shell_92 : decode cX7_shell 92 = .ok (.iload 11, 2) := by decide +kernel
theorem dX7_shell_94 : decode cX7_shell 94 = .ok (.iconst 3, 1) := by decide +kernel
theorem dX7_shell_95 : decode cX7_shell 95 = .ok (.if_icmp .ne 8, 3) := by decide +kernel
theorem dX7_shell_98 : decode cX7_shell 98 = .ok (.iload 7, 2) := by decide +kernel
theorem dX7_shell_100 : decode cX7_shell 100 = .ok (.goto 16, 3) := by decide +kernel
theorem dX7_shell_103 : decode cX7_shell 103 = .ok (.iload 11, 2) := by decide +kernel
theorem dX7_shell_105 : decode cX7_shell 105 = .ok (.iconst 4, 1) := by decide +kernel
theorem dX7_shell_106 : decode cX7_shell 106 = .ok (.if_icmp .ne 8, 3) := by decide +kernel
theorem dX7_shell_109 : decode cX7_shell 109 = .ok (.iload 8, 2) := by decide +kernel
theorem dX7_shell_111 : decode cX7_shell 111 = .ok (.goto 5, 3) := by decide +kernel
theorem dX7_shell_114 : decode cX7_shell 114 = .ok (.iload 9, 2) := by decide +kernel
theorem dX7_shell_116 : decode cX7_shell 116 = .ok (.istore 12, 2) := by decide +kernel
theorem dX7_shell_118 : decode cX7_shell 118 = .ok (.iconst 0, 1) := by decide +kernel
theorem dX7_shell_119 : decode cX7_shell 119 = .ok (.istore 13, 2) := by decide +kernel
theorem dX7_shell_121 : decode cX7_shell 121 = .ok (.iload 13, 2) := by decide +kernel
theorem dX7_shell_123 : decode cX7_shell 123 = .ok (.iload_n 2, 1) := by decide +kernel
theorem dX7_shell_124 : decode cX7_shell 124 = .ok (.if_icmp .ge 62, 3) := by decide +kernel
theorem dX7_shell_127 : decode cX7_shell 127 = .ok (.iload 12, 2) := by decide +kernel
theorem dX7_shell_129 : decode cX7_shell 129 = .ok (.iconst 4, 1) := by decide +kernel
theorem dX7_shell_130 : decode cX7_shell 130 = .ok (.iload 13, 2) := by decide +kernel
theorem dX7_shell_132 : decode cX7_shell 132 = .ok (.imul, 1) := by decide +kernel
theorem dX7_shell_133 : decode cX7_shell 133 = .ok (.ishr, 1) := by decide +kernel
theorem dX7_shell_134 : decode cX7_shell 134 = .ok (.bipush 15, 2) := by decide +kernel
theorem dX7_shell_136 : decode cX7_shell 136 = .ok (.iand, 1) := by decide +kernel
theorem dX7_shell_137 : decode cX7_shell 137 = .ok (.istore 14, 2) := by decide +kernel
theorem dX7_shell_139 : decode cX7_shell 139 = .ok (.iload 10, 2) := by decide +kernel
theorem dX7_shell_141 : decode cX7_shell 141 = .ok (.ifCond .eq 14, 3) := by decide +kernel
theorem dX7_shell_144 : decode cX7_shell 144 = .ok (.iload 14, 2) := by decide +kernel
theorem dX7_shell_146 : decode cX7_shell 146 = .ok (.bipush 9, 2) := by decide +kernel
theorem dX7_shell_148 : decode cX7_shell 148 = .ok (.if_icmp .gt 7, 3) := by decide +kernel
theorem dX7_shell_151 : decode cX7_shell 151 = .ok (.iconst 1, 1) := by decide +kernel
theorem dX7_shell_152 : decode cX7_shell 152 = .ok (.goto 4, 3) := by decide +kernel
theorem dX7_shell_155 : decode cX7_shell 155 = .ok (.iconst 0, 1) := by decide +kernel
theorem dX7_shell_156 : decode cX7_shell 156 = .ok (.istore 10, 2) := by decide +kernel
theorem dX7_shell_158 : decode cX7_shell 158 = .ok (.aload_n 0, 1) := by decide +kernel
theorem dX7_shell_159 : decode cX7_shell 159 = .ok (.getfield 19, 3) := by decide +kernel
theorem dX7_shell_162 : decode cX7_shell 162 = .ok (.bipush 36, 2) := by decide +kernel
theorem dX7_shell_164 : decode cX7_shell 164 = .ok (.aload_n 0, 1) := by decide +kernel
theorem dX7_shell_165 : decode cX7_shell 165 = .ok (.getfield 118, 3) := by decide +kernel
theorem dX7_shell_168 : decode cX7_shell 168 = .ok (.imul, 1) := by decide +kernel
theorem dX7_shell_169 : decode cX7_shell 169 = .ok (.iload_n 2, 1) := by decide +kernel
theorem dX7_shell_170 : decode cX7_shell 170 = .ok (.iload 11, 2) := by decide +kernel
theorem dX7_shell_172 : decode cX7_shell 172 = .ok (.imul, 1) := by decide +kernel
theorem dX7_shell_173 : decode cX7_shell 173 = .ok (.iadd, 1) := by decide +kernel
theorem dX7_shell_174 : decode cX7_shell 174 = .ok (.iload 13, 2) := by decide +kernel
theorem dX7_shell_176 : decode cX7_shell 176 = .ok (.iadd, 1) := by decide +kernel
theorem dX7_shell_177 : decode cX7_shell 177 = .ok (.iload 14, 2) := by decide +kernel
theorem dX7_shell_179 : decode cX7_shell 179 = .ok (.iastore, 1) := by decide +kernel
theorem dX7_shell_180 : decode cX7_shell 180 = .ok (.iinc 13 1, 3) := by decide +kernel
theorem dX7_shell_183 : decode cX7_shell 183 = .ok (.goto (-62), 3) := by decide +kernel
theorem dX7_shell_186 : decode cX7_shell 186 = .ok (.iinc 11 1, 3) := by decide +kernel
theorem dX7_shell_189 : decode cX7_shell 189 = .ok (.goto (-135), 3) := by decide +kernel
theorem dX7_shell_192 : decode cX7_shell 192 = .ok (.iload 10, 2) := by decide +kernel
theorem dX7_shell_194 : decode cX7_shell 194 = .ok (.ifCond .ne 5, 3) := by decide +kernel
theorem dX7_shell_197 : decode cX7_shell 197 = .ok (.iconst (-1), 1) := by decide +kernel
theorem dX7_shell_198 : decode cX7_shell 198 = .ok (.ireturn, 1) := by decide +kernel
theorem dX7_shell_199 : decode cX7_shell 199 = .ok (.aload_n 0, 1) := by decide +kernel
theorem dX7_shell_200 : decode cX7_shell 200 = .ok (.getfield 7, 3) := by decide +kernel
theorem dX7_shell_203 : decode cX7_shell 203 = .ok (.aload_n 0, 1) := by decide +kernel
theorem dX7_shell_204 : decode cX7_shell 204 = .ok (.getfield 118, 3) := by decide +kernel
theorem dX7_shell_207 : decode cX7_shell 207 = .ok (.iload_n 1, 1) := by decide +kernel
theorem dX7_shell_208 : decode cX7_shell 208 = .ok (.iastore, 1) := by decide +kernel
theorem dX7_shell_209 : decode cX7_shell 209 = .ok (.aload_n 0, 1) := by decide +kernel
theorem dX7_shell_210 : decode cX7_shell 210 = .ok (.getfield 13, 3) := by decide +kernel
theorem dX7_shell_213 : decode cX7_shell 213 = .ok (.aload_n 0, 1) := by decide +kernel
theorem dX7_shell_214 : decode cX7_shell 214 = .ok (.getfield 118, 3) := by decide +kernel
theorem dX7_shell_217 : decode cX7_shell 217 = .ok (.iload_n 2, 1) := by decide +kernel
theorem dX7_shell_218 : decode cX7_shell 218 = .ok (.iastore, 1) := by decide +kernel
theorem dX7_shell_219 : decode cX7_shell 219 = .ok (.aload_n 0, 1) := by decide +kernel
theorem dX7_shell_220 : decode cX7_shell 220 = .ok (.getfield 16, 3) := by decide +kernel
theorem dX7_shell_223 : decode cX7_shell 223 = .ok (.aload_n 0, 1) := by decide +kernel
theorem dX7_shell_224 : decode cX7_shell 224 = .ok (.getfield 118, 3) := by decide +kernel
theorem dX7_shell_227 : decode cX7_shell 227 = .ok (.iload_n 3, 1) := by decide +kernel
theorem dX7_shell_228 : decode cX7_shell 228 = .ok (.iastore, 1) := by decide +kernel
theorem dX7_shell_229 : decode cX7_shell 229 = .ok (.aload_n 0, 1) := by decide +kernel
theorem dX7_shell_230 : decode cX7_shell 230 = .ok (.dup, 1) := by decide +kernel
theorem dX7_shell_231 : decode cX7_shell 231 = .ok (.getfield 118, 3) := by decide +kernel
theorem dX7_shell_234 : decode cX7_shell 234 = .ok (.iconst 1, 1) := by decide +kernel
theorem dX7_shell_235 : decode cX7_shell 235 = .ok (.iadd, 1) := by decide +kernel
theorem dX7_shell_236 : decode cX7_shell 236 = .ok (.putfield 118, 3) := by decide +kernel
theorem dX7_shell_239 : decode cX7_shell 239 = .ok (.aload_n 0, 1) := by decide +kernel
theorem dX7_shell_240 : decode cX7_shell 240 = .ok (.getfield 118, 3) := by decide +kernel
theorem dX7_shell_243 : decode cX7_shell 243 = .ok (.iconst 1, 1) := by decide +kernel
theorem dX7_shell_244 : decode cX7_shell 244 = .ok (.isub, 1) := by decide +kernel
theorem dX7_shell_245 : decode cX7_shell 245 = .ok (.ireturn, 1) := by decide +kernel
theorem dX7_isShell_0 : decode cX7_isShell 0 = .ok (.aload_n 0, 1) := by decide +kernel
theorem dX7_isShell_1 : decode cX7_isShell 1 = .ok (.iconst 0, 1) := by decide +kernel
theorem dX7_isShell_2 : decode cX7_isShell 2 = .ok (.putfield 114, 3) := by decide +kernel
theorem dX7_isShell_5 : decode cX7_isShell 5 = .ok (.aload_n 0, 1) := by decide +kernel
theorem dX7_isShell_6 : decode cX7_isShell 6 = .ok (.iload_n 1, 1) := by decide +kernel
theorem dX7_isShell_7 : decode cX7_isShell 7 = .ok (.ifCond .lt 15, 3) := by decide +kernel
theorem dX7_isShell_10 : decode cX7_isShell 10 = .ok (.iload_n 1, 1) := by decide +kernel
theorem dX7_isShell_11 : decode cX7_isShell 11 = .ok (.aload_n 0, 1) := by decide +kernel
theorem dX7_isShell_12 : decode cX7_isShell 12 = .ok (.getfield 118, 3) := by decide +kernel
theorem dX7_isShell_15 : decode cX7_isShell 15 = .ok (.if_icmp .ge 7, 3) := by decide +kernel
theorem dX7_isShell_18 : decode cX7_isShell 18 = .ok (.iconst 1, 1) := by decide +kernel
theorem dX7_isShell_19 : decode cX7_isShell 19 = .ok (.goto 4, 3) := by decide +kernel
theorem dX7_isShell_22 : decode cX7_isShell 22 = .ok (.iconst 0, 1) := by decide +kernel
theorem dX7_isShell_23 : decode cX7_isShell 23 = .ok (.iconst 1, 1) := by decide +kernel
theorem dX7_isShell_24 : decode cX7_isShell 24 = .ok (.invokevirtual 121, 3) := by decide +kernel
theorem dX7_isShell_27 : decode cX7_isShell 27 = .ok (.ireturn, 1) := by decide +kernel
theorem dX7_shellOf_0 : decode cX7_shellOf 0 = .ok (.aload_n 0, 1) := by decide +kernel
theorem dX7_shellOf_1 : decode cX7_shellOf 1 = .ok (.iload_n 1, 1) := by decide +kernel
theorem dX7_shellOf_2 : decode cX7_shellOf 2 = .ok (.invokevirtual 125, 3) := by decide +kernel
theorem dX7_shellOf_5 : decode cX7_shellOf 5 = .ok (.ifCond .eq 25, 3) := by decide +kernel
theorem dX7_shellOf_8 : decode cX7_shellOf 8 = .ok (.aload_n 0, 1) := by decide +kernel
theorem dX7_shellOf_9 : decode cX7_shellOf 9 = .ok (.iload_n 2, 1) := by decide +kernel
theorem dX7_shellOf_10 : decode cX7_shellOf 10 = .ok (.ifCond .lt 12, 3) := by decide +kernel
theorem dX7_shellOf_13 : decode cX7_shellOf 13 = .ok (.iload_n 2, 1) := by decide +kernel
theorem dX7_shellOf_14 : decode cX7_shellOf 14 = .ok (.iconst 3, 1) := by decide +kernel
theorem dX7_shellOf_15 : decode cX7_shellOf 15 = .ok (.if_icmp .gt 7, 3) := by decide +kernel
theorem dX7_shellOf_18 : decode cX7_shellOf 18 = .ok (.iconst 1, 1) := by decide +kernel
theorem dX7_shellOf_19 : decode cX7_shellOf 19 = .ok (.goto 4, 3) := by decide +kernel
theorem dX7_shellOf_22 : decode cX7_shellOf 22 = .ok (.iconst 0, 1) := by decide +kernel
theorem dX7_shellOf_23 : decode cX7_shellOf 23 = .ok (.iconst 1, 1) := by decide +kernel
theorem dX7_shellOf_24 : decode cX7_shellOf 24 = .ok (.invokevirtual 121, 3) := by decide +kernel
theorem dX7_shellOf_27 : decode cX7_shellOf 27 = .ok (.ifCond .ne 5, 3) := by decide +kernel
theorem dX7_shellOf_30 : decode cX7_shellOf 30 = .ok (.iconst 0, 1) := by decide +kernel
theorem dX7_shellOf_31 : decode cX7_shellOf 31 = .ok (.ireturn, 1) := by decide +kernel
theorem dX7_shellOf_32 : decode cX7_shellOf 32 = .ok (.iload_n 2, 1) := by decide +kernel
theorem dX7_shellOf_33 : decode cX7_shellOf 33 = .ok (.ifCond .ne 12, 3) := by decide +kernel
theorem dX7_shellOf_36 : decode cX7_shellOf 36 = .ok (.aload_n 0, 1) := by decide +kernel
theorem dX7_shellOf_37 : decode cX7_shellOf 37 = .ok (.getfield 7, 3) := by decide +kernel
theorem dX7_shellOf_40 : decode cX7_shellOf 40 = .ok (.iload_n 1, 1) := by decide +kernel
theorem dX7_shellOf_41 : decode cX7_shellOf 41 = .ok (.iaload, 1) := by decide +kernel
theorem dX7_shellOf_42 : decode cX7_shellOf 42 = .ok (.goto 45, 3) := by decide +kernel
theorem dX7_shellOf_45 : decode cX7_shellOf 45 = .ok (.iload_n 2, 1) := by decide +kernel
theorem dX7_shellOf_46 : decode cX7_shellOf 46 = .ok (.iconst 1, 1) := by decide +kernel
theorem dX7_shellOf_47 : decode cX7_shellOf 47 = .ok (.if_icmp .ne 12, 3) := by decide +kernel
theorem dX7_shellOf_50 : decode cX7_shellOf 50 = .ok (.aload_n 0, 1) := by decide +kernel
theorem dX7_shellOf_51 : decode cX7_shellOf 51 = .ok (.getfield 13, 3) := by decide +kernel
theorem dX7_shellOf_54 : decode cX7_shellOf 54 = .ok (.iload_n 1, 1) := by decide +kernel
theorem dX7_shellOf_55 : decode cX7_shellOf 55 = .ok (.iaload, 1) := by decide +kernel
theorem dX7_shellOf_56 : decode cX7_shellOf 56 = .ok (.goto 31, 3) := by decide +kernel
theorem dX7_shellOf_59 : decode cX7_shellOf 59 = .ok (.iload_n 2, 1) := by decide +kernel
theorem dX7_shellOf_60 : decode cX7_shellOf 60 = .ok (.iconst 2, 1) := by decide +kernel
theorem dX7_shellOf_61 : decode cX7_shellOf 61 = .ok (.if_icmp .ne 12, 3) := by decide +kernel
theorem dX7_shellOf_64 : decode cX7_shellOf 64 = .ok (.aload_n 0, 1) := by decide +kernel
theorem dX7_shellOf_65 : decode cX7_shellOf 65 = .ok (.getfield 16, 3) := by decide +kernel
theorem dX7_shellOf_68 : decode cX7_shellOf 68 = .ok (.iload_n 1, 1) := by decide +kernel
theorem dX7_shellOf_69 : decode cX7_shellOf 69 = .ok (.iaload, 1) := by decide +kernel
theorem dX7_shellOf_70 : decode cX7_shellOf 70 = .ok (.goto 17, 3) := by decide +kernel
theorem dX7_shellOf_73 : decode cX7_shellOf 73 = .ok (.aload_n 0, 1) := by decide +kernel
theorem dX7_shellOf_74 : decode cX7_shellOf 74 = .ok (.getfield 22, 3) := by decide +kernel
theorem dX7_shellOf_77 : decode cX7_shellOf 77 = .ok (.iload_n 1, 1) := by decide +kernel
theorem dX7_shellOf_78 : decode cX7_shellOf 78 = .ok (.baload, 1) := by decide +kernel
theorem dX7_shellOf_79 : decode cX7_shellOf 79 = .ok (.ifCond .eq 7, 3) := by decide +kernel
theorem dX7_shellOf_82 : decode cX7_shellOf 82 = .ok (.iconst 1, 1) := by decide +kernel
theorem dX7_shellOf_83 : decode cX7_shellOf 83 = .ok (.goto 4, 3) := by decide +kernel
theorem dX7_shellOf_86 : decode cX7_shellOf 86 = .ok (.iconst 0, 1) := by decide +kernel
theorem dX7_shellOf_87 : decode cX7_shellOf 87 = .ok (.ireturn, 1) := by decide +kernel
theorem dX7_list_0 : decode cX7_list 0 = .ok (.aload_n 0, 1) := by decide +kernel
theorem dX7_list_1 : decode cX7_list 1 = .ok (.iconst 0, 1) := by decide +kernel
theorem dX7_list_2 : decode cX7_list 2 = .ok (.putfield 114, 3) := by decide +kernel
theorem dX7_list_5 : decode cX7_list 5 = .ok (.aload_n 0, 1) := by decide +kernel
theorem dX7_list_6 : decode cX7_list 6 = .ok (.iload_n 1, 1) := by decide +kernel
theorem dX7_list_7 : decode cX7_list 7 = .ok (.iconst 1, 1) := by decide +kernel
theorem dX7_list_8 : decode cX7_list 8 = .ok (.if_icmp .lt 34, 3) := by decide +kernel
theorem dX7_list_11 : decode cX7_list 11 = .ok (.iload_n 1, 1) := by decide +kernel
theorem dX7_list_12 : decode cX7_list 12 = .ok (.iconst 3, 1) := by decide +kernel
theorem dX7_list_13 : decode cX7_list 13 = .ok (.if_icmp .gt 29, 3) := by decide +kernel
theorem dX7_list_16 : decode cX7_list 16 = .ok (.iload_n 2, 1) := by decide +kernel
theorem dX7_list_17 : decode cX7_list 17 = .ok (.iconst 1, 1) := by decide +kernel
theorem dX7_list_18 : decode cX7_list 18 = .ok (.if_icmp .lt 24, 3) := by decide +kernel
theorem dX7_list_21 : decode cX7_list 21 = .ok (.iload_n 2, 1) := by decide +kernel
theorem dX7_list_22 : decode cX7_list 22 = .ok (.bipush 9, 2) := by decide +kernel
theorem dX7_list_24 : decode cX7_list 24 = .ok (.if_icmp .gt 18, 3) := by decide +kernel
theorem dX7_list_27 : decode cX7_list 27 = .ok (.iload_n 3, 1) := by decide +kernel
theorem dX7_list_28 : decode cX7_list 28 = .ok (.ifCond .lt 14, 3) := by decide +kernel
theorem dX7_list_31 : decode cX7_list 31 = .ok (.iload_n 3, 1) := by decide +kernel
theorem dX7_list_32 : decode cX7_list 32 = .ok (.sipush 999, 3) := by decide +kernel
theorem dX7_list_35 : decode cX7_list 35 = .ok (.if_icmp .gt 7, 3) := by decide +kernel
theorem dX7_list_38 : decode cX7_list 38 = .ok (.iconst 1, 1) := by decide +kernel
theorem dX7_list_39 : decode cX7_list 39 = .ok (.goto 4, 3) := by decide +kernel
theorem dX7_list_42 : decode cX7_list 42 = .ok (.iconst 0, 1) := by decide +kernel
theorem dX7_list_43 : decode cX7_list 43 = .ok (.iconst 1, 1) := by decide +kernel
theorem dX7_list_44 : decode cX7_list 44 = .ok (.invokevirtual 121, 3) := by decide +kernel
theorem dX7_list_47 : decode cX7_list 47 = .ok (.ifCond .ne 5, 3) := by decide +kernel
theorem dX7_list_50 : decode cX7_list 50 = .ok (.iconst 0, 1) := by decide +kernel
theorem dX7_list_51 : decode cX7_list 51 = .ok (.ireturn, 1) := by decide +kernel
theorem dX7_list_52 : decode cX7_list 52 = .ok (.aload_n 0, 1) := by decide +kernel
theorem dX7_list_53 : decode cX7_list 53 = .ok (.getfield 26, 3) := by decide +kernel
theorem dX7_list_56 : decode cX7_list 56 = .ok (.bipush 10, 2) := by decide +kernel
theorem dX7_list_58 : decode cX7_list 58 = .ok (.iload_n 1, 1) := by decide +kernel
theorem dX7_list_59 : decode cX7_list 59 = .ok (.imul, 1) := by decide +kernel
theorem dX7_list_60 : decode cX7_list 60 = .ok (.iload_n 2, 1) := by decide +kernel
theorem dX7_list_61 : decode cX7_list 61 = .ok (.iadd, 1) := by decide +kernel
theorem dX7_list_62 : decode cX7_list 62 = .ok (.iaload, 1) := by decide +kernel
theorem dX7_list_63 : decode cX7_list 63 = .ok (.istore 4, 2) := by decide +kernel
theorem dX7_list_65 : decode cX7_list 65 = .ok (.aload_n 0, 1) := by decide +kernel
theorem dX7_list_66 : decode cX7_list 66 = .ok (.getfield 26, 3) := by decide +kernel
theorem dX7_list_69 : decode cX7_list 69 = .ok (.bipush 10, 2) := by decide +kernel
theorem dX7_list_71 : decode cX7_list 71 = .ok (.iload_n 1, 1) := by decide +kernel
theorem dX7_list_72 : decode cX7_list 72 = .ok (.imul, 1) := by decide +kernel
theorem dX7_list_73 : decode cX7_list 73 = .ok (.iload_n 2, 1) := by decide +kernel
theorem dX7_list_74 : decode cX7_list 74 = .ok (.iadd, 1) := by decide +kernel
theorem dX7_list_75 : decode cX7_list 75 = .ok (.iload_n 3, 1) := by decide +kernel
theorem dX7_list_76 : decode cX7_list 76 = .ok (.iastore, 1) := by decide +kernel
theorem dX7_list_77 : decode cX7_list 77 = .ok (.iload 4, 2) := by decide +kernel
theorem dX7_list_79 : decode cX7_list 79 = .ok (.ireturn, 1) := by decide +kernel
theorem dX7_thickness_0 : decode cX7_thickness 0 = .ok (.iload_n 2, 1) := by decide +kernel
theorem dX7_thickness_1 : decode cX7_thickness 1 = .ok (.aload_n 0, 1) := by decide +kernel
theorem dX7_thickness_2 : decode cX7_thickness 2 = .ok (.getfield 13, 3) := by decide +kernel
theorem dX7_thickness_5 : decode cX7_thickness 5 = .ok (.iload_n 1, 1) := by decide +kernel
theorem dX7_thickness_6 : decode cX7_thickness 6 = .ok (.iaload, 1) := by decide +kernel
theorem dX7_thickness_7 : decode cX7_thickness 7 = .ok (.idiv, 1) := by decide +kernel
theorem dX7_thickness_8 : decode cX7_thickness 8 = .ok (.istore 4, 2) := by decide +kernel
theorem dX7_thickness_10 : decode cX7_thickness 10 = .ok (.iload_n 2, 1) := by decide +kernel
theorem dX7_thickness_11 : decode cX7_thickness 11 = .ok (.aload_n 0, 1) := by decide +kernel
theorem dX7_thickness_12 : decode cX7_thickness 12 = .ok (.getfield 13, 3) := by decide +kernel
theorem dX7_thickness_15 : decode cX7_thickness 15 = .ok (.iload_n 1, 1) := by decide +kernel
theorem dX7_thickness_16 : decode cX7_thickness 16 = .ok (.iaload, 1) := by decide +kernel
theorem dX7_thickness_17 : decode cX7_thickness 17 = .ok (.irem, 1) := by decide +kernel
theorem dX7_thickness_18 : decode cX7_thickness 18 = .ok (.istore 5, 2) := by decide +kernel
theorem dX7_thickness_20 : decode cX7_thickness 20 = .ok (.iload 4, 2) := by decide +kernel
theorem dX7_thickness_22 : decode cX7_thickness 22 = .ok (.iload_n 3, 1) := by decide +kernel
theorem dX7_thickness_23 : decode cX7_thickness 23 = .ok (.iadd, 1) := by decide +kernel
theorem dX7_thickness_24 : decode cX7_thickness 24 = .ok (.aload_n 0, 1) := by decide +kernel
theorem dX7_thickness_25 : decode cX7_thickness 25 = .ok (.getfield 7, 3) := by decide +kernel
theorem dX7_thickness_28 : decode cX7_thickness 28 = .ok (.iload_n 1, 1) := by decide +kernel
theorem dX7_thickness_29 : decode cX7_thickness 29 = .ok (.iaload, 1) := by decide +kernel
theorem dX7_thickness_30 : decode cX7_thickness 30 = .ok (.if_icmp .gt 16, 3) := by decide +kernel
theorem dX7_thickness_33 : decode cX7_thickness 33 = .ok (.iload 5, 2) := by decide +kernel
theorem dX7_thickness_35 : decode cX7_thickness 35 = .ok (.iload_n 3, 1) := by decide +kernel
theorem dX7_thickness_36 : decode cX7_thickness 36 = .ok (.iadd, 1) := by decide +kernel
theorem dX7_thickness_37 : decode cX7_thickness 37 = .ok (.aload_n 0, 1) := by decide +kernel
theorem dX7_thickness_38 : decode cX7_thickness 38 = .ok (.getfield 13, 3) := by decide +kernel
theorem dX7_thickness_41 : decode cX7_thickness 41 = .ok (.iload_n 1, 1) := by decide +kernel
theorem dX7_thickness_42 : decode cX7_thickness 42 = .ok (.iaload, 1) := by decide +kernel
theorem dX7_thickness_43 : decode cX7_thickness 43 = .ok (.if_icmp .le 5, 3) := by decide +kernel
theorem dX7_thickness_46 : decode cX7_thickness 46 = .ok (.iconst 0, 1) := by decide +kernel
theorem dX7_thickness_47 : decode cX7_thickness 47 = .ok (.ireturn, 1) := by decide +kernel
theorem dX7_thickness_48 : decode cX7_thickness 48 = .ok (.bipush 9, 2) := by decide +kernel
theorem dX7_thickness_50 : decode cX7_thickness 50 = .ok (.istore 6, 2) := by decide +kernel
theorem dX7_thickness_52 : decode cX7_thickness 52 = .ok (.iload 4, 2) := by decide +kernel
theorem dX7_thickness_54 : decode cX7_thickness 54 = .ok (.istore 7, 2) := by decide +kernel
theorem dX7_thickness_56 : decode cX7_thickness 56 = .ok (.iload 7, 2) := by decide +kernel
theorem dX7_thickness_58 : decode cX7_thickness 58 = .ok (.iload 4, 2) := by decide +kernel
theorem dX7_thickness_60 : decode cX7_thickness 60 = .ok (.iload_n 3, 1) := by decide +kernel
theorem dX7_thickness_61 : decode cX7_thickness 61 = .ok (.iadd, 1) := by decide +kernel
theorem dX7_thickness_62 : decode cX7_thickness 62 = .ok (.if_icmp .ge 68, 3) := by decide +kernel
theorem dX7_thickness_65 : decode cX7_thickness 65 = .ok (.iload 5, 2) := by decide +kernel
theorem dX7_thickness_67 : decode cX7_thickness 67 = .ok (.istore 8, 2) := by decide +kernel
theorem dX7_thickness_69 : decode cX7_thickness 69 = .ok (.iload 8, 2) := by decide +kernel
theorem dX7_thickness_71 : decode cX7_thickness 71 = .ok (.iload 5, 2) := by decide +kernel
theorem dX7_thickness_73 : decode cX7_thickness 73 = .ok (.iload_n 3, 1) := by decide +kernel
theorem dX7_thickness_74 : decode cX7_thickness 74 = .ok (.iadd, 1) := by decide +kernel
theorem dX7_thickness_75 : decode cX7_thickness 75 = .ok (.if_icmp .ge 49, 3) := by decide +kernel
theorem dX7_thickness_78 : decode cX7_thickness 78 = .ok (.aload_n 0, 1) := by decide +kernel
theorem dX7_thickness_79 : decode cX7_thickness 79 = .ok (.getfield 19, 3) := by decide +kernel
theorem dX7_thickness_82 : decode cX7_thickness 82 = .ok (.bipush 36, 2) := by decide +kernel
theorem dX7_thickness_84 : decode cX7_thickness 84 = .ok (.iload_n 1, 1) := by decide +kernel
theorem dX7_thickness_85 : decode cX7_thickness 85 = .ok (.imul, 1) := by decide +kernel
theorem dX7_thickness_86 : decode cX7_thickness 86 = .ok (.aload_n 0, 1) := by decide +kernel
theorem dX7_thickness_87 : decode cX7_thickness 87 = .ok (.getfield 13, 3) := by decide +kernel
theorem dX7_thickness_90 : decode cX7_thickness 90 = .ok (.iload_n 1, 1) := by decide +kernel
theorem dX7_thickness_91 : decode cX7_thickness 91 = .ok (.iaload, 1) := by decide +kernel
theorem dX7_thickness_92 : decode cX7_thickness 92 = .ok (.iload 7, 2) := by decide +kernel
theorem dX7_thickness_94 : decode cX7_thickness 94 = .ok (.imul, 1) := by decide +kernel
theorem dX7_thickness_95 : decode cX7_thickness 95 = .ok (.iadd, 1) := by decide +kernel
theorem dX7_thickness_96 : decode cX7_thickness 96 = .ok (.iload 8, 2) := by decide +kernel
theorem dX7_thickness_98 : decode cX7_thickness 98 = .ok (.iadd, 1) := by decide +kernel
theorem dX7_thickness_99 : decode cX7_thickness 99 = .ok (.iaload, 1) := by decide +kernel
theorem dX7_thickness_100 : decode cX7_thickness 100 = .ok (.istore 9, 2) := by decide +kernel
theorem dX7_thickness_102 : decode cX7_thickness 102 = .ok (.iload 9, 2) := by decide +kernel
theorem dX7_thickness_104 : decode cX7_thickness 104 = .ok (.iload 6, 2) := by decide +kernel
theorem dX7_thickness_106 : decode cX7_thickness 106 = .ok (.if_icmp .ge 8, 3) := by decide +kernel
theorem dX7_thickness_109 : decode cX7_thickness 109 = .ok (.iload 9, 2) := by decide +kernel
theorem dX7_thickness_111 : decode cX7_thickness 111 = .ok (.goto 5, 3) := by decide +kernel
theorem dX7_thickness_114 : decode cX7_thickness 114 = .ok (.iload 6, 2) := by decide +kernel
theorem dX7_thickness_116 : decode cX7_thickness 116 = .ok (.istore 6, 2) := by decide +kernel
theorem dX7_thickness_118 : decode cX7_thickness 118 = .ok (.iinc 8 1, 3) := by decide +kernel
theorem dX7_thickness_121 : decode cX7_thickness 121 = .ok (.goto (-52), 3) := by decide +kernel
theorem dX7_thickness_124 : decode cX7_thickness 124 = .ok (.iinc 7 1, 3) := by decide +kernel
theorem dX7_thickness_127 : decode cX7_thickness 127 = .ok (.goto (-71), 3) := by decide +kernel
theorem dX7_thickness_130 : decode cX7_thickness 130 = .ok (.iload 6, 2) := by decide +kernel
theorem dX7_thickness_132 : decode cX7_thickness 132 = .ok (.ireturn, 1) := by decide +kernel
theorem dX7_taken_0 : decode cX7_taken 0 = .ok (.iload_n 2, 1) := by decide +kernel
theorem dX7_taken_1 : decode cX7_taken 1 = .ok (.aload_n 0, 1) := by decide +kernel
theorem dX7_taken_2 : decode cX7_taken 2 = .ok (.getfield 13, 3) := by decide +kernel
theorem dX7_taken_5 : decode cX7_taken 5 = .ok (.iload_n 1, 1) := by decide +kernel
theorem dX7_taken_6 : decode cX7_taken 6 = .ok (.iaload, 1) := by decide +kernel
theorem dX7_taken_7 : decode cX7_taken 7 = .ok (.irem, 1) := by decide +kernel
theorem dX7_taken_8 : decode cX7_taken 8 = .ok (.istore 5, 2) := by decide +kernel
theorem dX7_taken_10 : decode cX7_taken 10 = .ok (.iload_n 3, 1) := by decide +kernel
theorem dX7_taken_11 : decode cX7_taken 11 = .ok (.iconst 2, 1) := by decide +kernel
theorem dX7_taken_12 : decode cX7_taken 12 = .ok (.iload 5, 2) := by decide +kernel
theorem dX7_taken_14 : decode cX7_taken 14 = .ok (.imul, 1) := by decide +kernel
theorem dX7_taken_15 : decode cX7_taken 15 = .ok (.ishr, 1) := by decide +kernel
theorem dX7_taken_16 : decode cX7_taken 16 = .ok (.iconst 3, 1) := by decide +kernel
theorem dX7_taken_17 : decode cX7_taken 17 = .ok (.iand, 1) := by decide +kernel
theorem dX7_taken_18 : decode cX7_taken 18 = .ok (.istore 6, 2) := by decide +kernel
theorem dX7_taken_20 : decode cX7_taken 20 = .ok (.iload 6, 2) := by decide +kernel
theorem dX7_taken_22 : decode cX7_taken 22 = .ok (.ifCond .le 21, 3) := by decide +kernel
theorem dX7_taken_25 : decode cX7_taken 25 = .ok (.iload 4, 2) := by decide +kernel
theorem dX7_taken_27 : decode cX7_taken 27 = .ok (.ifCond .ne 14, 3) := by decide +kernel
theorem dX7_taken_30 : decode cX7_taken 30 = .ok (.iload_n 3, 1) := by decide +kernel
theorem dX7_taken_31 : decode cX7_taken 31 = .ok (.iconst 1, 1) := by decide +kernel
theorem dX7_taken_32 : decode cX7_taken 32 = .ok (.iconst 2, 1) := by decide +kernel
theorem dX7_taken_33 : decode cX7_taken 33 = .ok (.iload 5, 2) := by decide +kernel
theorem dX7_taken_35 : decode cX7_taken 35 = .ok (.imul, 1) := by decide +kernel
theorem dX7_taken_36 : decode cX7_taken 36 = .ok (.ishl, 1) := by decide +kernel
theorem dX7_taken_37 : decode cX7_taken 37 = .ok (.isub, 1) := by decide +kernel
theorem dX7_taken_38 : decode cX7_taken 38 = .ok (.goto 4, 3) := by decide +kernel
theorem dX7_taken_41 : decode cX7_taken 41 = .ok (.iconst (-1), 1) := by decide +kernel
theorem dX7_taken_42 : decode cX7_taken 42 = .ok (.ireturn, 1) := by decide +kernel
theorem dX7_taken_43 : decode cX7_taken 43 = .ok (.iload 4, 2) := by decide +kernel
theorem dX7_taken_45 : decode cX7_taken 45 = .ok (.ifCond .ne 5, 3) := by decide +kernel
theorem dX7_taken_48 : decode cX7_taken 48 = .ok (.iload_n 3, 1) := by decide +kernel
theorem dX7_taken_49 : decode cX7_taken 49 = .ok (.ireturn, 1) := by decide +kernel
theorem dX7_taken_50 : decode cX7_taken 50 = .ok (.iload_n 3, 1) := by decide +kernel
theorem dX7_taken_51 : decode cX7_taken 51 = .ok (.istore 7, 2) := by decide +kernel
theorem dX7_taken_53 : decode cX7_taken 53 = .ok (.iload 5, 2) := by decide +kernel
theorem dX7_taken_55 : decode cX7_taken 55 = .ok (.istore 8, 2) := by decide +kernel
theorem dX7_taken_57 : decode cX7_taken 57 = .ok (.iload 8, 2) := by decide +kernel
theorem dX7_taken_59 : decode cX7_taken 59 = .ok (.iload 5, 2) := by decide +kernel
theorem dX7_taken_61 : decode cX7_taken 61 = .ok (.iload 4, 2) := by decide +kernel
theorem dX7_taken_63 : decode cX7_taken 63 = .ok (.iadd, 1) := by decide +kernel
theorem dX7_taken_64 : decode cX7_taken 64 = .ok (.if_icmp .ge 34, 3) := by decide +kernel
theorem dX7_taken_67 : decode cX7_taken 67 = .ok (.iload_n 3, 1) := by decide +kernel
theorem dX7_taken_68 : decode cX7_taken 68 = .ok (.iconst 2, 1) := by decide +kernel
theorem dX7_taken_69 : decode cX7_taken 69 = .ok (.iload 8, 2) := by decide +kernel
theorem dX7_taken_71 : decode cX7_taken 71 = .ok (.imul, 1) := by decide +kernel
theorem dX7_taken_72 : decode cX7_taken 72 = .ok (.ishr, 1) := by decide +kernel
theorem dX7_taken_73 : decode cX7_taken 73 = .ok (.iconst 3, 1) := by decide +kernel
theorem dX7_taken_74 : decode cX7_taken 74 = .ok (.iand, 1) := by decide +kernel
theorem dX7_taken_75 : decode cX7_taken 75 = .ok (.ifCond .eq 5, 3) := by decide +kernel
theorem dX7_taken_78 : decode cX7_taken 78 = .ok (.iconst (-1), 1) := by decide +kernel
theorem dX7_taken_79 : decode cX7_taken 79 = .ok (.ireturn, 1) := by decide +kernel
theorem dX7_taken_80 : decode cX7_taken 80 = .ok (.iload 7, 2) := by decide +kernel
theorem dX7_taken_82 : decode cX7_taken 82 = .ok (.iload 4, 2) := by decide +kernel
theorem dX7_taken_84 : decode cX7_taken 84 = .ok (.iconst 2, 1) := by decide +kernel
theorem dX7_taken_85 : decode cX7_taken 85 = .ok (.iload 8, 2) := by decide +kernel
theorem dX7_taken_87 : decode cX7_taken 87 = .ok (.imul, 1) := by decide +kernel
theorem dX7_taken_88 : decode cX7_taken 88 = .ok (.ishl, 1) := by decide +kernel
theorem dX7_taken_89 : decode cX7_taken 89 = .ok (.ior, 1) := by decide +kernel
theorem dX7_taken_90 : decode cX7_taken 90 = .ok (.istore 7, 2) := by decide +kernel
theorem dX7_taken_92 : decode cX7_taken 92 = .ok (.iinc 8 1, 3) := by decide +kernel
theorem dX7_taken_95 : decode cX7_taken 95 = .ok (.goto (-38), 3) := by decide +kernel
theorem dX7_taken_98 : decode cX7_taken 98 = .ok (.iload 7, 2) := by decide +kernel
theorem dX7_taken_100 : decode cX7_taken 100 = .ok (.iconst 1, 1) := by decide +kernel
theorem dX7_taken_101 : decode cX7_taken 101 = .ok (.iconst 2, 1) := by decide +kernel
theorem dX7_taken_102 : decode cX7_taken 102 = .ok (.iload 5, 2) := by decide +kernel
theorem dX7_taken_104 : decode cX7_taken 104 = .ok (.imul, 1) := by decide +kernel
theorem dX7_taken_105 : decode cX7_taken 105 = .ok (.ishl, 1) := by decide +kernel
theorem dX7_taken_106 : decode cX7_taken 106 = .ok (.isub, 1) := by decide +kernel
theorem dX7_taken_107 : decode cX7_taken 107 = .ok (.ireturn, 1) := by decide +kernel
theorem dX7_comes_0 : decode cX7_comes 0 = .ok (.iload 4, 2) := by decide +kernel
theorem dX7_comes_2 : decode cX7_comes 2 = .ok (.ifCond .ne 7, 3) := by decide +kernel
theorem dX7_comes_5 : decode cX7_comes 5 = .ok (.iconst 1, 1) := by decide +kernel
theorem dX7_comes_6 : decode cX7_comes 6 = .ok (.goto 11, 3) := by decide +kernel
theorem dX7_comes_9 : decode cX7_comes 9 = .ok (.aload_n 0, 1) := by decide +kernel
theorem dX7_comes_10 : decode cX7_comes 10 = .ok (.iload_n 1, 1) := by decide +kernel
theorem dX7_comes_11 : decode cX7_comes 11 = .ok (.iload_n 2, 1) := by decide +kernel
theorem dX7_comes_12 : decode cX7_comes 12 = .ok (.iload 4, 2) := by decide +kernel
theorem dX7_comes_14 : decode cX7_comes 14 = .ok (.invokevirtual 129, 3) := by decide +kernel
theorem dX7_comes_17 : decode cX7_comes 17 = .ok (.istore 5, 2) := by decide +kernel
theorem dX7_comes_19 : decode cX7_comes 19 = .ok (.iload 5, 2) := by decide +kernel
theorem dX7_comes_21 : decode cX7_comes 21 = .ok (.ifCond .ne 6, 3) := by decide +kernel
theorem dX7_comes_24 : decode cX7_comes 24 = .ok (.ldc 133, 2) := by decide +kernel
theorem dX7_comes_26 : decode cX7_comes 26 = .ok (.ireturn, 1) := by decide +kernel
theorem dX7_comes_27 : decode cX7_comes 27 = .ok (.aload_n 0, 1) := by decide +kernel
theorem dX7_comes_28 : decode cX7_comes 28 = .ok (.iload_n 1, 1) := by decide +kernel
theorem dX7_comes_29 : decode cX7_comes 29 = .ok (.iload_n 2, 1) := by decide +kernel
theorem dX7_comes_30 : decode cX7_comes 30 = .ok (.iload_n 3, 1) := by decide +kernel
theorem dX7_comes_31 : decode cX7_comes 31 = .ok (.iload 4, 2) := by decide +kernel
theorem dX7_comes_33 : decode cX7_comes 33 = .ok (.invokevirtual 134, 3) := by decide +kernel
theorem dX7_comes_36 : decode cX7_comes 36 = .ok (.istore 6, 2) := by decide +kernel
theorem dX7_comes_38 : decode cX7_comes 38 = .ok (.iload 6, 2) := by decide +kernel
theorem dX7_comes_40 : decode cX7_comes 40 = .ok (.iconst (-1), 1) := by decide +kernel
theorem dX7_comes_41 : decode cX7_comes 41 = .ok (.if_icmp .ne 6, 3) := by decide +kernel
theorem dX7_comes_44 : decode cX7_comes 44 = .ok (.ldc 133, 2) := by decide +kernel
theorem dX7_comes_46 : decode cX7_comes 46 = .ok (.ireturn, 1) := by decide +kernel
theorem dX7_comes_47 : decode cX7_comes 47 = .ok (.aload_n 0, 1) := by decide +kernel
theorem dX7_comes_48 : decode cX7_comes 48 = .ok (.getfield 108, 3) := by decide +kernel
theorem dX7_comes_51 : decode cX7_comes 51 = .ok (.sipush 4096, 3) := by decide +kernel
theorem dX7_comes_54 : decode cX7_comes 54 = .ok (.iload_n 2, 1) := by decide +kernel
theorem dX7_comes_55 : decode cX7_comes 55 = .ok (.iconst 1, 1) := by decide +kernel
theorem dX7_comes_56 : decode cX7_comes 56 = .ok (.iadd, 1) := by decide +kernel
theorem dX7_comes_57 : decode cX7_comes 57 = .ok (.imul, 1) := by decide +kernel
theorem dX7_comes_58 : decode cX7_comes 58 = .ok (.iload 6, 2) := by decide +kernel
theorem dX7_comes_60 : decode cX7_comes 60 = .ok (.iadd, 1) := by decide +kernel
theorem dX7_comes_61 : decode cX7_comes 61 = .ok (.iaload, 1) := by decide +kernel
theorem dX7_comes_62 : decode cX7_comes 62 = .ok (.iload 4, 2) := by decide +kernel
theorem dX7_comes_64 : decode cX7_comes 64 = .ok (.ifCond .ne 7, 3) := by decide +kernel
theorem dX7_comes_67 : decode cX7_comes 67 = .ok (.iconst 0, 1) := by decide +kernel
theorem dX7_comes_68 : decode cX7_comes 68 = .ok (.goto 21, 3) := by decide +kernel
theorem dX7_comes_71 : decode cX7_comes 71 = .ok (.bipush 100, 2) := by decide +kernel
theorem dX7_comes_73 : decode cX7_comes 73 = .ok (.aload_n 0, 1) := by decide +kernel
theorem dX7_comes_74 : decode cX7_comes 74 = .ok (.getfield 26, 3) := by decide +kernel
theorem dX7_comes_77 : decode cX7_comes 77 = .ok (.bipush 10, 2) := by decide +kernel
theorem dX7_comes_79 : decode cX7_comes 79 = .ok (.iload 4, 2) := by decide +kernel
theorem dX7_comes_81 : decode cX7_comes 81 = .ok (.imul, 1) := by decide +kernel
theorem dX7_comes_82 : decode cX7_comes 82 = .ok (.iload 5, 2) := by decide +kernel
theorem dX7_comes_84 : decode cX7_comes 84 = .ok (.iadd, 1) := by decide +kernel
theorem dX7_comes_85 : decode cX7_comes 85 = .ok (.iaload, 1) := by decide +kernel
theorem dX7_comes_86 : decode cX7_comes 86 = .ok (.imul, 1) := by decide +kernel
theorem dX7_comes_87 : decode cX7_comes 87 = .ok (.iconst 1, 1) := by decide +kernel
theorem dX7_comes_88 : decode cX7_comes 88 = .ok (.isub, 1) := by decide +kernel
theorem dX7_comes_89 : decode cX7_comes 89 = .ok (.iadd, 1) := by decide +kernel
theorem dX7_comes_90 : decode cX7_comes 90 = .ok (.ireturn, 1) := by decide +kernel
theorem dX7_finds_0 : decode cX7_finds 0 = .ok (.aload_n 0, 1) := by decide +kernel
theorem dX7_finds_1 : decode cX7_finds 1 = .ok (.getfield 7, 3) := by decide +kernel
theorem dX7_finds_4 : decode cX7_finds 4 = .ok (.iload_n 1, 1) := by decide +kernel
theorem dX7_finds_5 : decode cX7_finds 5 = .ok (.iaload, 1) := by decide +kernel
theorem dX7_finds_6 : decode cX7_finds 6 = .ok (.aload_n 0, 1) := by decide +kernel
theorem dX7_finds_7 : decode cX7_finds 7 = .ok (.getfield 13, 3) := by decide +kernel
theorem dX7_finds_10 : decode cX7_finds 10 = .ok (.iload_n 1, 1) := by decide +kernel
theorem dX7_finds_11 : decode cX7_finds 11 = .ok (.iaload, 1) := by decide +kernel
theorem dX7_finds_12 : decode cX7_finds 12 = .ok (.imul, 1) := by decide +kernel
theorem dX7_finds_13 : decode cX7_finds 13 = .ok (.istore_n 2, 1) := by decide +kernel
theorem dX7_finds_14 : decode cX7_finds 14 = .ok (.iconst 1, 1) := by decide +kernel
theorem dX7_finds_15 : decode cX7_finds 15 = .ok (.iconst 2, 1) := by decide +kernel
theorem dX7_finds_16 : decode cX7_finds 16 = .ok (.aload_n 0, 1) := by decide +kernel
theorem dX7_finds_17 : decode cX7_finds 17 = .ok (.getfield 13, 3) := by decide +kernel
theorem dX7_finds_20 : decode cX7_finds 20 = .ok (.iload_n 1, 1) := by decide +kernel
theorem dX7_finds_21 : decode cX7_finds 21 = .ok (.iaload, 1) := by decide +kernel
theorem dX7_finds_22 : decode cX7_finds 22 = .ok (.imul, 1) := by decide +kernel
theorem dX7_finds_23 : decode cX7_finds 23 = .ok (.ishl, 1) := by decide +kernel
theorem dX7_finds_24 : decode cX7_finds 24 = .ok (.istore_n 3, 1) := by decide +kernel
theorem dX7_finds_25 : decode cX7_finds 25 = .ok (.iconst 0, 1) := by decide +kernel
theorem dX7_finds_26 : decode cX7_finds 26 = .ok (.istore 4, 2) := by decide +kernel
theorem dX7_finds_28 : decode cX7_finds 28 = .ok (.iload 4, 2) := by decide +kernel
theorem dX7_finds_30 : decode cX7_finds 30 = .ok (.iload_n 3, 1) := by decide +kernel
theorem dX7_finds_31 : decode cX7_finds 31 = .ok (.if_icmp .ge 23, 3) := by decide +kernel
theorem dX7_finds_34 : decode cX7_finds 34 = .ok (.aload_n 0, 1) := by decide +kernel
theorem dX7_finds_35 : decode cX7_finds 35 = .ok (.getfield 108, 3) := by decide +kernel
theorem dX7_finds_38 : decode cX7_finds 38 = .ok (.sipush 4096, 3) := by decide +kernel
theorem dX7_finds_41 : decode cX7_finds 41 = .ok (.iload_n 2, 1) := by decide +kernel
theorem dX7_finds_42 : decode cX7_finds 42 = .ok (.imul, 1) := by decide +kernel
theorem dX7_finds_43 : decode cX7_finds 43 = .ok (.iload 4, 2) := by decide +kernel
theorem dX7_finds_45 : decode cX7_finds 45 = .ok (.iadd, 1) := by decide +kernel
theorem dX7_finds_46 : decode cX7_finds 46 = .ok (.iconst 0, 1) := by decide +kernel
theorem dX7_finds_47 : decode cX7_finds 47 = .ok (.iastore, 1) := by decide +kernel
theorem dX7_finds_48 : decode cX7_finds 48 = .ok (.iinc 4 1, 3) := by decide +kernel
theorem dX7_finds_51 : decode cX7_finds 51 = .ok (.goto (-23), 3) := by decide +kernel
theorem dX7_finds_54 : decode cX7_finds 54 = .ok (.iload_n 2, 1) := by decide +kernel
theorem dX7_finds_55 : decode cX7_finds 55 = .ok (.iconst 1, 1) := by decide +kernel
theorem dX7_finds_56 : decode cX7_finds 56 = .ok (.isub, 1) := by decide +kernel
theorem dX7_finds_57 : decode cX7_finds 57 = .ok (.istore 4, 2) := by decide +kernel
theorem dX7_finds_59 : decode cX7_finds 59 = .ok (.iload 4, 2) := by decide +kernel
theorem dX7_finds_61 : decode cX7_finds 61 = .ok (.ifCond .lt 88, 3) := by decide +kernel
theorem dX7_finds_64 : decode cX7_finds 64 = .ok (.iconst 0, 1) := by decide +kernel
theorem dX7_finds_65 : decode cX7_finds 65 = .ok (.istore 5, 2) := by decide +kernel
theorem dX7_finds_67 : decode cX7_finds 67 = .ok (.iload 5, 2) := by decide +kernel
theorem dX7_finds_69 : decode cX7_finds 69 = .ok (.iload_n 3, 1) := by decide +kernel
theorem dX7_finds_70 : decode cX7_finds 70 = .ok (.if_icmp .ge 73, 3) := by decide +kernel
theorem dX7_finds_73 : decode cX7_finds 73 = .ok (.ldc 133, 2) := by decide +kernel
theorem dX7_finds_75 : decode cX7_finds 75 = .ok (.istore 6, 2) := by decide +kernel
theorem dX7_finds_77 : decode cX7_finds 77 = .ok (.iconst 0, 1) := by decide +kernel
theorem dX7_finds_78 : decode cX7_finds 78 = .ok (.istore 7, 2) := by decide +kernel
theorem dX7_finds_80 : decode cX7_finds 80 = .ok (.iload 7, 2) := by decide +kernel
theorem dX7_finds_82 : decode cX7_finds 82 = .ok (.iconst 3, 1) := by decide +kernel
theorem dX7_finds_83 : decode cX7_finds 83 = .ok (.if_icmp .gt 38, 3) := by decide +kernel
theorem dX7_finds_86 : decode cX7_finds 86 = .ok (.aload_n 0, 1) := by decide +kernel
theorem dX7_finds_87 : decode cX7_finds 87 = .ok (.iload_n 1, 1) := by decide +kernel
theorem dX7_finds_88 : decode cX7_finds 88 = .ok (.iload 4, 2) := by decide +kernel
theorem dX7_finds_90 : decode cX7_finds 90 = .ok (.iload 5, 2) := by decide +kernel
theorem dX7_finds_92 : decode cX7_finds 92 = .ok (.iload 7, 2) := by decide +kernel
theorem dX7_finds_94 : decode cX7_finds 94 = .ok (.invokevirtual 138, 3) := by decide +kernel
theorem dX7_finds_97 : decode cX7_finds 97 = .ok (.istore 8, 2) := by decide +kernel
theorem dX7_finds_99 : decode cX7_finds 99 = .ok (.iload 8, 2) := by decide +kernel
theorem dX7_finds_101 : decode cX7_finds 101 = .ok (.iload 6, 2) := by decide +kernel
theorem dX7_finds_103 : decode cX7_finds 103 = .ok (.if_icmp .le 8, 3) := by decide +kernel
theorem dX7_finds_106 : decode cX7_finds 106 = .ok (.iload 8, 2) := by decide +kernel
theorem dX7_finds_108 : decode cX7_finds 108 = .ok (.goto 5, 3) := by decide +kernel
theorem dX7_finds_111 : decode cX7_finds 111 = .ok (.iload 6, 2) := by decide +kernel
theorem dX7_finds_113 : decode cX7_finds 113 = .ok (.istore 6, 2) := by decide +kernel
theorem dX7_finds_115 : decode cX7_finds 115 = .ok (.iinc 7 1, 3) := by decide +kernel
theorem dX7_finds_118 : decode cX7_finds 118 = .ok (.goto (-38), 3) := by decide +kernel
theorem dX7_finds_121 : decode cX7_finds 121 = .ok (.aload_n 0, 1) := by decide +kernel
theorem dX7_finds_122 : decode cX7_finds 122 = .ok (.getfield 108, 3) := by decide +kernel
theorem dX7_finds_125 : decode cX7_finds 125 = .ok (.sipush 4096, 3) := by decide +kernel
theorem dX7_finds_128 : decode cX7_finds 128 = .ok (.iload 4, 2) := by decide +kernel
theorem dX7_finds_130 : decode cX7_finds 130 = .ok (.imul, 1) := by decide +kernel
theorem dX7_finds_131 : decode cX7_finds 131 = .ok (.iload 5, 2) := by decide +kernel
theorem dX7_finds_133 : decode cX7_finds 133 = .ok (.iadd, 1) := by decide +kernel
theorem dX7_finds_134 : decode cX7_finds 134 = .ok (.iload 6, 2) := by decide +kernel
theorem dX7_finds_136 : decode cX7_finds 136 = .ok (.iastore, 1) := by decide +kernel
theorem dX7_finds_137 : decode cX7_finds 137 = .ok (.iinc 5 1, 3) := by decide +kernel
theorem dX7_finds_140 : decode cX7_finds 140 = .ok (.goto (-73), 3) := by decide +kernel
theorem dX7_finds_143 : decode cX7_finds 143 = .ok (.iinc 4 (-1), 3) := by decide +kernel
theorem dX7_finds_146 : decode cX7_finds 146 = .ok (.goto (-87), 3) := by decide +kernel
theorem dX7_finds_149 : decode cX7_finds 149 = .ok (.aload_n 0, 1) := by decide +kernel
theorem dX7_finds_150 : decode cX7_finds 150 = .ok (.iconst 0, 1) := by decide +kernel
theorem dX7_finds_151 : decode cX7_finds 151 = .ok (.putfield 141, 3) := by decide +kernel
theorem dX7_finds_154 : decode cX7_finds 154 = .ok (.aload_n 0, 1) := by decide +kernel
theorem dX7_finds_155 : decode cX7_finds 155 = .ok (.iconst 0, 1) := by decide +kernel
theorem dX7_finds_156 : decode cX7_finds 156 = .ok (.putfield 144, 3) := by decide +kernel
theorem dX7_finds_159 : decode cX7_finds 159 = .ok (.iconst 0, 1) := by decide +kernel
theorem dX7_finds_160 : decode cX7_finds 160 = .ok (.istore 4, 2) := by decide +kernel
theorem dX7_finds_162 : decode cX7_finds 162 = .ok (.iconst 0, 1) := by decide +kernel
theorem dX7_finds_163 : decode cX7_finds 163 = .ok (.istore 5, 2) := by decide +kernel
theorem dX7_finds_165 : decode cX7_finds 165 = .ok (.iload 5, 2) := by decide +kernel
theorem dX7_finds_167 : decode cX7_finds 167 = .ok (.iload_n 2, 1) := by decide +kernel
theorem dX7_finds_168 : decode cX7_finds 168 = .ok (.if_icmp .ge 112, 3) := by decide +kernel
theorem dX7_finds_171 : decode cX7_finds 171 = .ok (.iconst 3, 1) := by decide +kernel
theorem dX7_finds_172 : decode cX7_finds 172 = .ok (.istore 6, 2) := by decide +kernel
theorem dX7_finds_174 : decode cX7_finds 174 = .ok (.aload_n 0, 1) := by decide +kernel
theorem dX7_finds_175 : decode cX7_finds 175 = .ok (.iload_n 1, 1) := by decide +kernel
theorem dX7_finds_176 : decode cX7_finds 176 = .ok (.iload 5, 2) := by decide +kernel
theorem dX7_finds_178 : decode cX7_finds 178 = .ok (.iload 4, 2) := by decide +kernel
theorem dX7_finds_180 : decode cX7_finds 180 = .ok (.iload 6, 2) := by decide +kernel
theorem dX7_finds_182 : decode cX7_finds 182 = .ok (.invokevirtual 138, 3) := by decide +kernel
theorem dX7_finds_185 : decode cX7_finds 185 = .ok (.aload_n 0, 1) := by decide +kernel
theorem dX7_finds_186 : decode cX7_finds 186 = .ok (.getfield 108, 3) := by decide +kernel
theorem dX7_finds_189 : decode cX7_finds 189 = .ok (.sipush 4096, 3) := by decide +kernel
theorem dX7_finds_192 : decode cX7_finds 192 = .ok (.iload 5, 2) := by decide +kernel
theorem dX7_finds_194 : decode cX7_finds 194 = .ok (.imul, 1) := by decide +kernel
theorem dX7_finds_195 : decode cX7_finds 195 = .ok (.iload 4, 2) := by decide +kernel
theorem dX7_finds_197 : decode cX7_finds 197 = .ok (.iadd, 1) := by decide +kernel
theorem dX7_finds_198 : decode cX7_finds 198 = .ok (.iaload, 1) := by decide +kernel
theorem dX7_finds_199 : decode cX7_finds 199 = .ok (.if_icmp .eq 9, 3) := by decide +kernel
theorem dX7_finds_202 : decode cX7_finds 202 = .ok (.iinc 6 (-1), 3) := by decide +kernel
theorem dX7_finds_205 : decode cX7_finds 205 = .ok (.goto (-31), 3) := by decide +kernel
theorem dX7_finds_208 : decode cX7_finds 208 = .ok (.aload_n 0, 1) := by decide +kernel
theorem dX7_finds_209 : decode cX7_finds 209 = .ok (.getfield 111, 3) := by decide +kernel
theorem dX7_finds_212 : decode cX7_finds 212 = .ok (.iload 5, 2) := by decide +kernel
theorem dX7_finds_214 : decode cX7_finds 214 = .ok (.iload 6, 2) := by decide +kernel
theorem dX7_finds_216 : decode cX7_finds 216 = .ok (.iastore, 1) := by decide +kernel
theorem dX7_finds_217 : decode cX7_finds 217 = .ok (.iload 6, 2) := by decide +kernel
theorem dX7_finds_219 : decode cX7_finds 219 = .ok (.ifCond .le 42, 3) := by decide +kernel
theorem dX7_finds_222 : decode cX7_finds 222 = .ok (.aload_n 0, 1) := by decide +kernel
theorem dX7_finds_223 : decode cX7_finds 223 = .ok (.dup, 1) := by decide +kernel
theorem dX7_finds_224 : decode cX7_finds 224 = .ok (.getfield 141, 3) := by decide +kernel
theorem dX7_finds_227 : decode cX7_finds 227 = .ok (.iconst 1, 1) := by decide +kernel
theorem dX7_finds_228 : decode cX7_finds 228 = .ok (.iadd, 1) := by decide +kernel
theorem dX7_finds_229 : decode cX7_finds 229 = .ok (.putfield 141, 3) := by decide +kernel
theorem dX7_finds_232 : decode cX7_finds 232 = .ok (.aload_n 0, 1) := by decide +kernel
theorem dX7_finds_233 : decode cX7_finds 233 = .ok (.dup, 1) := by decide +kernel
theorem dX7_finds_234 : decode cX7_finds 234 = .ok (.getfield 144, 3) := by decide +kernel
theorem dX7_finds_237 : decode cX7_finds 237 = .ok (.aload_n 0, 1) := by decide +kernel
theorem dX7_finds_238 : decode cX7_finds 238 = .ok (.getfield 26, 3) := by decide +kernel
theorem dX7_finds_241 : decode cX7_finds 241 = .ok (.bipush 10, 2) := by decide +kernel
theorem dX7_finds_243 : decode cX7_finds 243 = .ok (.iload 6, 2) := by decide +kernel
theorem dX7_finds_245 : decode cX7_finds 245 = .ok (.imul, 1) := by decide +kernel
theorem dX7_finds_246 : decode cX7_finds 246 = .ok (.aload_n 0, 1) := by decide +kernel
theorem dX7_finds_247 : decode cX7_finds 247 = .ok (.iload_n 1, 1) := by decide +kernel
theorem dX7_finds_248 : decode cX7_finds 248 = .ok (.iload 5, 2) := by decide +kernel
theorem dX7_finds_250 : decode cX7_finds 250 = .ok (.iload 6, 2) := by decide +kernel
theorem dX7_finds_252 : decode cX7_finds 252 = .ok (.invokevirtual 129, 3) := by decide +kernel
theorem dX7_finds_255 : decode cX7_finds 255 = .ok (.iadd, 1) := by decide +kernel
theorem dX7_finds_256 : decode cX7_finds 256 = .ok (.iaload, 1) := by decide +kernel
theorem dX7_finds_257 : decode cX7_finds 257 = .ok (.iadd, 1) := by decide +kernel
theorem dX7_finds_258 : decode cX7_finds 258 = .ok (.putfield 144, 3) := by decide +kernel
theorem dX7_finds_261 : decode cX7_finds 261 = .ok (.aload_n 0, 1) := by decide +kernel
theorem dX7_finds_262 : decode cX7_finds 262 = .ok (.iload_n 1, 1) := by decide +kernel
theorem dX7_finds_263 : decode cX7_finds 263 = .ok (.iload 5, 2) := by decide +kernel
theorem dX7_finds_265 : decode cX7_finds 265 = .ok (.iload 4, 2) := by decide +kernel
theorem dX7_finds_267 : decode cX7_finds 267 = .ok (.iload 6, 2) := by decide +kernel
theorem dX7_finds_269 : decode cX7_finds 269 = .ok (.invokevirtual 134, 3) := by decide +kernel
theorem dX7_finds_272 : decode cX7_finds 272 = .ok (.istore 4, 2) := by decide +kernel
theorem dX7_finds_274 : decode cX7_finds 274 = .ok (.iinc 5 1, 3) := by decide +kernel
theorem dX7_finds_277 : decode cX7_finds 277 = .ok (.goto (-112), 3) := by decide +kernel
theorem dX7_finds_280 : decode cX7_finds 280 = .ok (.return_, 1) := by decide +kernel
theorem dX7_best_0 : decode cX7_best 0 = .ok (.aload_n 0, 1) := by decide +kernel
theorem dX7_best_1 : decode cX7_best 1 = .ok (.iload_n 1, 1) := by decide +kernel
theorem dX7_best_2 : decode cX7_best 2 = .ok (.invokevirtual 125, 3) := by decide +kernel
theorem dX7_best_5 : decode cX7_best 5 = .ok (.ifCond .eq 25, 3) := by decide +kernel
theorem dX7_best_8 : decode cX7_best 8 = .ok (.aload_n 0, 1) := by decide +kernel
theorem dX7_best_9 : decode cX7_best 9 = .ok (.iload_n 2, 1) := by decide +kernel
theorem dX7_best_10 : decode cX7_best 10 = .ok (.ifCond .eq 8, 3) := by decide +kernel
theorem dX7_best_13 : decode cX7_best 13 = .ok (.iload_n 2, 1) := by decide +kernel
theorem dX7_best_14 : decode cX7_best 14 = .ok (.iconst 1, 1) := by decide +kernel
theorem dX7_best_15 : decode cX7_best 15 = .ok (.if_icmp .ne 7, 3) := by decide +kernel
theorem dX7_best_18 : decode cX7_best 18 = .ok (.iconst 1, 1) := by decide +kernel
theorem dX7_best_19 : decode cX7_best 19 = .ok (.goto 4, 3) := by decide +kernel
theorem dX7_best_22 : decode cX7_best 22 = .ok (.iconst 0, 1) := by decide +kernel
theorem dX7_best_23 : decode cX7_best 23 = .ok (.iconst 1, 1) := by decide +kernel
theorem dX7_best_24 : decode cX7_best 24 = .ok (.invokevirtual 121, 3) := by decide +kernel
theorem dX7_best_27 : decode cX7_best 27 = .ok (.ifCond .ne 5, 3) := by decide +kernel
theorem dX7_best_30 : decode cX7_best 30 = .ok (.iconst 0, 1) := by decide +kernel
theorem dX7_best_31 : decode cX7_best 31 = .ok (.ireturn, 1) := by decide +kernel
theorem dX7_best_32 : decode cX7_best 32 = .ok (.aload_n 0, 1) := by decide +kernel
theorem dX7_best_33 : decode cX7_best 33 = .ok (.iload_n 1, 1) := by decide +kernel
theorem dX7_best_34 : decode cX7_best 34 = .ok (.invokevirtual 147, 3) := by decide +kernel
theorem dX7_best_37 : decode cX7_best 37 = .ok (.iload_n 2, 1) := by decide +kernel
theorem dX7_best_38 : decode cX7_best 38 = .ok (.ifCond .ne 10, 3) := by decide +kernel
theorem dX7_best_41 : decode cX7_best 41 = .ok (.aload_n 0, 1) := by decide +kernel
theorem dX7_best_42 : decode cX7_best 42 = .ok (.getfield 144, 3) := by decide +kernel
theorem dX7_best_45 : decode cX7_best 45 = .ok (.goto 7, 3) := by decide +kernel
theorem dX7_best_48 : decode cX7_best 48 = .ok (.aload_n 0, 1) := by decide +kernel
theorem dX7_best_49 : decode cX7_best 49 = .ok (.getfield 141, 3) := by decide +kernel
theorem dX7_best_52 : decode cX7_best 52 = .ok (.ireturn, 1) := by decide +kernel
theorem dX7_bestAt_0 : decode cX7_bestAt 0 = .ok (.aload_n 0, 1) := by decide +kernel
theorem dX7_bestAt_1 : decode cX7_bestAt 1 = .ok (.iload_n 1, 1) := by decide +kernel
theorem dX7_bestAt_2 : decode cX7_bestAt 2 = .ok (.invokevirtual 125, 3) := by decide +kernel
theorem dX7_bestAt_5 : decode cX7_bestAt 5 = .ok (.ifCond .eq 37, 3) := by decide +kernel
theorem dX7_bestAt_8 : decode cX7_bestAt 8 = .ok (.aload_n 0, 1) := by decide +kernel
theorem dX7_bestAt_9 : decode cX7_bestAt 9 = .ok (.iload_n 2, 1) := by decide +kernel
theorem dX7_bestAt_10 : decode cX7_bestAt 10 = .ok (.ifCond .lt 24, 3) := by decide +kernel
theorem dX7_bestAt_13 : decode cX7_bestAt 13 = .ok (.iload_n 2, 1) := by decide +kernel
theorem dX7_bestAt_14 : decode cX7_bestAt 14 = .ok (.aload_n 0, 1) := by decide +kernel
theorem dX7_bestAt_15 : decode cX7_bestAt 15 = .ok (.getfield 7, 3) := by decide +kernel
theorem dX7_bestAt_18 : decode cX7_bestAt 18 = .ok (.iload_n 1, 1) := by decide +kernel
theorem dX7_bestAt_19 : decode cX7_bestAt 19 = .ok (.iaload, 1) := by decide +kernel
theorem dX7_bestAt_20 : decode cX7_bestAt 20 = .ok (.aload_n 0, 1) := by decide +kernel
theorem dX7_bestAt_21 : decode cX7_bestAt 21 = .ok (.getfield 13, 3) := by decide +kernel
theorem dX7_bestAt_24 : decode cX7_bestAt 24 = .ok (.iload_n 1, 1) := by decide +kernel
theorem dX7_bestAt_25 : decode cX7_bestAt 25 = .ok (.iaload, 1) := by decide +kernel
theorem dX7_bestAt_26 : decode cX7_bestAt 26 = .ok (.imul, 1) := by decide +kernel
theorem dX7_bestAt_27 : decode cX7_bestAt 27 = .ok (.if_icmp .ge 7, 3) := by decide +kernel
theorem dX7_bestAt_30 : decode cX7_bestAt 30 = .ok (.iconst 1, 1) := by decide +kernel
theorem dX7_bestAt_31 : decode cX7_bestAt 31 = .ok (.goto 4, 3) := by decide +kernel
theorem dX7_bestAt_34 : decode cX7_bestAt 34 = .ok (.iconst 0, 1) := by decide +kernel
theorem dX7_bestAt_35 : decode cX7_bestAt 35 = .ok (.iconst 1, 1) := by decide +kernel
theorem dX7_bestAt_36 : decode cX7_bestAt 36 = .ok (.invokevirtual 121, 3) := by decide +kernel
theorem dX7_bestAt_39 : decode cX7_bestAt 39 = .ok (.ifCond .ne 5, 3) := by decide +kernel
theorem dX7_bestAt_42 : decode cX7_bestAt 42 = .ok (.iconst 0, 1) := by decide +kernel
theorem dX7_bestAt_43 : decode cX7_bestAt 43 = .ok (.ireturn, 1) := by decide +kernel
theorem dX7_bestAt_44 : decode cX7_bestAt 44 = .ok (.aload_n 0, 1) := by decide +kernel
theorem dX7_bestAt_45 : decode cX7_bestAt 45 = .ok (.iload_n 1, 1) := by decide +kernel
theorem dX7_bestAt_46 : decode cX7_bestAt 46 = .ok (.invokevirtual 147, 3) := by decide +kernel
theorem dX7_bestAt_49 : decode cX7_bestAt 49 = .ok (.aload_n 0, 1) := by decide +kernel
theorem dX7_bestAt_50 : decode cX7_bestAt 50 = .ok (.getfield 111, 3) := by decide +kernel
theorem dX7_bestAt_53 : decode cX7_bestAt 53 = .ok (.iload_n 2, 1) := by decide +kernel
theorem dX7_bestAt_54 : decode cX7_bestAt 54 = .ok (.iaload, 1) := by decide +kernel
theorem dX7_bestAt_55 : decode cX7_bestAt 55 = .ok (.ireturn, 1) := by decide +kernel
theorem dX7_cut_0 : decode cX7_cut 0 = .ok (.aload_n 0, 1) := by decide +kernel
theorem dX7_cut_1 : decode cX7_cut 1 = .ok (.iload_n 1, 1) := by decide +kernel
theorem dX7_cut_2 : decode cX7_cut 2 = .ok (.invokevirtual 125, 3) := by decide +kernel
theorem dX7_cut_5 : decode cX7_cut 5 = .ok (.ifCond .eq 12, 3) := by decide +kernel
theorem dX7_cut_8 : decode cX7_cut 8 = .ok (.aload_n 0, 1) := by decide +kernel
theorem dX7_cut_9 : decode cX7_cut 9 = .ok (.getfield 22, 3) := by decide +kernel
theorem dX7_cut_12 : decode cX7_cut 12 = .ok (.iload_n 1, 1) := by decide +kernel
theorem dX7_cut_13 : decode cX7_cut 13 = .ok (.baload, 1) := by decide +kernel
theorem dX7_cut_14 : decode cX7_cut 14 = .ok (.ifCond .eq 9, 3) := by decide +kernel
theorem dX7_cut_17 : decode cX7_cut 17 = .ok (.aload_n 0, 1) := by decide +kernel
theorem dX7_cut_18 : decode cX7_cut 18 = .ok (.iconst (-1), 1) := by decide +kernel
theorem dX7_cut_19 : decode cX7_cut 19 = .ok (.invokevirtual 151, 3) := by decide +kernel
theorem dX7_cut_22 : decode cX7_cut 22 = .ok (.ireturn, 1) := by decide +kernel
theorem dX7_cut_23 : decode cX7_cut 23 = .ok (.aload_n 0, 1) := by decide +kernel
theorem dX7_cut_24 : decode cX7_cut 24 = .ok (.iload_n 1, 1) := by decide +kernel
theorem dX7_cut_25 : decode cX7_cut 25 = .ok (.invokevirtual 147, 3) := by decide +kernel
theorem dX7_cut_28 : decode cX7_cut 28 = .ok (.aload_n 0, 1) := by decide +kernel
theorem dX7_cut_29 : decode cX7_cut 29 = .ok (.getfield 155, 3) := by decide +kernel
theorem dX7_cut_32 : decode cX7_cut 32 = .ok (.aload_n 0, 1) := by decide +kernel
theorem dX7_cut_33 : decode cX7_cut 33 = .ok (.getfield 141, 3) := by decide +kernel
theorem dX7_cut_36 : decode cX7_cut 36 = .ok (.iadd, 1) := by decide +kernel
theorem dX7_cut_37 : decode cX7_cut 37 = .ok (.sipush 400, 3) := by decide +kernel
theorem dX7_cut_40 : decode cX7_cut 40 = .ok (.if_icmp .le 5, 3) := by decide +kernel
theorem dX7_cut_43 : decode cX7_cut 43 = .ok (.iconst (-1), 1) := by decide +kernel
theorem dX7_cut_44 : decode cX7_cut 44 = .ok (.ireturn, 1) := by decide +kernel
theorem dX7_cut_45 : decode cX7_cut 45 = .ok (.aload_n 0, 1) := by decide +kernel
theorem dX7_cut_46 : decode cX7_cut 46 = .ok (.getfield 22, 3) := by decide +kernel
theorem dX7_cut_49 : decode cX7_cut 49 = .ok (.iload_n 1, 1) := by decide +kernel
theorem dX7_cut_50 : decode cX7_cut 50 = .ok (.iconst 1, 1) := by decide +kernel
theorem dX7_cut_51 : decode cX7_cut 51 = .ok (.bastore, 1) := by decide +kernel
theorem dX7_cut_52 : decode cX7_cut 52 = .ok (.iconst 0, 1) := by decide +kernel
theorem dX7_cut_53 : decode cX7_cut 53 = .ok (.istore_n 2, 1) := by decide +kernel
theorem dX7_cut_54 : decode cX7_cut 54 = .ok (.iload_n 2, 1) := by decide +kernel
theorem dX7_cut_55 : decode cX7_cut 55 = .ok (.aload_n 0, 1) := by decide +kernel
theorem dX7_cut_56 : decode cX7_cut 56 = .ok (.getfield 7, 3) := by decide +kernel
theorem dX7_cut_59 : decode cX7_cut 59 = .ok (.iload_n 1, 1) := by decide +kernel
theorem dX7_cut_60 : decode cX7_cut 60 = .ok (.iaload, 1) := by decide +kernel
theorem dX7_cut_61 : decode cX7_cut 61 = .ok (.aload_n 0, 1) := by decide +kernel
theorem dX7_cut_62 : decode cX7_cut 62 = .ok (.getfield 13, 3) := by decide +kernel
theorem dX7_cut_65 : decode cX7_cut 65 = .ok (.iload_n 1, 1) := by decide +kernel
theorem dX7_cut_66 : decode cX7_cut 66 = .ok (.iaload, 1) := by decide +kernel
theorem dX7_cut_67 : decode cX7_cut 67 = .ok (.imul, 1) := by decide +kernel
theorem dX7_cut_68 : decode cX7_cut 68 = .ok (.if_icmp .ge 142, 3) := by decide +kernel
theorem dX7_cut_71 : decode cX7_cut 71 = .ok (.aload_n 0, 1) := by decide +kernel
theorem dX7_cut_72 : decode cX7_cut 72 = .ok (.getfield 111, 3) := by decide +kernel
theorem dX7_cut_75 : decode cX7_cut 75 = .ok (.iload_n 2, 1) := by decide +kernel
theorem dX7_cut_76 : decode cX7_cut 76 = .ok (.iaload, 1) := by decide +kernel
theorem dX7_cut_77 : decode cX7_cut 77 = .ok (.ifCond .ne 6, 3) := by decide +kernel
theorem dX7_cut_80 : decode cX7_cut 80 = .ok (.goto 124, 3) := by decide +kernel
theorem dX7_cut_83 : decode cX7_cut 83 = .ok (.aload_n 0, 1) := by decide +kernel
theorem dX7_cut_84 : decode cX7_cut 84 = .ok (.getfield 29, 3) := by decide +kernel
theorem dX7_cut_87 : decode cX7_cut 87 = .ok (.aload_n 0, 1) := by decide +kernel
theorem dX7_cut_88 : decode cX7_cut 88 = .ok (.getfield 155, 3) := by decide +kernel
theorem dX7_cut_91 : decode cX7_cut 91 = .ok (.aload_n 0, 1) := by decide +kernel
theorem dX7_cut_92 : decode cX7_cut 92 = .ok (.getfield 111, 3) := by decide +kernel
theorem dX7_cut_95 : decode cX7_cut 95 = .ok (.iload_n 2, 1) := by decide +kernel
theorem dX7_cut_96 : decode cX7_cut 96 = .ok (.iaload, 1) := by decide +kernel
theorem dX7_cut_97 : decode cX7_cut 97 = .ok (.iastore, 1) := by decide +kernel
theorem dX7_cut_98 : decode cX7_cut 98 = .ok (.aload_n 0, 1) := by decide +kernel
theorem dX7_cut_99 : decode cX7_cut 99 = .ok (.getfield 32, 3) := by decide +kernel
theorem dX7_cut_102 : decode cX7_cut 102 = .ok (.aload_n 0, 1) := by decide +kernel
theorem dX7_cut_103 : decode cX7_cut 103 = .ok (.getfield 155, 3) := by decide +kernel
theorem dX7_cut_106 : decode cX7_cut 106 = .ok (.aload_n 0, 1) := by decide +kernel
theorem dX7_cut_107 : decode cX7_cut 107 = .ok (.iload_n 1, 1) := by decide +kernel
theorem dX7_cut_108 : decode cX7_cut 108 = .ok (.iload_n 2, 1) := by decide +kernel
theorem dX7_cut_109 : decode cX7_cut 109 = .ok (.aload_n 0, 1) := by decide +kernel
theorem dX7_cut_110 : decode cX7_cut 110 = .ok (.getfield 111, 3) := by decide +kernel
theorem dX7_cut_113 : decode cX7_cut 113 = .ok (.iload_n 2, 1) := by decide +kernel
theorem dX7_cut_114 : decode cX7_cut 114 = .ok (.iaload, 1) := by decide +kernel
theorem dX7_cut_115 : decode cX7_cut 115 = .ok (.invokevirtual 129, 3) := by decide +kernel
theorem dX7_cut_118 : decode cX7_cut 118 = .ok (.iastore, 1) := by decide +kernel
theorem dX7_cut_119 : decode cX7_cut 119 = .ok (.aload_n 0, 1) := by decide +kernel
theorem dX7_cut_120 : decode cX7_cut 120 = .ok (.getfield 35, 3) := by decide +kernel
theorem dX7_cut_123 : decode cX7_cut 123 = .ok (.aload_n 0, 1) := by decide +kernel
theorem dX7_cut_124 : decode cX7_cut 124 = .ok (.getfield 155, 3) := by decide +kernel
theorem dX7_cut_127 : decode cX7_cut 127 = .ok (.aload_n 0, 1) := by decide +kernel
theorem dX7_cut_128 : decode cX7_cut 128 = .ok (.getfield 16, 3) := by decide +kernel
theorem dX7_cut_131 : decode cX7_cut 131 = .ok (.iload_n 1, 1) := by decide +kernel
theorem dX7_cut_132 : decode cX7_cut 132 = .ok (.iaload, 1) := by decide +kernel
theorem dX7_cut_133 : decode cX7_cut 133 = .ok (.iastore, 1) := by decide +kernel
theorem dX7_cut_134 : decode cX7_cut 134 = .ok (.aload_n 0, 1) := by decide +kernel
theorem dX7_cut_135 : decode cX7_cut 135 = .ok (.getfield 38, 3) := by decide +kernel
theorem dX7_cut_138 : decode cX7_cut 138 = .ok (.aload_n 0, 1) := by decide +kernel
theorem dX7_cut_139 : decode cX7_cut 139 = .ok (.getfield 155, 3) := by decide +kernel
theorem dX7_cut_142 : decode cX7_cut 142 = .ok (.iload_n 1, 1) := by decide +kernel
theorem dX7_cut_143 : decode cX7_cut 143 = .ok (.iastore, 1) := by decide +kernel
theorem dX7_cut_144 : decode cX7_cut 144 = .ok (.aload_n 0, 1) := by decide +kernel
theorem dX7_cut_145 : decode cX7_cut 145 = .ok (.getfield 41, 3) := by decide +kernel
theorem dX7_cut_148 : decode cX7_cut 148 = .ok (.aload_n 0, 1) := by decide +kernel
theorem dX7_cut_149 : decode cX7_cut 149 = .ok (.getfield 155, 3) := by decide +kernel
theorem dX7_cut_152 : decode cX7_cut 152 = .ok (.iconst 0, 1) := by decide +kernel
theorem dX7_cut_153 : decode cX7_cut 153 = .ok (.iastore, 1) := by decide +kernel
theorem dX7_cut_154 : decode cX7_cut 154 = .ok (.aload_n 0, 1) := by decide +kernel
theorem dX7_cut_155 : decode cX7_cut 155 = .ok (.getfield 44, 3) := by decide +kernel
theorem dX7_cut_158 : decode cX7_cut 158 = .ok (.aload_n 0, 1) := by decide +kernel
theorem dX7_cut_159 : decode cX7_cut 159 = .ok (.getfield 155, 3) := by decide +kernel
theorem dX7_cut_162 : decode cX7_cut 162 = .ok (.iconst 0, 1) := by decide +kernel
theorem dX7_cut_163 : decode cX7_cut 163 = .ok (.iastore, 1) := by decide +kernel
theorem dX7_cut_164 : decode cX7_cut 164 = .ok (.aload_n 0, 1) := by decide +kernel
theorem dX7_cut_165 : decode cX7_cut 165 = .ok (.getfield 47, 3) := by decide +kernel
theorem dX7_cut_168 : decode cX7_cut 168 = .ok (.aload_n 0, 1) := by decide +kernel
theorem dX7_cut_169 : decode cX7_cut 169 = .ok (.getfield 155, 3) := by decide +kernel
theorem dX7_cut_172 : decode cX7_cut 172 = .ok (.iconst (-1), 1) := by decide +kernel
theorem dX7_cut_173 : decode cX7_cut 173 = .ok (.iastore, 1) := by decide +kernel
theorem dX7_cut_174 : decode cX7_cut 174 = .ok (.aload_n 0, 1) := by decide +kernel
theorem dX7_cut_175 : decode cX7_cut 175 = .ok (.getfield 50, 3) := by decide +kernel
theorem dX7_cut_178 : decode cX7_cut 178 = .ok (.aload_n 0, 1) := by decide +kernel
theorem dX7_cut_179 : decode cX7_cut 179 = .ok (.getfield 155, 3) := by decide +kernel
theorem dX7_cut_182 : decode cX7_cut 182 = .ok (.iconst (-1), 1) := by decide +kernel
theorem dX7_cut_183 : decode cX7_cut 183 = .ok (.iastore, 1) := by decide +kernel
theorem dX7_cut_184 : decode cX7_cut 184 = .ok (.aload_n 0, 1) := by decide +kernel
theorem dX7_cut_185 : decode cX7_cut 185 = .ok (.getfield 53, 3) := by decide +kernel
theorem dX7_cut_188 : decode cX7_cut 188 = .ok (.aload_n 0, 1) := by decide +kernel
theorem dX7_cut_189 : decode cX7_cut 189 = .ok (.getfield 155, 3) := by decide +kernel
theorem dX7_cut_192 : decode cX7_cut 192 = .ok (.iload_n 2, 1) := by decide +kernel
theorem dX7_cut_193 : decode cX7_cut 193 = .ok (.iastore, 1) := by decide +kernel
theorem dX7_cut_194 : decode cX7_cut 194 = .ok (.aload_n 0, 1) := by decide +kernel
theorem dX7_cut_195 : decode cX7_cut 195 = .ok (.dup, 1) := by decide +kernel
theorem dX7_cut_196 : decode cX7_cut 196 = .ok (.getfield 155, 3) := by decide +kernel
theorem dX7_cut_199 : decode cX7_cut 199 = .ok (.iconst 1, 1) := by decide +kernel
theorem dX7_cut_200 : decode cX7_cut 200 = .ok (.iadd, 1) := by decide +kernel
theorem dX7_cut_201 : decode cX7_cut 201 = .ok (.putfield 155, 3) := by decide +kernel
theorem dX7_cut_204 : decode cX7_cut 204 = .ok (.iinc 2 1, 3) := by decide +kernel
theorem dX7_cut_207 : decode cX7_cut 207 = .ok (.goto (-153), 3) := by decide +kernel
theorem dX7_cut_210 : decode cX7_cut 210 = .ok (.aload_n 0, 1) := by decide +kernel
theorem dX7_cut_211 : decode cX7_cut 211 = .ok (.getfield 141, 3) := by decide +kernel
theorem dX7_cut_214 : decode cX7_cut 214 = .ok (.ireturn, 1) := by decide +kernel
theorem dX7_isPassed_0 : decode cX7_isPassed 0 = .ok (.aload_n 0, 1) := by decide +kernel
theorem dX7_isPassed_1 : decode cX7_isPassed 1 = .ok (.getfield 114, 3) := by decide +kernel
theorem dX7_isPassed_4 : decode cX7_isPassed 4 = .ok (.ifCond .ne 7, 3) := by decide +kernel
theorem dX7_isPassed_7 : decode cX7_isPassed 7 = .ok (.iload_n 1, 1) := by decide +kernel
theorem dX7_isPassed_8 : decode cX7_isPassed 8 = .ok (.goto 4, 3) := by decide +kernel
theorem dX7_isPassed_11 : decode cX7_isPassed 11 = .ok (.iconst 0, 1) := by decide +kernel
theorem dX7_isPassed_12 : decode cX7_isPassed 12 = .ok (.ireturn, 1) := by decide +kernel
theorem dX7_isButton_0 : decode cX7_isButton 0 = .ok (.aload_n 0, 1) := by decide +kernel
theorem dX7_isButton_1 : decode cX7_isButton 1 = .ok (.iload_n 1, 1) := by decide +kernel
theorem dX7_isButton_2 : decode cX7_isButton 2 = .ok (.ifCond .lt 15, 3) := by decide +kernel
theorem dX7_isButton_5 : decode cX7_isButton 5 = .ok (.iload_n 1, 1) := by decide +kernel
theorem dX7_isButton_6 : decode cX7_isButton 6 = .ok (.aload_n 0, 1) := by decide +kernel
theorem dX7_isButton_7 : decode cX7_isButton 7 = .ok (.getfield 155, 3) := by decide +kernel
theorem dX7_isButton_10 : decode cX7_isButton 10 = .ok (.if_icmp .ge 7, 3) := by decide +kernel
theorem dX7_isButton_13 : decode cX7_isButton 13 = .ok (.iconst 1, 1) := by decide +kernel
theorem dX7_isButton_14 : decode cX7_isButton 14 = .ok (.goto 4, 3) := by decide +kernel
theorem dX7_isButton_17 : decode cX7_isButton 17 = .ok (.iconst 0, 1) := by decide +kernel
theorem dX7_isButton_18 : decode cX7_isButton 18 = .ok (.iconst 1, 1) := by decide +kernel
theorem dX7_isButton_19 : decode cX7_isButton 19 = .ok (.invokevirtual 121, 3) := by decide +kernel
theorem dX7_isButton_22 : decode cX7_isButton 22 = .ok (.ireturn, 1) := by decide +kernel
theorem dX7_button_0 : decode cX7_button 0 = .ok (.aload_n 0, 1) := by decide +kernel
theorem dX7_button_1 : decode cX7_button 1 = .ok (.iconst 0, 1) := by decide +kernel
theorem dX7_button_2 : decode cX7_button 2 = .ok (.putfield 114, 3) := by decide +kernel
theorem dX7_button_5 : decode cX7_button 5 = .ok (.aload_n 0, 1) := by decide +kernel
theorem dX7_button_6 : decode cX7_button 6 = .ok (.iload_n 1, 1) := by decide +kernel
theorem dX7_button_7 : decode cX7_button 7 = .ok (.invokevirtual 158, 3) := by decide +kernel
theorem dX7_button_10 : decode cX7_button 10 = .ok (.ifCond .eq 26, 3) := by decide +kernel
theorem dX7_button_13 : decode cX7_button 13 = .ok (.aload_n 0, 1) := by decide +kernel
theorem dX7_button_14 : decode cX7_button 14 = .ok (.iload_n 2, 1) := by decide +kernel
theorem dX7_button_15 : decode cX7_button 15 = .ok (.ifCond .lt 13, 3) := by decide +kernel
theorem dX7_button_18 : decode cX7_button 18 = .ok (.iload_n 2, 1) := by decide +kernel
theorem dX7_button_19 : decode cX7_button 19 = .ok (.bipush 8, 2) := by decide +kernel
theorem dX7_button_21 : decode cX7_button 21 = .ok (.if_icmp .gt 7, 3) := by decide +kernel
theorem dX7_button_24 : decode cX7_button 24 = .ok (.iconst 1, 1) := by decide +kernel
theorem dX7_button_25 : decode cX7_button 25 = .ok (.goto 4, 3) := by decide +kernel
theorem dX7_button_28 : decode cX7_button 28 = .ok (.iconst 0, 1) := by decide +kernel
theorem dX7_button_29 : decode cX7_button 29 = .ok (.iconst 1, 1) := by decide +kernel
theorem dX7_button_30 : decode cX7_button 30 = .ok (.invokevirtual 121, 3) := by decide +kernel
theorem dX7_button_33 : decode cX7_button 33 = .ok (.ifCond .ne 5, 3) := by decide +kernel
theorem dX7_button_36 : decode cX7_button 36 = .ok (.iconst 0, 1) := by decide +kernel
theorem dX7_button_37 : decode cX7_button 37 = .ok (.ireturn, 1) := by decide +kernel
theorem dX7_button_38 : decode cX7_button 38 = .ok (.iload_n 2, 1) := by decide +kernel
theorem dX7_button_39 : decode cX7_button 39 = .ok (.tableswitch 101 0 7 #[45, 52, 59, 66, 73, 80, 87, 94], 45) := by decide +kernel
theorem dX7_button_84 : decode cX7_button 84 = .ok (.aload_n 0, 1) := by decide +kernel
theorem dX7_button_85 : decode cX7_button 85 = .ok (.getfield 29, 3) := by decide +kernel
theorem dX7_button_88 : decode cX7_button 88 = .ok (.iload_n 1, 1) := by decide +kernel
theorem dX7_button_89 : decode cX7_button 89 = .ok (.iaload, 1) := by decide +kernel
theorem dX7_button_90 : decode cX7_button 90 = .ok (.ireturn, 1) := by decide +kernel
theorem dX7_button_91 : decode cX7_button 91 = .ok (.aload_n 0, 1) := by decide +kernel
theorem dX7_button_92 : decode cX7_button 92 = .ok (.getfield 32, 3) := by decide +kernel
theorem dX7_button_95 : decode cX7_button 95 = .ok (.iload_n 1, 1) := by decide +kernel
theorem dX7_button_96 : decode cX7_button 96 = .ok (.iaload, 1) := by decide +kernel
theorem dX7_button_97 : decode cX7_button 97 = .ok (.ireturn, 1) := by decide +kernel
theorem dX7_button_98 : decode cX7_button 98 = .ok (.aload_n 0, 1) := by decide +kernel
theorem dX7_button_99 : decode cX7_button 99 = .ok (.getfield 35, 3) := by decide +kernel
theorem dX7_button_102 : decode cX7_button 102 = .ok (.iload_n 1, 1) := by decide +kernel
theorem dX7_button_103 : decode cX7_button 103 = .ok (.iaload, 1) := by decide +kernel
theorem dX7_button_104 : decode cX7_button 104 = .ok (.ireturn, 1) := by decide +kernel
theorem dX7_button_105 : decode cX7_button 105 = .ok (.aload_n 0, 1) := by decide +kernel
theorem dX7_button_106 : decode cX7_button 106 = .ok (.getfield 38, 3) := by decide +kernel
theorem dX7_button_109 : decode cX7_button 109 = .ok (.iload_n 1, 1) := by decide +kernel
theorem dX7_button_110 : decode cX7_button 110 = .ok (.iaload, 1) := by decide +kernel
theorem dX7_button_111 : decode cX7_button 111 = .ok (.ireturn, 1) := by decide +kernel
theorem dX7_button_112 : decode cX7_button 112 = .ok (.aload_n 0, 1) := by decide +kernel
theorem dX7_button_113 : decode cX7_button 113 = .ok (.getfield 41, 3) := by decide +kernel
theorem dX7_button_116 : decode cX7_button 116 = .ok (.iload_n 1, 1) := by decide +kernel
theorem dX7_button_117 : decode cX7_button 117 = .ok (.iaload, 1) := by decide +kernel
theorem dX7_button_118 : decode cX7_button 118 = .ok (.ireturn, 1) := by decide +kernel
theorem dX7_button_119 : decode cX7_button 119 = .ok (.aload_n 0, 1) := by decide +kernel
theorem dX7_button_120 : decode cX7_button 120 = .ok (.getfield 44, 3) := by decide +kernel
theorem dX7_button_123 : decode cX7_button 123 = .ok (.iload_n 1, 1) := by decide +kernel
theorem dX7_button_124 : decode cX7_button 124 = .ok (.iaload, 1) := by decide +kernel
theorem dX7_button_125 : decode cX7_button 125 = .ok (.ireturn, 1) := by decide +kernel
theorem dX7_button_126 : decode cX7_button 126 = .ok (.aload_n 0, 1) := by decide +kernel
theorem dX7_button_127 : decode cX7_button 127 = .ok (.getfield 47, 3) := by decide +kernel
theorem dX7_button_130 : decode cX7_button 130 = .ok (.iload_n 1, 1) := by decide +kernel
theorem dX7_button_131 : decode cX7_button 131 = .ok (.iaload, 1) := by decide +kernel
theorem dX7_button_132 : decode cX7_button 132 = .ok (.ireturn, 1) := by decide +kernel
theorem dX7_button_133 : decode cX7_button 133 = .ok (.aload_n 0, 1) := by decide +kernel
theorem dX7_button_134 : decode cX7_button 134 = .ok (.getfield 50, 3) := by decide +kernel
theorem dX7_button_137 : decode cX7_button 137 = .ok (.iload_n 1, 1) := by decide +kernel
theorem dX7_button_138 : decode cX7_button 138 = .ok (.iaload, 1) := by decide +kernel
theorem dX7_button_139 : decode cX7_button 139 = .ok (.ireturn, 1) := by decide +kernel
theorem dX7_button_140 : decode cX7_button 140 = .ok (.aload_n 0, 1) := by decide +kernel
theorem dX7_button_141 : decode cX7_button 141 = .ok (.getfield 53, 3) := by decide +kernel
theorem dX7_button_144 : decode cX7_button 144 = .ok (.iload_n 1, 1) := by decide +kernel
theorem dX7_button_145 : decode cX7_button 145 = .ok (.iaload, 1) := by decide +kernel
theorem dX7_button_146 : decode cX7_button 146 = .ok (.ireturn, 1) := by decide +kernel
theorem dX7_isMachine_0 : decode cX7_isMachine 0 = .ok (.aload_n 0, 1) := by decide +kernel
theorem dX7_isMachine_1 : decode cX7_isMachine 1 = .ok (.iconst 0, 1) := by decide +kernel
theorem dX7_isMachine_2 : decode cX7_isMachine 2 = .ok (.putfield 114, 3) := by decide +kernel
theorem dX7_isMachine_5 : decode cX7_isMachine 5 = .ok (.aload_n 0, 1) := by decide +kernel
theorem dX7_isMachine_6 : decode cX7_isMachine 6 = .ok (.iload_n 1, 1) := by decide +kernel
theorem dX7_isMachine_7 : decode cX7_isMachine 7 = .ok (.ifCond .lt 12, 3) := by decide +kernel
theorem dX7_isMachine_10 : decode cX7_isMachine 10 = .ok (.iload_n 1, 1) := by decide +kernel
theorem dX7_isMachine_11 : decode cX7_isMachine 11 = .ok (.iconst 5, 1) := by decide +kernel
theorem dX7_isMachine_12 : decode cX7_isMachine 12 = .ok (.if_icmp .gt 7, 3) := by decide +kernel
theorem dX7_isMachine_15 : decode cX7_isMachine 15 = .ok (.iconst 1, 1) := by decide +kernel
theorem dX7_isMachine_16 : decode cX7_isMachine 16 = .ok (.goto 4, 3) := by decide +kernel
theorem dX7_isMachine_19 : decode cX7_isMachine 19 = .ok (.iconst 0, 1) := by decide +kernel
theorem dX7_isMachine_20 : decode cX7_isMachine 20 = .ok (.iconst 1, 1) := by decide +kernel
theorem dX7_isMachine_21 : decode cX7_isMachine 21 = .ok (.invokevirtual 121, 3) := by decide +kernel
theorem dX7_isMachine_24 : decode cX7_isMachine 24 = .ok (.ireturn, 1) := by decide +kernel
theorem dX7_stands_0 : decode cX7_stands 0 = .ok (.aload_n 0, 1) := by decide +kernel
theorem dX7_stands_1 : decode cX7_stands 1 = .ok (.iload_n 1, 1) := by decide +kernel
theorem dX7_stands_2 : decode cX7_stands 2 = .ok (.invokevirtual 161, 3) := by decide +kernel
theorem dX7_stands_5 : decode cX7_stands 5 = .ok (.ifCond .eq 28, 3) := by decide +kernel
theorem dX7_stands_8 : decode cX7_stands 8 = .ok (.aload_n 0, 1) := by decide +kernel
theorem dX7_stands_9 : decode cX7_stands 9 = .ok (.iload_n 2, 1) := by decide +kernel
theorem dX7_stands_10 : decode cX7_stands 10 = .ok (.iconst 1, 1) := by decide +kernel
theorem dX7_stands_11 : decode cX7_stands 11 = .ok (.if_icmp .lt 14, 3) := by decide +kernel
theorem dX7_stands_14 : decode cX7_stands 14 = .ok (.iload_n 2, 1) := by decide +kernel
theorem dX7_stands_15 : decode cX7_stands 15 = .ok (.sipush 10000, 3) := by decide +kernel
theorem dX7_stands_18 : decode cX7_stands 18 = .ok (.if_icmp .gt 7, 3) := by decide +kernel
theorem dX7_stands_21 : decode cX7_stands 21 = .ok (.iconst 1, 1) := by decide +kernel
theorem dX7_stands_22 : decode cX7_stands 22 = .ok (.goto 4, 3) := by decide +kernel
theorem dX7_stands_25 : decode cX7_stands 25 = .ok (.iconst 0, 1) := by decide +kernel
theorem dX7_stands_26 : decode cX7_stands 26 = .ok (.iconst 2, 1) := by decide +kernel
theorem dX7_stands_27 : decode cX7_stands 27 = .ok (.invokevirtual 121, 3) := by decide +kernel
theorem dX7_stands_30 : decode cX7_stands 30 = .ok (.ifCond .ne 5, 3) := by decide +kernel
theorem dX7_stands_33 : decode cX7_stands 33 = .ok (.iconst 0, 1) := by decide +kernel
theorem dX7_stands_34 : decode cX7_stands 34 = .ok (.ireturn, 1) := by decide +kernel
theorem dX7_stands_35 : decode cX7_stands 35 = .ok (.aload_n 0, 1) := by decide +kernel
theorem dX7_stands_36 : decode cX7_stands 36 = .ok (.getfield 59, 3) := by decide +kernel
theorem dX7_stands_39 : decode cX7_stands 39 = .ok (.iload_n 1, 1) := by decide +kernel
theorem dX7_stands_40 : decode cX7_stands 40 = .ok (.iaload, 1) := by decide +kernel
theorem dX7_stands_41 : decode cX7_stands 41 = .ok (.istore_n 3, 1) := by decide +kernel
