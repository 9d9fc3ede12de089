theorem d_D_task_172 : decode b_D_task 172 = .ok (.if_icmp .lt 7, 3) := by decide +kernel
theorem d_D_task_175 : decode b_D_task 175 = .ok (.iconst 1, 1) := by decide +kernel
theorem d_D_task_176 : decode b_D_task 176 = .ok (.goto 4, 3) := by decide +kernel
theorem d_D_task_179 : decode b_D_task 179 = .ok (.iconst 0, 1) := by decide +kernel
theorem d_D_task_180 : decode b_D_task 180 = .ok (.invokevirtual 107, 3) := by decide +kernel
theorem d_D_task_183 : decode b_D_task 183 = .ok (.ifCond .eq 4, 3) := by decide +kernel
theorem d_D_task_186 : decode b_D_task 186 = .ok (.return_, 1) := by decide +kernel
theorem d_D_task_187 : decode b_D_task 187 = .ok (.aload_n 0, 1) := by decide +kernel
theorem d_D_task_188 : decode b_D_task 188 = .ok (.getfield 7, 3) := by decide +kernel
theorem d_D_task_191 : decode b_D_task 191 = .ok (.iload_n 1, 1) := by decide +kernel
theorem d_D_task_192 : decode b_D_task 192 = .ok (.iaload, 1) := by decide +kernel
theorem d_D_task_193 : decode b_D_task 193 = .ok (.iconst 2, 1) := by decide +kernel
theorem d_D_task_194 : decode b_D_task 194 = .ok (.if_icmp .ne 56, 3) := by decide +kernel
theorem d_D_task_197 : decode b_D_task 197 = .ok (.aload_n 0, 1) := by decide +kernel
theorem d_D_task_198 : decode b_D_task 198 = .ok (.getfield 13, 3) := by decide +kernel
theorem d_D_task_201 : decode b_D_task 201 = .ok (.iload_n 1, 1) := by decide +kernel
theorem d_D_task_202 : decode b_D_task 202 = .ok (.iaload, 1) := by decide +kernel
theorem d_D_task_203 : decode b_D_task 203 = .ok (.iload_n 2, 1) := by decide +kernel
theorem d_D_task_204 : decode b_D_task 204 = .ok (.if_icmp .ne 46, 3) := by decide +kernel
theorem d_D_task_207 : decode b_D_task 207 = .ok (.aload_n 0, 1) := by decide +kernel
theorem d_D_task_208 : decode b_D_task 208 = .ok (.getfield 16, 3) := by decide +kernel
theorem d_D_task_211 : decode b_D_task 211 = .ok (.iload_n 1, 1) := by decide +kernel
theorem d_D_task_212 : decode b_D_task 212 = .ok (.iconst 3, 1) := by decide +kernel
theorem d_D_task_213 : decode b_D_task 213 = .ok (.imul, 1) := by decide +kernel
theorem d_D_task_214 : decode b_D_task 214 = .ok (.iaload, 1) := by decide +kernel
theorem d_D_task_215 : decode b_D_task 215 = .ok (.iload_n 3, 1) := by decide +kernel
theorem d_D_task_216 : decode b_D_task 216 = .ok (.if_icmp .ne 34, 3) := by decide +kernel
theorem d_D_task_219 : decode b_D_task 219 = .ok (.aload_n 0, 1) := by decide +kernel
theorem d_D_task_220 : decode b_D_task 220 = .ok (.getfield 16, 3) := by decide +kernel
theorem d_D_task_223 : decode b_D_task 223 = .ok (.iload_n 1, 1) := by decide +kernel
theorem d_D_task_224 : decode b_D_task 224 = .ok (.iconst 3, 1) := by decide +kernel
theorem d_D_task_225 : decode b_D_task 225 = .ok (.imul, 1) := by decide +kernel
theorem d_D_task_226 : decode b_D_task 226 = .ok (.iconst 1, 1) := by decide +kernel
theorem d_D_task_227 : decode b_D_task 227 = .ok (.iadd, 1) := by decide +kernel
theorem d_D_task_228 : decode b_D_task 228 = .ok (.iaload, 1) := by decide +kernel
theorem d_D_task_229 : decode b_D_task 229 = .ok (.iload 4, 2) := by decide +kernel
theorem d_D_task_231 : decode b_D_task 231 = .ok (.if_icmp .ne 19, 3) := by decide +kernel
theorem d_D_task_234 : decode b_D_task 234 = .ok (.aload_n 0, 1) := by decide +kernel
theorem d_D_task_235 : decode b_D_task 235 = .ok (.getfield 16, 3) := by decide +kernel
theorem d_D_task_238 : decode b_D_task 238 = .ok (.iload_n 1, 1) := by decide +kernel
theorem d_D_task_239 : decode b_D_task 239 = .ok (.iconst 3, 1) := by decide +kernel
theorem d_D_task_240 : decode b_D_task 240 = .ok (.imul, 1) := by decide +kernel
theorem d_D_task_241 : decode b_D_task 241 = .ok (.iconst 2, 1) := by decide +kernel
theorem d_D_task_242 : decode b_D_task 242 = .ok (.iadd, 1) := by decide +kernel
theorem d_D_task_243 : decode b_D_task 243 = .ok (.iaload, 1) := by decide +kernel
theorem d_D_task_244 : decode b_D_task 244 = .ok (.iload 5, 2) := by decide +kernel
theorem d_D_task_246 : decode b_D_task 246 = .ok (.if_icmp .ne 4, 3) := by decide +kernel
theorem d_D_task_249 : decode b_D_task 249 = .ok (.return_, 1) := by decide +kernel
theorem d_D_task_250 : decode b_D_task 250 = .ok (.aload_n 0, 1) := by decide +kernel
theorem d_D_task_251 : decode b_D_task 251 = .ok (.iload_n 1, 1) := by decide +kernel
theorem d_D_task_252 : decode b_D_task 252 = .ok (.invokevirtual 111, 3) := by decide +kernel
theorem d_D_task_255 : decode b_D_task 255 = .ok (.aload_n 0, 1) := by decide +kernel
theorem d_D_task_256 : decode b_D_task 256 = .ok (.getfield 7, 3) := by decide +kernel
theorem d_D_task_259 : decode b_D_task 259 = .ok (.iload_n 1, 1) := by decide +kernel
theorem d_D_task_260 : decode b_D_task 260 = .ok (.iconst 2, 1) := by decide +kernel
theorem d_D_task_261 : decode b_D_task 261 = .ok (.iastore, 1) := by decide +kernel
theorem d_D_task_262 : decode b_D_task 262 = .ok (.aload_n 0, 1) := by decide +kernel
theorem d_D_task_263 : decode b_D_task 263 = .ok (.getfield 13, 3) := by decide +kernel
theorem d_D_task_266 : decode b_D_task 266 = .ok (.iload_n 1, 1) := by decide +kernel
theorem d_D_task_267 : decode b_D_task 267 = .ok (.iload_n 2, 1) := by decide +kernel
theorem d_D_task_268 : decode b_D_task 268 = .ok (.iastore, 1) := by decide +kernel
theorem d_D_task_269 : decode b_D_task 269 = .ok (.aload_n 0, 1) := by decide +kernel
theorem d_D_task_270 : decode b_D_task 270 = .ok (.getfield 16, 3) := by decide +kernel
theorem d_D_task_273 : decode b_D_task 273 = .ok (.iload_n 1, 1) := by decide +kernel
theorem d_D_task_274 : decode b_D_task 274 = .ok (.iconst 3, 1) := by decide +kernel
theorem d_D_task_275 : decode b_D_task 275 = .ok (.imul, 1) := by decide +kernel
theorem d_D_task_276 : decode b_D_task 276 = .ok (.iload_n 3, 1) := by decide +kernel
theorem d_D_task_277 : decode b_D_task 277 = .ok (.iastore, 1) := by decide +kernel
theorem d_D_task_278 : decode b_D_task 278 = .ok (.aload_n 0, 1) := by decide +kernel
theorem d_D_task_279 : decode b_D_task 279 = .ok (.getfield 16, 3) := by decide +kernel
theorem d_D_task_282 : decode b_D_task 282 = .ok (.iload_n 1, 1) := by decide +kernel
theorem d_D_task_283 : decode b_D_task 283 = .ok (.iconst 3, 1) := by decide +kernel
theorem d_D_task_284 : decode b_D_task 284 = .ok (.imul, 1) := by decide +kernel
theorem d_D_task_285 : decode b_D_task 285 = .ok (.iconst 1, 1) := by decide +kernel
theorem d_D_task_286 : decode b_D_task 286 = .ok (.iadd, 1) := by decide +kernel
theorem d_D_task_287 : decode b_D_task 287 = .ok (.iload 4, 2) := by decide +kernel
theorem d_D_task_289 : decode b_D_task 289 = .ok (.iastore, 1) := by decide +kernel
theorem d_D_task_290 : decode b_D_task 290 = .ok (.aload_n 0, 1) := by decide +kernel
theorem d_D_task_291 : decode b_D_task 291 = .ok (.getfield 16, 3) := by decide +kernel
theorem d_D_task_294 : decode b_D_task 294 = .ok (.iload_n 1, 1) := by decide +kernel
theorem d_D_task_295 : decode b_D_task 295 = .ok (.iconst 3, 1) := by decide +kernel
theorem d_D_task_296 : decode b_D_task 296 = .ok (.imul, 1) := by decide +kernel
theorem d_D_task_297 : decode b_D_task 297 = .ok (.iconst 2, 1) := by decide +kernel
theorem d_D_task_298 : decode b_D_task 298 = .ok (.iadd, 1) := by decide +kernel
theorem d_D_task_299 : decode b_D_task 299 = .ok (.iload 5, 2) := by decide +kernel
theorem d_D_task_301 : decode b_D_task 301 = .ok (.iastore, 1) := by decide +kernel
theorem d_D_task_302 : decode b_D_task 302 = .ok (.return_, 1) := by decide +kernel
theorem d_D_remove_0 : decode b_D_remove 0 = .ok (.aload_n 0, 1) := by decide +kernel
theorem d_D_remove_1 : decode b_D_remove 1 = .ok (.iload_n 1, 1) := by decide +kernel
theorem d_D_remove_2 : decode b_D_remove 2 = .ok (.iconst 0, 1) := by decide +kernel
theorem d_D_remove_3 : decode b_D_remove 3 = .ok (.bipush 11, 2) := by decide +kernel
theorem d_D_remove_5 : decode b_D_remove 5 = .ok (.invokestatic 103, 3) := by decide +kernel
theorem d_D_remove_8 : decode b_D_remove 8 = .ok (.invokevirtual 107, 3) := by decide +kernel
theorem d_D_remove_11 : decode b_D_remove 11 = .ok (.ifCond .eq 4, 3) := by decide +kernel
theorem d_D_remove_14 : decode b_D_remove 14 = .ok (.return_, 1) := by decide +kernel
theorem d_D_remove_15 : decode b_D_remove 15 = .ok (.aload_n 0, 1) := by decide +kernel
theorem d_D_remove_16 : decode b_D_remove 16 = .ok (.getfield 7, 3) := by decide +kernel
theorem d_D_remove_19 : decode b_D_remove 19 = .ok (.iload_n 1, 1) := by decide +kernel
theorem d_D_remove_20 : decode b_D_remove 20 = .ok (.iaload, 1) := by decide +kernel
theorem d_D_remove_21 : decode b_D_remove 21 = .ok (.ifCond .ne 8, 3) := by decide +kernel
theorem d_D_remove_24 : decode b_D_remove 24 = .ok (.aload_n 0, 1) := by decide +kernel
theorem d_D_remove_25 : decode b_D_remove 25 = .ok (.iconst 2, 1) := by decide +kernel
theorem d_D_remove_26 : decode b_D_remove 26 = .ok (.putfield 96, 3) := by decide +kernel
theorem d_D_remove_29 : decode b_D_remove 29 = .ok (.aload_n 0, 1) := by decide +kernel
theorem d_D_remove_30 : decode b_D_remove 30 = .ok (.iload_n 1, 1) := by decide +kernel
theorem d_D_remove_31 : decode b_D_remove 31 = .ok (.invokevirtual 111, 3) := by decide +kernel
theorem d_D_remove_34 : decode b_D_remove 34 = .ok (.aload_n 0, 1) := by decide +kernel
theorem d_D_remove_35 : decode b_D_remove 35 = .ok (.getfield 7, 3) := by decide +kernel
theorem d_D_remove_38 : decode b_D_remove 38 = .ok (.iload_n 1, 1) := by decide +kernel
theorem d_D_remove_39 : decode b_D_remove 39 = .ok (.iconst 0, 1) := by decide +kernel
theorem d_D_remove_40 : decode b_D_remove 40 = .ok (.iastore, 1) := by decide +kernel
theorem d_D_remove_41 : decode b_D_remove 41 = .ok (.return_, 1) := by decide +kernel
theorem d_D_freeTrace_0 : decode b_D_freeTrace 0 = .ok (.iconst 0, 1) := by decide +kernel
theorem d_D_freeTrace_1 : decode b_D_freeTrace 1 = .ok (.istore_n 1, 1) := by decide +kernel
theorem d_D_freeTrace_2 : decode b_D_freeTrace 2 = .ok (.iload_n 1, 1) := by decide +kernel
theorem d_D_freeTrace_3 : decode b_D_freeTrace 3 = .ok (.sipush 320, 3) := by decide +kernel
theorem d_D_freeTrace_6 : decode b_D_freeTrace 6 = .ok (.if_icmp .ge 16, 3) := by decide +kernel
theorem d_D_freeTrace_9 : decode b_D_freeTrace 9 = .ok (.aload_n 0, 1) := by decide +kernel
theorem d_D_freeTrace_10 : decode b_D_freeTrace 10 = .ok (.getfield 38, 3) := by decide +kernel
theorem d_D_freeTrace_13 : decode b_D_freeTrace 13 = .ok (.iload_n 1, 1) := by decide +kernel
theorem d_D_freeTrace_14 : decode b_D_freeTrace 14 = .ok (.iconst 0, 1) := by decide +kernel
theorem d_D_freeTrace_15 : decode b_D_freeTrace 15 = .ok (.bastore, 1) := by decide +kernel
theorem d_D_freeTrace_16 : decode b_D_freeTrace 16 = .ok (.iinc 1 1, 3) := by decide +kernel
theorem d_D_freeTrace_19 : decode b_D_freeTrace 19 = .ok (.goto (-17), 3) := by decide +kernel
theorem d_D_freeTrace_22 : decode b_D_freeTrace 22 = .ok (.iconst 0, 1) := by decide +kernel
theorem d_D_freeTrace_23 : decode b_D_freeTrace 23 = .ok (.istore_n 1, 1) := by decide +kernel
theorem d_D_freeTrace_24 : decode b_D_freeTrace 24 = .ok (.iload_n 1, 1) := by decide +kernel
theorem d_D_freeTrace_25 : decode b_D_freeTrace 25 = .ok (.bipush 24, 2) := by decide +kernel
theorem d_D_freeTrace_27 : decode b_D_freeTrace 27 = .ok (.if_icmp .ge 51, 3) := by decide +kernel
theorem d_D_freeTrace_30 : decode b_D_freeTrace 30 = .ok (.aload_n 0, 1) := by decide +kernel
theorem d_D_freeTrace_31 : decode b_D_freeTrace 31 = .ok (.getfield 42, 3) := by decide +kernel
theorem d_D_freeTrace_34 : decode b_D_freeTrace 34 = .ok (.iload_n 1, 1) := by decide +kernel
theorem d_D_freeTrace_35 : decode b_D_freeTrace 35 = .ok (.iaload, 1) := by decide +kernel
theorem d_D_freeTrace_36 : decode b_D_freeTrace 36 = .ok (.ifCond .lt 15, 3) := by decide +kernel
theorem d_D_freeTrace_39 : decode b_D_freeTrace 39 = .ok (.aload_n 0, 1) := by decide +kernel
theorem d_D_freeTrace_40 : decode b_D_freeTrace 40 = .ok (.getfield 38, 3) := by decide +kernel
theorem d_D_freeTrace_43 : decode b_D_freeTrace 43 = .ok (.aload_n 0, 1) := by decide +kernel
theorem d_D_freeTrace_44 : decode b_D_freeTrace 44 = .ok (.getfield 42, 3) := by decide +kernel
theorem d_D_freeTrace_47 : decode b_D_freeTrace 47 = .ok (.iload_n 1, 1) := by decide +kernel
theorem d_D_freeTrace_48 : decode b_D_freeTrace 48 = .ok (.iaload, 1) := by decide +kernel
theorem d_D_freeTrace_49 : decode b_D_freeTrace 49 = .ok (.iconst 1, 1) := by decide +kernel
theorem d_D_freeTrace_50 : decode b_D_freeTrace 50 = .ok (.bastore, 1) := by decide +kernel
theorem d_D_freeTrace_51 : decode b_D_freeTrace 51 = .ok (.aload_n 0, 1) := by decide +kernel
theorem d_D_freeTrace_52 : decode b_D_freeTrace 52 = .ok (.getfield 45, 3) := by decide +kernel
theorem d_D_freeTrace_55 : decode b_D_freeTrace 55 = .ok (.iload_n 1, 1) := by decide +kernel
theorem d_D_freeTrace_56 : decode b_D_freeTrace 56 = .ok (.iaload, 1) := by decide +kernel
theorem d_D_freeTrace_57 : decode b_D_freeTrace 57 = .ok (.ifCond .lt 15, 3) := by decide +kernel
theorem d_D_freeTrace_60 : decode b_D_freeTrace 60 = .ok (.aload_n 0, 1) := by decide +kernel
theorem d_D_freeTrace_61 : decode b_D_freeTrace 61 = .ok (.getfield 38, 3) := by decide +kernel
theorem d_D_freeTrace_64 : decode b_D_freeTrace 64 = .ok (.aload_n 0, 1) := by decide +kernel
theorem d_D_freeTrace_65 : decode b_D_freeTrace 65 = .ok (.getfield 45, 3) := by decide +kernel
theorem d_D_freeTrace_68 : decode b_D_freeTrace 68 = .ok (.iload_n 1, 1) := by decide +kernel
theorem d_D_freeTrace_69 : decode b_D_freeTrace 69 = .ok (.iaload, 1) := by decide +kernel
theorem d_D_freeTrace_70 : decode b_D_freeTrace 70 = .ok (.iconst 1, 1) := by decide +kernel
theorem d_D_freeTrace_71 : decode b_D_freeTrace 71 = .ok (.bastore, 1) := by decide +kernel
theorem d_D_freeTrace_72 : decode b_D_freeTrace 72 = .ok (.iinc 1 1, 3) := by decide +kernel
theorem d_D_freeTrace_75 : decode b_D_freeTrace 75 = .ok (.goto (-51), 3) := by decide +kernel
theorem d_D_freeTrace_78 : decode b_D_freeTrace 78 = .ok (.iconst 0, 1) := by decide +kernel
theorem d_D_freeTrace_79 : decode b_D_freeTrace 79 = .ok (.istore_n 1, 1) := by decide +kernel
theorem d_D_freeTrace_80 : decode b_D_freeTrace 80 = .ok (.iload_n 1, 1) := by decide +kernel
theorem d_D_freeTrace_81 : decode b_D_freeTrace 81 = .ok (.aload_n 0, 1) := by decide +kernel
theorem d_D_freeTrace_82 : decode b_D_freeTrace 82 = .ok (.getfield 100, 3) := by decide +kernel
theorem d_D_freeTrace_85 : decode b_D_freeTrace 85 = .ok (.if_icmp .ge 21, 3) := by decide +kernel
theorem d_D_freeTrace_88 : decode b_D_freeTrace 88 = .ok (.aload_n 0, 1) := by decide +kernel
theorem d_D_freeTrace_89 : decode b_D_freeTrace 89 = .ok (.getfield 38, 3) := by decide +kernel
theorem d_D_freeTrace_92 : decode b_D_freeTrace 92 = .ok (.aload_n 0, 1) := by decide +kernel
theorem d_D_freeTrace_93 : decode b_D_freeTrace 93 = .ok (.getfield 48, 3) := by decide +kernel
theorem d_D_freeTrace_96 : decode b_D_freeTrace 96 = .ok (.iload_n 1, 1) := by decide +kernel
theorem d_D_freeTrace_97 : decode b_D_freeTrace 97 = .ok (.iaload, 1) := by decide +kernel
theorem d_D_freeTrace_98 : decode b_D_freeTrace 98 = .ok (.iconst 1, 1) := by decide +kernel
theorem d_D_freeTrace_99 : decode b_D_freeTrace 99 = .ok (.bastore, 1) := by decide +kernel
theorem d_D_freeTrace_100 : decode b_D_freeTrace 100 = .ok (.iinc 1 1, 3) := by decide +kernel
theorem d_D_freeTrace_103 : decode b_D_freeTrace 103 = .ok (.goto (-23), 3) := by decide +kernel
theorem d_D_freeTrace_106 : decode b_D_freeTrace 106 = .ok (.iconst 0, 1) := by decide +kernel
theorem d_D_freeTrace_107 : decode b_D_freeTrace 107 = .ok (.istore_n 1, 1) := by decide +kernel
theorem d_D_freeTrace_108 : decode b_D_freeTrace 108 = .ok (.iload_n 1, 1) := by decide +kernel
theorem d_D_freeTrace_109 : decode b_D_freeTrace 109 = .ok (.aload_n 0, 1) := by decide +kernel
theorem d_D_freeTrace_110 : decode b_D_freeTrace 110 = .ok (.getfield 115, 3) := by decide +kernel
theorem d_D_freeTrace_113 : decode b_D_freeTrace 113 = .ok (.if_icmp .ge 21, 3) := by decide +kernel
theorem d_D_freeTrace_116 : decode b_D_freeTrace 116 = .ok (.aload_n 0, 1) := by decide +kernel
theorem d_D_freeTrace_117 : decode b_D_freeTrace 117 = .ok (.getfield 38, 3) := by decide +kernel
theorem d_D_freeTrace_120 : decode b_D_freeTrace 120 = .ok (.aload_n 0, 1) := by decide +kernel
theorem d_D_freeTrace_121 : decode b_D_freeTrace 121 = .ok (.getfield 51, 3) := by decide +kernel
theorem d_D_freeTrace_124 : decode b_D_freeTrace 124 = .ok (.iload_n 1, 1) := by decide +kernel
theorem d_D_freeTrace_125 : decode b_D_freeTrace 125 = .ok (.iaload, 1) := by decide +kernel
theorem d_D_freeTrace_126 : decode b_D_freeTrace 126 = .ok (.iconst 1, 1) := by decide +kernel
theorem d_D_freeTrace_127 : decode b_D_freeTrace 127 = .ok (.bastore, 1) := by decide +kernel
theorem d_D_freeTrace_128 : decode b_D_freeTrace 128 = .ok (.iinc 1 1, 3) := by decide +kernel
theorem d_D_freeTrace_131 : decode b_D_freeTrace 131 = .ok (.goto (-23), 3) := by decide +kernel
theorem d_D_freeTrace_134 : decode b_D_freeTrace 134 = .ok (.iconst 0, 1) := by decide +kernel
theorem d_D_freeTrace_135 : decode b_D_freeTrace 135 = .ok (.istore_n 1, 1) := by decide +kernel
theorem d_D_freeTrace_136 : decode b_D_freeTrace 136 = .ok (.iload_n 1, 1) := by decide +kernel
theorem d_D_freeTrace_137 : decode b_D_freeTrace 137 = .ok (.aload_n 0, 1) := by decide +kernel
theorem d_D_freeTrace_138 : decode b_D_freeTrace 138 = .ok (.getfield 118, 3) := by decide +kernel
theorem d_D_freeTrace_141 : decode b_D_freeTrace 141 = .ok (.if_icmp .ge 66, 3) := by decide +kernel
theorem d_D_freeTrace_144 : decode b_D_freeTrace 144 = .ok (.iconst 0, 1) := by decide +kernel
theorem d_D_freeTrace_145 : decode b_D_freeTrace 145 = .ok (.istore_n 2, 1) := by decide +kernel
theorem d_D_freeTrace_146 : decode b_D_freeTrace 146 = .ok (.iload_n 2, 1) := by decide +kernel
theorem d_D_freeTrace_147 : decode b_D_freeTrace 147 = .ok (.aload_n 0, 1) := by decide +kernel
theorem d_D_freeTrace_148 : decode b_D_freeTrace 148 = .ok (.getfield 81, 3) := by decide +kernel
theorem d_D_freeTrace_151 : decode b_D_freeTrace 151 = .ok (.iload_n 1, 1) := by decide +kernel
theorem d_D_freeTrace_152 : decode b_D_freeTrace 152 = .ok (.iaload, 1) := by decide +kernel
theorem d_D_freeTrace_153 : decode b_D_freeTrace 153 = .ok (.if_icmp .ge 26, 3) := by decide +kernel
theorem d_D_freeTrace_156 : decode b_D_freeTrace 156 = .ok (.aload_n 0, 1) := by decide +kernel
theorem d_D_freeTrace_157 : decode b_D_freeTrace 157 = .ok (.getfield 38, 3) := by decide +kernel
theorem d_D_freeTrace_160 : decode b_D_freeTrace 160 = .ok (.aload_n 0, 1) := by decide +kernel
theorem d_D_freeTrace_161 : decode b_D_freeTrace 161 = .ok (.getfield 78, 3) := by decide +kernel
theorem d_D_freeTrace_164 : decode b_D_freeTrace 164 = .ok (.iload_n 1, 1) := by decide +kernel
theorem d_D_freeTrace_165 : decode b_D_freeTrace 165 = .ok (.bipush 16, 2) := by decide +kernel
theorem d_D_freeTrace_167 : decode b_D_freeTrace 167 = .ok (.imul, 1) := by decide +kernel
theorem d_D_freeTrace_168 : decode b_D_freeTrace 168 = .ok (.iload_n 2, 1) := by decide +kernel
theorem d_D_freeTrace_169 : decode b_D_freeTrace 169 = .ok (.iadd, 1) := by decide +kernel
theorem d_D_freeTrace_170 : decode b_D_freeTrace 170 = .ok (.iaload, 1) := by decide +kernel
theorem d_D_freeTrace_171 : decode b_D_freeTrace 171 = .ok (.iconst 1, 1) := by decide +kernel
theorem d_D_freeTrace_172 : decode b_D_freeTrace 172 = .ok (.bastore, 1) := by decide +kernel
theorem d_D_freeTrace_173 : decode b_D_freeTrace 173 = .ok (.iinc 2 1, 3) := by decide +kernel
theorem d_D_freeTrace_176 : decode b_D_freeTrace 176 = .ok (.goto (-30), 3) := by decide +kernel
theorem d_D_freeTrace_179 : decode b_D_freeTrace 179 = .ok (.aload_n 0, 1) := by decide +kernel
theorem d_D_freeTrace_180 : decode b_D_freeTrace 180 = .ok (.getfield 69, 3) := by decide +kernel
theorem d_D_freeTrace_183 : decode b_D_freeTrace 183 = .ok (.iload_n 1, 1) := by decide +kernel
theorem d_D_freeTrace_184 : decode b_D_freeTrace 184 = .ok (.iaload, 1) := by decide +kernel
theorem d_D_freeTrace_185 : decode b_D_freeTrace 185 = .ok (.iconst 1, 1) := by decide +kernel
theorem d_D_freeTrace_186 : decode b_D_freeTrace 186 = .ok (.if_icmp .le 15, 3) := by decide +kernel
theorem d_D_freeTrace_189 : decode b_D_freeTrace 189 = .ok (.aload_n 0, 1) := by decide +kernel
theorem d_D_freeTrace_190 : decode b_D_freeTrace 190 = .ok (.getfield 38, 3) := by decide +kernel
theorem d_D_freeTrace_193 : decode b_D_freeTrace 193 = .ok (.aload_n 0, 1) := by decide +kernel
theorem d_D_freeTrace_194 : decode b_D_freeTrace 194 = .ok (.getfield 84, 3) := by decide +kernel
theorem d_D_freeTrace_197 : decode b_D_freeTrace 197 = .ok (.iload_n 1, 1) := by decide +kernel
theorem d_D_freeTrace_198 : decode b_D_freeTrace 198 = .ok (.iaload, 1) := by decide +kernel
theorem d_D_freeTrace_199 : decode b_D_freeTrace 199 = .ok (.iconst 1, 1) := by decide +kernel
theorem d_D_freeTrace_200 : decode b_D_freeTrace 200 = .ok (.bastore, 1) := by decide +kernel
theorem d_D_freeTrace_201 : decode b_D_freeTrace 201 = .ok (.iinc 1 1, 3) := by decide +kernel
theorem d_D_freeTrace_204 : decode b_D_freeTrace 204 = .ok (.goto (-68), 3) := by decide +kernel
theorem d_D_freeTrace_207 : decode b_D_freeTrace 207 = .ok (.iconst 0, 1) := by decide +kernel
theorem d_D_freeTrace_208 : decode b_D_freeTrace 208 = .ok (.istore_n 1, 1) := by decide +kernel
theorem d_D_freeTrace_209 : decode b_D_freeTrace 209 = .ok (.aload_n 0, 1) := by decide +kernel
theorem d_D_freeTrace_210 : decode b_D_freeTrace 210 = .ok (.getfield 38, 3) := by decide +kernel
theorem d_D_freeTrace_213 : decode b_D_freeTrace 213 = .ok (.iload_n 1, 1) := by decide +kernel
theorem d_D_freeTrace_214 : decode b_D_freeTrace 214 = .ok (.baload, 1) := by decide +kernel
theorem d_D_freeTrace_215 : decode b_D_freeTrace 215 = .ok (.ifCond .eq 9, 3) := by decide +kernel
theorem d_D_freeTrace_218 : decode b_D_freeTrace 218 = .ok (.iinc 1 1, 3) := by decide +kernel
theorem d_D_freeTrace_221 : decode b_D_freeTrace 221 = .ok (.goto (-12), 3) := by decide +kernel
theorem d_D_freeTrace_224 : decode b_D_freeTrace 224 = .ok (.iload_n 1, 1) := by decide +kernel
theorem d_D_freeTrace_225 : decode b_D_freeTrace 225 = .ok (.ireturn, 1) := by decide +kernel
theorem d_D_ask_0 : decode b_D_ask 0 = .ok (.aload_n 0, 1) := by decide +kernel
theorem d_D_ask_1 : decode b_D_ask 1 = .ok (.getfield 60, 3) := by decide +kernel
theorem d_D_ask_4 : decode b_D_ask 4 = .ok (.iload_n 1, 1) := by decide +kernel
theorem d_D_ask_5 : decode b_D_ask 5 = .ok (.iaload, 1) := by decide +kernel
theorem d_D_ask_6 : decode b_D_ask 6 = .ok (.iconst 2, 1) := by decide +kernel
theorem d_D_ask_7 : decode b_D_ask 7 = .ok (.if_icmp .ne 5, 3) := by decide +kernel
theorem d_D_ask_10 : decode b_D_ask 10 = .ok (.iconst 1, 1) := by decide +kernel
theorem d_D_ask_11 : decode b_D_ask 11 = .ok (.ireturn, 1) := by decide +kernel
theorem d_D_ask_12 : decode b_D_ask 12 = .ok (.aload_n 0, 1) := by decide +kernel
theorem d_D_ask_13 : decode b_D_ask 13 = .ok (.getfield 60, 3) := by decide +kernel
theorem d_D_ask_16 : decode b_D_ask 16 = .ok (.iload_n 1, 1) := by decide +kernel
theorem d_D_ask_17 : decode b_D_ask 17 = .ok (.iaload, 1) := by decide +kernel
theorem d_D_ask_18 : decode b_D_ask 18 = .ok (.iconst 1, 1) := by decide +kernel
theorem d_D_ask_19 : decode b_D_ask 19 = .ok (.if_icmp .ne 20, 3) := by decide +kernel
theorem d_D_ask_22 : decode b_D_ask 22 = .ok (.aload_n 0, 1) := by decide +kernel
theorem d_D_ask_23 : decode b_D_ask 23 = .ok (.dup, 1) := by decide +kernel
theorem d_D_ask_24 : decode b_D_ask 24 = .ok (.getfield 121, 3) := by decide +kernel
theorem d_D_ask_27 : decode b_D_ask 27 = .ok (.iconst 1, 1) := by decide +kernel
theorem d_D_ask_28 : decode b_D_ask 28 = .ok (.iadd, 1) := by decide +kernel
theorem d_D_ask_29 : decode b_D_ask 29 = .ok (.putfield 121, 3) := by decide +kernel
theorem d_D_ask_32 : decode b_D_ask 32 = .ok (.aload_n 0, 1) := by decide +kernel
theorem d_D_ask_33 : decode b_D_ask 33 = .ok (.iconst 4, 1) := by decide +kernel
theorem d_D_ask_34 : decode b_D_ask 34 = .ok (.putfield 96, 3) := by decide +kernel
theorem d_D_ask_37 : decode b_D_ask 37 = .ok (.iconst 0, 1) := by decide +kernel
theorem d_D_ask_38 : decode b_D_ask 38 = .ok (.ireturn, 1) := by decide +kernel
theorem d_D_ask_39 : decode b_D_ask 39 = .ok (.aload_n 0, 1) := by decide +kernel
theorem d_D_ask_40 : decode b_D_ask 40 = .ok (.getfield 7, 3) := by decide +kernel
theorem d_D_ask_43 : decode b_D_ask 43 = .ok (.iload_n 1, 1) := by decide +kernel
theorem d_D_ask_44 : decode b_D_ask 44 = .ok (.iaload, 1) := by decide +kernel
theorem d_D_ask_45 : decode b_D_ask 45 = .ok (.ifCond .ne 10, 3) := by decide +kernel
theorem d_D_ask_48 : decode b_D_ask 48 = .ok (.aload_n 0, 1) := by decide +kernel
theorem d_D_ask_49 : decode b_D_ask 49 = .ok (.iconst 2, 1) := by decide +kernel
theorem d_D_ask_50 : decode b_D_ask 50 = .ok (.putfield 96, 3) := by decide +kernel
theorem d_D_ask_53 : decode b_D_ask 53 = .ok (.iconst 0, 1) := by decide +kernel
theorem d_D_ask_54 : decode b_D_ask 54 = .ok (.ireturn, 1) := by decide +kernel
theorem d_D_ask_55 : decode b_D_ask 55 = .ok (.aload_n 0, 1) := by decide +kernel
theorem d_D_ask_56 : decode b_D_ask 56 = .ok (.getfield 7, 3) := by decide +kernel
theorem d_D_ask_59 : decode b_D_ask 59 = .ok (.iload_n 1, 1) := by decide +kernel
theorem d_D_ask_60 : decode b_D_ask 60 = .ok (.iaload, 1) := by decide +kernel
theorem d_D_ask_61 : decode b_D_ask 61 = .ok (.iconst 1, 1) := by decide +kernel
theorem d_D_ask_62 : decode b_D_ask 62 = .ok (.if_icmp .ne 24, 3) := by decide +kernel
theorem d_D_ask_65 : decode b_D_ask 65 = .ok (.aload_n 0, 1) := by decide +kernel
theorem d_D_ask_66 : decode b_D_ask 66 = .ok (.getfield 60, 3) := by decide +kernel
theorem d_D_ask_69 : decode b_D_ask 69 = .ok (.iload_n 1, 1) := by decide +kernel
theorem d_D_ask_70 : decode b_D_ask 70 = .ok (.iconst 2, 1) := by decide +kernel
theorem d_D_ask_71 : decode b_D_ask 71 = .ok (.iastore, 1) := by decide +kernel
theorem d_D_ask_72 : decode b_D_ask 72 = .ok (.aload_n 0, 1) := by decide +kernel
theorem d_D_ask_73 : decode b_D_ask 73 = .ok (.getfield 63, 3) := by decide +kernel
theorem d_D_ask_76 : decode b_D_ask 76 = .ok (.iload_n 1, 1) := by decide +kernel
theorem d_D_ask_77 : decode b_D_ask 77 = .ok (.aload_n 0, 1) := by decide +kernel
theorem d_D_ask_78 : decode b_D_ask 78 = .ok (.getfield 19, 3) := by decide +kernel
theorem d_D_ask_81 : decode b_D_ask 81 = .ok (.iload_n 1, 1) := by decide +kernel
theorem d_D_ask_82 : decode b_D_ask 82 = .ok (.laload, 1) := by decide +kernel
theorem d_D_ask_83 : decode b_D_ask 83 = .ok (.lastore, 1) := by decide +kernel
theorem d_D_ask_84 : decode b_D_ask 84 = .ok (.iconst 1, 1) := by decide +kernel
theorem d_D_ask_85 : decode b_D_ask 85 = .ok (.ireturn, 1) := by decide +kernel
theorem d_D_ask_86 : decode b_D_ask 86 = .ok (.aload_n 0, 1) := by decide +kernel
theorem d_D_ask_87 : decode b_D_ask 87 = .ok (.getfield 60, 3) := by decide +kernel
theorem d_D_ask_90 : decode b_D_ask 90 = .ok (.iload_n 1, 1) := by decide +kernel
theorem d_D_ask_91 : decode b_D_ask 91 = .ok (.iconst 1, 1) := by decide +kernel
theorem d_D_ask_92 : decode b_D_ask 92 = .ok (.iastore, 1) := by decide +kernel
theorem d_D_ask_93 : decode b_D_ask 93 = .ok (.aload_n 0, 1) := by decide +kernel
theorem d_D_ask_94 : decode b_D_ask 94 = .ok (.getfield 66, 3) := by decide +kernel
theorem d_D_ask_97 : decode b_D_ask 97 = .ok (.aload_n 0, 1) := by decide +kernel
theorem d_D_ask_98 : decode b_D_ask 98 = .ok (.getfield 118, 3) := by decide +kernel
theorem d_D_ask_101 : decode b_D_ask 101 = .ok (.iload_n 1, 1) := by decide +kernel
theorem d_D_ask_102 : decode b_D_ask 102 = .ok (.iastore, 1) := by decide +kernel
theorem d_D_ask_103 : decode b_D_ask 103 = .ok (.aload_n 0, 1) := by decide +kernel
theorem d_D_ask_104 : decode b_D_ask 104 = .ok (.getfield 81, 3) := by decide +kernel
theorem d_D_ask_107 : decode b_D_ask 107 = .ok (.aload_n 0, 1) := by decide +kernel
theorem d_D_ask_108 : decode b_D_ask 108 = .ok (.getfield 118, 3) := by decide +kernel
theorem d_D_ask_111 : decode b_D_ask 111 = .ok (.iconst 0, 1) := by decide +kernel
theorem d_D_ask_112 : decode b_D_ask 112 = .ok (.iastore, 1) := by decide +kernel
theorem d_D_ask_113 : decode b_D_ask 113 = .ok (.aload_n 0, 1) := by decide +kernel
theorem d_D_ask_114 : decode b_D_ask 114 = .ok (.getfield 69, 3) := by decide +kernel
theorem d_D_ask_117 : decode b_D_ask 117 = .ok (.aload_n 0, 1) := by decide +kernel
theorem d_D_ask_118 : decode b_D_ask 118 = .ok (.getfield 118, 3) := by decide +kernel
theorem d_D_ask_121 : decode b_D_ask 121 = .ok (.iconst 1, 1) := by decide +kernel
theorem d_D_ask_122 : decode b_D_ask 122 = .ok (.iastore, 1) := by decide +kernel
theorem d_D_ask_123 : decode b_D_ask 123 = .ok (.aload_n 0, 1) := by decide +kernel
theorem d_D_ask_124 : decode b_D_ask 124 = .ok (.getfield 72, 3) := by decide +kernel
theorem d_D_ask_127 : decode b_D_ask 127 = .ok (.aload_n 0, 1) := by decide +kernel
theorem d_D_ask_128 : decode b_D_ask 128 = .ok (.getfield 118, 3) := by decide +kernel
theorem d_D_ask_131 : decode b_D_ask 131 = .ok (.aload_n 0, 1) := by decide +kernel
theorem d_D_ask_132 : decode b_D_ask 132 = .ok (.getfield 42, 3) := by decide +kernel
theorem d_D_ask_135 : decode b_D_ask 135 = .ok (.aload_n 0, 1) := by decide +kernel
theorem d_D_ask_136 : decode b_D_ask 136 = .ok (.getfield 124, 3) := by decide +kernel
theorem d_D_ask_139 : decode b_D_ask 139 = .ok (.bipush 12, 2) := by decide +kernel
theorem d_D_ask_141 : decode b_D_ask 141 = .ok (.imul, 1) := by decide +kernel
theorem d_D_ask_142 : decode b_D_ask 142 = .ok (.iload_n 1, 1) := by decide +kernel
theorem d_D_ask_143 : decode b_D_ask 143 = .ok (.iadd, 1) := by decide +kernel
theorem d_D_ask_144 : decode b_D_ask 144 = .ok (.iaload, 1) := by decide +kernel
theorem d_D_ask_145 : decode b_D_ask 145 = .ok (.iastore, 1) := by decide +kernel
theorem d_D_ask_146 : decode b_D_ask 146 = .ok (.aload_n 0, 1) := by decide +kernel
theorem d_D_ask_147 : decode b_D_ask 147 = .ok (.getfield 75, 3) := by decide +kernel
theorem d_D_ask_150 : decode b_D_ask 150 = .ok (.aload_n 0, 1) := by decide +kernel
theorem d_D_ask_151 : decode b_D_ask 151 = .ok (.getfield 118, 3) := by decide +kernel
theorem d_D_ask_154 : decode b_D_ask 154 = .ok (.iconst 0, 1) := by decide +kernel
theorem d_D_ask_155 : decode b_D_ask 155 = .ok (.iastore, 1) := by decide +kernel
theorem d_D_ask_156 : decode b_D_ask 156 = .ok (.aload_n 0, 1) := by decide +kernel
theorem d_D_ask_157 : decode b_D_ask 157 = .ok (.dup, 1) := by decide +kernel
theorem d_D_ask_158 : decode b_D_ask 158 = .ok (.getfield 118, 3) := by decide +kernel
theorem d_D_ask_161 : decode b_D_ask 161 = .ok (.iconst 1, 1) := by decide +kernel
theorem d_D_ask_162 : decode b_D_ask 162 = .ok (.iadd, 1) := by decide +kernel
theorem d_D_ask_163 : decode b_D_ask 163 = .ok (.putfield 118, 3) := by decide +kernel
theorem d_D_ask_166 : decode b_D_ask 166 = .ok (.iconst 0, 1) := by decide +kernel
theorem d_D_ask_167 : decode b_D_ask 167 = .ok (.ireturn, 1) := by decide +kernel
theorem d_D_finish_0 : decode b_D_finish 0 = .ok (.aload_n 0, 1) := by decide +kernel
theorem d_D_finish_1 : decode b_D_finish 1 = .ok (.getfield 60, 3) := by decide +kernel
theorem d_D_finish_4 : decode b_D_finish 4 = .ok (.aload_n 0, 1) := by decide +kernel
theorem d_D_finish_5 : decode b_D_finish 5 = .ok (.getfield 66, 3) := by decide +kernel
theorem d_D_finish_8 : decode b_D_finish 8 = .ok (.iload_n 1, 1) := by decide +kernel
theorem d_D_finish_9 : decode b_D_finish 9 = .ok (.iaload, 1) := by decide +kernel
theorem d_D_finish_10 : decode b_D_finish 10 = .ok (.iconst 2, 1) := by decide +kernel
theorem d_D_finish_11 : decode b_D_finish 11 = .ok (.iastore, 1) := by decide +kernel
theorem d_D_finish_12 : decode b_D_finish 12 = .ok (.aload_n 0, 1) := by decide +kernel
theorem d_D_finish_13 : decode b_D_finish 13 = .ok (.getfield 63, 3) := by decide +kernel
theorem d_D_finish_16 : decode b_D_finish 16 = .ok (.aload_n 0, 1) := by decide +kernel
theorem d_D_finish_17 : decode b_D_finish 17 = .ok (.getfield 66, 3) := by decide +kernel
theorem d_D_finish_20 : decode b_D_finish 20 = .ok (.iload_n 1, 1) := by decide +kernel
theorem d_D_finish_21 : decode b_D_finish 21 = .ok (.iaload, 1) := by decide +kernel
theorem d_D_finish_22 : decode b_D_finish 22 = .ok (.lload_n 2, 1) := by decide +kernel
theorem d_D_finish_23 : decode b_D_finish 23 = .ok (.lastore, 1) := by decide +kernel
theorem d_D_finish_24 : decode b_D_finish 24 = .ok (.aload_n 0, 1) := by decide +kernel
theorem d_D_finish_25 : decode b_D_finish 25 = .ok (.dup, 1) := by decide +kernel
theorem d_D_finish_26 : decode b_D_finish 26 = .ok (.getfield 118, 3) := by decide +kernel
theorem d_D_finish_29 : decode b_D_finish 29 = .ok (.iconst 1, 1) := by decide +kernel
theorem d_D_finish_30 : decode b_D_finish 30 = .ok (.isub, 1) := by decide +kernel
theorem d_D_finish_31 : decode b_D_finish 31 = .ok (.putfield 118, 3) := by decide +kernel
theorem d_D_finish_34 : decode b_D_finish 34 = .ok (.return_, 1) := by decide +kernel
theorem d_D_nextCandidate_0 : decode b_D_nextCandidate 0 = .ok (.aload_n 0, 1) := by decide +kernel
theorem d_D_nextCandidate_1 : decode b_D_nextCandidate 1 = .ok (.getfield 66, 3) := by decide +kernel
theorem d_D_nextCandidate_4 : decode b_D_nextCandidate 4 = .ok (.iload_n 1, 1) := by decide +kernel
theorem d_D_nextCandidate_5 : decode b_D_nextCandidate 5 = .ok (.iaload, 1) := by decide +kernel
theorem d_D_nextCandidate_6 : decode b_D_nextCandidate 6 = .ok (.istore_n 2, 1) := by decide +kernel
theorem d_D_nextCandidate_7 : decode b_D_nextCandidate 7 = .ok (.aload_n 0, 1) := by decide +kernel
theorem d_D_nextCandidate_8 : decode b_D_nextCandidate 8 = .ok (.getfield 69, 3) := by decide +kernel
theorem d_D_nextCandidate_11 : decode b_D_nextCandidate 11 = .ok (.iload_n 1, 1) := by decide +kernel
theorem d_D_nextCandidate_12 : decode b_D_nextCandidate 12 = .ok (.iaload, 1) := by decide +kernel
theorem d_D_nextCandidate_13 : decode b_D_nextCandidate 13 = .ok (.iconst 1, 1) := by decide +kernel
theorem d_D_nextCandidate_14 : decode b_D_nextCandidate 14 = .ok (.if_icmp .ne 76, 3) := by decide +kernel
theorem d_D_nextCandidate_17 : decode b_D_nextCandidate 17 = .ok (.aload_n 0, 1) := by decide +kernel
theorem d_D_nextCandidate_18 : decode b_D_nextCandidate 18 = .ok (.getfield 69, 3) := by decide +kernel
theorem d_D_nextCandidate_21 : decode b_D_nextCandidate 21 = .ok (.iload_n 1, 1) := by decide +kernel
theorem d_D_nextCandidate_22 : decode b_D_nextCandidate 22 = .ok (.iconst 2, 1) := by decide +kernel
theorem d_D_nextCandidate_23 : decode b_D_nextCandidate 23 = .ok (.iastore, 1) := by decide +kernel
theorem d_D_nextCandidate_24 : decode b_D_nextCandidate 24 = .ok (.iconst 0, 1) := by decide +kernel
theorem d_D_nextCandidate_25 : decode b_D_nextCandidate 25 = .ok (.istore_n 3, 1) := by decide +kernel
theorem d_D_nextCandidate_26 : decode b_D_nextCandidate 26 = .ok (.iload_n 3, 1) := by decide +kernel
theorem d_D_nextCandidate_27 : decode b_D_nextCandidate 27 = .ok (.aload_n 0, 1) := by decide +kernel
theorem d_D_nextCandidate_28 : decode b_D_nextCandidate 28 = .ok (.getfield 100, 3) := by decide +kernel
theorem d_D_nextCandidate_31 : decode b_D_nextCandidate 31 = .ok (.if_icmp .ge 59, 3) := by decide +kernel
theorem d_D_nextCandidate_34 : decode b_D_nextCandidate 34 = .ok (.aload_n 0, 1) := by decide +kernel
theorem d_D_nextCandidate_35 : decode b_D_nextCandidate 35 = .ok (.getfield 29, 3) := by decide +kernel
theorem d_D_nextCandidate_38 : decode b_D_nextCandidate 38 = .ok (.aload_n 0, 1) := by decide +kernel
theorem d_D_nextCandidate_39 : decode b_D_nextCandidate 39 = .ok (.getfield 48, 3) := by decide +kernel
theorem d_D_nextCandidate_42 : decode b_D_nextCandidate 42 = .ok (.iload_n 3, 1) := by decide +kernel
theorem d_D_nextCandidate_43 : decode b_D_nextCandidate 43 = .ok (.iaload, 1) := by decide +kernel
theorem d_D_nextCandidate_44 : decode b_D_nextCandidate 44 = .ok (.iaload, 1) := by decide +kernel
theorem d_D_nextCandidate_45 : decode b_D_nextCandidate 45 = .ok (.iload_n 2, 1) := by decide +kernel
theorem d_D_nextCandidate_46 : decode b_D_nextCandidate 46 = .ok (.if_icmp .eq 6, 3) := by decide +kernel
theorem d_D_nextCandidate_49 : decode b_D_nextCandidate 49 = .ok (.goto 35, 3) := by decide +kernel
theorem d_D_nextCandidate_52 : decode b_D_nextCandidate 52 = .ok (.aload_n 0, 1) := by decide +kernel
theorem d_D_nextCandidate_53 : decode b_D_nextCandidate 53 = .ok (.getfield 78, 3) := by decide +kernel
theorem d_D_nextCandidate_56 : decode b_D_nextCandidate 56 = .ok (.iload_n 1, 1) := by decide +kernel
theorem d_D_nextCandidate_57 : decode b_D_nextCandidate 57 = .ok (.bipush 16, 2) := by decide +kernel
theorem d_D_nextCandidate_59 : decode b_D_nextCandidate 59 = .ok (.imul, 1) := by decide +kernel
theorem d_D_nextCandidate_60 : decode b_D_nextCandidate 60 = .ok (.aload_n 0, 1) := by decide +kernel
theorem d_D_nextCandidate_61 : decode b_D_nextCandidate 61 = .ok (.getfield 81, 3) := by decide +kernel
theorem d_D_nextCandidate_64 : decode b_D_nextCandidate 64 = .ok (.iload_n 1, 1) := by decide +kernel
theorem d_D_nextCandidate_65 : decode b_D_nextCandidate 65 = .ok (.iaload, 1) := by decide +kernel
theorem d_D_nextCandidate_66 : decode b_D_nextCandidate 66 = .ok (.iadd, 1) := by decide +kernel
theorem d_D_nextCandidate_67 : decode b_D_nextCandidate 67 = .ok (.aload_n 0, 1) := by decide +kernel
theorem d_D_nextCandidate_68 : decode b_D_nextCandidate 68 = .ok (.getfield 48, 3) := by decide +kernel
theorem d_D_nextCandidate_71 : decode b_D_nextCandidate 71 = .ok (.iload_n 3, 1) := by decide +kernel
theorem d_D_nextCandidate_72 : decode b_D_nextCandidate 72 = .ok (.iaload, 1) := by decide +kernel
theorem d_D_nextCandidate_73 : decode b_D_nextCandidate 73 = .ok (.iastore, 1) := by decide +kernel
theorem d_D_nextCandidate_74 : decode b_D_nextCandidate 74 = .ok (.aload_n 0, 1) := by decide +kernel
theorem d_D_nextCandidate_75 : decode b_D_nextCandidate 75 = .ok (.getfield 81, 3) := by decide +kernel
theorem d_D_nextCandidate_78 : decode b_D_nextCandidate 78 = .ok (.iload_n 1, 1) := by decide +kernel
theorem d_D_nextCandidate_79 : decode b_D_nextCandidate 79 = .ok (.dup2, 1) := by decide +kernel
theorem d_D_nextCandidate_80 : decode b_D_nextCandidate 80 = .ok (.iaload, 1) := by decide +kernel
theorem d_D_nextCandidate_81 : decode b_D_nextCandidate 81 = .ok (.iconst 1, 1) := by decide +kernel
theorem d_D_nextCandidate_82 : decode b_D_nextCandidate 82 = .ok (.iadd, 1) := by decide +kernel
theorem d_D_nextCandidate_83 : decode b_D_nextCandidate 83 = .ok (.iastore, 1) := by decide +kernel
theorem d_D_nextCandidate_84 : decode b_D_nextCandidate 84 = .ok (.iinc 3 1, 3) := by decide +kernel
theorem d_D_nextCandidate_87 : decode b_D_nextCandidate 87 = .ok (.goto (-61), 3) := by decide +kernel
theorem d_D_nextCandidate_90 : decode b_D_nextCandidate 90 = .ok (.aload_n 0, 1) := by decide +kernel
theorem d_D_nextCandidate_91 : decode b_D_nextCandidate 91 = .ok (.getfield 75, 3) := by decide +kernel
theorem d_D_nextCandidate_94 : decode b_D_nextCandidate 94 = .ok (.iload_n 1, 1) := by decide +kernel
theorem d_D_nextCandidate_95 : decode b_D_nextCandidate 95 = .ok (.iconst 0, 1) := by decide +kernel
theorem d_D_nextCandidate_96 : decode b_D_nextCandidate 96 = .ok (.iastore, 1) := by decide +kernel
theorem d_D_nextCandidate_97 : decode b_D_nextCandidate 97 = .ok (.aload_n 0, 1) := by decide +kernel
theorem d_D_nextCandidate_98 : decode b_D_nextCandidate 98 = .ok (.getfield 81, 3) := by decide +kernel
theorem d_D_nextCandidate_101 : decode b_D_nextCandidate 101 = .ok (.iload_n 1, 1) := by decide +kernel
theorem d_D_nextCandidate_102 : decode b_D_nextCandidate 102 = .ok (.iaload, 1) := by decide +kernel
theorem d_D_nextCandidate_103 : decode b_D_nextCandidate 103 = .ok (.ifCond .le 48, 3) := by decide +kernel
theorem d_D_nextCandidate_106 : decode b_D_nextCandidate 106 = .ok (.aload_n 0, 1) := by decide +kernel
theorem d_D_nextCandidate_107 : decode b_D_nextCandidate 107 = .ok (.getfield 81, 3) := by decide +kernel
theorem d_D_nextCandidate_110 : decode b_D_nextCandidate 110 = .ok (.iload_n 1, 1) := by decide +kernel
theorem d_D_nextCandidate_111 : decode b_D_nextCandidate 111 = .ok (.dup2, 1) := by decide +kernel
theorem d_D_nextCandidate_112 : decode b_D_nextCandidate 112 = .ok (.iaload, 1) := by decide +kernel
theorem d_D_nextCandidate_113 : decode b_D_nextCandidate 113 = .ok (.iconst 1, 1) := by decide +kernel
theorem d_D_nextCandidate_114 : decode b_D_nextCandidate 114 = .ok (.isub, 1) := by decide +kernel
theorem d_D_nextCandidate_115 : decode b_D_nextCandidate 115 = .ok (.iastore, 1) := by decide +kernel
theorem d_D_nextCandidate_116 : decode b_D_nextCandidate 116 = .ok (.aload_n 0, 1) := by decide +kernel
theorem d_D_nextCandidate_117 : decode b_D_nextCandidate 117 = .ok (.getfield 72, 3) := by decide +kernel
theorem d_D_nextCandidate_120 : decode b_D_nextCandidate 120 = .ok (.iload_n 1, 1) := by decide +kernel
theorem d_D_nextCandidate_121 : decode b_D_nextCandidate 121 = .ok (.aload_n 0, 1) := by decide +kernel
theorem d_D_nextCandidate_122 : decode b_D_nextCandidate 122 = .ok (.getfield 78, 3) := by decide +kernel
theorem d_D_nextCandidate_125 : decode b_D_nextCandidate 125 = .ok (.iload_n 1, 1) := by decide +kernel
theorem d_D_nextCandidate_126 : decode b_D_nextCandidate 126 = .ok (.bipush 16, 2) := by decide +kernel
theorem d_D_nextCandidate_128 : decode b_D_nextCandidate 128 = .ok (.imul, 1) := by decide +kernel
theorem d_D_nextCandidate_129 : decode b_D_nextCandidate 129 = .ok (.aload_n 0, 1) := by decide +kernel
theorem d_D_nextCandidate_130 : decode b_D_nextCandidate 130 = .ok (.getfield 81, 3) := by decide +kernel
theorem d_D_nextCandidate_133 : decode b_D_nextCandidate 133 = .ok (.iload_n 1, 1) := by decide +kernel
theorem d_D_nextCandidate_134 : decode b_D_nextCandidate 134 = .ok (.iaload, 1) := by decide +kernel
theorem d_D_nextCandidate_135 : decode b_D_nextCandidate 135 = .ok (.iadd, 1) := by decide +kernel
theorem d_D_nextCandidate_136 : decode b_D_nextCandidate 136 = .ok (.iaload, 1) := by decide +kernel
theorem d_D_nextCandidate_137 : decode b_D_nextCandidate 137 = .ok (.iastore, 1) := by decide +kernel
theorem d_D_nextCandidate_138 : decode b_D_nextCandidate 138 = .ok (.aload_n 0, 1) := by decide +kernel
theorem d_D_nextCandidate_139 : decode b_D_nextCandidate 139 = .ok (.getfield 84, 3) := by decide +kernel
theorem d_D_nextCandidate_142 : decode b_D_nextCandidate 142 = .ok (.iload_n 1, 1) := by decide +kernel
theorem d_D_nextCandidate_143 : decode b_D_nextCandidate 143 = .ok (.aload_n 0, 1) := by decide +kernel
theorem d_D_nextCandidate_144 : decode b_D_nextCandidate 144 = .ok (.getfield 72, 3) := by decide +kernel
theorem d_D_nextCandidate_147 : decode b_D_nextCandidate 147 = .ok (.iload_n 1, 1) := by decide +kernel
theorem d_D_nextCandidate_148 : decode b_D_nextCandidate 148 = .ok (.iaload, 1) := by decide +kernel
theorem d_D_nextCandidate_149 : decode b_D_nextCandidate 149 = .ok (.iastore, 1) := by decide +kernel
theorem d_D_nextCandidate_150 : decode b_D_nextCandidate 150 = .ok (.return_, 1) := by decide +kernel
theorem d_D_nextCandidate_151 : decode b_D_nextCandidate 151 = .ok (.aload_n 0, 1) := by decide +kernel
theorem d_D_nextCandidate_152 : decode b_D_nextCandidate 152 = .ok (.invokevirtual 127, 3) := by decide +kernel
theorem d_D_nextCandidate_155 : decode b_D_nextCandidate 155 = .ok (.istore_n 3, 1) := by decide +kernel
theorem d_D_nextCandidate_156 : decode b_D_nextCandidate 156 = .ok (.aload_n 0, 1) := by decide +kernel
theorem d_D_nextCandidate_157 : decode b_D_nextCandidate 157 = .ok (.getfield 69, 3) := by decide +kernel
theorem d_D_nextCandidate_160 : decode b_D_nextCandidate 160 = .ok (.iload_n 1, 1) := by decide +kernel
theorem d_D_nextCandidate_161 : decode b_D_nextCandidate 161 = .ok (.iconst 3, 1) := by decide +kernel
theorem d_D_nextCandidate_162 : decode b_D_nextCandidate 162 = .ok (.iastore, 1) := by decide +kernel
theorem d_D_nextCandidate_163 : decode b_D_nextCandidate 163 = .ok (.aload_n 0, 1) := by decide +kernel
theorem d_D_nextCandidate_164 : decode b_D_nextCandidate 164 = .ok (.getfield 84, 3) := by decide +kernel
theorem d_D_nextCandidate_167 : decode b_D_nextCandidate 167 = .ok (.iload_n 1, 1) := by decide +kernel
theorem d_D_nextCandidate_168 : decode b_D_nextCandidate 168 = .ok (.iload_n 3, 1) := by decide +kernel
theorem d_D_nextCandidate_169 : decode b_D_nextCandidate 169 = .ok (.iastore, 1) := by decide +kernel
theorem d_D_nextCandidate_170 : decode b_D_nextCandidate 170 = .ok (.aload_n 0, 1) := by decide +kernel
theorem d_D_nextCandidate_171 : decode b_D_nextCandidate 171 = .ok (.getfield 23, 3) := by decide +kernel
theorem d_D_nextCandidate_174 : decode b_D_nextCandidate 174 = .ok (.iload_n 3, 1) := by decide +kernel
theorem d_D_nextCandidate_175 : decode b_D_nextCandidate 175 = .ok (.iconst 0, 1) := by decide +kernel
theorem d_D_nextCandidate_176 : decode b_D_nextCandidate 176 = .ok (.iastore, 1) := by decide +kernel
theorem d_D_nextCandidate_177 : decode b_D_nextCandidate 177 = .ok (.aload_n 0, 1) := by decide +kernel
theorem d_D_nextCandidate_178 : decode b_D_nextCandidate 178 = .ok (.getfield 29, 3) := by decide +kernel
theorem d_D_nextCandidate_181 : decode b_D_nextCandidate 181 = .ok (.iload_n 3, 1) := by decide +kernel
theorem d_D_nextCandidate_182 : decode b_D_nextCandidate 182 = .ok (.iload_n 2, 1) := by decide +kernel
theorem d_D_nextCandidate_183 : decode b_D_nextCandidate 183 = .ok (.iastore, 1) := by decide +kernel
theorem d_D_nextCandidate_184 : decode b_D_nextCandidate 184 = .ok (.aload_n 0, 1) := by decide +kernel
theorem d_D_nextCandidate_185 : decode b_D_nextCandidate 185 = .ok (.getfield 87, 3) := by decide +kernel
theorem d_D_nextCandidate_188 : decode b_D_nextCandidate 188 = .ok (.iload_n 1, 1) := by decide +kernel
theorem d_D_nextCandidate_189 : decode b_D_nextCandidate 189 = .ok (.iconst 0, 1) := by decide +kernel
theorem d_D_nextCandidate_190 : decode b_D_nextCandidate 190 = .ok (.iastore, 1) := by decide +kernel
theorem d_D_nextCandidate_191 : decode b_D_nextCandidate 191 = .ok (.aload_n 0, 1) := by decide +kernel
theorem d_D_nextCandidate_192 : decode b_D_nextCandidate 192 = .ok (.getfield 93, 3) := by decide +kernel
theorem d_D_nextCandidate_195 : decode b_D_nextCandidate 195 = .ok (.iload_n 1, 1) := by decide +kernel
theorem d_D_nextCandidate_196 : decode b_D_nextCandidate 196 = .ok (.aload_n 0, 1) := by decide +kernel
theorem d_D_nextCandidate_197 : decode b_D_nextCandidate 197 = .ok (.getfield 13, 3) := by decide +kernel
theorem d_D_nextCandidate_200 : decode b_D_nextCandidate 200 = .ok (.iload_n 2, 1) := by decide +kernel
theorem d_D_nextCandidate_201 : decode b_D_nextCandidate 201 = .ok (.iaload, 1) := by decide +kernel
theorem d_D_nextCandidate_202 : decode b_D_nextCandidate 202 = .ok (.iconst 1, 1) := by decide +kernel
theorem d_D_nextCandidate_203 : decode b_D_nextCandidate 203 = .ok (.if_icmp .ne 7, 3) := by decide +kernel
theorem d_D_nextCandidate_206 : decode b_D_nextCandidate 206 = .ok (.lconst 1, 1) := by decide +kernel
theorem d_D_nextCandidate_207 : decode b_D_nextCandidate 207 = .ok (.goto 4, 3) := by decide +kernel
theorem d_D_nextCandidate_210 : decode b_D_nextCandidate 210 = .ok (.lconst 0, 1) := by decide +kernel
theorem d_D_nextCandidate_211 : decode b_D_nextCandidate 211 = .ok (.lastore, 1) := by decide +kernel
theorem d_D_nextCandidate_212 : decode b_D_nextCandidate 212 = .ok (.aload_n 0, 1) := by decide +kernel
theorem d_D_nextCandidate_213 : decode b_D_nextCandidate 213 = .ok (.iconst 1, 1) := by decide +kernel
theorem d_D_nextCandidate_214 : decode b_D_nextCandidate 214 = .ok (.putfield 131, 3) := by decide +kernel
theorem d_D_nextCandidate_217 : decode b_D_nextCandidate 217 = .ok (.return_, 1) := by decide +kernel
theorem d_D_check_0 : decode b_D_check 0 = .ok (.aload_n 0, 1) := by decide +kernel
theorem d_D_check_1 : decode b_D_check 1 = .ok (.getfield 72, 3) := by decide +kernel
theorem d_D_check_4 : decode b_D_check 4 = .ok (.iload_n 1, 1) := by decide +kernel
theorem d_D_check_5 : decode b_D_check 5 = .ok (.iaload, 1) := by decide +kernel
theorem d_D_check_6 : decode b_D_check 6 = .ok (.istore_n 2, 1) := by decide +kernel
theorem d_D_check_7 : decode b_D_check 7 = .ok (.iload_n 2, 1) := by decide +kernel
theorem d_D_check_8 : decode b_D_check 8 = .ok (.ifCond .ge 9, 3) := by decide +kernel
theorem d_D_check_11 : decode b_D_check 11 = .ok (.aload_n 0, 1) := by decide +kernel
theorem d_D_check_12 : decode b_D_check 12 = .ok (.iload_n 1, 1) := by decide +kernel
theorem d_D_check_13 : decode b_D_check 13 = .ok (.invokevirtual 135, 3) := by decide +kernel
theorem d_D_check_16 : decode b_D_check 16 = .ok (.return_, 1) := by decide +kernel
theorem d_D_check_17 : decode b_D_check 17 = .ok (.aload_n 0, 1) := by decide +kernel
theorem d_D_check_18 : decode b_D_check 18 = .ok (.getfield 75, 3) := by decide +kernel
theorem d_D_check_21 : decode b_D_check 21 = .ok (.iload_n 1, 1) := by decide +kernel
theorem d_D_check_22 : decode b_D_check 22 = .ok (.iaload, 1) := by decide +kernel
theorem d_D_check_23 : decode b_D_check 23 = .ok (.aload_n 0, 1) := by decide +kernel
theorem d_D_check_24 : decode b_D_check 24 = .ok (.getfield 23, 3) := by decide +kernel
theorem d_D_check_27 : decode b_D_check 27 = .ok (.iload_n 2, 1) := by decide +kernel
theorem d_D_check_28 : decode b_D_check 28 = .ok (.iaload, 1) := by decide +kernel
theorem d_D_check_29 : decode b_D_check 29 = .ok (.if_icmp .ne 50, 3) := by decide +kernel
theorem d_D_check_32 : decode b_D_check 32 = .ok (.aload_n 0, 1) := by decide +kernel
theorem d_D_check_33 : decode b_D_check 33 = .ok (.getfield 54, 3) := by decide +kernel
theorem d_D_check_36 : decode b_D_check 36 = .ok (.aload_n 0, 1) := by decide +kernel
theorem d_D_check_37 : decode b_D_check 37 = .ok (.getfield 69, 3) := by decide +kernel
theorem d_D_check_40 : decode b_D_check 40 = .ok (.iload_n 1, 1) := by decide +kernel
theorem d_D_check_41 : decode b_D_check 41 = .ok (.iaload, 1) := by decide +kernel
theorem d_D_check_42 : decode b_D_check 42 = .ok (.dup2, 1) := by decide +kernel
theorem d_D_check_43 : decode b_D_check 43 = .ok (.iaload, 1) := by decide +kernel
theorem d_D_check_44 : decode b_D_check 44 = .ok (.iconst 1, 1) := by decide +kernel
theorem d_D_check_45 : decode b_D_check 45 = .ok (.iadd, 1) := by decide +kernel
theorem d_D_check_46 : decode b_D_check 46 = .ok (.iastore, 1) := by decide +kernel
theorem d_D_check_47 : decode b_D_check 47 = .ok (.aload_n 0, 1) := by decide +kernel
theorem d_D_check_48 : decode b_D_check 48 = .ok (.getfield 42, 3) := by decide +kernel
theorem d_D_check_51 : decode b_D_check 51 = .ok (.aload_n 0, 1) := by decide +kernel
theorem d_D_check_52 : decode b_D_check 52 = .ok (.getfield 124, 3) := by decide +kernel
theorem d_D_check_55 : decode b_D_check 55 = .ok (.bipush 12, 2) := by decide +kernel
theorem d_D_check_57 : decode b_D_check 57 = .ok (.imul, 1) := by decide +kernel
theorem d_D_check_58 : decode b_D_check 58 = .ok (.aload_n 0, 1) := by decide +kernel
theorem d_D_check_59 : decode b_D_check 59 = .ok (.getfield 66, 3) := by decide +kernel
theorem d_D_check_62 : decode b_D_check 62 = .ok (.iload_n 1, 1) := by decide +kernel
theorem d_D_check_63 : decode b_D_check 63 = .ok (.iaload, 1) := by decide +kernel
theorem d_D_check_64 : decode b_D_check 64 = .ok (.iadd, 1) := by decide +kernel
theorem d_D_check_65 : decode b_D_check 65 = .ok (.iload_n 2, 1) := by decide +kernel
theorem d_D_check_66 : decode b_D_check 66 = .ok (.iastore, 1) := by decide +kernel
theorem d_D_check_67 : decode b_D_check 67 = .ok (.aload_n 0, 1) := by decide +kernel
theorem d_D_check_68 : decode b_D_check 68 = .ok (.iload_n 1, 1) := by decide +kernel
theorem d_D_check_69 : decode b_D_check 69 = .ok (.aload_n 0, 1) := by decide +kernel
theorem d_D_check_70 : decode b_D_check 70 = .ok (.getfield 35, 3) := by decide +kernel
theorem d_D_check_73 : decode b_D_check 73 = .ok (.iload_n 2, 1) := by decide +kernel
theorem d_D_check_74 : decode b_D_check 74 = .ok (.laload, 1) := by decide +kernel
theorem d_D_check_75 : decode b_D_check 75 = .ok (.invokevirtual 138, 3) := by decide +kernel
theorem d_D_check_78 : decode b_D_check 78 = .ok (.return_, 1) := by decide +kernel
theorem d_D_check_79 : decode b_D_check 79 = .ok (.aload_n 0, 1) := by decide +kernel
theorem d_D_check_80 : decode b_D_check 80 = .ok (.getfield 26, 3) := by decide +kernel
theorem d_D_check_83 : decode b_D_check 83 = .ok (.iload_n 2, 1) := by decide +kernel
theorem d_D_check_84 : decode b_D_check 84 = .ok (.bipush 12, 2) := by decide +kernel
theorem d_D_check_86 : decode b_D_check 86 = .ok (.imul, 1) := by decide +kernel
theorem d_D_check_87 : decode b_D_check 87 = .ok (.aload_n 0, 1) := by decide +kernel
theorem d_D_check_88 : decode b_D_check 88 = .ok (.getfield 75, 3) := by decide +kernel
theorem d_D_check_91 : decode b_D_check 91 = .ok (.iload_n 1, 1) := by decide +kernel
theorem d_D_check_92 : decode b_D_check 92 = .ok (.iaload, 1) := by decide +kernel
theorem d_D_check_93 : decode b_D_check 93 = .ok (.iadd, 1) := by decide +kernel
theorem d_D_check_94 : decode b_D_check 94 = .ok (.iaload, 1) := by decide +kernel
theorem d_D_check_95 : decode b_D_check 95 = .ok (.istore_n 3, 1) := by decide +kernel
theorem d_D_check_96 : decode b_D_check 96 = .ok (.aload_n 0, 1) := by decide +kernel
theorem d_D_check_97 : decode b_D_check 97 = .ok (.iload_n 3, 1) := by decide +kernel
theorem d_D_check_98 : decode b_D_check 98 = .ok (.invokevirtual 142, 3) := by decide +kernel
theorem d_D_check_101 : decode b_D_check 101 = .ok (.ifCond .ne 4, 3) := by decide +kernel
theorem d_D_check_104 : decode b_D_check 104 = .ok (.return_, 1) := by decide +kernel
theorem d_D_check_105 : decode b_D_check 105 = .ok (.aload_n 0, 1) := by decide +kernel
theorem d_D_check_106 : decode b_D_check 106 = .ok (.getfield 63, 3) := by decide +kernel
theorem d_D_check_109 : decode b_D_check 109 = .ok (.iload_n 3, 1) := by decide +kernel
theorem d_D_check_110 : decode b_D_check 110 = .ok (.laload, 1) := by decide +kernel
theorem d_D_check_111 : decode b_D_check 111 = .ok (.aload_n 0, 1) := by decide +kernel
theorem d_D_check_112 : decode b_D_check 112 = .ok (.getfield 32, 3) := by decide +kernel
theorem d_D_check_115 : decode b_D_check 115 = .ok (.iload_n 2, 1) := by decide +kernel
theorem d_D_check_116 : decode b_D_check 116 = .ok (.bipush 12, 2) := by decide +kernel
theorem d_D_check_118 : decode b_D_check 118 = .ok (.imul, 1) := by decide +kernel
theorem d_D_check_119 : decode b_D_check 119 = .ok (.aload_n 0, 1) := by decide +kernel
theorem d_D_check_120 : decode b_D_check 120 = .ok (.getfield 75, 3) := by decide +kernel
theorem d_D_check_123 : decode b_D_check 123 = .ok (.iload_n 1, 1) := by decide +kernel
theorem d_D_check_124 : decode b_D_check 124 = .ok (.iaload, 1) := by decide +kernel
