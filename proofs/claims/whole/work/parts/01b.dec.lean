theorem dX0_init_0 : decode cX0_init 0 = .ok (.aload_n 0, 1) := by decide +kernel
theorem dX0_init_1 : decode cX0_init 1 = .ok (.invokespecial 3, 3) := by decide +kernel
theorem dX0_init_4 : decode cX0_init 4 = .ok (.aload_n 0, 1) := by decide +kernel
theorem dX0_init_5 : decode cX0_init 5 = .ok (.bipush 20, 2) := by decide +kernel
theorem dX0_init_7 : decode cX0_init 7 = .ok (.newarray .int, 2) := by decide +kernel
theorem dX0_init_9 : decode cX0_init 9 = .ok (.putfield 11, 3) := by decide +kernel
theorem dX0_init_12 : decode cX0_init 12 = .ok (.return_, 1) := by decide +kernel
theorem dX0_forget_0 : decode cX0_forget 0 = .ok (.aload_n 0, 1) := by decide +kernel
theorem dX0_forget_1 : decode cX0_forget 1 = .ok (.iconst 0, 1) := by decide +kernel
theorem dX0_forget_2 : decode cX0_forget 2 = .ok (.putfield 15, 3) := by decide +kernel
theorem dX0_forget_5 : decode cX0_forget 5 = .ok (.return_, 1) := by decide +kernel
theorem dX0_keptBodies_0 : decode cX0_keptBodies 0 = .ok (.aload_n 0, 1) := by decide +kernel
theorem dX0_keptBodies_1 : decode cX0_keptBodies 1 = .ok (.getfield 15, 3) := by decide +kernel
theorem dX0_keptBodies_4 : decode cX0_keptBodies 4 = .ok (.bipush 20, 2) := by decide +kernel
theorem dX0_keptBodies_6 : decode cX0_keptBodies 6 = .ok (.invokestatic 19, 3) := by decide +kernel
theorem dX0_keptBodies_9 : decode cX0_keptBodies 9 = .ok (.ireturn, 1) := by decide +kernel
theorem dX0_begin_0 : decode cX0_begin 0 = .ok (.aload_n 0, 1) := by decide +kernel
theorem dX0_begin_1 : decode cX0_begin 1 = .ok (.iload_n 2, 1) := by decide +kernel
theorem dX0_begin_2 : decode cX0_begin 2 = .ok (.putfield 25, 3) := by decide +kernel
theorem dX0_begin_5 : decode cX0_begin 5 = .ok (.aload_n 0, 1) := by decide +kernel
theorem dX0_begin_6 : decode cX0_begin 6 = .ok (.aload_n 1, 1) := by decide +kernel
theorem dX0_begin_7 : decode cX0_begin 7 = .ok (.getfield 28, 3) := by decide +kernel
theorem dX0_begin_10 : decode cX0_begin 10 = .ok (.iload_n 2, 1) := by decide +kernel
theorem dX0_begin_11 : decode cX0_begin 11 = .ok (.iaload, 1) := by decide +kernel
theorem dX0_begin_12 : decode cX0_begin 12 = .ok (.putfield 33, 3) := by decide +kernel
theorem dX0_begin_15 : decode cX0_begin 15 = .ok (.aload_n 0, 1) := by decide +kernel
theorem dX0_begin_16 : decode cX0_begin 16 = .ok (.aload_n 1, 1) := by decide +kernel
theorem dX0_begin_17 : decode cX0_begin 17 = .ok (.getfield 36, 3) := by decide +kernel
theorem dX0_begin_20 : decode cX0_begin 20 = .ok (.iload_n 2, 1) := by decide +kernel
theorem dX0_begin_21 : decode cX0_begin 21 = .ok (.iaload, 1) := by decide +kernel
theorem dX0_begin_22 : decode cX0_begin 22 = .ok (.putfield 39, 3) := by decide +kernel
theorem dX0_begin_25 : decode cX0_begin 25 = .ok (.aload_n 0, 1) := by decide +kernel
theorem dX0_begin_26 : decode cX0_begin 26 = .ok (.aload_n 0, 1) := by decide +kernel
theorem dX0_begin_27 : decode cX0_begin 27 = .ok (.getfield 33, 3) := by decide +kernel
theorem dX0_begin_30 : decode cX0_begin 30 = .ok (.iload_n 3, 1) := by decide +kernel
theorem dX0_begin_31 : decode cX0_begin 31 = .ok (.iload 4, 2) := by decide +kernel
theorem dX0_begin_33 : decode cX0_begin 33 = .ok (.iconst 0, 1) := by decide +kernel
theorem dX0_begin_34 : decode cX0_begin 34 = .ok (.invokevirtual 41, 3) := by decide +kernel
theorem dX0_begin_37 : decode cX0_begin 37 = .ok (.ireturn, 1) := by decide +kernel
theorem dX0_holderOf_0 : decode cX0_holderOf 0 = .ok (.iload_n 0, 1) := by decide +kernel
theorem dX0_holderOf_1 : decode cX0_holderOf 1 = .ok (.istore_n 2, 1) := by decide +kernel
theorem dX0_holderOf_2 : decode cX0_holderOf 2 = .ok (.iconst 0, 1) := by decide +kernel
theorem dX0_holderOf_3 : decode cX0_holderOf 3 = .ok (.istore_n 3, 1) := by decide +kernel
theorem dX0_holderOf_4 : decode cX0_holderOf 4 = .ok (.iload_n 3, 1) := by decide +kernel
theorem dX0_holderOf_5 : decode cX0_holderOf 5 = .ok (.bipush 7, 2) := by decide +kernel
theorem dX0_holderOf_7 : decode cX0_holderOf 7 = .ok (.if_icmp .ge 39, 3) := by decide +kernel
theorem dX0_holderOf_10 : decode cX0_holderOf 10 = .ok (.iload_n 2, 1) := by decide +kernel
theorem dX0_holderOf_11 : decode cX0_holderOf 11 = .ok (.ifCond .le 35, 3) := by decide +kernel
theorem dX0_holderOf_14 : decode cX0_holderOf 14 = .ok (.iload_n 2, 1) := by decide +kernel
theorem dX0_holderOf_15 : decode cX0_holderOf 15 = .ok (.bipush 7, 2) := by decide +kernel
theorem dX0_holderOf_17 : decode cX0_holderOf 17 = .ok (.if_icmp .ge 29, 3) := by decide +kernel
theorem dX0_holderOf_20 : decode cX0_holderOf 20 = .ok (.getstatic 45, 3) := by decide +kernel
theorem dX0_holderOf_23 : decode cX0_holderOf 23 = .ok (.iload_n 2, 1) := by decide +kernel
theorem dX0_holderOf_24 : decode cX0_holderOf 24 = .ok (.iconst 3, 1) := by decide +kernel
theorem dX0_holderOf_25 : decode cX0_holderOf 25 = .ok (.imul, 1) := by decide +kernel
theorem dX0_holderOf_26 : decode cX0_holderOf 26 = .ok (.iload_n 1, 1) := by decide +kernel
theorem dX0_holderOf_27 : decode cX0_holderOf 27 = .ok (.iadd, 1) := by decide +kernel
theorem dX0_holderOf_28 : decode cX0_holderOf 28 = .ok (.iaload, 1) := by decide +kernel
theorem dX0_holderOf_29 : decode cX0_holderOf 29 = .ok (.ifCond .eq 5, 3) := by decide +kernel
theorem dX0_holderOf_32 : decode cX0_holderOf 32 = .ok (.iload_n 2, 1) := by decide +kernel
theorem dX0_holderOf_33 : decode cX0_holderOf 33 = .ok (.ireturn, 1) := by decide +kernel
theorem dX0_holderOf_34 : decode cX0_holderOf 34 = .ok (.getstatic 48, 3) := by decide +kernel
theorem dX0_holderOf_37 : decode cX0_holderOf 37 = .ok (.iload_n 2, 1) := by decide +kernel
theorem dX0_holderOf_38 : decode cX0_holderOf 38 = .ok (.iaload, 1) := by decide +kernel
theorem dX0_holderOf_39 : decode cX0_holderOf 39 = .ok (.istore_n 2, 1) := by decide +kernel
theorem dX0_holderOf_40 : decode cX0_holderOf 40 = .ok (.iinc 3 1, 3) := by decide +kernel
theorem dX0_holderOf_43 : decode cX0_holderOf 43 = .ok (.goto (-39), 3) := by decide +kernel
theorem dX0_holderOf_46 : decode cX0_holderOf 46 = .ok (.iconst 0, 1) := by decide +kernel
theorem dX0_holderOf_47 : decode cX0_holderOf 47 = .ok (.ireturn, 1) := by decide +kernel
theorem dX0_note_0 : decode cX0_note 0 = .ok (.aload_n 0, 1) := by decide +kernel
theorem dX0_note_1 : decode cX0_note 1 = .ok (.getfield 15, 3) := by decide +kernel
theorem dX0_note_4 : decode cX0_note 4 = .ok (.bipush 20, 2) := by decide +kernel
theorem dX0_note_6 : decode cX0_note 6 = .ok (.if_icmp .ge 13, 3) := by decide +kernel
theorem dX0_note_9 : decode cX0_note 9 = .ok (.aload_n 0, 1) := by decide +kernel
theorem dX0_note_10 : decode cX0_note 10 = .ok (.getfield 11, 3) := by decide +kernel
theorem dX0_note_13 : decode cX0_note 13 = .ok (.aload_n 0, 1) := by decide +kernel
theorem dX0_note_14 : decode cX0_note 14 = .ok (.getfield 15, 3) := by decide +kernel
theorem dX0_note_17 : decode cX0_note 17 = .ok (.iload_n 1, 1) := by decide +kernel
theorem dX0_note_18 : decode cX0_note 18 = .ok (.iastore, 1) := by decide +kernel
theorem dX0_note_19 : decode cX0_note 19 = .ok (.aload_n 0, 1) := by decide +kernel
theorem dX0_note_20 : decode cX0_note 20 = .ok (.dup, 1) := by decide +kernel
theorem dX0_note_21 : decode cX0_note 21 = .ok (.getfield 15, 3) := by decide +kernel
theorem dX0_note_24 : decode cX0_note 24 = .ok (.iconst 1, 1) := by decide +kernel
theorem dX0_note_25 : decode cX0_note 25 = .ok (.iadd, 1) := by decide +kernel
theorem dX0_note_26 : decode cX0_note 26 = .ok (.putfield 15, 3) := by decide +kernel
theorem dX0_note_29 : decode cX0_note 29 = .ok (.return_, 1) := by decide +kernel
theorem dX0_go_0 : decode cX0_go 0 = .ok (.iload 4, 2) := by decide +kernel
theorem dX0_go_2 : decode cX0_go 2 = .ok (.bipush 40, 2) := by decide +kernel
theorem dX0_go_4 : decode cX0_go 4 = .ok (.if_icmp .le 5, 3) := by decide +kernel
theorem dX0_go_7 : decode cX0_go 7 = .ok (.iconst 0, 1) := by decide +kernel
theorem dX0_go_8 : decode cX0_go 8 = .ok (.ireturn, 1) := by decide +kernel
theorem dX0_go_9 : decode cX0_go 9 = .ok (.iload_n 1, 1) := by decide +kernel
theorem dX0_go_10 : decode cX0_go 10 = .ok (.iload_n 2, 1) := by decide +kernel
theorem dX0_go_11 : decode cX0_go 11 = .ok (.invokestatic 51, 3) := by decide +kernel
theorem dX0_go_14 : decode cX0_go 14 = .ok (.istore 5, 2) := by decide +kernel
theorem dX0_go_16 : decode cX0_go 16 = .ok (.getstatic 48, 3) := by decide +kernel
theorem dX0_go_19 : decode cX0_go 19 = .ok (.iload 5, 2) := by decide +kernel
theorem dX0_go_21 : decode cX0_go 21 = .ok (.iaload, 1) := by decide +kernel
theorem dX0_go_22 : decode cX0_go 22 = .ok (.istore 6, 2) := by decide +kernel
theorem dX0_go_24 : decode cX0_go 24 = .ok (.getstatic 45, 3) := by decide +kernel
theorem dX0_go_27 : decode cX0_go 27 = .ok (.iload 5, 2) := by decide +kernel
theorem dX0_go_29 : decode cX0_go 29 = .ok (.iconst 3, 1) := by decide +kernel
theorem dX0_go_30 : decode cX0_go 30 = .ok (.imul, 1) := by decide +kernel
theorem dX0_go_31 : decode cX0_go 31 = .ok (.iload_n 2, 1) := by decide +kernel
theorem dX0_go_32 : decode cX0_go 32 = .ok (.iadd, 1) := by decide +kernel
theorem dX0_go_33 : decode cX0_go 33 = .ok (.iaload, 1) := by decide +kernel
theorem dX0_go_34 : decode cX0_go 34 = .ok (.istore 7, 2) := by decide +kernel
theorem dX0_go_36 : decode cX0_go 36 = .ok (.iload 4, 2) := by decide +kernel
theorem dX0_go_38 : decode cX0_go 38 = .ok (.iconst 1, 1) := by decide +kernel
theorem dX0_go_39 : decode cX0_go 39 = .ok (.iadd, 1) := by decide +kernel
theorem dX0_go_40 : decode cX0_go 40 = .ok (.istore 8, 2) := by decide +kernel
theorem dX0_go_42 : decode cX0_go 42 = .ok (.aload_n 0, 1) := by decide +kernel
theorem dX0_go_43 : decode cX0_go 43 = .ok (.iload 7, 2) := by decide +kernel
theorem dX0_go_45 : decode cX0_go 45 = .ok (.invokevirtual 54, 3) := by decide +kernel
theorem dX0_go_48 : decode cX0_go 48 = .ok (.iload 7, 2) := by decide +kernel
theorem dX0_go_50 : decode cX0_go 50 = .ok (.lookupswitch 268 #[(10, 98), (11, 105), (12, 123), (20, 138), (30, 152), (40, 165), (50, 189), (51, 201), (60, 214), (70, 230), (71, 252)], 98) := by decide +kernel
theorem dX0_go_148 : decode cX0_go 148 = .ok (.iload_n 3, 1) := by decide +kernel
theorem dX0_go_149 : decode cX0_go 149 = .ok (.aload_n 0, 1) := by decide +kernel
theorem dX0_go_150 : decode cX0_go 150 = .ok (.getfield 25, 3) := by decide +kernel
theorem dX0_go_153 : decode cX0_go 153 = .ok (.iadd, 1) := by decide +kernel
theorem dX0_go_154 : decode cX0_go 154 = .ok (.ireturn, 1) := by decide +kernel
theorem dX0_go_155 : decode cX0_go 155 = .ok (.aload_n 0, 1) := by decide +kernel
theorem dX0_go_156 : decode cX0_go 156 = .ok (.aload_n 0, 1) := by decide +kernel
theorem dX0_go_157 : decode cX0_go 157 = .ok (.getfield 33, 3) := by decide +kernel
theorem dX0_go_160 : decode cX0_go 160 = .ok (.iconst 0, 1) := by decide +kernel
theorem dX0_go_161 : decode cX0_go 161 = .ok (.iload_n 3, 1) := by decide +kernel
theorem dX0_go_162 : decode cX0_go 162 = .ok (.iload 8, 2) := by decide +kernel
theorem dX0_go_164 : decode cX0_go 164 = .ok (.invokevirtual 41, 3) := by decide +kernel
theorem dX0_go_167 : decode cX0_go 167 = .ok (.aload_n 0, 1) := by decide +kernel
theorem dX0_go_168 : decode cX0_go 168 = .ok (.getfield 39, 3) := by decide +kernel
theorem dX0_go_171 : decode cX0_go 171 = .ok (.isub, 1) := by decide +kernel
theorem dX0_go_172 : decode cX0_go 172 = .ok (.ireturn, 1) := by decide +kernel
theorem dX0_go_173 : decode cX0_go 173 = .ok (.aload_n 0, 1) := by decide +kernel
theorem dX0_go_174 : decode cX0_go 174 = .ok (.aload_n 0, 1) := by decide +kernel
theorem dX0_go_175 : decode cX0_go 175 = .ok (.getfield 33, 3) := by decide +kernel
theorem dX0_go_178 : decode cX0_go 178 = .ok (.iconst 1, 1) := by decide +kernel
theorem dX0_go_179 : decode cX0_go 179 = .ok (.iload_n 3, 1) := by decide +kernel
theorem dX0_go_180 : decode cX0_go 180 = .ok (.iload 8, 2) := by decide +kernel
theorem dX0_go_182 : decode cX0_go 182 = .ok (.invokevirtual 41, 3) := by decide +kernel
theorem dX0_go_185 : decode cX0_go 185 = .ok (.iconst 2, 1) := by decide +kernel
theorem dX0_go_186 : decode cX0_go 186 = .ok (.imul, 1) := by decide +kernel
theorem dX0_go_187 : decode cX0_go 187 = .ok (.ireturn, 1) := by decide +kernel
theorem dX0_go_188 : decode cX0_go 188 = .ok (.aload_n 0, 1) := by decide +kernel
theorem dX0_go_189 : decode cX0_go 189 = .ok (.iload 6, 2) := by decide +kernel
theorem dX0_go_191 : decode cX0_go 191 = .ok (.iconst 1, 1) := by decide +kernel
theorem dX0_go_192 : decode cX0_go 192 = .ok (.iload_n 3, 1) := by decide +kernel
theorem dX0_go_193 : decode cX0_go 193 = .ok (.iload 8, 2) := by decide +kernel
theorem dX0_go_195 : decode cX0_go 195 = .ok (.invokevirtual 41, 3) := by decide +kernel
theorem dX0_go_198 : decode cX0_go 198 = .ok (.bipush 6, 2) := by decide +kernel
theorem dX0_go_200 : decode cX0_go 200 = .ok (.ixor, 1) := by decide +kernel
theorem dX0_go_201 : decode cX0_go 201 = .ok (.ireturn, 1) := by decide +kernel
theorem dX0_go_202 : decode cX0_go 202 = .ok (.aload_n 0, 1) := by decide +kernel
theorem dX0_go_203 : decode cX0_go 203 = .ok (.iload 6, 2) := by decide +kernel
theorem dX0_go_205 : decode cX0_go 205 = .ok (.iconst 0, 1) := by decide +kernel
theorem dX0_go_206 : decode cX0_go 206 = .ok (.iload_n 3, 1) := by decide +kernel
theorem dX0_go_207 : decode cX0_go 207 = .ok (.iconst 3, 1) := by decide +kernel
theorem dX0_go_208 : decode cX0_go 208 = .ok (.imul, 1) := by decide +kernel
theorem dX0_go_209 : decode cX0_go 209 = .ok (.iload 8, 2) := by decide +kernel
theorem dX0_go_211 : decode cX0_go 211 = .ok (.invokevirtual 41, 3) := by decide +kernel
theorem dX0_go_214 : decode cX0_go 214 = .ok (.ireturn, 1) := by decide +kernel
theorem dX0_go_215 : decode cX0_go 215 = .ok (.aload_n 0, 1) := by decide +kernel
theorem dX0_go_216 : decode cX0_go 216 = .ok (.iload 6, 2) := by decide +kernel
theorem dX0_go_218 : decode cX0_go 218 = .ok (.iconst 2, 1) := by decide +kernel
theorem dX0_go_219 : decode cX0_go 219 = .ok (.iload_n 3, 1) := by decide +kernel
theorem dX0_go_220 : decode cX0_go 220 = .ok (.iload 8, 2) := by decide +kernel
theorem dX0_go_222 : decode cX0_go 222 = .ok (.invokevirtual 41, 3) := by decide +kernel
theorem dX0_go_225 : decode cX0_go 225 = .ok (.aload_n 0, 1) := by decide +kernel
theorem dX0_go_226 : decode cX0_go 226 = .ok (.aload_n 0, 1) := by decide +kernel
theorem dX0_go_227 : decode cX0_go 227 = .ok (.getfield 33, 3) := by decide +kernel
theorem dX0_go_230 : decode cX0_go 230 = .ok (.iconst 1, 1) := by decide +kernel
theorem dX0_go_231 : decode cX0_go 231 = .ok (.iconst 1, 1) := by decide +kernel
theorem dX0_go_232 : decode cX0_go 232 = .ok (.iload 8, 2) := by decide +kernel
theorem dX0_go_234 : decode cX0_go 234 = .ok (.invokevirtual 41, 3) := by decide +kernel
theorem dX0_go_237 : decode cX0_go 237 = .ok (.iadd, 1) := by decide +kernel
theorem dX0_go_238 : decode cX0_go 238 = .ok (.ireturn, 1) := by decide +kernel
theorem dX0_go_239 : decode cX0_go 239 = .ok (.aload_n 0, 1) := by decide +kernel
theorem dX0_go_240 : decode cX0_go 240 = .ok (.iload 6, 2) := by decide +kernel
theorem dX0_go_242 : decode cX0_go 242 = .ok (.iconst 0, 1) := by decide +kernel
theorem dX0_go_243 : decode cX0_go 243 = .ok (.iload_n 3, 1) := by decide +kernel
theorem dX0_go_244 : decode cX0_go 244 = .ok (.iload 8, 2) := by decide +kernel
theorem dX0_go_246 : decode cX0_go 246 = .ok (.invokevirtual 41, 3) := by decide +kernel
theorem dX0_go_249 : decode cX0_go 249 = .ok (.ineg, 1) := by decide +kernel
theorem dX0_go_250 : decode cX0_go 250 = .ok (.ireturn, 1) := by decide +kernel
theorem dX0_go_251 : decode cX0_go 251 = .ok (.aload_n 0, 1) := by decide +kernel
theorem dX0_go_252 : decode cX0_go 252 = .ok (.iload 6, 2) := by decide +kernel
theorem dX0_go_254 : decode cX0_go 254 = .ok (.iconst 1, 1) := by decide +kernel
theorem dX0_go_255 : decode cX0_go 255 = .ok (.iload_n 3, 1) := by decide +kernel
theorem dX0_go_256 : decode cX0_go 256 = .ok (.iconst 1, 1) := by decide +kernel
theorem dX0_go_257 : decode cX0_go 257 = .ok (.iadd, 1) := by decide +kernel
theorem dX0_go_258 : decode cX0_go 258 = .ok (.iload 8, 2) := by decide +kernel
theorem dX0_go_260 : decode cX0_go 260 = .ok (.invokevirtual 41, 3) := by decide +kernel
theorem dX0_go_263 : decode cX0_go 263 = .ok (.ireturn, 1) := by decide +kernel
theorem dX0_go_264 : decode cX0_go 264 = .ok (.aload_n 0, 1) := by decide +kernel
theorem dX0_go_265 : decode cX0_go 265 = .ok (.iload 6, 2) := by decide +kernel
theorem dX0_go_267 : decode cX0_go 267 = .ok (.iconst 2, 1) := by decide +kernel
theorem dX0_go_268 : decode cX0_go 268 = .ok (.iload_n 3, 1) := by decide +kernel
theorem dX0_go_269 : decode cX0_go 269 = .ok (.aload_n 0, 1) := by decide +kernel
theorem dX0_go_270 : decode cX0_go 270 = .ok (.getfield 25, 3) := by decide +kernel
theorem dX0_go_273 : decode cX0_go 273 = .ok (.isub, 1) := by decide +kernel
theorem dX0_go_274 : decode cX0_go 274 = .ok (.iload 8, 2) := by decide +kernel
theorem dX0_go_276 : decode cX0_go 276 = .ok (.invokevirtual 41, 3) := by decide +kernel
theorem dX0_go_279 : decode cX0_go 279 = .ok (.ireturn, 1) := by decide +kernel
theorem dX0_go_280 : decode cX0_go 280 = .ok (.aload_n 0, 1) := by decide +kernel
theorem dX0_go_281 : decode cX0_go 281 = .ok (.iload 6, 2) := by decide +kernel
theorem dX0_go_283 : decode cX0_go 283 = .ok (.iconst 1, 1) := by decide +kernel
theorem dX0_go_284 : decode cX0_go 284 = .ok (.iload_n 3, 1) := by decide +kernel
theorem dX0_go_285 : decode cX0_go 285 = .ok (.iload 8, 2) := by decide +kernel
theorem dX0_go_287 : decode cX0_go 287 = .ok (.invokevirtual 41, 3) := by decide +kernel
theorem dX0_go_290 : decode cX0_go 290 = .ok (.aload_n 0, 1) := by decide +kernel
theorem dX0_go_291 : decode cX0_go 291 = .ok (.iload 6, 2) := by decide +kernel
theorem dX0_go_293 : decode cX0_go 293 = .ok (.iconst 0, 1) := by decide +kernel
theorem dX0_go_294 : decode cX0_go 294 = .ok (.iconst 2, 1) := by decide +kernel
theorem dX0_go_295 : decode cX0_go 295 = .ok (.iload 8, 2) := by decide +kernel
theorem dX0_go_297 : decode cX0_go 297 = .ok (.invokevirtual 41, 3) := by decide +kernel
theorem dX0_go_300 : decode cX0_go 300 = .ok (.iadd, 1) := by decide +kernel
theorem dX0_go_301 : decode cX0_go 301 = .ok (.ireturn, 1) := by decide +kernel
theorem dX0_go_302 : decode cX0_go 302 = .ok (.aload_n 0, 1) := by decide +kernel
theorem dX0_go_303 : decode cX0_go 303 = .ok (.iload 6, 2) := by decide +kernel
theorem dX0_go_305 : decode cX0_go 305 = .ok (.iconst 0, 1) := by decide +kernel
theorem dX0_go_306 : decode cX0_go 306 = .ok (.iload_n 3, 1) := by decide +kernel
theorem dX0_go_307 : decode cX0_go 307 = .ok (.iload 8, 2) := by decide +kernel
theorem dX0_go_309 : decode cX0_go 309 = .ok (.invokevirtual 41, 3) := by decide +kernel
theorem dX0_go_312 : decode cX0_go 312 = .ok (.aload_n 0, 1) := by decide +kernel
theorem dX0_go_313 : decode cX0_go 313 = .ok (.getfield 39, 3) := by decide +kernel
theorem dX0_go_316 : decode cX0_go 316 = .ok (.ixor, 1) := by decide +kernel
theorem dX0_go_317 : decode cX0_go 317 = .ok (.ireturn, 1) := by decide +kernel
theorem dX0_go_318 : decode cX0_go 318 = .ok (.iconst 0, 1) := by decide +kernel
theorem dX0_go_319 : decode cX0_go 319 = .ok (.ireturn, 1) := by decide +kernel
theorem dX1_init_0 : decode cX1_init 0 = .ok (.aload_n 0, 1) := by decide +kernel
theorem dX1_init_1 : decode cX1_init 1 = .ok (.invokespecial 3, 3) := by decide +kernel
theorem dX1_init_4 : decode cX1_init 4 = .ok (.aload_n 0, 1) := by decide +kernel
theorem dX1_init_5 : decode cX1_init 5 = .ok (.bipush 10, 2) := by decide +kernel
theorem dX1_init_7 : decode cX1_init 7 = .ok (.newarray .int, 2) := by decide +kernel
theorem dX1_init_9 : decode cX1_init 9 = .ok (.putfield 11, 3) := by decide +kernel
theorem dX1_init_12 : decode cX1_init 12 = .ok (.aload_n 0, 1) := by decide +kernel
theorem dX1_init_13 : decode cX1_init 13 = .ok (.bipush 10, 2) := by decide +kernel
theorem dX1_init_15 : decode cX1_init 15 = .ok (.newarray .int, 2) := by decide +kernel
theorem dX1_init_17 : decode cX1_init 17 = .ok (.putfield 15, 3) := by decide +kernel
theorem dX1_init_20 : decode cX1_init 20 = .ok (.aload_n 0, 1) := by decide +kernel
theorem dX1_init_21 : decode cX1_init 21 = .ok (.bipush 100, 2) := by decide +kernel
theorem dX1_init_23 : decode cX1_init 23 = .ok (.newarray .int, 2) := by decide +kernel
theorem dX1_init_25 : decode cX1_init 25 = .ok (.putfield 18, 3) := by decide +kernel
theorem dX1_init_28 : decode cX1_init 28 = .ok (.aload_n 0, 1) := by decide +kernel
theorem dX1_init_29 : decode cX1_init 29 = .ok (.bipush 100, 2) := by decide +kernel
theorem dX1_init_31 : decode cX1_init 31 = .ok (.newarray .int, 2) := by decide +kernel
theorem dX1_init_33 : decode cX1_init 33 = .ok (.putfield 21, 3) := by decide +kernel
theorem dX1_init_36 : decode cX1_init 36 = .ok (.aload_n 0, 1) := by decide +kernel
theorem dX1_init_37 : decode cX1_init 37 = .ok (.bipush 100, 2) := by decide +kernel
theorem dX1_init_39 : decode cX1_init 39 = .ok (.newarray .int, 2) := by decide +kernel
theorem dX1_init_41 : decode cX1_init 41 = .ok (.putfield 24, 3) := by decide +kernel
theorem dX1_init_44 : decode cX1_init 44 = .ok (.aload_n 0, 1) := by decide +kernel
theorem dX1_init_45 : decode cX1_init 45 = .ok (.bipush 16, 2) := by decide +kernel
theorem dX1_init_47 : decode cX1_init 47 = .ok (.newarray .int, 2) := by decide +kernel
theorem dX1_init_49 : decode cX1_init 49 = .ok (.putfield 27, 3) := by decide +kernel
theorem dX1_init_52 : decode cX1_init 52 = .ok (.aload_n 0, 1) := by decide +kernel
theorem dX1_init_53 : decode cX1_init 53 = .ok (.invokevirtual 30, 3) := by decide +kernel
theorem dX1_init_56 : decode cX1_init 56 = .ok (.return_, 1) := by decide +kernel
theorem dX1_clear_0 : decode cX1_clear 0 = .ok (.aload_n 0, 1) := by decide +kernel
theorem dX1_clear_1 : decode cX1_clear 1 = .ok (.iconst 5, 1) := by decide +kernel
theorem dX1_clear_2 : decode cX1_clear 2 = .ok (.putfield 33, 3) := by decide +kernel
theorem dX1_clear_5 : decode cX1_clear 5 = .ok (.aload_n 0, 1) := by decide +kernel
theorem dX1_clear_6 : decode cX1_clear 6 = .ok (.bipush 10, 2) := by decide +kernel
theorem dX1_clear_8 : decode cX1_clear 8 = .ok (.putfield 37, 3) := by decide +kernel
theorem dX1_clear_11 : decode cX1_clear 11 = .ok (.aload_n 0, 1) := by decide +kernel
theorem dX1_clear_12 : decode cX1_clear 12 = .ok (.iconst 1, 1) := by decide +kernel
theorem dX1_clear_13 : decode cX1_clear 13 = .ok (.putfield 40, 3) := by decide +kernel
theorem dX1_clear_16 : decode cX1_clear 16 = .ok (.aload_n 0, 1) := by decide +kernel
theorem dX1_clear_17 : decode cX1_clear 17 = .ok (.iconst 0, 1) := by decide +kernel
theorem dX1_clear_18 : decode cX1_clear 18 = .ok (.putfield 43, 3) := by decide +kernel
theorem dX1_clear_21 : decode cX1_clear 21 = .ok (.aload_n 0, 1) := by decide +kernel
theorem dX1_clear_22 : decode cX1_clear 22 = .ok (.iconst 0, 1) := by decide +kernel
theorem dX1_clear_23 : decode cX1_clear 23 = .ok (.putfield 46, 3) := by decide +kernel
theorem dX1_clear_26 : decode cX1_clear 26 = .ok (.return_, 1) := by decide +kernel
theorem dX1_addStep_0 : decode cX1_addStep 0 = .ok (.aload_n 0, 1) := by decide +kernel
theorem dX1_addStep_1 : decode cX1_addStep 1 = .ok (.getfield 46, 3) := by decide +kernel
theorem dX1_addStep_4 : decode cX1_addStep 4 = .ok (.bipush 100, 2) := by decide +kernel
theorem dX1_addStep_6 : decode cX1_addStep 6 = .ok (.if_icmp .ge 23, 3) := by decide +kernel
theorem dX1_addStep_9 : decode cX1_addStep 9 = .ok (.aload_n 0, 1) := by decide +kernel
theorem dX1_addStep_10 : decode cX1_addStep 10 = .ok (.getfield 18, 3) := by decide +kernel
theorem dX1_addStep_13 : decode cX1_addStep 13 = .ok (.aload_n 0, 1) := by decide +kernel
theorem dX1_addStep_14 : decode cX1_addStep 14 = .ok (.getfield 46, 3) := by decide +kernel
theorem dX1_addStep_17 : decode cX1_addStep 17 = .ok (.iload_n 1, 1) := by decide +kernel
theorem dX1_addStep_18 : decode cX1_addStep 18 = .ok (.iastore, 1) := by decide +kernel
theorem dX1_addStep_19 : decode cX1_addStep 19 = .ok (.aload_n 0, 1) := by decide +kernel
theorem dX1_addStep_20 : decode cX1_addStep 20 = .ok (.dup, 1) := by decide +kernel
theorem dX1_addStep_21 : decode cX1_addStep 21 = .ok (.getfield 46, 3) := by decide +kernel
theorem dX1_addStep_24 : decode cX1_addStep 24 = .ok (.iconst 1, 1) := by decide +kernel
theorem dX1_addStep_25 : decode cX1_addStep 25 = .ok (.iadd, 1) := by decide +kernel
theorem dX1_addStep_26 : decode cX1_addStep 26 = .ok (.putfield 46, 3) := by decide +kernel
theorem dX1_addStep_29 : decode cX1_addStep 29 = .ok (.return_, 1) := by decide +kernel
theorem dX1_addTest_0 : decode cX1_addTest 0 = .ok (.aload_n 0, 1) := by decide +kernel
theorem dX1_addTest_1 : decode cX1_addTest 1 = .ok (.getfield 46, 3) := by decide +kernel
theorem dX1_addTest_4 : decode cX1_addTest 4 = .ok (.bipush 100, 2) := by decide +kernel
theorem dX1_addTest_6 : decode cX1_addTest 6 = .ok (.if_icmp .ge 119, 3) := by decide +kernel
theorem dX1_addTest_9 : decode cX1_addTest 9 = .ok (.iload_n 1, 1) := by decide +kernel
theorem dX1_addTest_10 : decode cX1_addTest 10 = .ok (.iconst 3, 1) := by decide +kernel
theorem dX1_addTest_11 : decode cX1_addTest 11 = .ok (.if_icmp .eq 8, 3) := by decide +kernel
theorem dX1_addTest_14 : decode cX1_addTest 14 = .ok (.iload_n 1, 1) := by decide +kernel
theorem dX1_addTest_15 : decode cX1_addTest 15 = .ok (.iconst 4, 1) := by decide +kernel
theorem dX1_addTest_16 : decode cX1_addTest 16 = .ok (.if_icmp .ne 8, 3) := by decide +kernel
theorem dX1_addTest_19 : decode cX1_addTest 19 = .ok (.bipush 10, 2) := by decide +kernel
theorem dX1_addTest_21 : decode cX1_addTest 21 = .ok (.goto 4, 3) := by decide +kernel
theorem dX1_addTest_24 : decode cX1_addTest 24 = .ok (.iconst 1, 1) := by decide +kernel
theorem dX1_addTest_25 : decode cX1_addTest 25 = .ok (.istore 4, 2) := by decide +kernel
theorem dX1_addTest_27 : decode cX1_addTest 27 = .ok (.iload_n 3, 1) := by decide +kernel
theorem dX1_addTest_28 : decode cX1_addTest 28 = .ok (.iload 4, 2) := by decide +kernel
theorem dX1_addTest_30 : decode cX1_addTest 30 = .ok (.imul, 1) := by decide +kernel
theorem dX1_addTest_31 : decode cX1_addTest 31 = .ok (.istore 5, 2) := by decide +kernel
theorem dX1_addTest_33 : decode cX1_addTest 33 = .ok (.iload 5, 2) := by decide +kernel
theorem dX1_addTest_35 : decode cX1_addTest 35 = .ok (.iload 4, 2) := by decide +kernel
theorem dX1_addTest_37 : decode cX1_addTest 37 = .ok (.iadd, 1) := by decide +kernel
theorem dX1_addTest_38 : decode cX1_addTest 38 = .ok (.iconst 1, 1) := by decide +kernel
theorem dX1_addTest_39 : decode cX1_addTest 39 = .ok (.isub, 1) := by decide +kernel
theorem dX1_addTest_40 : decode cX1_addTest 40 = .ok (.istore 6, 2) := by decide +kernel
theorem dX1_addTest_42 : decode cX1_addTest 42 = .ok (.aload_n 0, 1) := by decide +kernel
theorem dX1_addTest_43 : decode cX1_addTest 43 = .ok (.getfield 21, 3) := by decide +kernel
theorem dX1_addTest_46 : decode cX1_addTest 46 = .ok (.aload_n 0, 1) := by decide +kernel
theorem dX1_addTest_47 : decode cX1_addTest 47 = .ok (.getfield 46, 3) := by decide +kernel
theorem dX1_addTest_50 : decode cX1_addTest 50 = .ok (.iload_n 2, 1) := by decide +kernel
theorem dX1_addTest_51 : decode cX1_addTest 51 = .ok (.ifCond .ne 7, 3) := by decide +kernel
theorem dX1_addTest_54 : decode cX1_addTest 54 = .ok (.iconst 0, 1) := by decide +kernel
theorem dX1_addTest_55 : decode cX1_addTest 55 = .ok (.goto 17, 3) := by decide +kernel
theorem dX1_addTest_58 : decode cX1_addTest 58 = .ok (.iload_n 2, 1) := by decide +kernel
theorem dX1_addTest_59 : decode cX1_addTest 59 = .ok (.iconst 1, 1) := by decide +kernel
theorem dX1_addTest_60 : decode cX1_addTest 60 = .ok (.if_icmp .ne 8, 3) := by decide +kernel
theorem dX1_addTest_63 : decode cX1_addTest 63 = .ok (.iload 5, 2) := by decide +kernel
theorem dX1_addTest_65 : decode cX1_addTest 65 = .ok (.goto 7, 3) := by decide +kernel
theorem dX1_addTest_68 : decode cX1_addTest 68 = .ok (.iload 6, 2) := by decide +kernel
theorem dX1_addTest_70 : decode cX1_addTest 70 = .ok (.iconst 1, 1) := by decide +kernel
theorem dX1_addTest_71 : decode cX1_addTest 71 = .ok (.iadd, 1) := by decide +kernel
theorem dX1_addTest_72 : decode cX1_addTest 72 = .ok (.iastore, 1) := by decide +kernel
theorem dX1_addTest_73 : decode cX1_addTest 73 = .ok (.aload_n 0, 1) := by decide +kernel
theorem dX1_addTest_74 : decode cX1_addTest 74 = .ok (.getfield 24, 3) := by decide +kernel
theorem dX1_addTest_77 : decode cX1_addTest 77 = .ok (.aload_n 0, 1) := by decide +kernel
theorem dX1_addTest_78 : decode cX1_addTest 78 = .ok (.getfield 46, 3) := by decide +kernel
theorem dX1_addTest_81 : decode cX1_addTest 81 = .ok (.iload_n 2, 1) := by decide +kernel
theorem dX1_addTest_82 : decode cX1_addTest 82 = .ok (.ifCond .ne 10, 3) := by decide +kernel
theorem dX1_addTest_85 : decode cX1_addTest 85 = .ok (.iload 5, 2) := by decide +kernel
theorem dX1_addTest_87 : decode cX1_addTest 87 = .ok (.iconst 1, 1) := by decide +kernel
theorem dX1_addTest_88 : decode cX1_addTest 88 = .ok (.isub, 1) := by decide +kernel
theorem dX1_addTest_89 : decode cX1_addTest 89 = .ok (.goto 15, 3) := by decide +kernel
theorem dX1_addTest_92 : decode cX1_addTest 92 = .ok (.iload_n 2, 1) := by decide +kernel
theorem dX1_addTest_93 : decode cX1_addTest 93 = .ok (.iconst 1, 1) := by decide +kernel
theorem dX1_addTest_94 : decode cX1_addTest 94 = .ok (.if_icmp .ne 8, 3) := by decide +kernel
theorem dX1_addTest_97 : decode cX1_addTest 97 = .ok (.iload 6, 2) := by decide +kernel
theorem dX1_addTest_99 : decode cX1_addTest 99 = .ok (.goto 5, 3) := by decide +kernel
theorem dX1_addTest_102 : decode cX1_addTest 102 = .ok (.ldc 51, 2) := by decide +kernel
theorem dX1_addTest_104 : decode cX1_addTest 104 = .ok (.iastore, 1) := by decide +kernel
theorem dX1_addTest_105 : decode cX1_addTest 105 = .ok (.aload_n 0, 1) := by decide +kernel
theorem dX1_addTest_106 : decode cX1_addTest 106 = .ok (.getfield 18, 3) := by decide +kernel
theorem dX1_addTest_109 : decode cX1_addTest 109 = .ok (.aload_n 0, 1) := by decide +kernel
theorem dX1_addTest_110 : decode cX1_addTest 110 = .ok (.getfield 46, 3) := by decide +kernel
theorem dX1_addTest_113 : decode cX1_addTest 113 = .ok (.iload_n 1, 1) := by decide +kernel
theorem dX1_addTest_114 : decode cX1_addTest 114 = .ok (.iastore, 1) := by decide +kernel
theorem dX1_addTest_115 : decode cX1_addTest 115 = .ok (.aload_n 0, 1) := by decide +kernel
theorem dX1_addTest_116 : decode cX1_addTest 116 = .ok (.dup, 1) := by decide +kernel
theorem dX1_addTest_117 : decode cX1_addTest 117 = .ok (.getfield 46, 3) := by decide +kernel
theorem dX1_addTest_120 : decode cX1_addTest 120 = .ok (.iconst 1, 1) := by decide +kernel
theorem dX1_addTest_121 : decode cX1_addTest 121 = .ok (.iadd, 1) := by decide +kernel
theorem dX1_addTest_122 : decode cX1_addTest 122 = .ok (.putfield 46, 3) := by decide +kernel
theorem dX1_addTest_125 : decode cX1_addTest 125 = .ok (.return_, 1) := by decide +kernel
theorem dX1_addDoor_0 : decode cX1_addDoor 0 = .ok (.aload_n 0, 1) := by decide +kernel
theorem dX1_addDoor_1 : decode cX1_addDoor 1 = .ok (.getfield 43, 3) := by decide +kernel
theorem dX1_addDoor_4 : decode cX1_addDoor 4 = .ok (.bipush 10, 2) := by decide +kernel
theorem dX1_addDoor_6 : decode cX1_addDoor 6 = .ok (.if_icmp .ge 36, 3) := by decide +kernel
theorem dX1_addDoor_9 : decode cX1_addDoor 9 = .ok (.aload_n 0, 1) := by decide +kernel
theorem dX1_addDoor_10 : decode cX1_addDoor 10 = .ok (.getfield 11, 3) := by decide +kernel
theorem dX1_addDoor_13 : decode cX1_addDoor 13 = .ok (.aload_n 0, 1) := by decide +kernel
theorem dX1_addDoor_14 : decode cX1_addDoor 14 = .ok (.getfield 43, 3) := by decide +kernel
theorem dX1_addDoor_17 : decode cX1_addDoor 17 = .ok (.iload_n 1, 1) := by decide +kernel
theorem dX1_addDoor_18 : decode cX1_addDoor 18 = .ok (.iastore, 1) := by decide +kernel
theorem dX1_addDoor_19 : decode cX1_addDoor 19 = .ok (.aload_n 0, 1) := by decide +kernel
theorem dX1_addDoor_20 : decode cX1_addDoor 20 = .ok (.getfield 15, 3) := by decide +kernel
theorem dX1_addDoor_23 : decode cX1_addDoor 23 = .ok (.aload_n 0, 1) := by decide +kernel
theorem dX1_addDoor_24 : decode cX1_addDoor 24 = .ok (.getfield 43, 3) := by decide +kernel
theorem dX1_addDoor_27 : decode cX1_addDoor 27 = .ok (.aload_n 0, 1) := by decide +kernel
theorem dX1_addDoor_28 : decode cX1_addDoor 28 = .ok (.getfield 46, 3) := by decide +kernel
theorem dX1_addDoor_31 : decode cX1_addDoor 31 = .ok (.iastore, 1) := by decide +kernel
theorem dX1_addDoor_32 : decode cX1_addDoor 32 = .ok (.aload_n 0, 1) := by decide +kernel
theorem dX1_addDoor_33 : decode cX1_addDoor 33 = .ok (.dup, 1) := by decide +kernel
theorem dX1_addDoor_34 : decode cX1_addDoor 34 = .ok (.getfield 43, 3) := by decide +kernel
theorem dX1_addDoor_37 : decode cX1_addDoor 37 = .ok (.iconst 1, 1) := by decide +kernel
theorem dX1_addDoor_38 : decode cX1_addDoor 38 = .ok (.iadd, 1) := by decide +kernel
theorem dX1_addDoor_39 : decode cX1_addDoor 39 = .ok (.putfield 43, 3) := by decide +kernel
theorem dX1_addDoor_42 : decode cX1_addDoor 42 = .ok (.return_, 1) := by decide +kernel
theorem dX1_holdsFor_0 : decode cX1_holdsFor 0 = .ok (.iload_n 1, 1) := by decide +kernel
theorem dX1_holdsFor_1 : decode cX1_holdsFor 1 = .ok (.iconst 0, 1) := by decide +kernel
theorem dX1_holdsFor_2 : decode cX1_holdsFor 2 = .ok (.aload_n 0, 1) := by decide +kernel
theorem dX1_holdsFor_3 : decode cX1_holdsFor 3 = .ok (.getfield 43, 3) := by decide +kernel
theorem dX1_holdsFor_6 : decode cX1_holdsFor 6 = .ok (.iconst 1, 1) := by decide +kernel
theorem dX1_holdsFor_7 : decode cX1_holdsFor 7 = .ok (.isub, 1) := by decide +kernel
theorem dX1_holdsFor_8 : decode cX1_holdsFor 8 = .ok (.invokestatic 52, 3) := by decide +kernel
theorem dX1_holdsFor_11 : decode cX1_holdsFor 11 = .ok (.ifCond .ne 5, 3) := by decide +kernel
theorem dX1_holdsFor_14 : decode cX1_holdsFor 14 = .ok (.iconst 0, 1) := by decide +kernel
theorem dX1_holdsFor_15 : decode cX1_holdsFor 15 = .ok (.ireturn, 1) := by decide +kernel
theorem dX1_holdsFor_16 : decode cX1_holdsFor 16 = .ok (.iconst 0, 1) := by decide +kernel
theorem dX1_holdsFor_17 : decode cX1_holdsFor 17 = .ok (.istore 5, 2) := by decide +kernel
theorem dX1_holdsFor_19 : decode cX1_holdsFor 19 = .ok (.iload_n 1, 1) := by decide +kernel
theorem dX1_holdsFor_20 : decode cX1_holdsFor 20 = .ok (.ifCond .ne 7, 3) := by decide +kernel
theorem dX1_holdsFor_23 : decode cX1_holdsFor 23 = .ok (.iconst 0, 1) := by decide +kernel
theorem dX1_holdsFor_24 : decode cX1_holdsFor 24 = .ok (.goto 11, 3) := by decide +kernel
theorem dX1_holdsFor_27 : decode cX1_holdsFor 27 = .ok (.aload_n 0, 1) := by decide +kernel
theorem dX1_holdsFor_28 : decode cX1_holdsFor 28 = .ok (.getfield 15, 3) := by decide +kernel
theorem dX1_holdsFor_31 : decode cX1_holdsFor 31 = .ok (.iload_n 1, 1) := by decide +kernel
theorem dX1_holdsFor_32 : decode cX1_holdsFor 32 = .ok (.iconst 1, 1) := by decide +kernel
theorem dX1_holdsFor_33 : decode cX1_holdsFor 33 = .ok (.isub, 1) := by decide +kernel
theorem dX1_holdsFor_34 : decode cX1_holdsFor 34 = .ok (.iaload, 1) := by decide +kernel
theorem dX1_holdsFor_35 : decode cX1_holdsFor 35 = .ok (.istore 6, 2) := by decide +kernel
theorem dX1_holdsFor_37 : decode cX1_holdsFor 37 = .ok (.iload 6, 2) := by decide +kernel
theorem dX1_holdsFor_39 : decode cX1_holdsFor 39 = .ok (.aload_n 0, 1) := by decide +kernel
theorem dX1_holdsFor_40 : decode cX1_holdsFor 40 = .ok (.getfield 15, 3) := by decide +kernel
theorem dX1_holdsFor_43 : decode cX1_holdsFor 43 = .ok (.iload_n 1, 1) := by decide +kernel
theorem dX1_holdsFor_44 : decode cX1_holdsFor 44 = .ok (.iaload, 1) := by decide +kernel
theorem dX1_holdsFor_45 : decode cX1_holdsFor 45 = .ok (.if_icmp .ge 149, 3) := by decide +kernel
theorem dX1_holdsFor_48 : decode cX1_holdsFor 48 = .ok (.aload_n 0, 1) := by decide +kernel
theorem dX1_holdsFor_49 : decode cX1_holdsFor 49 = .ok (.getfield 18, 3) := by decide +kernel
theorem dX1_holdsFor_52 : decode cX1_holdsFor 52 = .ok (.iload 6, 2) := by decide +kernel
theorem dX1_holdsFor_54 : decode cX1_holdsFor 54 = .ok (.iaload, 1) := by decide +kernel
theorem dX1_holdsFor_55 : decode cX1_holdsFor 55 = .ok (.ifCond .lt 36, 3) := by decide +kernel
theorem dX1_holdsFor_58 : decode cX1_holdsFor 58 = .ok (.iload 5, 2) := by decide +kernel
theorem dX1_holdsFor_60 : decode cX1_holdsFor 60 = .ok (.aload_n 0, 1) := by decide +kernel
theorem dX1_holdsFor_61 : decode cX1_holdsFor 61 = .ok (.getfield 27, 3) := by decide +kernel
theorem dX1_holdsFor_64 : decode cX1_holdsFor 64 = .ok (.arraylength, 1) := by decide +kernel
theorem dX1_holdsFor_65 : decode cX1_holdsFor 65 = .ok (.if_icmp .ge 123, 3) := by decide +kernel
theorem dX1_holdsFor_68 : decode cX1_holdsFor 68 = .ok (.aload_n 0, 1) := by decide +kernel
theorem dX1_holdsFor_69 : decode cX1_holdsFor 69 = .ok (.getfield 27, 3) := by decide +kernel
theorem dX1_holdsFor_72 : decode cX1_holdsFor 72 = .ok (.iload 5, 2) := by decide +kernel
theorem dX1_holdsFor_74 : decode cX1_holdsFor 74 = .ok (.aload_n 0, 1) := by decide +kernel
theorem dX1_holdsFor_75 : decode cX1_holdsFor 75 = .ok (.iload 6, 2) := by decide +kernel
theorem dX1_holdsFor_77 : decode cX1_holdsFor 77 = .ok (.aload_n 2, 1) := by decide +kernel
theorem dX1_holdsFor_78 : decode cX1_holdsFor 78 = .ok (.iload_n 3, 1) := by decide +kernel
theorem dX1_holdsFor_79 : decode cX1_holdsFor 79 = .ok (.iload 4, 2) := by decide +kernel
theorem dX1_holdsFor_81 : decode cX1_holdsFor 81 = .ok (.invokevirtual 56, 3) := by decide +kernel
theorem dX1_holdsFor_84 : decode cX1_holdsFor 84 = .ok (.iastore, 1) := by decide +kernel
theorem dX1_holdsFor_85 : decode cX1_holdsFor 85 = .ok (.iinc 5 1, 3) := by decide +kernel
theorem dX1_holdsFor_88 : decode cX1_holdsFor 88 = .ok (.goto 100, 3) := by decide +kernel
theorem dX1_holdsFor_91 : decode cX1_holdsFor 91 = .ok (.aload_n 0, 1) := by decide +kernel
theorem dX1_holdsFor_92 : decode cX1_holdsFor 92 = .ok (.getfield 18, 3) := by decide +kernel
theorem dX1_holdsFor_95 : decode cX1_holdsFor 95 = .ok (.iload 6, 2) := by decide +kernel
theorem dX1_holdsFor_97 : decode cX1_holdsFor 97 = .ok (.iaload, 1) := by decide +kernel
theorem dX1_holdsFor_98 : decode cX1_holdsFor 98 = .ok (.bipush (-3), 2) := by decide +kernel
theorem dX1_holdsFor_100 : decode cX1_holdsFor 100 = .ok (.if_icmp .ne 25, 3) := by decide +kernel
theorem dX1_holdsFor_103 : decode cX1_holdsFor 103 = .ok (.iload 5, 2) := by decide +kernel
theorem dX1_holdsFor_105 : decode cX1_holdsFor 105 = .ok (.ifCond .le 83, 3) := by decide +kernel
theorem dX1_holdsFor_108 : decode cX1_holdsFor 108 = .ok (.aload_n 0, 1) := by decide +kernel
theorem dX1_holdsFor_109 : decode cX1_holdsFor 109 = .ok (.getfield 27, 3) := by decide +kernel
theorem dX1_holdsFor_112 : decode cX1_holdsFor 112 = .ok (.iload 5, 2) := by decide +kernel
theorem dX1_holdsFor_114 : decode cX1_holdsFor 114 = .ok (.iconst 1, 1) := by decide +kernel
theorem dX1_holdsFor_115 : decode cX1_holdsFor 115 = .ok (.isub, 1) := by decide +kernel
theorem dX1_holdsFor_116 : decode cX1_holdsFor 116 = .ok (.dup2, 1) := by decide +kernel
theorem dX1_holdsFor_117 : decode cX1_holdsFor 117 = .ok (.iaload, 1) := by decide +kernel
theorem dX1_holdsFor_118 : decode cX1_holdsFor 118 = .ok (.bipush 63, 2) := by decide +kernel
theorem dX1_holdsFor_120 : decode cX1_holdsFor 120 = .ok (.ixor, 1) := by decide +kernel
theorem dX1_holdsFor_121 : decode cX1_holdsFor 121 = .ok (.iastore, 1) := by decide +kernel
theorem dX1_holdsFor_122 : decode cX1_holdsFor 122 = .ok (.goto 66, 3) := by decide +kernel
theorem dX1_holdsFor_125 : decode cX1_holdsFor 125 = .ok (.iload 5, 2) := by decide +kernel
theorem dX1_holdsFor_127 : decode cX1_holdsFor 127 = .ok (.iconst 1, 1) := by decide +kernel
theorem dX1_holdsFor_128 : decode cX1_holdsFor 128 = .ok (.if_icmp .le 60, 3) := by decide +kernel
theorem dX1_holdsFor_131 : decode cX1_holdsFor 131 = .ok (.iinc 5 (-1), 3) := by decide +kernel
theorem dX1_holdsFor_134 : decode cX1_holdsFor 134 = .ok (.aload_n 0, 1) := by decide +kernel
theorem dX1_holdsFor_135 : decode cX1_holdsFor 135 = .ok (.getfield 27, 3) := by decide +kernel
theorem dX1_holdsFor_138 : decode cX1_holdsFor 138 = .ok (.iload 5, 2) := by decide +kernel
theorem dX1_holdsFor_140 : decode cX1_holdsFor 140 = .ok (.iconst 1, 1) := by decide +kernel
theorem dX1_holdsFor_141 : decode cX1_holdsFor 141 = .ok (.isub, 1) := by decide +kernel
theorem dX1_holdsFor_142 : decode cX1_holdsFor 142 = .ok (.iaload, 1) := by decide +kernel
theorem dX1_holdsFor_143 : decode cX1_holdsFor 143 = .ok (.istore 7, 2) := by decide +kernel
theorem dX1_holdsFor_145 : decode cX1_holdsFor 145 = .ok (.aload_n 0, 1) := by decide +kernel
theorem dX1_holdsFor_146 : decode cX1_holdsFor 146 = .ok (.getfield 27, 3) := by decide +kernel
theorem dX1_holdsFor_149 : decode cX1_holdsFor 149 = .ok (.iload 5, 2) := by decide +kernel
theorem dX1_holdsFor_151 : decode cX1_holdsFor 151 = .ok (.iconst 1, 1) := by decide +kernel
theorem dX1_holdsFor_152 : decode cX1_holdsFor 152 = .ok (.isub, 1) := by decide +kernel
theorem dX1_holdsFor_153 : decode cX1_holdsFor 153 = .ok (.aload_n 0, 1) := by decide +kernel
theorem dX1_holdsFor_154 : decode cX1_holdsFor 154 = .ok (.getfield 18, 3) := by decide +kernel
theorem dX1_holdsFor_157 : decode cX1_holdsFor 157 = .ok (.iload 6, 2) := by decide +kernel
theorem dX1_holdsFor_159 : decode cX1_holdsFor 159 = .ok (.iaload, 1) := by decide +kernel
theorem dX1_holdsFor_160 : decode cX1_holdsFor 160 = .ok (.iconst (-1), 1) := by decide +kernel
theorem dX1_holdsFor_161 : decode cX1_holdsFor 161 = .ok (.if_icmp .ne 16, 3) := by decide +kernel
theorem dX1_holdsFor_164 : decode cX1_holdsFor 164 = .ok (.iload 7, 2) := by decide +kernel
theorem dX1_holdsFor_166 : decode cX1_holdsFor 166 = .ok (.aload_n 0, 1) := by decide +kernel
theorem dX1_holdsFor_167 : decode cX1_holdsFor 167 = .ok (.getfield 27, 3) := by decide +kernel
theorem dX1_holdsFor_170 : decode cX1_holdsFor 170 = .ok (.iload 5, 2) := by decide +kernel
theorem dX1_holdsFor_172 : decode cX1_holdsFor 172 = .ok (.iaload, 1) := by decide +kernel
theorem dX1_holdsFor_173 : decode cX1_holdsFor 173 = .ok (.iand, 1) := by decide +kernel
theorem dX1_holdsFor_174 : decode cX1_holdsFor 174 = .ok (.goto 13, 3) := by decide +kernel
theorem dX1_holdsFor_177 : decode cX1_holdsFor 177 = .ok (.iload 7, 2) := by decide +kernel
theorem dX1_holdsFor_179 : decode cX1_holdsFor 179 = .ok (.aload_n 0, 1) := by decide +kernel
theorem dX1_holdsFor_180 : decode cX1_holdsFor 180 = .ok (.getfield 27, 3) := by decide +kernel
theorem dX1_holdsFor_183 : decode cX1_holdsFor 183 = .ok (.iload 5, 2) := by decide +kernel
theorem dX1_holdsFor_185 : decode cX1_holdsFor 185 = .ok (.iaload, 1) := by decide +kernel
theorem dX1_holdsFor_186 : decode cX1_holdsFor 186 = .ok (.ior, 1) := by decide +kernel
theorem dX1_holdsFor_187 : decode cX1_holdsFor 187 = .ok (.iastore, 1) := by decide +kernel
theorem dX1_holdsFor_188 : decode cX1_holdsFor 188 = .ok (.iinc 6 1, 3) := by decide +kernel
theorem dX1_holdsFor_191 : decode cX1_holdsFor 191 = .ok (.goto (-154), 3) := by decide +kernel
theorem dX1_holdsFor_194 : decode cX1_holdsFor 194 = .ok (.iload 5, 2) := by decide +kernel
theorem dX1_holdsFor_196 : decode cX1_holdsFor 196 = .ok (.ifCond .le 12, 3) := by decide +kernel
theorem dX1_holdsFor_199 : decode cX1_holdsFor 199 = .ok (.aload_n 0, 1) := by decide +kernel
theorem dX1_holdsFor_200 : decode cX1_holdsFor 200 = .ok (.getfield 27, 3) := by decide +kernel
theorem dX1_holdsFor_203 : decode cX1_holdsFor 203 = .ok (.iconst 0, 1) := by decide +kernel
theorem dX1_holdsFor_204 : decode cX1_holdsFor 204 = .ok (.iaload, 1) := by decide +kernel
theorem dX1_holdsFor_205 : decode cX1_holdsFor 205 = .ok (.goto 4, 3) := by decide +kernel
theorem dX1_holdsFor_208 : decode cX1_holdsFor 208 = .ok (.iconst 0, 1) := by decide +kernel
theorem dX1_holdsFor_209 : decode cX1_holdsFor 209 = .ok (.ireturn, 1) := by decide +kernel
theorem dX1_passTest_0 : decode cX1_passTest 0 = .ok (.aload_n 0, 1) := by decide +kernel
theorem dX1_passTest_1 : decode cX1_passTest 1 = .ok (.getfield 21, 3) := by decide +kernel
theorem dX1_passTest_4 : decode cX1_passTest 4 = .ok (.iload_n 1, 1) := by decide +kernel
theorem dX1_passTest_5 : decode cX1_passTest 5 = .ok (.iaload, 1) := by decide +kernel
theorem dX1_passTest_6 : decode cX1_passTest 6 = .ok (.istore 5, 2) := by decide +kernel
theorem dX1_passTest_8 : decode cX1_passTest 8 = .ok (.aload_n 0, 1) := by decide +kernel
theorem dX1_passTest_9 : decode cX1_passTest 9 = .ok (.getfield 24, 3) := by decide +kernel
theorem dX1_passTest_12 : decode cX1_passTest 12 = .ok (.iload_n 1, 1) := by decide +kernel
theorem dX1_passTest_13 : decode cX1_passTest 13 = .ok (.iaload, 1) := by decide +kernel
theorem dX1_passTest_14 : decode cX1_passTest 14 = .ok (.istore 6, 2) := by decide +kernel
theorem dX1_passTest_16 : decode cX1_passTest 16 = .ok (.aload_n 0, 1) := by decide +kernel
theorem dX1_passTest_17 : decode cX1_passTest 17 = .ok (.getfield 18, 3) := by decide +kernel
theorem dX1_passTest_20 : decode cX1_passTest 20 = .ok (.iload_n 1, 1) := by decide +kernel
theorem dX1_passTest_21 : decode cX1_passTest 21 = .ok (.iaload, 1) := by decide +kernel
theorem dX1_passTest_22 : decode cX1_passTest 22 = .ok (.tableswitch 89 0 4 #[34, 43, 52, 61, 70], 34) := by decide +kernel
theorem dX1_passTest_56 : decode cX1_passTest 56 = .ok (.aload_n 2, 1) := by decide +kernel
theorem dX1_passTest_57 : decode cX1_passTest 57 = .ok (.getfield 60, 3) := by decide +kernel
theorem dX1_passTest_60 : decode cX1_passTest 60 = .ok (.astore 7, 2) := by decide +kernel
theorem dX1_passTest_62 : decode cX1_passTest 62 = .ok (.goto 76, 3) := by decide +kernel
theorem dX1_passTest_65 : decode cX1_passTest 65 = .ok (.aload_n 2, 1) := by decide +kernel
theorem dX1_passTest_66 : decode cX1_passTest 66 = .ok (.getfield 65, 3) := by decide +kernel
theorem dX1_passTest_69 : decode cX1_passTest 69 = .ok (.astore 7, 2) := by decide +kernel
theorem dX1_passTest_71 : decode cX1_passTest 71 = .ok (.goto 67, 3) := by decide +kernel
theorem dX1_passTest_74 : decode cX1_passTest 74 = .ok (.aload_n 2, 1) := by decide +kernel
theorem dX1_passTest_75 : decode cX1_passTest 75 = .ok (.getfield 68, 3) := by decide +kernel
theorem dX1_passTest_78 : decode cX1_passTest 78 = .ok (.astore 7, 2) := by decide +kernel
theorem dX1_passTest_80 : decode cX1_passTest 80 = .ok (.goto 58, 3) := by decide +kernel
theorem dX1_passTest_83 : decode cX1_passTest 83 = .ok (.aload_n 2, 1) := by decide +kernel
theorem dX1_passTest_84 : decode cX1_passTest 84 = .ok (.getfield 71, 3) := by decide +kernel
theorem dX1_passTest_87 : decode cX1_passTest 87 = .ok (.astore 7, 2) := by decide +kernel
theorem dX1_passTest_89 : decode cX1_passTest 89 = .ok (.goto 49, 3) := by decide +kernel
theorem dX1_passTest_92 : decode cX1_passTest 92 = .ok (.iload_n 3, 1) := by decide +kernel
theorem dX1_passTest_93 : decode cX1_passTest 93 = .ok (.iload 5, 2) := by decide +kernel
theorem dX1_passTest_95 : decode cX1_passTest 95 = .ok (.if_icmp .lt 14, 3) := by decide +kernel
theorem dX1_passTest_98 : decode cX1_passTest 98 = .ok (.iload_n 3, 1) := by decide +kernel
theorem dX1_passTest_99 : decode cX1_passTest 99 = .ok (.iload 6, 2) := by decide +kernel
theorem dX1_passTest_101 : decode cX1_passTest 101 = .ok (.if_icmp .gt 8, 3) := by decide +kernel
theorem dX1_passTest_104 : decode cX1_passTest 104 = .ok (.bipush 63, 2) := by decide +kernel
theorem dX1_passTest_106 : decode cX1_passTest 106 = .ok (.goto 4, 3) := by decide +kernel
theorem dX1_passTest_109 : decode cX1_passTest 109 = .ok (.iconst 0, 1) := by decide +kernel
theorem dX1_passTest_110 : decode cX1_passTest 110 = .ok (.ireturn, 1) := by decide +kernel
theorem dX1_passTest_111 : decode cX1_passTest 111 = .ok (.iload 4, 2) := by decide +kernel
theorem dX1_passTest_113 : decode cX1_passTest 113 = .ok (.bipush 10, 2) := by decide +kernel
theorem dX1_passTest_115 : decode cX1_passTest 115 = .ok (.irem, 1) := by decide +kernel
theorem dX1_passTest_116 : decode cX1_passTest 116 = .ok (.iload 5, 2) := by decide +kernel
theorem dX1_passTest_118 : decode cX1_passTest 118 = .ok (.if_icmp .lt 18, 3) := by decide +kernel
theorem dX1_passTest_121 : decode cX1_passTest 121 = .ok (.iload 4, 2) := by decide +kernel
theorem dX1_passTest_123 : decode cX1_passTest 123 = .ok (.bipush 10, 2) := by decide +kernel
theorem dX1_passTest_125 : decode cX1_passTest 125 = .ok (.irem, 1) := by decide +kernel
theorem dX1_passTest_126 : decode cX1_passTest 126 = .ok (.iload 6, 2) := by decide +kernel
theorem dX1_passTest_128 : decode cX1_passTest 128 = .ok (.if_icmp .gt 8, 3) := by decide +kernel
theorem dX1_passTest_131 : decode cX1_passTest 131 = .ok (.bipush 63, 2) := by decide +kernel
theorem dX1_passTest_133 : decode cX1_passTest 133 = .ok (.goto 4, 3) := by decide +kernel
theorem dX1_passTest_136 : decode cX1_passTest 136 = .ok (.iconst 0, 1) := by decide +kernel
theorem dX1_passTest_137 : decode cX1_passTest 137 = .ok (.ireturn, 1) := by decide +kernel
theorem dX1_passTest_138 : decode cX1_passTest 138 = .ok (.iconst 0, 1) := by decide +kernel
theorem dX1_passTest_139 : decode cX1_passTest 139 = .ok (.istore 8, 2) := by decide +kernel
theorem dX1_passTest_141 : decode cX1_passTest 141 = .ok (.iconst 0, 1) := by decide +kernel
theorem dX1_passTest_142 : decode cX1_passTest 142 = .ok (.istore 9, 2) := by decide +kernel
theorem dX1_passTest_144 : decode cX1_passTest 144 = .ok (.iload 9, 2) := by decide +kernel
theorem dX1_passTest_146 : decode cX1_passTest 146 = .ok (.aload_n 2, 1) := by decide +kernel
theorem dX1_passTest_147 : decode cX1_passTest 147 = .ok (.getfield 74, 3) := by decide +kernel
theorem dX1_passTest_150 : decode cX1_passTest 150 = .ok (.if_icmp .ge 38, 3) := by decide +kernel
theorem dX1_passTest_153 : decode cX1_passTest 153 = .ok (.aload 7, 2) := by decide +kernel
theorem dX1_passTest_155 : decode cX1_passTest 155 = .ok (.iload 9, 2) := by decide +kernel
theorem dX1_passTest_157 : decode cX1_passTest 157 = .ok (.iaload, 1) := by decide +kernel
theorem dX1_passTest_158 : decode cX1_passTest 158 = .ok (.iload 5, 2) := by decide +kernel
theorem dX1_passTest_160 : decode cX1_passTest 160 = .ok (.if_icmp .lt 22, 3) := by decide +kernel
theorem dX1_passTest_163 : decode cX1_passTest 163 = .ok (.aload 7, 2) := by decide +kernel
theorem dX1_passTest_165 : decode cX1_passTest 165 = .ok (.iload 9, 2) := by decide +kernel
theorem dX1_passTest_167 : decode cX1_passTest 167 = .ok (.iaload, 1) := by decide +kernel
theorem dX1_passTest_168 : decode cX1_passTest 168 = .ok (.iload 6, 2) := by decide +kernel
theorem dX1_passTest_170 : decode cX1_passTest 170 = .ok (.if_icmp .gt 12, 3) := by decide +kernel
theorem dX1_passTest_173 : decode cX1_passTest 173 = .ok (.iload 8, 2) := by decide +kernel
theorem dX1_passTest_175 : decode cX1_passTest 175 = .ok (.iconst 1, 1) := by decide +kernel
theorem dX1_passTest_176 : decode cX1_passTest 176 = .ok (.iload 9, 2) := by decide +kernel
theorem dX1_passTest_178 : decode cX1_passTest 178 = .ok (.ishl, 1) := by decide +kernel
theorem dX1_passTest_179 : decode cX1_passTest 179 = .ok (.ior, 1) := by decide +kernel
theorem dX1_passTest_180 : decode cX1_passTest 180 = .ok (.istore 8, 2) := by decide +kernel
theorem dX1_passTest_182 : decode cX1_passTest 182 = .ok (.iinc 9 1, 3) := by decide +kernel
theorem dX1_passTest_185 : decode cX1_passTest 185 = .ok (.goto (-41), 3) := by decide +kernel
theorem dX1_passTest_188 : decode cX1_passTest 188 = .ok (.iload 8, 2) := by decide +kernel
theorem dX1_passTest_190 : decode cX1_passTest 190 = .ok (.ireturn, 1) := by decide +kernel
theorem dX2_init_0 : decode cX2_init 0 = .ok (.aload_n 0, 1) := by decide +kernel
theorem dX2_init_1 : decode cX2_init 1 = .ok (.invokespecial 3, 3) := by decide +kernel
theorem dX2_init_4 : decode cX2_init 4 = .ok (.aload_n 0, 1) := by decide +kernel
theorem dX2_init_5 : decode cX2_init 5 = .ok (.iconst 0, 1) := by decide +kernel
theorem dX2_init_6 : decode cX2_init 6 = .ok (.iload_n 1, 1) := by decide +kernel
theorem dX2_init_7 : decode cX2_init 7 = .ok (.invokestatic 9, 3) := by decide +kernel
theorem dX2_init_10 : decode cX2_init 10 = .ok (.newarray .int, 2) := by decide +kernel
theorem dX2_init_12 : decode cX2_init 12 = .ok (.putfield 15, 3) := by decide +kernel
theorem dX2_init_15 : decode cX2_init 15 = .ok (.aload_n 0, 1) := by decide +kernel
theorem dX2_init_16 : decode cX2_init 16 = .ok (.iconst 0, 1) := by decide +kernel
theorem dX2_init_17 : decode cX2_init 17 = .ok (.iload_n 1, 1) := by decide +kernel
theorem dX2_init_18 : decode cX2_init 18 = .ok (.invokestatic 9, 3) := by decide +kernel
theorem dX2_init_21 : decode cX2_init 21 = .ok (.newarray .int, 2) := by decide +kernel
theorem dX2_init_23 : decode cX2_init 23 = .ok (.putfield 21, 3) := by decide +kernel
theorem dX2_init_26 : decode cX2_init 26 = .ok (.return_, 1) := by decide +kernel
theorem dX2_isFull_0 : decode cX2_isFull 0 = .ok (.aload_n 0, 1) := by decide +kernel
theorem dX2_isFull_1 : decode cX2_isFull 1 = .ok (.getfield 24, 3) := by decide +kernel
theorem dX2_isFull_4 : decode cX2_isFull 4 = .ok (.aload_n 0, 1) := by decide +kernel
theorem dX2_isFull_5 : decode cX2_isFull 5 = .ok (.getfield 15, 3) := by decide +kernel
theorem dX2_isFull_8 : decode cX2_isFull 8 = .ok (.arraylength, 1) := by decide +kernel
theorem dX2_isFull_9 : decode cX2_isFull 9 = .ok (.if_icmp .lt 7, 3) := by decide +kernel
theorem dX2_isFull_12 : decode cX2_isFull 12 = .ok (.iconst 1, 1) := by decide +kernel
theorem dX2_isFull_13 : decode cX2_isFull 13 = .ok (.goto 4, 3) := by decide +kernel
theorem dX2_isFull_16 : decode cX2_isFull 16 = .ok (.iconst 0, 1) := by decide +kernel
theorem dX2_isFull_17 : decode cX2_isFull 17 = .ok (.ireturn, 1) := by decide +kernel
theorem dX2_empty_0 : decode cX2_empty 0 = .ok (.aload_n 0, 1) := by decide +kernel
theorem dX2_empty_1 : decode cX2_empty 1 = .ok (.iconst 0, 1) := by decide +kernel
theorem dX2_empty_2 : decode cX2_empty 2 = .ok (.putfield 24, 3) := by decide +kernel
theorem dX2_empty_5 : decode cX2_empty 5 = .ok (.return_, 1) := by decide +kernel
theorem dX2_put_0 : decode cX2_put 0 = .ok (.aload_n 0, 1) := by decide +kernel
theorem dX2_put_1 : decode cX2_put 1 = .ok (.invokevirtual 28, 3) := by decide +kernel
theorem dX2_put_4 : decode cX2_put 4 = .ok (.ifCond .eq 6, 3) := by decide +kernel
theorem dX2_put_7 : decode cX2_put 7 = .ok (.bipush (-4), 2) := by decide +kernel
theorem dX2_put_9 : decode cX2_put 9 = .ok (.ireturn, 1) := by decide +kernel
theorem dX2_put_10 : decode cX2_put 10 = .ok (.aload_n 0, 1) := by decide +kernel
theorem dX2_put_11 : decode cX2_put 11 = .ok (.getfield 15, 3) := by decide +kernel
theorem dX2_put_14 : decode cX2_put 14 = .ok (.aload_n 0, 1) := by decide +kernel
theorem dX2_put_15 : decode cX2_put 15 = .ok (.getfield 24, 3) := by decide +kernel
theorem dX2_put_18 : decode cX2_put 18 = .ok (.iload_n 1, 1) := by decide +kernel
theorem dX2_put_19 : decode cX2_put 19 = .ok (.iastore, 1) := by decide +kernel
theorem dX2_put_20 : decode cX2_put 20 = .ok (.aload_n 0, 1) := by decide +kernel
theorem dX2_put_21 : decode cX2_put 21 = .ok (.getfield 21, 3) := by decide +kernel
theorem dX2_put_24 : decode cX2_put 24 = .ok (.aload_n 0, 1) := by decide +kernel
theorem dX2_put_25 : decode cX2_put 25 = .ok (.getfield 24, 3) := by decide +kernel
theorem dX2_put_28 : decode cX2_put 28 = .ok (.iload_n 2, 1) := by decide +kernel
theorem dX2_put_29 : decode cX2_put 29 = .ok (.iastore, 1) := by decide +kernel
theorem dX2_put_30 : decode cX2_put 30 = .ok (.aload_n 0, 1) := by decide +kernel
theorem dX2_put_31 : decode cX2_put 31 = .ok (.dup, 1) := by decide +kernel
theorem dX2_put_32 : decode cX2_put 32 = .ok (.getfield 24, 3) := by decide +kernel
theorem dX2_put_35 : decode cX2_put 35 = .ok (.iconst 1, 1) := by decide +kernel
theorem dX2_put_36 : decode cX2_put 36 = .ok (.iadd, 1) := by decide +kernel
theorem dX2_put_37 : decode cX2_put 37 = .ok (.putfield 24, 3) := by decide +kernel
theorem dX2_put_40 : decode cX2_put 40 = .ok (.aload_n 0, 1) := by decide +kernel
theorem dX2_put_41 : decode cX2_put 41 = .ok (.getfield 24, 3) := by decide +kernel
theorem dX2_put_44 : decode cX2_put 44 = .ok (.ireturn, 1) := by decide +kernel
theorem dX2_mostSecond_0 : decode cX2_mostSecond 0 = .ok (.iconst (-1), 1) := by decide +kernel
theorem dX2_mostSecond_1 : decode cX2_mostSecond 1 = .ok (.istore_n 1, 1) := by decide +kernel
theorem dX2_mostSecond_2 : decode cX2_mostSecond 2 = .ok (.iconst 0, 1) := by decide +kernel
theorem dX2_mostSecond_3 : decode cX2_mostSecond 3 = .ok (.istore_n 2, 1) := by decide +kernel
theorem dX2_mostSecond_4 : decode cX2_mostSecond 4 = .ok (.iload_n 2, 1) := by decide +kernel
theorem dX2_mostSecond_5 : decode cX2_mostSecond 5 = .ok (.aload_n 0, 1) := by decide +kernel
theorem dX2_mostSecond_6 : decode cX2_mostSecond 6 = .ok (.getfield 24, 3) := by decide +kernel
theorem dX2_mostSecond_9 : decode cX2_mostSecond 9 = .ok (.if_icmp .ge 20, 3) := by decide +kernel
theorem dX2_mostSecond_12 : decode cX2_mostSecond 12 = .ok (.iload_n 1, 1) := by decide +kernel
theorem dX2_mostSecond_13 : decode cX2_mostSecond 13 = .ok (.aload_n 0, 1) := by decide +kernel
theorem dX2_mostSecond_14 : decode cX2_mostSecond 14 = .ok (.getfield 21, 3) := by decide +kernel
theorem dX2_mostSecond_17 : decode cX2_mostSecond 17 = .ok (.iload_n 2, 1) := by decide +kernel
theorem dX2_mostSecond_18 : decode cX2_mostSecond 18 = .ok (.iaload, 1) := by decide +kernel
theorem dX2_mostSecond_19 : decode cX2_mostSecond 19 = .ok (.invokestatic 9, 3) := by decide +kernel
theorem dX2_mostSecond_22 : decode cX2_mostSecond 22 = .ok (.istore_n 1, 1) := by decide +kernel
theorem dX2_mostSecond_23 : decode cX2_mostSecond 23 = .ok (.iinc 2 1, 3) := by decide +kernel
theorem dX2_mostSecond_26 : decode cX2_mostSecond 26 = .ok (.goto (-22), 3) := by decide +kernel
theorem dX2_mostSecond_29 : decode cX2_mostSecond 29 = .ok (.iload_n 1, 1) := by decide +kernel
theorem dX2_mostSecond_30 : decode cX2_mostSecond 30 = .ok (.ireturn, 1) := by decide +kernel
theorem dX2_becomeLike_0 : decode cX2_becomeLike 0 = .ok (.aload_n 0, 1) := by decide +kernel
theorem dX2_becomeLike_1 : decode cX2_becomeLike 1 = .ok (.aload_n 1, 1) := by decide +kernel
theorem dX2_becomeLike_2 : decode cX2_becomeLike 2 = .ok (.getfield 24, 3) := by decide +kernel
theorem dX2_becomeLike_5 : decode cX2_becomeLike 5 = .ok (.aload_n 0, 1) := by decide +kernel
theorem dX2_becomeLike_6 : decode cX2_becomeLike 6 = .ok (.getfield 15, 3) := by decide +kernel
theorem dX2_becomeLike_9 : decode cX2_becomeLike 9 = .ok (.arraylength, 1) := by decide +kernel
theorem dX2_becomeLike_10 : decode cX2_becomeLike 10 = .ok (.invokestatic 32, 3) := by decide +kernel
theorem dX2_becomeLike_13 : decode cX2_becomeLike 13 = .ok (.putfield 24, 3) := by decide +kernel
theorem dX2_becomeLike_16 : decode cX2_becomeLike 16 = .ok (.iconst 0, 1) := by decide +kernel
theorem dX2_becomeLike_17 : decode cX2_becomeLike 17 = .ok (.istore_n 2, 1) := by decide +kernel
theorem dX2_becomeLike_18 : decode cX2_becomeLike 18 = .ok (.iload_n 2, 1) := by decide +kernel
theorem dX2_becomeLike_19 : decode cX2_becomeLike 19 = .ok (.aload_n 0, 1) := by decide +kernel
theorem dX2_becomeLike_20 : decode cX2_becomeLike 20 = .ok (.getfield 24, 3) := by decide +kernel
theorem dX2_becomeLike_23 : decode cX2_becomeLike 23 = .ok (.if_icmp .ge 33, 3) := by decide +kernel
theorem dX2_becomeLike_26 : decode cX2_becomeLike 26 = .ok (.aload_n 0, 1) := by decide +kernel
theorem dX2_becomeLike_27 : decode cX2_becomeLike 27 = .ok (.getfield 15, 3) := by decide +kernel
theorem dX2_becomeLike_30 : decode cX2_becomeLike 30 = .ok (.iload_n 2, 1) := by decide +kernel
theorem dX2_becomeLike_31 : decode cX2_becomeLike 31 = .ok (.aload_n 1, 1) := by decide +kernel
theorem dX2_becomeLike_32 : decode cX2_becomeLike 32 = .ok (.getfield 15, 3) := by decide +kernel
theorem dX2_becomeLike_35 : decode cX2_becomeLike 35 = .ok (.iload_n 2, 1) := by decide +kernel
theorem dX2_becomeLike_36 : decode cX2_becomeLike 36 = .ok (.iaload, 1) := by decide +kernel
theorem dX2_becomeLike_37 : decode cX2_becomeLike 37 = .ok (.iastore, 1) := by decide +kernel
theorem dX2_becomeLike_38 : decode cX2_becomeLike 38 = .ok (.aload_n 0, 1) := by decide +kernel
theorem dX2_becomeLike_39 : decode cX2_becomeLike 39 = .ok (.getfield 21, 3) := by decide +kernel
theorem dX2_becomeLike_42 : decode cX2_becomeLike 42 = .ok (.iload_n 2, 1) := by decide +kernel
theorem dX2_becomeLike_43 : decode cX2_becomeLike 43 = .ok (.aload_n 1, 1) := by decide +kernel
theorem dX2_becomeLike_44 : decode cX2_becomeLike 44 = .ok (.getfield 21, 3) := by decide +kernel
theorem dX2_becomeLike_47 : decode cX2_becomeLike 47 = .ok (.iload_n 2, 1) := by decide +kernel
theorem dX2_becomeLike_48 : decode cX2_becomeLike 48 = .ok (.iaload, 1) := by decide +kernel
theorem dX2_becomeLike_49 : decode cX2_becomeLike 49 = .ok (.iastore, 1) := by decide +kernel
theorem dX2_becomeLike_50 : decode cX2_becomeLike 50 = .ok (.iinc 2 1, 3) := by decide +kernel
theorem dX2_becomeLike_53 : decode cX2_becomeLike 53 = .ok (.goto (-35), 3) := by decide +kernel
theorem dX2_becomeLike_56 : decode cX2_becomeLike 56 = .ok (.return_, 1) := by decide +kernel
theorem dX3_init_0 : decode cX3_init 0 = .ok (.aload_n 0, 1) := by decide +kernel
theorem dX3_init_1 : decode cX3_init 1 = .ok (.invokespecial 3, 3) := by decide +kernel
theorem dX3_init_4 : decode cX3_init 4 = .ok (.aload_n 0, 1) := by decide +kernel
theorem dX3_init_5 : decode cX3_init 5 = .ok (.bipush 6, 2) := by decide +kernel
theorem dX3_init_7 : decode cX3_init 7 = .ok (.newarray .int, 2) := by decide +kernel
theorem dX3_init_9 : decode cX3_init 9 = .ok (.putfield 9, 3) := by decide +kernel
theorem dX3_init_12 : decode cX3_init 12 = .ok (.aload_n 0, 1) := by decide +kernel
theorem dX3_init_13 : decode cX3_init 13 = .ok (.bipush 6, 2) := by decide +kernel
theorem dX3_init_15 : decode cX3_init 15 = .ok (.newarray .int, 2) := by decide +kernel
theorem dX3_init_17 : decode cX3_init 17 = .ok (.putfield 15, 3) := by decide +kernel
theorem dX3_init_20 : decode cX3_init 20 = .ok (.aload_n 0, 1) := by decide +kernel
theorem dX3_init_21 : decode cX3_init 21 = .ok (.bipush 6, 2) := by decide +kernel
theorem dX3_init_23 : decode cX3_init 23 = .ok (.newarray .int, 2) := by decide +kernel
theorem dX3_init_25 : decode cX3_init 25 = .ok (.putfield 18, 3) := by decide +kernel
theorem dX3_init_28 : decode cX3_init 28 = .ok (.aload_n 0, 1) := by decide +kernel
theorem dX3_init_29 : decode cX3_init 29 = .ok (.bipush 6, 2) := by decide +kernel
theorem dX3_init_31 : decode cX3_init 31 = .ok (.newarray .int, 2) := by decide +kernel
theorem dX3_init_33 : decode cX3_init 33 = .ok (.putfield 21, 3) := by decide +kernel
theorem dX3_init_36 : decode cX3_init 36 = .ok (.aload_n 0, 1) := by decide +kernel
theorem dX3_init_37 : decode cX3_init 37 = .ok (.bipush 6, 2) := by decide +kernel
theorem dX3_init_39 : decode cX3_init 39 = .ok (.newarray .int, 2) := by decide +kernel
theorem dX3_init_41 : decode cX3_init 41 = .ok (.putfield 24, 3) := by decide +kernel
theorem dX3_init_44 : decode cX3_init 44 = .ok (.aload_n 0, 1) := by decide +kernel
theorem dX3_init_45 : decode cX3_init 45 = .ok (.bipush 24, 2) := by decide +kernel
theorem dX3_init_47 : decode cX3_init 47 = .ok (.newarray .int, 2) := by decide +kernel
theorem dX3_init_49 : decode cX3_init 49 = .ok (.putfield 27, 3) := by decide +kernel
theorem dX3_init_52 : decode cX3_init 52 = .ok (.iconst 0, 1) := by decide +kernel
theorem dX3_init_53 : decode cX3_init 53 = .ok (.istore_n 1, 1) := by decide +kernel
theorem dX3_init_54 : decode cX3_init 54 = .ok (.iload_n 1, 1) := by decide +kernel
theorem dX3_init_55 : decode cX3_init 55 = .ok (.bipush 6, 2) := by decide +kernel
theorem dX3_init_57 : decode cX3_init 57 = .ok (.if_icmp .ge 16, 3) := by decide +kernel
theorem dX3_init_60 : decode cX3_init 60 = .ok (.aload_n 0, 1) := by decide +kernel
theorem dX3_init_61 : decode cX3_init 61 = .ok (.getfield 9, 3) := by decide +kernel
theorem dX3_init_64 : decode cX3_init 64 = .ok (.iload_n 1, 1) := by decide +kernel
theorem dX3_init_65 : decode cX3_init 65 = .ok (.iload_n 1, 1) := by decide +kernel
theorem dX3_init_66 : decode cX3_init 66 = .ok (.iastore, 1) := by decide +kernel
theorem dX3_init_67 : decode cX3_init 67 = .ok (.iinc 1 1, 3) := by decide +kernel
theorem dX3_init_70 : decode cX3_init 70 = .ok (.goto (-16), 3) := by decide +kernel
theorem dX3_init_73 : decode cX3_init 73 = .ok (.return_, 1) := by decide +kernel
theorem dX3_join_0 : decode cX3_join 0 = .ok (.aload_n 0, 1) := by decide +kernel
theorem dX3_join_1 : decode cX3_join 1 = .ok (.getfield 30, 3) := by decide +kernel
theorem dX3_join_4 : decode cX3_join 4 = .ok (.istore 4, 2) := by decide +kernel
theorem dX3_join_6 : decode cX3_join 6 = .ok (.iload 4, 2) := by decide +kernel
theorem dX3_join_8 : decode cX3_join 8 = .ok (.bipush 6, 2) := by decide +kernel
theorem dX3_join_10 : decode cX3_join 10 = .ok (.if_icmp .lt 6, 3) := by decide +kernel
theorem dX3_join_13 : decode cX3_join 13 = .ok (.bipush (-4), 2) := by decide +kernel
theorem dX3_join_15 : decode cX3_join 15 = .ok (.ireturn, 1) := by decide +kernel
theorem dX3_join_16 : decode cX3_join 16 = .ok (.aload_n 0, 1) := by decide +kernel
theorem dX3_join_17 : decode cX3_join 17 = .ok (.getfield 15, 3) := by decide +kernel
theorem dX3_join_20 : decode cX3_join 20 = .ok (.iload 4, 2) := by decide +kernel
theorem dX3_join_22 : decode cX3_join 22 = .ok (.iload_n 1, 1) := by decide +kernel
theorem dX3_join_23 : decode cX3_join 23 = .ok (.iastore, 1) := by decide +kernel
theorem dX3_join_24 : decode cX3_join 24 = .ok (.aload_n 0, 1) := by decide +kernel
theorem dX3_join_25 : decode cX3_join 25 = .ok (.getfield 18, 3) := by decide +kernel
theorem dX3_join_28 : decode cX3_join 28 = .ok (.iload 4, 2) := by decide +kernel
theorem dX3_join_30 : decode cX3_join 30 = .ok (.iload_n 2, 1) := by decide +kernel
theorem dX3_join_31 : decode cX3_join 31 = .ok (.iastore, 1) := by decide +kernel
theorem dX3_join_32 : decode cX3_join 32 = .ok (.aload_n 0, 1) := by decide +kernel
theorem dX3_join_33 : decode cX3_join 33 = .ok (.getfield 21, 3) := by decide +kernel
theorem dX3_join_36 : decode cX3_join 36 = .ok (.iload 4, 2) := by decide +kernel
theorem dX3_join_38 : decode cX3_join 38 = .ok (.iload_n 3, 1) := by decide +kernel
theorem dX3_join_39 : decode cX3_join 39 = .ok (.iastore, 1) := by decide +kernel
theorem dX3_join_40 : decode cX3_join 40 = .ok (.aload_n 0, 1) := by decide +kernel
theorem dX3_join_41 : decode cX3_join 41 = .ok (.getfield 24, 3) := by decide +kernel
theorem dX3_join_44 : decode cX3_join 44 = .ok (.iload 4, 2) := by decide +kernel
theorem dX3_join_46 : decode cX3_join 46 = .ok (.iconst 0, 1) := by decide +kernel
theorem dX3_join_47 : decode cX3_join 47 = .ok (.iastore, 1) := by decide +kernel
theorem dX3_join_48 : decode cX3_join 48 = .ok (.iconst 0, 1) := by decide +kernel
theorem dX3_join_49 : decode cX3_join 49 = .ok (.istore 5, 2) := by decide +kernel
theorem dX3_join_51 : decode cX3_join 51 = .ok (.iload 5, 2) := by decide +kernel
theorem dX3_join_53 : decode cX3_join 53 = .ok (.iconst 4, 1) := by decide +kernel
theorem dX3_join_54 : decode cX3_join 54 = .ok (.if_icmp .ge 22, 3) := by decide +kernel
theorem dX3_join_57 : decode cX3_join 57 = .ok (.aload_n 0, 1) := by decide +kernel
theorem dX3_join_58 : decode cX3_join 58 = .ok (.getfield 27, 3) := by decide +kernel
theorem dX3_join_61 : decode cX3_join 61 = .ok (.iload 4, 2) := by decide +kernel
theorem dX3_join_63 : decode cX3_join 63 = .ok (.iconst 4, 1) := by decide +kernel
theorem dX3_join_64 : decode cX3_join 64 = .ok (.imul, 1) := by decide +kernel
theorem dX3_join_65 : decode cX3_join 65 = .ok (.iload 5, 2) := by decide +kernel
theorem dX3_join_67 : decode cX3_join 67 = .ok (.iadd, 1) := by decide +kernel
theorem dX3_join_68 : decode cX3_join 68 = .ok (.iconst 0, 1) := by decide +kernel
theorem dX3_join_69 : decode cX3_join 69 = .ok (.iastore, 1) := by decide +kernel
theorem dX3_join_70 : decode cX3_join 70 = .ok (.iinc 5 1, 3) := by decide +kernel
theorem dX3_join_73 : decode cX3_join 73 = .ok (.goto (-22), 3) := by decide +kernel
theorem dX3_join_76 : decode cX3_join 76 = .ok (.aload_n 0, 1) := by decide +kernel
theorem dX3_join_77 : decode cX3_join 77 = .ok (.iload 4, 2) := by decide +kernel
theorem dX3_join_79 : decode cX3_join 79 = .ok (.iconst 0, 1) := by decide +kernel
theorem dX3_join_80 : decode cX3_join 80 = .ok (.invokevirtual 34, 3) := by decide +kernel
theorem dX3_join_83 : decode cX3_join 83 = .ok (.aload_n 0, 1) := by decide +kernel
theorem dX3_join_84 : decode cX3_join 84 = .ok (.dup, 1) := by decide +kernel
theorem dX3_join_85 : decode cX3_join 85 = .ok (.getfield 30, 3) := by decide +kernel
theorem dX3_join_88 : decode cX3_join 88 = .ok (.iconst 1, 1) := by decide +kernel
theorem dX3_join_89 : decode cX3_join 89 = .ok (.iadd, 1) := by decide +kernel
theorem dX3_join_90 : decode cX3_join 90 = .ok (.putfield 30, 3) := by decide +kernel
theorem dX3_join_93 : decode cX3_join 93 = .ok (.iload 4, 2) := by decide +kernel
theorem dX3_join_95 : decode cX3_join 95 = .ok (.ireturn, 1) := by decide +kernel
theorem dX3_isDead_0 : decode cX3_isDead 0 = .ok (.aload_n 0, 1) := by decide +kernel
theorem dX3_isDead_1 : decode cX3_isDead 1 = .ok (.getfield 38, 3) := by decide +kernel
theorem dX3_isDead_4 : decode cX3_isDead 4 = .ok (.iload_n 1, 1) := by decide +kernel
theorem dX3_isDead_5 : decode cX3_isDead 5 = .ok (.ishr, 1) := by decide +kernel
theorem dX3_isDead_6 : decode cX3_isDead 6 = .ok (.iconst 1, 1) := by decide +kernel
theorem dX3_isDead_7 : decode cX3_isDead 7 = .ok (.iand, 1) := by decide +kernel
theorem dX3_isDead_8 : decode cX3_isDead 8 = .ok (.ifCond .eq 7, 3) := by decide +kernel
theorem dX3_isDead_11 : decode cX3_isDead 11 = .ok (.iconst 1, 1) := by decide +kernel
theorem dX3_isDead_12 : decode cX3_isDead 12 = .ok (.goto 4, 3) := by decide +kernel
theorem dX3_isDead_15 : decode cX3_isDead 15 = .ok (.iconst 0, 1) := by decide +kernel
theorem dX3_isDead_16 : decode cX3_isDead 16 = .ok (.ireturn, 1) := by decide +kernel
theorem dX3_setDead_0 : decode cX3_setDead 0 = .ok (.aload_n 0, 1) := by decide +kernel
theorem dX3_setDead_1 : decode cX3_setDead 1 = .ok (.iload_n 2, 1) := by decide +kernel
theorem dX3_setDead_2 : decode cX3_setDead 2 = .ok (.ifCond .eq 14, 3) := by decide +kernel
theorem dX3_setDead_5 : decode cX3_setDead 5 = .ok (.aload_n 0, 1) := by decide +kernel
theorem dX3_setDead_6 : decode cX3_setDead 6 = .ok (.getfield 38, 3) := by decide +kernel
theorem dX3_setDead_9 : decode cX3_setDead 9 = .ok (.iconst 1, 1) := by decide +kernel
theorem dX3_setDead_10 : decode cX3_setDead 10 = .ok (.iload_n 1, 1) := by decide +kernel
theorem dX3_setDead_11 : decode cX3_setDead 11 = .ok (.ishl, 1) := by decide +kernel
theorem dX3_setDead_12 : decode cX3_setDead 12 = .ok (.ior, 1) := by decide +kernel
theorem dX3_setDead_13 : decode cX3_setDead 13 = .ok (.goto 13, 3) := by decide +kernel
theorem dX3_setDead_16 : decode cX3_setDead 16 = .ok (.aload_n 0, 1) := by decide +kernel
theorem dX3_setDead_17 : decode cX3_setDead 17 = .ok (.getfield 38, 3) := by decide +kernel
theorem dX3_setDead_20 : decode cX3_setDead 20 = .ok (.iconst 1, 1) := by decide +kernel
theorem dX3_setDead_21 : decode cX3_setDead 21 = .ok (.iload_n 1, 1) := by decide +kernel
theorem dX3_setDead_22 : decode cX3_setDead 22 = .ok (.ishl, 1) := by decide +kernel
theorem dX3_setDead_23 : decode cX3_setDead 23 = .ok (.iconst (-1), 1) := by decide +kernel
theorem dX3_setDead_24 : decode cX3_setDead 24 = .ok (.ixor, 1) := by decide +kernel
theorem dX3_setDead_25 : decode cX3_setDead 25 = .ok (.iand, 1) := by decide +kernel
theorem dX3_setDead_26 : decode cX3_setDead 26 = .ok (.putfield 38, 3) := by decide +kernel
theorem dX3_setDead_29 : decode cX3_setDead 29 = .ok (.return_, 1) := by decide +kernel
theorem dX3_thanksFor_0 : decode cX3_thanksFor 0 = .ok (.aload_n 0, 1) := by decide +kernel
theorem dX3_thanksFor_1 : decode cX3_thanksFor 1 = .ok (.getfield 15, 3) := by decide +kernel
theorem dX3_thanksFor_4 : decode cX3_thanksFor 4 = .ok (.iload_n 1, 1) := by decide +kernel
theorem dX3_thanksFor_5 : decode cX3_thanksFor 5 = .ok (.iaload, 1) := by decide +kernel
theorem dX3_thanksFor_6 : decode cX3_thanksFor 6 = .ok (.tableswitch 47 2 6 #[34, 38, 47, 34, 38], 34) := by decide +kernel
theorem dX3_thanksFor_40 : decode cX3_thanksFor 40 = .ok (.iload_n 2, 1) := by decide +kernel
theorem dX3_thanksFor_41 : decode cX3_thanksFor 41 = .ok (.iconst 2, 1) := by decide +kernel
theorem dX3_thanksFor_42 : decode cX3_thanksFor 42 = .ok (.idiv, 1) := by decide +kernel
theorem dX3_thanksFor_43 : decode cX3_thanksFor 43 = .ok (.ireturn, 1) := by decide +kernel
theorem dX3_thanksFor_44 : decode cX3_thanksFor 44 = .ok (.iload_n 2, 1) := by decide +kernel
theorem dX3_thanksFor_45 : decode cX3_thanksFor 45 = .ok (.aload_n 0, 1) := by decide +kernel
theorem dX3_thanksFor_46 : decode cX3_thanksFor 46 = .ok (.getfield 18, 3) := by decide +kernel
theorem dX3_thanksFor_49 : decode cX3_thanksFor 49 = .ok (.iload_n 1, 1) := by decide +kernel
theorem dX3_thanksFor_50 : decode cX3_thanksFor 50 = .ok (.iaload, 1) := by decide +kernel
theorem dX3_thanksFor_51 : decode cX3_thanksFor 51 = .ok (.iadd, 1) := by decide +kernel
theorem dX3_thanksFor_52 : decode cX3_thanksFor 52 = .ok (.ireturn, 1) := by decide +kernel
theorem dX3_thanksFor_53 : decode cX3_thanksFor 53 = .ok (.iload_n 2, 1) := by decide +kernel
theorem dX3_thanksFor_54 : decode cX3_thanksFor 54 = .ok (.ireturn, 1) := by decide +kernel
theorem dX3_give_0 : decode cX3_give 0 = .ok (.aload_n 0, 1) := by decide +kernel
theorem dX3_give_1 : decode cX3_give 1 = .ok (.getfield 24, 3) := by decide +kernel
theorem dX3_give_4 : decode cX3_give 4 = .ok (.iload_n 1, 1) := by decide +kernel
theorem dX3_give_5 : decode cX3_give 5 = .ok (.ldc 41, 2) := by decide +kernel
theorem dX3_give_7 : decode cX3_give 7 = .ok (.aload_n 0, 1) := by decide +kernel
theorem dX3_give_8 : decode cX3_give 8 = .ok (.getfield 24, 3) := by decide +kernel
theorem dX3_give_11 : decode cX3_give 11 = .ok (.iload_n 1, 1) := by decide +kernel
theorem dX3_give_12 : decode cX3_give 12 = .ok (.iaload, 1) := by decide +kernel
theorem dX3_give_13 : decode cX3_give 13 = .ok (.iload_n 2, 1) := by decide +kernel
theorem dX3_give_14 : decode cX3_give 14 = .ok (.iadd, 1) := by decide +kernel
theorem dX3_give_15 : decode cX3_give 15 = .ok (.invokestatic 42, 3) := by decide +kernel
theorem dX3_give_18 : decode cX3_give 18 = .ok (.iastore, 1) := by decide +kernel
theorem dX3_give_19 : decode cX3_give 19 = .ok (.aload_n 0, 1) := by decide +kernel
theorem dX3_give_20 : decode cX3_give 20 = .ok (.getfield 21, 3) := by decide +kernel
theorem dX3_give_23 : decode cX3_give 23 = .ok (.iload_n 1, 1) := by decide +kernel
theorem dX3_give_24 : decode cX3_give 24 = .ok (.sipush 999, 3) := by decide +kernel
theorem dX3_give_27 : decode cX3_give 27 = .ok (.aload_n 0, 1) := by decide +kernel
theorem dX3_give_28 : decode cX3_give 28 = .ok (.getfield 21, 3) := by decide +kernel
theorem dX3_give_31 : decode cX3_give 31 = .ok (.iload_n 1, 1) := by decide +kernel
theorem dX3_give_32 : decode cX3_give 32 = .ok (.iaload, 1) := by decide +kernel
theorem dX3_give_33 : decode cX3_give 33 = .ok (.aload_n 0, 1) := by decide +kernel
theorem dX3_give_34 : decode cX3_give 34 = .ok (.iload_n 1, 1) := by decide +kernel
theorem dX3_give_35 : decode cX3_give 35 = .ok (.iload_n 2, 1) := by decide +kernel
theorem dX3_give_36 : decode cX3_give 36 = .ok (.invokevirtual 48, 3) := by decide +kernel
theorem dX3_give_39 : decode cX3_give 39 = .ok (.iadd, 1) := by decide +kernel
theorem dX3_give_40 : decode cX3_give 40 = .ok (.invokestatic 42, 3) := by decide +kernel
theorem dX3_give_43 : decode cX3_give 43 = .ok (.iastore, 1) := by decide +kernel
theorem dX3_give_44 : decode cX3_give 44 = .ok (.return_, 1) := by decide +kernel
theorem dX3_forgetSome_0 : decode cX3_forgetSome 0 = .ok (.iconst 0, 1) := by decide +kernel
theorem dX3_forgetSome_1 : decode cX3_forgetSome 1 = .ok (.istore_n 1, 1) := by decide +kernel
theorem dX3_forgetSome_2 : decode cX3_forgetSome 2 = .ok (.iload_n 1, 1) := by decide +kernel
theorem dX3_forgetSome_3 : decode cX3_forgetSome 3 = .ok (.aload_n 0, 1) := by decide +kernel
theorem dX3_forgetSome_4 : decode cX3_forgetSome 4 = .ok (.getfield 30, 3) := by decide +kernel
theorem dX3_forgetSome_7 : decode cX3_forgetSome 7 = .ok (.if_icmp .ge 27, 3) := by decide +kernel
theorem dX3_forgetSome_10 : decode cX3_forgetSome 10 = .ok (.aload_n 0, 1) := by decide +kernel
theorem dX3_forgetSome_11 : decode cX3_forgetSome 11 = .ok (.getfield 21, 3) := by decide +kernel
theorem dX3_forgetSome_14 : decode cX3_forgetSome 14 = .ok (.iload_n 1, 1) := by decide +kernel
theorem dX3_forgetSome_15 : decode cX3_forgetSome 15 = .ok (.iconst 0, 1) := by decide +kernel
theorem dX3_forgetSome_16 : decode cX3_forgetSome 16 = .ok (.aload_n 0, 1) := by decide +kernel
theorem dX3_forgetSome_17 : decode cX3_forgetSome 17 = .ok (.getfield 21, 3) := by decide +kernel
theorem dX3_forgetSome_20 : decode cX3_forgetSome 20 = .ok (.iload_n 1, 1) := by decide +kernel
theorem dX3_forgetSome_21 : decode cX3_forgetSome 21 = .ok (.iaload, 1) := by decide +kernel
theorem dX3_forgetSome_22 : decode cX3_forgetSome 22 = .ok (.iconst 1, 1) := by decide +kernel
theorem dX3_forgetSome_23 : decode cX3_forgetSome 23 = .ok (.isub, 1) := by decide +kernel
theorem dX3_forgetSome_24 : decode cX3_forgetSome 24 = .ok (.invokestatic 51, 3) := by decide +kernel
theorem dX3_forgetSome_27 : decode cX3_forgetSome 27 = .ok (.iastore, 1) := by decide +kernel
theorem dX3_forgetSome_28 : decode cX3_forgetSome 28 = .ok (.iinc 1 1, 3) := by decide +kernel
theorem dX3_forgetSome_31 : decode cX3_forgetSome 31 = .ok (.goto (-29), 3) := by decide +kernel
theorem dX3_forgetSome_34 : decode cX3_forgetSome 34 = .ok (.return_, 1) := by decide +kernel
theorem dX3_becomeLike_0 : decode cX3_becomeLike 0 = .ok (.aload_n 0, 1) := by decide +kernel
theorem dX3_becomeLike_1 : decode cX3_becomeLike 1 = .ok (.aload_n 1, 1) := by decide +kernel
theorem dX3_becomeLike_2 : decode cX3_becomeLike 2 = .ok (.getfield 30, 3) := by decide +kernel
theorem dX3_becomeLike_5 : decode cX3_becomeLike 5 = .ok (.putfield 30, 3) := by decide +kernel
theorem dX3_becomeLike_8 : decode cX3_becomeLike 8 = .ok (.aload_n 0, 1) := by decide +kernel
theorem dX3_becomeLike_9 : decode cX3_becomeLike 9 = .ok (.aload_n 1, 1) := by decide +kernel
theorem dX3_becomeLike_10 : decode cX3_becomeLike 10 = .ok (.getfield 38, 3) := by decide +kernel
theorem dX3_becomeLike_13 : decode cX3_becomeLike 13 = .ok (.putfield 38, 3) := by decide +kernel
theorem dX3_becomeLike_16 : decode cX3_becomeLike 16 = .ok (.aload_n 1, 1) := by decide +kernel
theorem dX3_becomeLike_17 : decode cX3_becomeLike 17 = .ok (.getfield 15, 3) := by decide +kernel
theorem dX3_becomeLike_20 : decode cX3_becomeLike 20 = .ok (.iconst 0, 1) := by decide +kernel
theorem dX3_becomeLike_21 : decode cX3_becomeLike 21 = .ok (.aload_n 0, 1) := by decide +kernel
theorem dX3_becomeLike_22 : decode cX3_becomeLike 22 = .ok (.getfield 15, 3) := by decide +kernel
theorem dX3_becomeLike_25 : decode cX3_becomeLike 25 = .ok (.iconst 0, 1) := by decide +kernel
theorem dX3_becomeLike_26 : decode cX3_becomeLike 26 = .ok (.bipush 6, 2) := by decide +kernel
theorem dX3_becomeLike_28 : decode cX3_becomeLike 28 = .ok (.invokestatic 54, 3) := by decide +kernel
theorem dX3_becomeLike_31 : decode cX3_becomeLike 31 = .ok (.aload_n 1, 1) := by decide +kernel
theorem dX3_becomeLike_32 : decode cX3_becomeLike 32 = .ok (.getfield 18, 3) := by decide +kernel
theorem dX3_becomeLike_35 : decode cX3_becomeLike 35 = .ok (.iconst 0, 1) := by decide +kernel
theorem dX3_becomeLike_36 : decode cX3_becomeLike 36 = .ok (.aload_n 0, 1) := by decide +kernel
theorem dX3_becomeLike_37 : decode cX3_becomeLike 37 = .ok (.getfield 18, 3) := by decide +kernel
theorem dX3_becomeLike_40 : decode cX3_becomeLike 40 = .ok (.iconst 0, 1) := by decide +kernel
theorem dX3_becomeLike_41 : decode cX3_becomeLike 41 = .ok (.bipush 6, 2) := by decide +kernel
theorem dX3_becomeLike_43 : decode cX3_becomeLike 43 = .ok (.invokestatic 54, 3) := by decide +kernel
theorem dX3_becomeLike_46 : decode cX3_becomeLike 46 = .ok (.aload_n 1, 1) := by decide +kernel
theorem dX3_becomeLike_47 : decode cX3_becomeLike 47 = .ok (.getfield 21, 3) := by decide +kernel
theorem dX3_becomeLike_50 : decode cX3_becomeLike 50 = .ok (.iconst 0, 1) := by decide +kernel
theorem dX3_becomeLike_51 : decode cX3_becomeLike 51 = .ok (.aload_n 0, 1) := by decide +kernel
theorem dX3_becomeLike_52 : decode cX3_becomeLike 52 = .ok (.getfield 21, 3) := by decide +kernel
theorem dX3_becomeLike_55 : decode cX3_becomeLike 55 = .ok (.iconst 0, 1) := by decide +kernel
theorem dX3_becomeLike_56 : decode cX3_becomeLike 56 = .ok (.bipush 6, 2) := by decide +kernel
theorem dX3_becomeLike_58 : decode cX3_becomeLike 58 = .ok (.invokestatic 54, 3) := by decide +kernel
theorem dX3_becomeLike_61 : decode cX3_becomeLike 61 = .ok (.aload_n 1, 1) := by decide +kernel
theorem dX3_becomeLike_62 : decode cX3_becomeLike 62 = .ok (.getfield 24, 3) := by decide +kernel
theorem dX3_becomeLike_65 : decode cX3_becomeLike 65 = .ok (.iconst 0, 1) := by decide +kernel
theorem dX3_becomeLike_66 : decode cX3_becomeLike 66 = .ok (.aload_n 0, 1) := by decide +kernel
theorem dX3_becomeLike_67 : decode cX3_becomeLike 67 = .ok (.getfield 24, 3) := by decide +kernel
theorem dX3_becomeLike_70 : decode cX3_becomeLike 70 = .ok (.iconst 0, 1) := by decide +kernel
theorem dX3_becomeLike_71 : decode cX3_becomeLike 71 = .ok (.bipush 6, 2) := by decide +kernel
theorem dX3_becomeLike_73 : decode cX3_becomeLike 73 = .ok (.invokestatic 54, 3) := by decide +kernel
theorem dX3_becomeLike_76 : decode cX3_becomeLike 76 = .ok (.aload_n 1, 1) := by decide +kernel
theorem dX3_becomeLike_77 : decode cX3_becomeLike 77 = .ok (.getfield 27, 3) := by decide +kernel
theorem dX3_becomeLike_80 : decode cX3_becomeLike 80 = .ok (.iconst 0, 1) := by decide +kernel
theorem dX3_becomeLike_81 : decode cX3_becomeLike 81 = .ok (.aload_n 0, 1) := by decide +kernel
theorem dX3_becomeLike_82 : decode cX3_becomeLike 82 = .ok (.getfield 27, 3) := by decide +kernel
theorem dX3_becomeLike_85 : decode cX3_becomeLike 85 = .ok (.iconst 0, 1) := by decide +kernel
theorem dX3_becomeLike_86 : decode cX3_becomeLike 86 = .ok (.bipush 24, 2) := by decide +kernel
theorem dX3_becomeLike_88 : decode cX3_becomeLike 88 = .ok (.invokestatic 54, 3) := by decide +kernel
theorem dX3_becomeLike_91 : decode cX3_becomeLike 91 = .ok (.return_, 1) := by decide +kernel
theorem dX4_init_0 : decode cX4_init 0 = .ok (.aload_n 0, 1) := by decide +kernel
theorem dX4_init_1 : decode cX4_init 1 = .ok (.invokespecial 1, 3) := by decide +kernel
theorem dX4_init_4 : decode cX4_init 4 = .ok (.aload_n 0, 1) := by decide +kernel
theorem dX4_init_5 : decode cX4_init 5 = .ok (.bipush 6, 2) := by decide +kernel
theorem dX4_init_7 : decode cX4_init 7 = .ok (.newarray .int, 2) := by decide +kernel
theorem dX4_init_9 : decode cX4_init 9 = .ok (.putfield 9, 3) := by decide +kernel
theorem dX4_init_12 : decode cX4_init 12 = .ok (.aload_n 0, 1) := by decide +kernel
theorem dX4_init_13 : decode cX4_init 13 = .ok (.bipush 6, 2) := by decide +kernel
theorem dX4_init_15 : decode cX4_init 15 = .ok (.newarray .int, 2) := by decide +kernel
theorem dX4_init_17 : decode cX4_init 17 = .ok (.putfield 13, 3) := by decide +kernel
theorem dX4_init_20 : decode cX4_init 20 = .ok (.aload_n 0, 1) := by decide +kernel
theorem dX4_init_21 : decode cX4_init 21 = .ok (.sipush 360, 3) := by decide +kernel
theorem dX4_init_24 : decode cX4_init 24 = .ok (.newarray .long, 2) := by decide +kernel
theorem dX4_init_26 : decode cX4_init 26 = .ok (.putfield 16, 3) := by decide +kernel
theorem dX4_init_29 : decode cX4_init 29 = .ok (.iconst 0, 1) := by decide +kernel
theorem dX4_init_30 : decode cX4_init 30 = .ok (.istore_n 1, 1) := by decide +kernel
theorem dX4_init_31 : decode cX4_init 31 = .ok (.iload_n 1, 1) := by decide +kernel
theorem dX4_init_32 : decode cX4_init 32 = .ok (.bipush 6, 2) := by decide +kernel
theorem dX4_init_34 : decode cX4_init 34 = .ok (.if_icmp .ge 16, 3) := by decide +kernel
theorem dX4_init_37 : decode cX4_init 37 = .ok (.aload_n 0, 1) := by decide +kernel
theorem dX4_init_38 : decode cX4_init 38 = .ok (.getfield 9, 3) := by decide +kernel
theorem dX4_init_41 : decode cX4_init 41 = .ok (.iload_n 1, 1) := by decide +kernel
theorem dX4_init_42 : decode cX4_init 42 = .ok (.iconst (-1), 1) := by decide +kernel
theorem dX4_init_43 : decode cX4_init 43 = .ok (.iastore, 1) := by decide +kernel
theorem dX4_init_44 : decode cX4_init 44 = .ok (.iinc 1 1, 3) := by decide +kernel
theorem dX4_init_47 : decode cX4_init 47 = .ok (.goto (-16), 3) := by decide +kernel
theorem dX4_init_50 : decode cX4_init 50 = .ok (.return_, 1) := by decide +kernel
theorem dX4_isTape_0 : decode cX4_isTape 0 = .ok (.iload_n 1, 1) := by decide +kernel
theorem dX4_isTape_1 : decode cX4_isTape 1 = .ok (.ifCond .lt 13, 3) := by decide +kernel
theorem dX4_isTape_4 : decode cX4_isTape 4 = .ok (.iload_n 1, 1) := by decide +kernel
theorem dX4_isTape_5 : decode cX4_isTape 5 = .ok (.bipush 6, 2) := by decide +kernel
theorem dX4_isTape_7 : decode cX4_isTape 7 = .ok (.if_icmp .ge 7, 3) := by decide +kernel
theorem dX4_isTape_10 : decode cX4_isTape 10 = .ok (.iconst 1, 1) := by decide +kernel
theorem dX4_isTape_11 : decode cX4_isTape 11 = .ok (.goto 4, 3) := by decide +kernel
theorem dX4_isTape_14 : decode cX4_isTape 14 = .ok (.iconst 0, 1) := by decide +kernel
theorem dX4_isTape_15 : decode cX4_isTape 15 = .ok (.ireturn, 1) := by decide +kernel
theorem dX4_isEmpty_0 : decode cX4_isEmpty 0 = .ok (.aload_n 0, 1) := by decide +kernel
theorem dX4_isEmpty_1 : decode cX4_isEmpty 1 = .ok (.getfield 9, 3) := by decide +kernel
theorem dX4_isEmpty_4 : decode cX4_isEmpty 4 = .ok (.iload_n 1, 1) := by decide +kernel
theorem dX4_isEmpty_5 : decode cX4_isEmpty 5 = .ok (.iaload, 1) := by decide +kernel
theorem dX4_isEmpty_6 : decode cX4_isEmpty 6 = .ok (.iconst (-1), 1) := by decide +kernel
theorem dX4_isEmpty_7 : decode cX4_isEmpty 7 = .ok (.if_icmp .ne 7, 3) := by decide +kernel
theorem dX4_isEmpty_10 : decode cX4_isEmpty 10 = .ok (.iconst 1, 1) := by decide +kernel
theorem dX4_isEmpty_11 : decode cX4_isEmpty 11 = .ok (.goto 4, 3) := by decide +kernel
theorem dX4_isEmpty_14 : decode cX4_isEmpty 14 = .ok (.iconst 0, 1) := by decide +kernel
theorem dX4_isEmpty_15 : decode cX4_isEmpty 15 = .ok (.ireturn, 1) := by decide +kernel
theorem dX4_isOf_0 : decode cX4_isOf 0 = .ok (.aload_n 0, 1) := by decide +kernel
theorem dX4_isOf_1 : decode cX4_isOf 1 = .ok (.getfield 9, 3) := by decide +kernel
theorem dX4_isOf_4 : decode cX4_isOf 4 = .ok (.iload_n 1, 1) := by decide +kernel
theorem dX4_isOf_5 : decode cX4_isOf 5 = .ok (.iaload, 1) := by decide +kernel
theorem dX4_isOf_6 : decode cX4_isOf 6 = .ok (.iload_n 2, 1) := by decide +kernel
theorem dX4_isOf_7 : decode cX4_isOf 7 = .ok (.if_icmp .ne 7, 3) := by decide +kernel
theorem dX4_isOf_10 : decode cX4_isOf 10 = .ok (.iconst 1, 1) := by decide +kernel
theorem dX4_isOf_11 : decode cX4_isOf 11 = .ok (.goto 4, 3) := by decide +kernel
theorem dX4_isOf_14 : decode cX4_isOf 14 = .ok (.iconst 0, 1) := by decide +kernel
theorem dX4_isOf_15 : decode cX4_isOf 15 = .ok (.ireturn, 1) := by decide +kernel
theorem dX4_isPlace_0 : decode cX4_isPlace 0 = .ok (.lload_n 2, 1) := by decide +kernel
theorem dX4_isPlace_1 : decode cX4_isPlace 1 = .ok (.lconst 0, 1) := by decide +kernel
theorem dX4_isPlace_2 : decode cX4_isPlace 2 = .ok (.lcmp, 1) := by decide +kernel
theorem dX4_isPlace_3 : decode cX4_isPlace 3 = .ok (.ifCond .lt 19, 3) := by decide +kernel
theorem dX4_isPlace_6 : decode cX4_isPlace 6 = .ok (.lload_n 2, 1) := by decide +kernel
theorem dX4_isPlace_7 : decode cX4_isPlace 7 = .ok (.aload_n 0, 1) := by decide +kernel
theorem dX4_isPlace_8 : decode cX4_isPlace 8 = .ok (.getfield 13, 3) := by decide +kernel
theorem dX4_isPlace_11 : decode cX4_isPlace 11 = .ok (.iload_n 1, 1) := by decide +kernel
theorem dX4_isPlace_12 : decode cX4_isPlace 12 = .ok (.iaload, 1) := by decide +kernel
theorem dX4_isPlace_13 : decode cX4_isPlace 13 = .ok (.i2l, 1) := by decide +kernel
theorem dX4_isPlace_14 : decode cX4_isPlace 14 = .ok (.lcmp, 1) := by decide +kernel
theorem dX4_isPlace_15 : decode cX4_isPlace 15 = .ok (.ifCond .ge 7, 3) := by decide +kernel
theorem dX4_isPlace_18 : decode cX4_isPlace 18 = .ok (.iconst 1, 1) := by decide +kernel
theorem dX4_isPlace_19 : decode cX4_isPlace 19 = .ok (.goto 4, 3) := by decide +kernel
theorem dX4_isPlace_22 : decode cX4_isPlace 22 = .ok (.iconst 0, 1) := by decide +kernel
theorem dX4_isPlace_23 : decode cX4_isPlace 23 = .ok (.ireturn, 1) := by decide +kernel
theorem dX4_isStretch_0 : decode cX4_isStretch 0 = .ok (.iload_n 2, 1) := by decide +kernel
theorem dX4_isStretch_1 : decode cX4_isStretch 1 = .ok (.ifCond .lt 27, 3) := by decide +kernel
theorem dX4_isStretch_4 : decode cX4_isStretch 4 = .ok (.iload_n 3, 1) := by decide +kernel
theorem dX4_isStretch_5 : decode cX4_isStretch 5 = .ok (.ifCond .lt 23, 3) := by decide +kernel
theorem dX4_isStretch_8 : decode cX4_isStretch 8 = .ok (.iload_n 2, 1) := by decide +kernel
theorem dX4_isStretch_9 : decode cX4_isStretch 9 = .ok (.i2l, 1) := by decide +kernel
theorem dX4_isStretch_10 : decode cX4_isStretch 10 = .ok (.iload_n 3, 1) := by decide +kernel
theorem dX4_isStretch_11 : decode cX4_isStretch 11 = .ok (.i2l, 1) := by decide +kernel
theorem dX4_isStretch_12 : decode cX4_isStretch 12 = .ok (.ladd, 1) := by decide +kernel
theorem dX4_isStretch_13 : decode cX4_isStretch 13 = .ok (.aload_n 0, 1) := by decide +kernel
theorem dX4_isStretch_14 : decode cX4_isStretch 14 = .ok (.getfield 13, 3) := by decide +kernel
theorem dX4_isStretch_17 : decode cX4_isStretch 17 = .ok (.iload_n 1, 1) := by decide +kernel
theorem dX4_isStretch_18 : decode cX4_isStretch 18 = .ok (.iaload, 1) := by decide +kernel
theorem dX4_isStretch_19 : decode cX4_isStretch 19 = .ok (.i2l, 1) := by decide +kernel
theorem dX4_isStretch_20 : decode cX4_isStretch 20 = .ok (.lcmp, 1) := by decide +kernel
theorem dX4_isStretch_21 : decode cX4_isStretch 21 = .ok (.ifCond .gt 7, 3) := by decide +kernel
theorem dX4_isStretch_24 : decode cX4_isStretch 24 = .ok (.iconst 1, 1) := by decide +kernel
theorem dX4_isStretch_25 : decode cX4_isStretch 25 = .ok (.goto 4, 3) := by decide +kernel
theorem dX4_isStretch_28 : decode cX4_isStretch 28 = .ok (.iconst 0, 1) := by decide +kernel
theorem dX4_isStretch_29 : decode cX4_isStretch 29 = .ok (.ireturn, 1) := by decide +kernel
theorem dX4_drop_0 : decode cX4_drop 0 = .ok (.aload_n 0, 1) := by decide +kernel
theorem dX4_drop_1 : decode cX4_drop 1 = .ok (.getfield 9, 3) := by decide +kernel
theorem dX4_drop_4 : decode cX4_drop 4 = .ok (.iload_n 1, 1) := by decide +kernel
theorem dX4_drop_5 : decode cX4_drop 5 = .ok (.iconst (-1), 1) := by decide +kernel
theorem dX4_drop_6 : decode cX4_drop 6 = .ok (.iastore, 1) := by decide +kernel
theorem dX4_drop_7 : decode cX4_drop 7 = .ok (.aload_n 0, 1) := by decide +kernel
theorem dX4_drop_8 : decode cX4_drop 8 = .ok (.getfield 13, 3) := by decide +kernel
theorem dX4_drop_11 : decode cX4_drop 11 = .ok (.iload_n 1, 1) := by decide +kernel
theorem dX4_drop_12 : decode cX4_drop 12 = .ok (.iconst 0, 1) := by decide +kernel
theorem dX4_drop_13 : decode cX4_drop 13 = .ok (.iastore, 1) := by decide +kernel
theorem dX4_drop_14 : decode cX4_drop 14 = .ok (.return_, 1) := by decide +kernel
theorem dX4_lay_0 : decode cX4_lay 0 = .ok (.aload_n 0, 1) := by decide +kernel
theorem dX4_lay_1 : decode cX4_lay 1 = .ok (.getfield 9, 3) := by decide +kernel
theorem dX4_lay_4 : decode cX4_lay 4 = .ok (.iload_n 1, 1) := by decide +kernel
theorem dX4_lay_5 : decode cX4_lay 5 = .ok (.iload_n 2, 1) := by decide +kernel
theorem dX4_lay_6 : decode cX4_lay 6 = .ok (.iastore, 1) := by decide +kernel
theorem dX4_lay_7 : decode cX4_lay 7 = .ok (.aload_n 0, 1) := by decide +kernel
theorem dX4_lay_8 : decode cX4_lay 8 = .ok (.getfield 13, 3) := by decide +kernel
theorem dX4_lay_11 : decode cX4_lay 11 = .ok (.iload_n 1, 1) := by decide +kernel
theorem dX4_lay_12 : decode cX4_lay 12 = .ok (.iload_n 3, 1) := by decide +kernel
theorem dX4_lay_13 : decode cX4_lay 13 = .ok (.iconst 0, 1) := by decide +kernel
theorem dX4_lay_14 : decode cX4_lay 14 = .ok (.bipush 60, 2) := by decide +kernel
theorem dX4_lay_16 : decode cX4_lay 16 = .ok (.invokestatic 20, 3) := by decide +kernel
theorem dX4_lay_19 : decode cX4_lay 19 = .ok (.iastore, 1) := by decide +kernel
theorem dX4_lay_20 : decode cX4_lay 20 = .ok (.iconst 0, 1) := by decide +kernel
theorem dX4_lay_21 : decode cX4_lay 21 = .ok (.istore 4, 2) := by decide +kernel
theorem dX4_lay_23 : decode cX4_lay 23 = .ok (.iload 4, 2) := by decide +kernel
theorem dX4_lay_25 : decode cX4_lay 25 = .ok (.aload_n 0, 1) := by decide +kernel
theorem dX4_lay_26 : decode cX4_lay 26 = .ok (.getfield 13, 3) := by decide +kernel
theorem dX4_lay_29 : decode cX4_lay 29 = .ok (.iload_n 1, 1) := by decide +kernel
theorem dX4_lay_30 : decode cX4_lay 30 = .ok (.iaload, 1) := by decide +kernel
theorem dX4_lay_31 : decode cX4_lay 31 = .ok (.if_icmp .ge 22, 3) := by decide +kernel
theorem dX4_lay_34 : decode cX4_lay 34 = .ok (.aload_n 0, 1) := by decide +kernel
theorem dX4_lay_35 : decode cX4_lay 35 = .ok (.getfield 16, 3) := by decide +kernel
theorem dX4_lay_38 : decode cX4_lay 38 = .ok (.iload_n 1, 1) := by decide +kernel
theorem dX4_lay_39 : decode cX4_lay 39 = .ok (.bipush 60, 2) := by decide +kernel
theorem dX4_lay_41 : decode cX4_lay 41 = .ok (.imul, 1) := by decide +kernel
theorem dX4_lay_42 : decode cX4_lay 42 = .ok (.iload 4, 2) := by decide +kernel
theorem dX4_lay_44 : decode cX4_lay 44 = .ok (.iadd, 1) := by decide +kernel
theorem dX4_lay_45 : decode cX4_lay 45 = .ok (.lconst 0, 1) := by decide +kernel
theorem dX4_lay_46 : decode cX4_lay 46 = .ok (.lastore, 1) := by decide +kernel
theorem dX4_lay_47 : decode cX4_lay 47 = .ok (.iinc 4 1, 3) := by decide +kernel
theorem dX4_lay_50 : decode cX4_lay 50 = .ok (.goto (-27), 3) := by decide +kernel
theorem dX4_lay_53 : decode cX4_lay 53 = .ok (.return_, 1) := by decide +kernel
theorem dX4_put_0 : decode cX4_put 0 = .ok (.aload_n 0, 1) := by decide +kernel
theorem dX4_put_1 : decode cX4_put 1 = .ok (.getfield 16, 3) := by decide +kernel
theorem dX4_put_4 : decode cX4_put 4 = .ok (.iload_n 1, 1) := by decide +kernel
theorem dX4_put_5 : decode cX4_put 5 = .ok (.bipush 60, 2) := by decide +kernel
theorem dX4_put_7 : decode cX4_put 7 = .ok (.imul, 1) := by decide +kernel
theorem dX4_put_8 : decode cX4_put 8 = .ok (.iload_n 2, 1) := by decide +kernel
theorem dX4_put_9 : decode cX4_put 9 = .ok (.iadd, 1) := by decide +kernel
theorem dX4_put_10 : decode cX4_put 10 = .ok (.aload_n 0, 1) := by decide +kernel
theorem dX4_put_11 : decode cX4_put 11 = .ok (.getfield 9, 3) := by decide +kernel
theorem dX4_put_14 : decode cX4_put 14 = .ok (.iload_n 1, 1) := by decide +kernel
theorem dX4_put_15 : decode cX4_put 15 = .ok (.iaload, 1) := by decide +kernel
theorem dX4_put_16 : decode cX4_put 16 = .ok (.lload_n 3, 1) := by decide +kernel
theorem dX4_put_17 : decode cX4_put 17 = .ok (.invokestatic 26, 3) := by decide +kernel
theorem dX4_put_20 : decode cX4_put 20 = .ok (.lastore, 1) := by decide +kernel
theorem dX4_put_21 : decode cX4_put 21 = .ok (.return_, 1) := by decide +kernel
theorem dX4_cut_0 : decode cX4_cut 0 = .ok (.iload_n 0, 1) := by decide +kernel
theorem dX4_cut_1 : decode cX4_cut 1 = .ok (.tableswitch 61 0 4 #[35, 40, 45, 61, 49], 35) := by decide +kernel
theorem dX4_cut_36 : decode cX4_cut 36 = .ok (.lload_n 1, 1) := by decide +kernel
theorem dX4_cut_37 : decode cX4_cut 37 = .ok (.l2i, 1) := by decide +kernel
theorem dX4_cut_38 : decode cX4_cut 38 = .ok (.i2b, 1) := by decide +kernel
theorem dX4_cut_39 : decode cX4_cut 39 = .ok (.i2l, 1) := by decide +kernel
theorem dX4_cut_40 : decode cX4_cut 40 = .ok (.lreturn, 1) := by decide +kernel
theorem dX4_cut_41 : decode cX4_cut 41 = .ok (.lload_n 1, 1) := by decide +kernel
theorem dX4_cut_42 : decode cX4_cut 42 = .ok (.l2i, 1) := by decide +kernel
theorem dX4_cut_43 : decode cX4_cut 43 = .ok (.i2s, 1) := by decide +kernel
theorem dX4_cut_44 : decode cX4_cut 44 = .ok (.i2l, 1) := by decide +kernel
theorem dX4_cut_45 : decode cX4_cut 45 = .ok (.lreturn, 1) := by decide +kernel
theorem dX4_cut_46 : decode cX4_cut 46 = .ok (.lload_n 1, 1) := by decide +kernel
theorem dX4_cut_47 : decode cX4_cut 47 = .ok (.l2i, 1) := by decide +kernel
theorem dX4_cut_48 : decode cX4_cut 48 = .ok (.i2l, 1) := by decide +kernel
theorem dX4_cut_49 : decode cX4_cut 49 = .ok (.lreturn, 1) := by decide +kernel
theorem dX4_cut_50 : decode cX4_cut 50 = .ok (.lload_n 1, 1) := by decide +kernel
theorem dX4_cut_51 : decode cX4_cut 51 = .ok (.lconst 0, 1) := by decide +kernel
theorem dX4_cut_52 : decode cX4_cut 52 = .ok (.lcmp, 1) := by decide +kernel
theorem dX4_cut_53 : decode cX4_cut 53 = .ok (.ifCond .eq 7, 3) := by decide +kernel
theorem dX4_cut_56 : decode cX4_cut 56 = .ok (.lconst 1, 1) := by decide +kernel
theorem dX4_cut_57 : decode cX4_cut 57 = .ok (.goto 4, 3) := by decide +kernel
theorem dX4_cut_60 : decode cX4_cut 60 = .ok (.lconst 0, 1) := by decide +kernel
theorem dX4_cut_61 : decode cX4_cut 61 = .ok (.lreturn, 1) := by decide +kernel
theorem dX4_cut_62 : decode cX4_cut 62 = .ok (.lload_n 1, 1) := by decide +kernel
theorem dX4_cut_63 : decode cX4_cut 63 = .ok (.lreturn, 1) := by decide +kernel
theorem dX4_valueAt_0 : decode cX4_valueAt 0 = .ok (.aload_n 0, 1) := by decide +kernel
theorem dX4_valueAt_1 : decode cX4_valueAt 1 = .ok (.getfield 16, 3) := by decide +kernel
theorem dX4_valueAt_4 : decode cX4_valueAt 4 = .ok (.iload_n 1, 1) := by decide +kernel
theorem dX4_valueAt_5 : decode cX4_valueAt 5 = .ok (.bipush 60, 2) := by decide +kernel
theorem dX4_valueAt_7 : decode cX4_valueAt 7 = .ok (.imul, 1) := by decide +kernel
theorem dX4_valueAt_8 : decode cX4_valueAt 8 = .ok (.iload_n 2, 1) := by decide +kernel
theorem dX4_valueAt_9 : decode cX4_valueAt 9 = .ok (.iadd, 1) := by decide +kernel
theorem dX4_valueAt_10 : decode cX4_valueAt 10 = .ok (.laload, 1) := by decide +kernel
theorem dX4_valueAt_11 : decode cX4_valueAt 11 = .ok (.lreturn, 1) := by decide +kernel
theorem dX4_move_0 : decode cX4_move 0 = .ok (.aload_n 0, 1) := by decide +kernel
theorem dX4_move_1 : decode cX4_move 1 = .ok (.getfield 16, 3) := by decide +kernel
theorem dX4_move_4 : decode cX4_move 4 = .ok (.iload_n 1, 1) := by decide +kernel
theorem dX4_move_5 : decode cX4_move 5 = .ok (.bipush 60, 2) := by decide +kernel
theorem dX4_move_7 : decode cX4_move 7 = .ok (.imul, 1) := by decide +kernel
theorem dX4_move_8 : decode cX4_move 8 = .ok (.iload_n 2, 1) := by decide +kernel
theorem dX4_move_9 : decode cX4_move 9 = .ok (.iadd, 1) := by decide +kernel
theorem dX4_move_10 : decode cX4_move 10 = .ok (.aload_n 0, 1) := by decide +kernel
theorem dX4_move_11 : decode cX4_move 11 = .ok (.getfield 16, 3) := by decide +kernel
theorem dX4_move_14 : decode cX4_move 14 = .ok (.iload_n 3, 1) := by decide +kernel
theorem dX4_move_15 : decode cX4_move 15 = .ok (.bipush 60, 2) := by decide +kernel
theorem dX4_move_17 : decode cX4_move 17 = .ok (.imul, 1) := by decide +kernel
theorem dX4_move_18 : decode cX4_move 18 = .ok (.iload 4, 2) := by decide +kernel
theorem dX4_move_20 : decode cX4_move 20 = .ok (.iadd, 1) := by decide +kernel
theorem dX4_move_21 : decode cX4_move 21 = .ok (.iload 5, 2) := by decide +kernel
theorem dX4_move_23 : decode cX4_move 23 = .ok (.invokestatic 30, 3) := by decide +kernel
theorem dX4_move_26 : decode cX4_move 26 = .ok (.return_, 1) := by decide +kernel
theorem dX5_init_0 : decode cX5_init 0 = .ok (.aload_n 0, 1) := by decide +kernel
theorem dX5_init_1 : decode cX5_init 1 = .ok (.invokespecial 3, 3) := by decide +kernel
theorem dX5_init_4 : decode cX5_init 4 = .ok (.aload_n 0, 1) := by decide +kernel
theorem dX5_init_5 : decode cX5_init 5 = .ok (.bipush 100, 2) := by decide +kernel
theorem dX5_init_7 : decode cX5_init 7 = .ok (.newarray .byte, 2) := by decide +kernel
theorem dX5_init_9 : decode cX5_init 9 = .ok (.putfield 11, 3) := by decide +kernel
theorem dX5_init_12 : decode cX5_init 12 = .ok (.return_, 1) := by decide +kernel
theorem dX5_isFull_0 : decode cX5_isFull 0 = .ok (.aload_n 0, 1) := by decide +kernel
theorem dX5_isFull_1 : decode cX5_isFull 1 = .ok (.getfield 15, 3) := by decide +kernel
theorem dX5_isFull_4 : decode cX5_isFull 4 = .ok (.bipush 100, 2) := by decide +kernel
theorem dX5_isFull_6 : decode cX5_isFull 6 = .ok (.if_icmp .lt 7, 3) := by decide +kernel
theorem dX5_isFull_9 : decode cX5_isFull 9 = .ok (.iconst 1, 1) := by decide +kernel
theorem dX5_isFull_10 : decode cX5_isFull 10 = .ok (.goto 4, 3) := by decide +kernel
theorem dX5_isFull_13 : decode cX5_isFull 13 = .ok (.iconst 0, 1) := by decide +kernel
theorem dX5_isFull_14 : decode cX5_isFull 14 = .ok (.ireturn, 1) := by decide +kernel
theorem dX5_put_0 : decode cX5_put 0 = .ok (.aload_n 0, 1) := by decide +kernel
theorem dX5_put_1 : decode cX5_put 1 = .ok (.invokevirtual 19, 3) := by decide +kernel
theorem dX5_put_4 : decode cX5_put 4 = .ok (.ifCond .eq 6, 3) := by decide +kernel
theorem dX5_put_7 : decode cX5_put 7 = .ok (.bipush (-4), 2) := by decide +kernel
theorem dX5_put_9 : decode cX5_put 9 = .ok (.ireturn, 1) := by decide +kernel
theorem dX5_put_10 : decode cX5_put 10 = .ok (.aload_n 0, 1) := by decide +kernel
theorem dX5_put_11 : decode cX5_put 11 = .ok (.getfield 11, 3) := by decide +kernel
theorem dX5_put_14 : decode cX5_put 14 = .ok (.aload_n 0, 1) := by decide +kernel
theorem dX5_put_15 : decode cX5_put 15 = .ok (.getfield 15, 3) := by decide +kernel
theorem dX5_put_18 : decode cX5_put 18 = .ok (.iload_n 1, 1) := by decide +kernel
theorem dX5_put_19 : decode cX5_put 19 = .ok (.i2b, 1) := by decide +kernel
theorem dX5_put_20 : decode cX5_put 20 = .ok (.bastore, 1) := by decide +kernel
theorem dX5_put_21 : decode cX5_put 21 = .ok (.aload_n 0, 1) := by decide +kernel
theorem dX5_put_22 : decode cX5_put 22 = .ok (.dup, 1) := by decide +kernel
theorem dX5_put_23 : decode cX5_put 23 = .ok (.getfield 15, 3) := by decide +kernel
theorem dX5_put_26 : decode cX5_put 26 = .ok (.iconst 1, 1) := by decide +kernel
theorem dX5_put_27 : decode cX5_put 27 = .ok (.iadd, 1) := by decide +kernel
theorem dX5_put_28 : decode cX5_put 28 = .ok (.putfield 15, 3) := by decide +kernel
theorem dX5_put_31 : decode cX5_put 31 = .ok (.aload_n 0, 1) := by decide +kernel
theorem dX5_put_32 : decode cX5_put 32 = .ok (.getfield 15, 3) := by decide +kernel
theorem dX5_put_35 : decode cX5_put 35 = .ok (.ireturn, 1) := by decide +kernel
theorem dX5_becomes_0 : decode cX5_becomes 0 = .ok (.aload_n 1, 1) := by decide +kernel
theorem dX5_becomes_1 : decode cX5_becomes 1 = .ok (.invokevirtual 23, 3) := by decide +kernel
theorem dX5_becomes_4 : decode cX5_becomes 4 = .ok (.aload_n 0, 1) := by decide +kernel
theorem dX5_becomes_5 : decode cX5_becomes 5 = .ok (.iconst 0, 1) := by decide +kernel
theorem dX5_becomes_6 : decode cX5_becomes 6 = .ok (.putfield 28, 3) := by decide +kernel
theorem dX5_becomes_9 : decode cX5_becomes 9 = .ok (.aload_n 0, 1) := by decide +kernel
theorem dX5_becomes_10 : decode cX5_becomes 10 = .ok (.aload_n 1, 1) := by decide +kernel
theorem dX5_becomes_11 : decode cX5_becomes 11 = .ok (.invokevirtual 31, 3) := by decide +kernel
theorem dX5_becomes_14 : decode cX5_becomes 14 = .ok (.istore_n 2, 1) := by decide +kernel
theorem dX5_becomes_15 : decode cX5_becomes 15 = .ok (.iconst 1, 1) := by decide +kernel
theorem dX5_becomes_16 : decode cX5_becomes 16 = .ok (.istore_n 3, 1) := by decide +kernel
theorem dX5_becomes_17 : decode cX5_becomes 17 = .ok (.iload_n 3, 1) := by decide +kernel
theorem dX5_becomes_18 : decode cX5_becomes 18 = .ok (.bipush 10, 2) := by decide +kernel
theorem dX5_becomes_20 : decode cX5_becomes 20 = .ok (.if_icmp .ge 47, 3) := by decide +kernel
theorem dX5_becomes_23 : decode cX5_becomes 23 = .ok (.iload_n 2, 1) := by decide +kernel
theorem dX5_becomes_24 : decode cX5_becomes 24 = .ok (.ifCond .eq 43, 3) := by decide +kernel
theorem dX5_becomes_27 : decode cX5_becomes 27 = .ok (.aload_n 0, 1) := by decide +kernel
theorem dX5_becomes_28 : decode cX5_becomes 28 = .ok (.getfield 28, 3) := by decide +kernel
theorem dX5_becomes_31 : decode cX5_becomes 31 = .ok (.aload_n 0, 1) := by decide +kernel
theorem dX5_becomes_32 : decode cX5_becomes 32 = .ok (.getfield 15, 3) := by decide +kernel
theorem dX5_becomes_35 : decode cX5_becomes 35 = .ok (.if_icmp .ge 32, 3) := by decide +kernel
theorem dX5_becomes_38 : decode cX5_becomes 38 = .ok (.aload_n 0, 1) := by decide +kernel
theorem dX5_becomes_39 : decode cX5_becomes 39 = .ok (.bipush 59, 2) := by decide +kernel
theorem dX5_becomes_41 : decode cX5_becomes 41 = .ok (.invokevirtual 35, 3) := by decide +kernel
theorem dX5_becomes_44 : decode cX5_becomes 44 = .ok (.ifCond .eq 15, 3) := by decide +kernel
theorem dX5_becomes_47 : decode cX5_becomes 47 = .ok (.aload_n 0, 1) := by decide +kernel
theorem dX5_becomes_48 : decode cX5_becomes 48 = .ok (.aload_n 1, 1) := by decide +kernel
theorem dX5_becomes_49 : decode cX5_becomes 49 = .ok (.invokevirtual 31, 3) := by decide +kernel
theorem dX5_becomes_52 : decode cX5_becomes 52 = .ok (.ifCond .eq 7, 3) := by decide +kernel
theorem dX5_becomes_55 : decode cX5_becomes 55 = .ok (.iconst 1, 1) := by decide +kernel
theorem dX5_becomes_56 : decode cX5_becomes 56 = .ok (.goto 4, 3) := by decide +kernel
theorem dX5_becomes_59 : decode cX5_becomes 59 = .ok (.iconst 0, 1) := by decide +kernel
theorem dX5_becomes_60 : decode cX5_becomes 60 = .ok (.istore_n 2, 1) := by decide +kernel
theorem dX5_becomes_61 : decode cX5_becomes 61 = .ok (.iinc 3 1, 3) := by decide +kernel
theorem dX5_becomes_64 : decode cX5_becomes 64 = .ok (.goto (-47), 3) := by decide +kernel
theorem dX5_becomes_67 : decode cX5_becomes 67 = .ok (.iload_n 2, 1) := by decide +kernel
theorem dX5_becomes_68 : decode cX5_becomes 68 = .ok (.ifCond .eq 18, 3) := by decide +kernel
theorem dX5_becomes_71 : decode cX5_becomes 71 = .ok (.aload_n 0, 1) := by decide +kernel
theorem dX5_becomes_72 : decode cX5_becomes 72 = .ok (.getfield 28, 3) := by decide +kernel
theorem dX5_becomes_75 : decode cX5_becomes 75 = .ok (.aload_n 0, 1) := by decide +kernel
theorem dX5_becomes_76 : decode cX5_becomes 76 = .ok (.getfield 15, 3) := by decide +kernel
theorem dX5_becomes_79 : decode cX5_becomes 79 = .ok (.if_icmp .lt 7, 3) := by decide +kernel
theorem dX5_becomes_82 : decode cX5_becomes 82 = .ok (.iconst (-1), 1) := by decide +kernel
theorem dX5_becomes_83 : decode cX5_becomes 83 = .ok (.goto 7, 3) := by decide +kernel
theorem dX5_becomes_86 : decode cX5_becomes 86 = .ok (.aload_n 0, 1) := by decide +kernel
theorem dX5_becomes_87 : decode cX5_becomes 87 = .ok (.getfield 28, 3) := by decide +kernel
theorem dX5_becomes_90 : decode cX5_becomes 90 = .ok (.istore_n 3, 1) := by decide +kernel
theorem dX5_becomes_91 : decode cX5_becomes 91 = .ok (.aload_n 0, 1) := by decide +kernel
theorem dX5_becomes_92 : decode cX5_becomes 92 = .ok (.iconst 0, 1) := by decide +kernel
theorem dX5_becomes_93 : decode cX5_becomes 93 = .ok (.putfield 15, 3) := by decide +kernel
theorem dX5_becomes_96 : decode cX5_becomes 96 = .ok (.iload_n 3, 1) := by decide +kernel
theorem dX5_becomes_97 : decode cX5_becomes 97 = .ok (.ireturn, 1) := by decide +kernel
theorem dX5_clause_0 : decode cX5_clause 0 = .ok (.aload_n 0, 1) := by decide +kernel
theorem dX5_clause_1 : decode cX5_clause 1 = .ok (.invokevirtual 39, 3) := by decide +kernel
theorem dX5_clause_4 : decode cX5_clause 4 = .ok (.istore_n 2, 1) := by decide +kernel
theorem dX5_clause_5 : decode cX5_clause 5 = .ok (.iload_n 2, 1) := by decide +kernel
theorem dX5_clause_6 : decode cX5_clause 6 = .ok (.ifCond .lt 12, 3) := by decide +kernel
theorem dX5_clause_9 : decode cX5_clause 9 = .ok (.aload_n 0, 1) := by decide +kernel
theorem dX5_clause_10 : decode cX5_clause 10 = .ok (.bipush 32, 2) := by decide +kernel
theorem dX5_clause_12 : decode cX5_clause 12 = .ok (.invokevirtual 35, 3) := by decide +kernel
theorem dX5_clause_15 : decode cX5_clause 15 = .ok (.ifCond .ne 5, 3) := by decide +kernel
theorem dX5_clause_18 : decode cX5_clause 18 = .ok (.iconst 0, 1) := by decide +kernel
theorem dX5_clause_19 : decode cX5_clause 19 = .ok (.ireturn, 1) := by decide +kernel
theorem dX5_clause_20 : decode cX5_clause 20 = .ok (.aload_n 0, 1) := by decide +kernel
theorem dX5_clause_21 : decode cX5_clause 21 = .ok (.invokevirtual 43, 3) := by decide +kernel
theorem dX5_clause_24 : decode cX5_clause 24 = .ok (.istore_n 3, 1) := by decide +kernel
theorem dX5_clause_25 : decode cX5_clause 25 = .ok (.iload_n 3, 1) := by decide +kernel
theorem dX5_clause_26 : decode cX5_clause 26 = .ok (.ifCond .ge 5, 3) := by decide +kernel
theorem dX5_clause_29 : decode cX5_clause 29 = .ok (.iconst 0, 1) := by decide +kernel
theorem dX5_clause_30 : decode cX5_clause 30 = .ok (.ireturn, 1) := by decide +kernel
theorem dX5_clause_31 : decode cX5_clause 31 = .ok (.iload_n 2, 1) := by decide +kernel
theorem dX5_clause_32 : decode cX5_clause 32 = .ok (.tableswitch 82 0 3 #[32, 32, 68, 75], 32) := by decide +kernel
theorem dX5_clause_64 : decode cX5_clause 64 = .ok (.aload_n 0, 1) := by decide +kernel
theorem dX5_clause_65 : decode cX5_clause 65 = .ok (.bipush 32, 2) := by decide +kernel
theorem dX5_clause_67 : decode cX5_clause 67 = .ok (.invokevirtual 35, 3) := by decide +kernel
theorem dX5_clause_70 : decode cX5_clause 70 = .ok (.ifCond .eq 12, 3) := by decide +kernel
theorem dX5_clause_73 : decode cX5_clause 73 = .ok (.aload_n 0, 1) := by decide +kernel
theorem dX5_clause_74 : decode cX5_clause 74 = .ok (.aload_n 1, 1) := by decide +kernel
theorem dX5_clause_75 : decode cX5_clause 75 = .ok (.iconst 0, 1) := by decide +kernel
theorem dX5_clause_76 : decode cX5_clause 76 = .ok (.invokevirtual 46, 3) := by decide +kernel
theorem dX5_clause_79 : decode cX5_clause 79 = .ok (.ifCond .ne 5, 3) := by decide +kernel
theorem dX5_clause_82 : decode cX5_clause 82 = .ok (.iconst 0, 1) := by decide +kernel
theorem dX5_clause_83 : decode cX5_clause 83 = .ok (.ireturn, 1) := by decide +kernel
theorem dX5_clause_84 : decode cX5_clause 84 = .ok (.aload_n 1, 1) := by decide +kernel
theorem dX5_clause_85 : decode cX5_clause 85 = .ok (.iload_n 2, 1) := by decide +kernel
theorem dX5_clause_86 : decode cX5_clause 86 = .ok (.ifCond .ne 7, 3) := by decide +kernel
theorem dX5_clause_89 : decode cX5_clause 89 = .ok (.iload_n 3, 1) := by decide +kernel
theorem dX5_clause_90 : decode cX5_clause 90 = .ok (.goto 5, 3) := by decide +kernel
theorem dX5_clause_93 : decode cX5_clause 93 = .ok (.iload_n 3, 1) := by decide +kernel
theorem dX5_clause_94 : decode cX5_clause 94 = .ok (.ineg, 1) := by decide +kernel
theorem dX5_clause_95 : decode cX5_clause 95 = .ok (.invokevirtual 50, 3) := by decide +kernel
theorem dX5_clause_98 : decode cX5_clause 98 = .ok (.iconst 1, 1) := by decide +kernel
theorem dX5_clause_99 : decode cX5_clause 99 = .ok (.ireturn, 1) := by decide +kernel
theorem dX5_clause_100 : decode cX5_clause 100 = .ok (.aload_n 1, 1) := by decide +kernel
theorem dX5_clause_101 : decode cX5_clause 101 = .ok (.iload_n 3, 1) := by decide +kernel
theorem dX5_clause_102 : decode cX5_clause 102 = .ok (.putfield 54, 3) := by decide +kernel
theorem dX5_clause_105 : decode cX5_clause 105 = .ok (.iconst 1, 1) := by decide +kernel
theorem dX5_clause_106 : decode cX5_clause 106 = .ok (.ireturn, 1) := by decide +kernel
theorem dX5_clause_107 : decode cX5_clause 107 = .ok (.aload_n 1, 1) := by decide +kernel
theorem dX5_clause_108 : decode cX5_clause 108 = .ok (.iload_n 3, 1) := by decide +kernel
theorem dX5_clause_109 : decode cX5_clause 109 = .ok (.putfield 57, 3) := by decide +kernel
theorem dX5_clause_112 : decode cX5_clause 112 = .ok (.iconst 1, 1) := by decide +kernel
theorem dX5_clause_113 : decode cX5_clause 113 = .ok (.ireturn, 1) := by decide +kernel
theorem dX5_clause_114 : decode cX5_clause 114 = .ok (.aload_n 1, 1) := by decide +kernel
theorem dX5_clause_115 : decode cX5_clause 115 = .ok (.iload_n 3, 1) := by decide +kernel
theorem dX5_clause_116 : decode cX5_clause 116 = .ok (.putfield 60, 3) := by decide +kernel
theorem dX5_clause_119 : decode cX5_clause 119 = .ok (.iconst 1, 1) := by decide +kernel
theorem dX5_clause_120 : decode cX5_clause 120 = .ok (.ireturn, 1) := by decide +kernel
theorem dX5_word_0 : decode cX5_word 0 = .ok (.iconst 0, 1) := by decide +kernel
theorem dX5_word_1 : decode cX5_word 1 = .ok (.istore_n 1, 1) := by decide +kernel
theorem dX5_word_2 : decode cX5_word 2 = .ok (.iconst 0, 1) := by decide +kernel
theorem dX5_word_3 : decode cX5_word 3 = .ok (.istore_n 2, 1) := by decide +kernel
theorem dX5_word_4 : decode cX5_word 4 = .ok (.iload_n 2, 1) := by decide +kernel
theorem dX5_word_5 : decode cX5_word 5 = .ok (.iconst 5, 1) := by decide +kernel
theorem dX5_word_6 : decode cX5_word 6 = .ok (.if_icmp .ge 96, 3) := by decide +kernel
theorem dX5_word_9 : decode cX5_word 9 = .ok (.iload_n 2, 1) := by decide +kernel
theorem dX5_word_10 : decode cX5_word 10 = .ok (.invokestatic 63, 3) := by decide +kernel
theorem dX5_word_13 : decode cX5_word 13 = .ok (.astore_n 3, 1) := by decide +kernel
theorem dX5_word_14 : decode cX5_word 14 = .ok (.iconst 0, 1) := by decide +kernel
theorem dX5_word_15 : decode cX5_word 15 = .ok (.istore 4, 2) := by decide +kernel
theorem dX5_word_17 : decode cX5_word 17 = .ok (.iload 4, 2) := by decide +kernel
theorem dX5_word_19 : decode cX5_word 19 = .ok (.aload_n 3, 1) := by decide +kernel
theorem dX5_word_20 : decode cX5_word 20 = .ok (.invokevirtual 67, 3) := by decide +kernel
theorem dX5_word_23 : decode cX5_word 23 = .ok (.if_icmp .ge 44, 3) := by decide +kernel
theorem dX5_word_26 : decode cX5_word 26 = .ok (.aload_n 0, 1) := by decide +kernel
theorem dX5_word_27 : decode cX5_word 27 = .ok (.getfield 28, 3) := by decide +kernel
theorem dX5_word_30 : decode cX5_word 30 = .ok (.iload 4, 2) := by decide +kernel
theorem dX5_word_32 : decode cX5_word 32 = .ok (.iadd, 1) := by decide +kernel
theorem dX5_word_33 : decode cX5_word 33 = .ok (.aload_n 0, 1) := by decide +kernel
theorem dX5_word_34 : decode cX5_word 34 = .ok (.getfield 15, 3) := by decide +kernel
theorem dX5_word_37 : decode cX5_word 37 = .ok (.if_icmp .ge 30, 3) := by decide +kernel
theorem dX5_word_40 : decode cX5_word 40 = .ok (.aload_n 0, 1) := by decide +kernel
theorem dX5_word_41 : decode cX5_word 41 = .ok (.getfield 11, 3) := by decide +kernel
theorem dX5_word_44 : decode cX5_word 44 = .ok (.aload_n 0, 1) := by decide +kernel
theorem dX5_word_45 : decode cX5_word 45 = .ok (.getfield 28, 3) := by decide +kernel
theorem dX5_word_48 : decode cX5_word 48 = .ok (.iload 4, 2) := by decide +kernel
theorem dX5_word_50 : decode cX5_word 50 = .ok (.iadd, 1) := by decide +kernel
theorem dX5_word_51 : decode cX5_word 51 = .ok (.baload, 1) := by decide +kernel
theorem dX5_word_52 : decode cX5_word 52 = .ok (.aload_n 3, 1) := by decide +kernel
theorem dX5_word_53 : decode cX5_word 53 = .ok (.iload 4, 2) := by decide +kernel
theorem dX5_word_55 : decode cX5_word 55 = .ok (.invokevirtual 72, 3) := by decide +kernel
theorem dX5_word_58 : decode cX5_word 58 = .ok (.if_icmp .ne 9, 3) := by decide +kernel
theorem dX5_word_61 : decode cX5_word 61 = .ok (.iinc 4 1, 3) := by decide +kernel
theorem dX5_word_64 : decode cX5_word 64 = .ok (.goto (-47), 3) := by decide +kernel
theorem dX5_word_67 : decode cX5_word 67 = .ok (.iload 4, 2) := by decide +kernel
theorem dX5_word_69 : decode cX5_word 69 = .ok (.aload_n 3, 1) := by decide +kernel
theorem dX5_word_70 : decode cX5_word 70 = .ok (.invokevirtual 67, 3) := by decide +kernel
theorem dX5_word_73 : decode cX5_word 73 = .ok (.if_icmp .ne 16, 3) := by decide +kernel
theorem dX5_word_76 : decode cX5_word 76 = .ok (.aload_n 0, 1) := by decide +kernel
theorem dX5_word_77 : decode cX5_word 77 = .ok (.dup, 1) := by decide +kernel
theorem dX5_word_78 : decode cX5_word 78 = .ok (.getfield 28, 3) := by decide +kernel
theorem dX5_word_81 : decode cX5_word 81 = .ok (.iload 4, 2) := by decide +kernel
theorem dX5_word_83 : decode cX5_word 83 = .ok (.iadd, 1) := by decide +kernel
theorem dX5_word_84 : decode cX5_word 84 = .ok (.putfield 28, 3) := by decide +kernel
theorem dX5_word_87 : decode cX5_word 87 = .ok (.iload_n 2, 1) := by decide +kernel
theorem dX5_word_88 : decode cX5_word 88 = .ok (.ireturn, 1) := by decide +kernel
theorem dX5_word_89 : decode cX5_word 89 = .ok (.iload_n 1, 1) := by decide +kernel
theorem dX5_word_90 : decode cX5_word 90 = .ok (.iload 4, 2) := by decide +kernel
theorem dX5_word_92 : decode cX5_word 92 = .ok (.invokestatic 76, 3) := by decide +kernel
theorem dX5_word_95 : decode cX5_word 95 = .ok (.istore_n 1, 1) := by decide +kernel
theorem dX5_word_96 : decode cX5_word 96 = .ok (.iinc 2 1, 3) := by decide +kernel
theorem dX5_word_99 : decode cX5_word 99 = .ok (.goto (-95), 3) := by decide +kernel
theorem dX5_word_102 : decode cX5_word 102 = .ok (.aload_n 0, 1) := by decide +kernel
theorem dX5_word_103 : decode cX5_word 103 = .ok (.dup, 1) := by decide +kernel
theorem dX5_word_104 : decode cX5_word 104 = .ok (.getfield 28, 3) := by decide +kernel
theorem dX5_word_107 : decode cX5_word 107 = .ok (.iload_n 1, 1) := by decide +kernel
theorem dX5_word_108 : decode cX5_word 108 = .ok (.iadd, 1) := by decide +kernel
theorem dX5_word_109 : decode cX5_word 109 = .ok (.putfield 28, 3) := by decide +kernel
theorem dX5_word_112 : decode cX5_word 112 = .ok (.iconst (-1), 1) := by decide +kernel
theorem dX5_word_113 : decode cX5_word 113 = .ok (.ireturn, 1) := by decide +kernel
theorem dX5_nameOf_0 : decode cX5_nameOf 0 = .ok (.iload_n 0, 1) := by decide +kernel
theorem dX5_nameOf_1 : decode cX5_nameOf 1 = .ok (.tableswitch 43 0 3 #[31, 34, 37, 40], 31) := by decide +kernel
theorem dX5_nameOf_32 : decode cX5_nameOf 32 = .ok (.ldc 82, 2) := by decide +kernel
theorem dX5_nameOf_34 : decode cX5_nameOf 34 = .ok (.areturn, 1) := by decide +kernel
theorem dX5_nameOf_35 : decode cX5_nameOf 35 = .ok (.ldc 84, 2) := by decide +kernel
theorem dX5_nameOf_37 : decode cX5_nameOf 37 = .ok (.areturn, 1) := by decide +kernel
theorem dX5_nameOf_38 : decode cX5_nameOf 38 = .ok (.ldc 86, 2) := by decide +kernel
theorem dX5_nameOf_40 : decode cX5_nameOf 40 = .ok (.areturn, 1) := by decide +kernel
theorem dX5_nameOf_41 : decode cX5_nameOf 41 = .ok (.ldc 87, 2) := by decide +kernel
theorem dX5_nameOf_43 : decode cX5_nameOf 43 = .ok (.areturn, 1) := by decide +kernel
theorem dX5_nameOf_44 : decode cX5_nameOf 44 = .ok (.ldc 88, 2) := by decide +kernel
theorem dX5_nameOf_46 : decode cX5_nameOf 46 = .ok (.areturn, 1) := by decide +kernel
theorem dX5_either_0 : decode cX5_either 0 = .ok (.iconst 0, 1) := by decide +kernel
theorem dX5_either_1 : decode cX5_either 1 = .ok (.istore_n 3, 1) := by decide +kernel
theorem dX5_either_2 : decode cX5_either 2 = .ok (.iconst 0, 1) := by decide +kernel
theorem dX5_either_3 : decode cX5_either 3 = .ok (.istore 4, 2) := by decide +kernel
theorem dX5_either_5 : decode cX5_either 5 = .ok (.iconst 0, 1) := by decide +kernel
theorem dX5_either_6 : decode cX5_either 6 = .ok (.istore 5, 2) := by decide +kernel
theorem dX5_either_8 : decode cX5_either 8 = .ok (.iload 5, 2) := by decide +kernel
theorem dX5_either_10 : decode cX5_either 10 = .ok (.bipush 100, 2) := by decide +kernel
theorem dX5_either_12 : decode cX5_either 12 = .ok (.if_icmp .ge 66, 3) := by decide +kernel
theorem dX5_either_15 : decode cX5_either 15 = .ok (.aload_n 0, 1) := by decide +kernel
theorem dX5_either_16 : decode cX5_either 16 = .ok (.aload_n 1, 1) := by decide +kernel
theorem dX5_either_17 : decode cX5_either 17 = .ok (.iload_n 2, 1) := by decide +kernel
theorem dX5_either_18 : decode cX5_either 18 = .ok (.invokevirtual 89, 3) := by decide +kernel
theorem dX5_either_21 : decode cX5_either 21 = .ok (.ifCond .ne 5, 3) := by decide +kernel
theorem dX5_either_24 : decode cX5_either 24 = .ok (.iconst 0, 1) := by decide +kernel
theorem dX5_either_25 : decode cX5_either 25 = .ok (.ireturn, 1) := by decide +kernel
theorem dX5_either_26 : decode cX5_either 26 = .ok (.iload_n 3, 1) := by decide +kernel
theorem dX5_either_27 : decode cX5_either 27 = .ok (.ifCond .eq 8, 3) := by decide +kernel
theorem dX5_either_30 : decode cX5_either 30 = .ok (.aload_n 1, 1) := by decide +kernel
theorem dX5_either_31 : decode cX5_either 31 = .ok (.iconst (-1), 1) := by decide +kernel
theorem dX5_either_32 : decode cX5_either 32 = .ok (.invokevirtual 92, 3) := by decide +kernel
theorem dX5_either_35 : decode cX5_either 35 = .ok (.aload_n 0, 1) := by decide +kernel
theorem dX5_either_36 : decode cX5_either 36 = .ok (.bipush 38, 2) := by decide +kernel
theorem dX5_either_38 : decode cX5_either 38 = .ok (.invokevirtual 35, 3) := by decide +kernel
theorem dX5_either_41 : decode cX5_either 41 = .ok (.istore_n 3, 1) := by decide +kernel
theorem dX5_either_42 : decode cX5_either 42 = .ok (.iload_n 3, 1) := by decide +kernel
theorem dX5_either_43 : decode cX5_either 43 = .ok (.ifCond .ne 29, 3) := by decide +kernel
theorem dX5_either_46 : decode cX5_either 46 = .ok (.iload 4, 2) := by decide +kernel
theorem dX5_either_48 : decode cX5_either 48 = .ok (.ifCond .eq 9, 3) := by decide +kernel
theorem dX5_either_51 : decode cX5_either 51 = .ok (.aload_n 1, 1) := by decide +kernel
theorem dX5_either_52 : decode cX5_either 52 = .ok (.bipush (-2), 2) := by decide +kernel
theorem dX5_either_54 : decode cX5_either 54 = .ok (.invokevirtual 92, 3) := by decide +kernel
theorem dX5_either_57 : decode cX5_either 57 = .ok (.aload_n 0, 1) := by decide +kernel
theorem dX5_either_58 : decode cX5_either 58 = .ok (.bipush 124, 2) := by decide +kernel
theorem dX5_either_60 : decode cX5_either 60 = .ok (.invokevirtual 35, 3) := by decide +kernel
theorem dX5_either_63 : decode cX5_either 63 = .ok (.istore 4, 2) := by decide +kernel
theorem dX5_either_65 : decode cX5_either 65 = .ok (.iload 4, 2) := by decide +kernel
theorem dX5_either_67 : decode cX5_either 67 = .ok (.ifCond .ne 5, 3) := by decide +kernel
theorem dX5_either_70 : decode cX5_either 70 = .ok (.iconst 1, 1) := by decide +kernel
theorem dX5_either_71 : decode cX5_either 71 = .ok (.ireturn, 1) := by decide +kernel
theorem dX5_either_72 : decode cX5_either 72 = .ok (.iinc 5 1, 3) := by decide +kernel
theorem dX5_either_75 : decode cX5_either 75 = .ok (.goto (-67), 3) := by decide +kernel
theorem dX5_either_78 : decode cX5_either 78 = .ok (.iconst 0, 1) := by decide +kernel
theorem dX5_either_79 : decode cX5_either 79 = .ok (.ireturn, 1) := by decide +kernel
theorem dX5_single_0 : decode cX5_single 0 = .ok (.aload_n 0, 1) := by decide +kernel
theorem dX5_single_1 : decode cX5_single 1 = .ok (.getfield 28, 3) := by decide +kernel
theorem dX5_single_4 : decode cX5_single 4 = .ok (.aload_n 0, 1) := by decide +kernel
theorem dX5_single_5 : decode cX5_single 5 = .ok (.getfield 15, 3) := by decide +kernel
theorem dX5_single_8 : decode cX5_single 8 = .ok (.if_icmp .ge 15, 3) := by decide +kernel
theorem dX5_single_11 : decode cX5_single 11 = .ok (.aload_n 0, 1) := by decide +kernel
theorem dX5_single_12 : decode cX5_single 12 = .ok (.getfield 11, 3) := by decide +kernel
theorem dX5_single_15 : decode cX5_single 15 = .ok (.aload_n 0, 1) := by decide +kernel
theorem dX5_single_16 : decode cX5_single 16 = .ok (.getfield 28, 3) := by decide +kernel
theorem dX5_single_19 : decode cX5_single 19 = .ok (.baload, 1) := by decide +kernel
theorem dX5_single_20 : decode cX5_single 20 = .ok (.goto 4, 3) := by decide +kernel
theorem dX5_single_23 : decode cX5_single 23 = .ok (.iconst (-1), 1) := by decide +kernel
theorem dX5_single_24 : decode cX5_single 24 = .ok (.istore_n 3, 1) := by decide +kernel
theorem dX5_single_25 : decode cX5_single 25 = .ok (.iload_n 3, 1) := by decide +kernel
theorem dX5_single_26 : decode cX5_single 26 = .ok (.bipush 33, 2) := by decide +kernel
theorem dX5_single_28 : decode cX5_single 28 = .ok (.if_icmp .eq 15, 3) := by decide +kernel
theorem dX5_single_31 : decode cX5_single 31 = .ok (.iload_n 3, 1) := by decide +kernel
theorem dX5_single_32 : decode cX5_single 32 = .ok (.bipush 40, 2) := by decide +kernel
theorem dX5_single_34 : decode cX5_single 34 = .ok (.if_icmp .eq 9, 3) := by decide +kernel
theorem dX5_single_37 : decode cX5_single 37 = .ok (.aload_n 0, 1) := by decide +kernel
theorem dX5_single_38 : decode cX5_single 38 = .ok (.aload_n 1, 1) := by decide +kernel
theorem dX5_single_39 : decode cX5_single 39 = .ok (.invokevirtual 95, 3) := by decide +kernel
theorem dX5_single_42 : decode cX5_single 42 = .ok (.ireturn, 1) := by decide +kernel
theorem dX5_single_43 : decode cX5_single 43 = .ok (.iload_n 2, 1) := by decide +kernel
theorem dX5_single_44 : decode cX5_single 44 = .ok (.iconst 4, 1) := by decide +kernel
theorem dX5_single_45 : decode cX5_single 45 = .ok (.if_icmp .lt 5, 3) := by decide +kernel
theorem dX5_single_48 : decode cX5_single 48 = .ok (.iconst 0, 1) := by decide +kernel
theorem dX5_single_49 : decode cX5_single 49 = .ok (.ireturn, 1) := by decide +kernel
theorem dX5_single_50 : decode cX5_single 50 = .ok (.aload_n 0, 1) := by decide +kernel
theorem dX5_single_51 : decode cX5_single 51 = .ok (.dup, 1) := by decide +kernel
theorem dX5_single_52 : decode cX5_single 52 = .ok (.getfield 28, 3) := by decide +kernel
theorem dX5_single_55 : decode cX5_single 55 = .ok (.iconst 1, 1) := by decide +kernel
theorem dX5_single_56 : decode cX5_single 56 = .ok (.iadd, 1) := by decide +kernel
theorem dX5_single_57 : decode cX5_single 57 = .ok (.putfield 28, 3) := by decide +kernel
theorem dX5_single_60 : decode cX5_single 60 = .ok (.iload_n 3, 1) := by decide +kernel
theorem dX5_single_61 : decode cX5_single 61 = .ok (.bipush 40, 2) := by decide +kernel
theorem dX5_single_63 : decode cX5_single 63 = .ok (.if_icmp .ne 29, 3) := by decide +kernel
theorem dX5_single_66 : decode cX5_single 66 = .ok (.aload_n 0, 1) := by decide +kernel
theorem dX5_single_67 : decode cX5_single 67 = .ok (.aload_n 1, 1) := by decide +kernel
theorem dX5_single_68 : decode cX5_single 68 = .ok (.iload_n 2, 1) := by decide +kernel
theorem dX5_single_69 : decode cX5_single 69 = .ok (.iconst 1, 1) := by decide +kernel
theorem dX5_single_70 : decode cX5_single 70 = .ok (.iadd, 1) := by decide +kernel
theorem dX5_single_71 : decode cX5_single 71 = .ok (.invokevirtual 46, 3) := by decide +kernel
theorem dX5_single_74 : decode cX5_single 74 = .ok (.ifCond .eq 16, 3) := by decide +kernel
theorem dX5_single_77 : decode cX5_single 77 = .ok (.aload_n 0, 1) := by decide +kernel
theorem dX5_single_78 : decode cX5_single 78 = .ok (.bipush 41, 2) := by decide +kernel
theorem dX5_single_80 : decode cX5_single 80 = .ok (.invokevirtual 35, 3) := by decide +kernel
theorem dX5_single_83 : decode cX5_single 83 = .ok (.ifCond .eq 7, 3) := by decide +kernel
theorem dX5_single_86 : decode cX5_single 86 = .ok (.iconst 1, 1) := by decide +kernel
theorem dX5_single_87 : decode cX5_single 87 = .ok (.goto 4, 3) := by decide +kernel
theorem dX5_single_90 : decode cX5_single 90 = .ok (.iconst 0, 1) := by decide +kernel
theorem dX5_single_91 : decode cX5_single 91 = .ok (.ireturn, 1) := by decide +kernel
theorem dX5_single_92 : decode cX5_single 92 = .ok (.aload_n 0, 1) := by decide +kernel
theorem dX5_single_93 : decode cX5_single 93 = .ok (.aload_n 1, 1) := by decide +kernel
theorem dX5_single_94 : decode cX5_single 94 = .ok (.iload_n 2, 1) := by decide +kernel
theorem dX5_single_95 : decode cX5_single 95 = .ok (.iconst 1, 1) := by decide +kernel
theorem dX5_single_96 : decode cX5_single 96 = .ok (.iadd, 1) := by decide +kernel
theorem dX5_single_97 : decode cX5_single 97 = .ok (.invokevirtual 89, 3) := by decide +kernel
theorem dX5_single_100 : decode cX5_single 100 = .ok (.ifCond .ne 5, 3) := by decide +kernel
theorem dX5_single_103 : decode cX5_single 103 = .ok (.iconst 0, 1) := by decide +kernel
theorem dX5_single_104 : decode cX5_single 104 = .ok (.ireturn, 1) := by decide +kernel
theorem dX5_single_105 : decode cX5_single 105 = .ok (.aload_n 1, 1) := by decide +kernel
theorem dX5_single_106 : decode cX5_single 106 = .ok (.bipush (-3), 2) := by decide +kernel
theorem dX5_single_108 : decode cX5_single 108 = .ok (.invokevirtual 92, 3) := by decide +kernel
theorem dX5_single_111 : decode cX5_single 111 = .ok (.iconst 1, 1) := by decide +kernel
theorem dX5_single_112 : decode cX5_single 112 = .ok (.ireturn, 1) := by decide +kernel
theorem dX5_test_0 : decode cX5_test 0 = .ok (.aload_n 0, 1) := by decide +kernel
theorem dX5_test_1 : decode cX5_test 1 = .ok (.ldc 98, 2) := by decide +kernel
theorem dX5_test_3 : decode cX5_test 3 = .ok (.invokevirtual 100, 3) := by decide +kernel
theorem dX5_test_6 : decode cX5_test 6 = .ok (.istore_n 2, 1) := by decide +kernel
theorem dX5_test_7 : decode cX5_test 7 = .ok (.iload_n 2, 1) := by decide +kernel
theorem dX5_test_8 : decode cX5_test 8 = .ok (.ifCond .ge 7, 3) := by decide +kernel
theorem dX5_test_11 : decode cX5_test 11 = .ok (.iconst (-1), 1) := by decide +kernel
theorem dX5_test_12 : decode cX5_test 12 = .ok (.goto 9, 3) := by decide +kernel
theorem dX5_test_15 : decode cX5_test 15 = .ok (.aload_n 0, 1) := by decide +kernel
theorem dX5_test_16 : decode cX5_test 16 = .ok (.ldc 104, 2) := by decide +kernel
theorem dX5_test_18 : decode cX5_test 18 = .ok (.invokevirtual 100, 3) := by decide +kernel
theorem dX5_test_21 : decode cX5_test 21 = .ok (.istore_n 3, 1) := by decide +kernel
theorem dX5_test_22 : decode cX5_test 22 = .ok (.iload_n 3, 1) := by decide +kernel
theorem dX5_test_23 : decode cX5_test 23 = .ok (.ifCond .ge 7, 3) := by decide +kernel
theorem dX5_test_26 : decode cX5_test 26 = .ok (.iconst (-1), 1) := by decide +kernel
theorem dX5_test_27 : decode cX5_test 27 = .ok (.goto 7, 3) := by decide +kernel
theorem dX5_test_30 : decode cX5_test 30 = .ok (.aload_n 0, 1) := by decide +kernel
theorem dX5_test_31 : decode cX5_test 31 = .ok (.invokevirtual 43, 3) := by decide +kernel
theorem dX5_test_34 : decode cX5_test 34 = .ok (.istore 4, 2) := by decide +kernel
theorem dX5_test_36 : decode cX5_test 36 = .ok (.iload 4, 2) := by decide +kernel
theorem dX5_test_38 : decode cX5_test 38 = .ok (.ifCond .ge 5, 3) := by decide +kernel
theorem dX5_test_41 : decode cX5_test 41 = .ok (.iconst 0, 1) := by decide +kernel
theorem dX5_test_42 : decode cX5_test 42 = .ok (.ireturn, 1) := by decide +kernel
theorem dX5_test_43 : decode cX5_test 43 = .ok (.aload_n 1, 1) := by decide +kernel
theorem dX5_test_44 : decode cX5_test 44 = .ok (.iload_n 2, 1) := by decide +kernel
theorem dX5_test_45 : decode cX5_test 45 = .ok (.iload_n 3, 1) := by decide +kernel
theorem dX5_test_46 : decode cX5_test 46 = .ok (.iload 4, 2) := by decide +kernel
theorem dX5_test_48 : decode cX5_test 48 = .ok (.invokevirtual 106, 3) := by decide +kernel
theorem dX5_test_51 : decode cX5_test 51 = .ok (.iconst 1, 1) := by decide +kernel
theorem dX5_test_52 : decode cX5_test 52 = .ok (.ireturn, 1) := by decide +kernel
theorem dX5_oneOf_0 : decode cX5_oneOf 0 = .ok (.aload_n 0, 1) := by decide +kernel
theorem dX5_oneOf_1 : decode cX5_oneOf 1 = .ok (.getfield 28, 3) := by decide +kernel
theorem dX5_oneOf_4 : decode cX5_oneOf 4 = .ok (.aload_n 0, 1) := by decide +kernel
theorem dX5_oneOf_5 : decode cX5_oneOf 5 = .ok (.getfield 15, 3) := by decide +kernel
theorem dX5_oneOf_8 : decode cX5_oneOf 8 = .ok (.if_icmp .ge 20, 3) := by decide +kernel
theorem dX5_oneOf_11 : decode cX5_oneOf 11 = .ok (.aload_n 1, 1) := by decide +kernel
theorem dX5_oneOf_12 : decode cX5_oneOf 12 = .ok (.aload_n 0, 1) := by decide +kernel
theorem dX5_oneOf_13 : decode cX5_oneOf 13 = .ok (.getfield 11, 3) := by decide +kernel
theorem dX5_oneOf_16 : decode cX5_oneOf 16 = .ok (.aload_n 0, 1) := by decide +kernel
theorem dX5_oneOf_17 : decode cX5_oneOf 17 = .ok (.getfield 28, 3) := by decide +kernel
theorem dX5_oneOf_20 : decode cX5_oneOf 20 = .ok (.baload, 1) := by decide +kernel
theorem dX5_oneOf_21 : decode cX5_oneOf 21 = .ok (.i2c, 1) := by decide +kernel
theorem dX5_oneOf_22 : decode cX5_oneOf 22 = .ok (.invokevirtual 110, 3) := by decide +kernel
theorem dX5_oneOf_25 : decode cX5_oneOf 25 = .ok (.goto 4, 3) := by decide +kernel
theorem dX5_oneOf_28 : decode cX5_oneOf 28 = .ok (.iconst (-1), 1) := by decide +kernel
theorem dX5_oneOf_29 : decode cX5_oneOf 29 = .ok (.istore_n 2, 1) := by decide +kernel
theorem dX5_oneOf_30 : decode cX5_oneOf 30 = .ok (.iload_n 2, 1) := by decide +kernel
theorem dX5_oneOf_31 : decode cX5_oneOf 31 = .ok (.ifCond .lt 13, 3) := by decide +kernel
theorem dX5_oneOf_34 : decode cX5_oneOf 34 = .ok (.aload_n 0, 1) := by decide +kernel
theorem dX5_oneOf_35 : decode cX5_oneOf 35 = .ok (.dup, 1) := by decide +kernel
theorem dX5_oneOf_36 : decode cX5_oneOf 36 = .ok (.getfield 28, 3) := by decide +kernel
theorem dX5_oneOf_39 : decode cX5_oneOf 39 = .ok (.iconst 1, 1) := by decide +kernel
theorem dX5_oneOf_40 : decode cX5_oneOf 40 = .ok (.iadd, 1) := by decide +kernel
theorem dX5_oneOf_41 : decode cX5_oneOf 41 = .ok (.putfield 28, 3) := by decide +kernel
theorem dX5_oneOf_44 : decode cX5_oneOf 44 = .ok (.iload_n 2, 1) := by decide +kernel
theorem dX5_oneOf_45 : decode cX5_oneOf 45 = .ok (.ireturn, 1) := by decide +kernel
theorem dX5_number_0 : decode cX5_number 0 = .ok (.iconst (-1), 1) := by decide +kernel
theorem dX5_number_1 : decode cX5_number 1 = .ok (.istore_n 1, 1) := by decide +kernel
theorem dX5_number_2 : decode cX5_number 2 = .ok (.iconst 0, 1) := by decide +kernel
theorem dX5_number_3 : decode cX5_number 3 = .ok (.istore_n 2, 1) := by decide +kernel
theorem dX5_number_4 : decode cX5_number 4 = .ok (.iload_n 2, 1) := by decide +kernel
theorem dX5_number_5 : decode cX5_number 5 = .ok (.iconst 2, 1) := by decide +kernel
theorem dX5_number_6 : decode cX5_number 6 = .ok (.if_icmp .ge 84, 3) := by decide +kernel
theorem dX5_number_9 : decode cX5_number 9 = .ok (.aload_n 0, 1) := by decide +kernel
theorem dX5_number_10 : decode cX5_number 10 = .ok (.getfield 28, 3) := by decide +kernel
theorem dX5_number_13 : decode cX5_number 13 = .ok (.aload_n 0, 1) := by decide +kernel
theorem dX5_number_14 : decode cX5_number 14 = .ok (.getfield 15, 3) := by decide +kernel
theorem dX5_number_17 : decode cX5_number 17 = .ok (.if_icmp .ge 73, 3) := by decide +kernel
theorem dX5_number_20 : decode cX5_number 20 = .ok (.aload_n 0, 1) := by decide +kernel
theorem dX5_number_21 : decode cX5_number 21 = .ok (.getfield 11, 3) := by decide +kernel
theorem dX5_number_24 : decode cX5_number 24 = .ok (.aload_n 0, 1) := by decide +kernel
theorem dX5_number_25 : decode cX5_number 25 = .ok (.getfield 28, 3) := by decide +kernel
theorem dX5_number_28 : decode cX5_number 28 = .ok (.baload, 1) := by decide +kernel
theorem dX5_number_29 : decode cX5_number 29 = .ok (.bipush 48, 2) := by decide +kernel
theorem dX5_number_31 : decode cX5_number 31 = .ok (.if_icmp .lt 59, 3) := by decide +kernel
theorem dX5_number_34 : decode cX5_number 34 = .ok (.aload_n 0, 1) := by decide +kernel
theorem dX5_number_35 : decode cX5_number 35 = .ok (.getfield 11, 3) := by decide +kernel
theorem dX5_number_38 : decode cX5_number 38 = .ok (.aload_n 0, 1) := by decide +kernel
theorem dX5_number_39 : decode cX5_number 39 = .ok (.getfield 28, 3) := by decide +kernel
theorem dX5_number_42 : decode cX5_number 42 = .ok (.baload, 1) := by decide +kernel
theorem dX5_number_43 : decode cX5_number 43 = .ok (.bipush 57, 2) := by decide +kernel
theorem dX5_number_45 : decode cX5_number 45 = .ok (.if_icmp .gt 45, 3) := by decide +kernel
theorem dX5_number_48 : decode cX5_number 48 = .ok (.iload_n 2, 1) := by decide +kernel
theorem dX5_number_49 : decode cX5_number 49 = .ok (.ifCond .ne 7, 3) := by decide +kernel
theorem dX5_number_52 : decode cX5_number 52 = .ok (.iconst 0, 1) := by decide +kernel
theorem dX5_number_53 : decode cX5_number 53 = .ok (.goto 7, 3) := by decide +kernel
theorem dX5_number_56 : decode cX5_number 56 = .ok (.iload_n 1, 1) := by decide +kernel
theorem dX5_number_57 : decode cX5_number 57 = .ok (.bipush 10, 2) := by decide +kernel
theorem dX5_number_59 : decode cX5_number 59 = .ok (.imul, 1) := by decide +kernel
theorem dX5_number_60 : decode cX5_number 60 = .ok (.aload_n 0, 1) := by decide +kernel
theorem dX5_number_61 : decode cX5_number 61 = .ok (.getfield 11, 3) := by decide +kernel
theorem dX5_number_64 : decode cX5_number 64 = .ok (.aload_n 0, 1) := by decide +kernel
theorem dX5_number_65 : decode cX5_number 65 = .ok (.getfield 28, 3) := by decide +kernel
theorem dX5_number_68 : decode cX5_number 68 = .ok (.baload, 1) := by decide +kernel
theorem dX5_number_69 : decode cX5_number 69 = .ok (.iadd, 1) := by decide +kernel
theorem dX5_number_70 : decode cX5_number 70 = .ok (.bipush 48, 2) := by decide +kernel
theorem dX5_number_72 : decode cX5_number 72 = .ok (.isub, 1) := by decide +kernel
theorem dX5_number_73 : decode cX5_number 73 = .ok (.istore_n 1, 1) := by decide +kernel
theorem dX5_number_74 : decode cX5_number 74 = .ok (.aload_n 0, 1) := by decide +kernel
theorem dX5_number_75 : decode cX5_number 75 = .ok (.dup, 1) := by decide +kernel
theorem dX5_number_76 : decode cX5_number 76 = .ok (.getfield 28, 3) := by decide +kernel
theorem dX5_number_79 : decode cX5_number 79 = .ok (.iconst 1, 1) := by decide +kernel
theorem dX5_number_80 : decode cX5_number 80 = .ok (.iadd, 1) := by decide +kernel
theorem dX5_number_81 : decode cX5_number 81 = .ok (.putfield 28, 3) := by decide +kernel
theorem dX5_number_84 : decode cX5_number 84 = .ok (.iinc 2 1, 3) := by decide +kernel
theorem dX5_number_87 : decode cX5_number 87 = .ok (.goto (-83), 3) := by decide +kernel
theorem dX5_number_90 : decode cX5_number 90 = .ok (.iload_n 1, 1) := by decide +kernel
theorem dX5_number_91 : decode cX5_number 91 = .ok (.ireturn, 1) := by decide +kernel
theorem dX5_skip_0 : decode cX5_skip 0 = .ok (.aload_n 0, 1) := by decide +kernel
theorem dX5_skip_1 : decode cX5_skip 1 = .ok (.getfield 28, 3) := by decide +kernel
theorem dX5_skip_4 : decode cX5_skip 4 = .ok (.aload_n 0, 1) := by decide +kernel
theorem dX5_skip_5 : decode cX5_skip 5 = .ok (.getfield 15, 3) := by decide +kernel
theorem dX5_skip_8 : decode cX5_skip 8 = .ok (.if_icmp .ge 16, 3) := by decide +kernel
theorem dX5_skip_11 : decode cX5_skip 11 = .ok (.aload_n 0, 1) := by decide +kernel
theorem dX5_skip_12 : decode cX5_skip 12 = .ok (.getfield 11, 3) := by decide +kernel
theorem dX5_skip_15 : decode cX5_skip 15 = .ok (.aload_n 0, 1) := by decide +kernel
theorem dX5_skip_16 : decode cX5_skip 16 = .ok (.getfield 28, 3) := by decide +kernel
theorem dX5_skip_19 : decode cX5_skip 19 = .ok (.baload, 1) := by decide +kernel
theorem dX5_skip_20 : decode cX5_skip 20 = .ok (.iload_n 1, 1) := by decide +kernel
theorem dX5_skip_21 : decode cX5_skip 21 = .ok (.if_icmp .eq 5, 3) := by decide +kernel
theorem dX5_skip_24 : decode cX5_skip 24 = .ok (.iconst 0, 1) := by decide +kernel
theorem dX5_skip_25 : decode cX5_skip 25 = .ok (.ireturn, 1) := by decide +kernel
theorem dX5_skip_26 : decode cX5_skip 26 = .ok (.aload_n 0, 1) := by decide +kernel
theorem dX5_skip_27 : decode cX5_skip 27 = .ok (.dup, 1) := by decide +kernel
theorem dX5_skip_28 : decode cX5_skip 28 = .ok (.getfield 28, 3) := by decide +kernel
theorem dX5_skip_31 : decode cX5_skip 31 = .ok (.iconst 1, 1) := by decide +kernel
theorem dX5_skip_32 : decode cX5_skip 32 = .ok (.iadd, 1) := by decide +kernel
theorem dX5_skip_33 : decode cX5_skip 33 = .ok (.putfield 28, 3) := by decide +kernel
theorem dX5_skip_36 : decode cX5_skip 36 = .ok (.iconst 1, 1) := by decide +kernel
theorem dX5_skip_37 : decode cX5_skip 37 = .ok (.ireturn, 1) := by decide +kernel
theorem dX6_init_0 : decode cX6_init 0 = .ok (.aload_n 0, 1) := by decide +kernel
theorem dX6_init_1 : decode cX6_init 1 = .ok (.invokespecial 3, 3) := by decide +kernel
theorem dX6_init_4 : decode cX6_init 4 = .ok (.aload_n 0, 1) := by decide +kernel
theorem dX6_init_5 : decode cX6_init 5 = .ok (.new 9, 3) := by decide +kernel
theorem dX6_init_8 : decode cX6_init 8 = .ok (.dup, 1) := by decide +kernel
theorem dX6_init_9 : decode cX6_init 9 = .ok (.invokespecial 11, 3) := by decide +kernel
theorem dX6_init_12 : decode cX6_init 12 = .ok (.putfield 12, 3) := by decide +kernel
theorem dX6_init_15 : decode cX6_init 15 = .ok (.aload_n 0, 1) := by decide +kernel
theorem dX6_init_16 : decode cX6_init 16 = .ok (.bipush 50, 2) := by decide +kernel
theorem dX6_init_18 : decode cX6_init 18 = .ok (.putfield 18, 3) := by decide +kernel
theorem dX6_init_21 : decode cX6_init 21 = .ok (.aload_n 0, 1) := by decide +kernel
theorem dX6_init_22 : decode cX6_init 22 = .ok (.bipush 6, 2) := by decide +kernel
theorem dX6_init_24 : decode cX6_init 24 = .ok (.newarray .int, 2) := by decide +kernel
theorem dX6_init_26 : decode cX6_init 26 = .ok (.putfield 22, 3) := by decide +kernel
theorem dX6_init_29 : decode cX6_init 29 = .ok (.aload_n 0, 1) := by decide +kernel
theorem dX6_init_30 : decode cX6_init 30 = .ok (.bipush 6, 2) := by decide +kernel
theorem dX6_init_32 : decode cX6_init 32 = .ok (.newarray .int, 2) := by decide +kernel
theorem dX6_init_34 : decode cX6_init 34 = .ok (.putfield 26, 3) := by decide +kernel
theorem dX6_init_37 : decode cX6_init 37 = .ok (.aload_n 0, 1) := by decide +kernel
theorem dX6_init_38 : decode cX6_init 38 = .ok (.new 29, 3) := by decide +kernel
theorem dX6_init_41 : decode cX6_init 41 = .ok (.dup, 1) := by decide +kernel
theorem dX6_init_42 : decode cX6_init 42 = .ok (.iconst 5, 1) := by decide +kernel
theorem dX6_init_43 : decode cX6_init 43 = .ok (.invokespecial 31, 3) := by decide +kernel
theorem dX6_init_46 : decode cX6_init 46 = .ok (.putfield 34, 3) := by decide +kernel
theorem dX6_init_49 : decode cX6_init 49 = .ok (.aload_n 0, 1) := by decide +kernel
theorem dX6_init_50 : decode cX6_init 50 = .ok (.new 29, 3) := by decide +kernel
theorem dX6_init_53 : decode cX6_init 53 = .ok (.dup, 1) := by decide +kernel
theorem dX6_init_54 : decode cX6_init 54 = .ok (.bipush 10, 2) := by decide +kernel
theorem dX6_init_56 : decode cX6_init 56 = .ok (.invokespecial 31, 3) := by decide +kernel
theorem dX6_init_59 : decode cX6_init 59 = .ok (.putfield 38, 3) := by decide +kernel
theorem dX6_init_62 : decode cX6_init 62 = .ok (.aload_n 0, 1) := by decide +kernel
theorem dX6_init_63 : decode cX6_init 63 = .ok (.new 29, 3) := by decide +kernel
theorem dX6_init_66 : decode cX6_init 66 = .ok (.dup, 1) := by decide +kernel
theorem dX6_init_67 : decode cX6_init 67 = .ok (.bipush 8, 2) := by decide +kernel
theorem dX6_init_69 : decode cX6_init 69 = .ok (.invokespecial 31, 3) := by decide +kernel
theorem dX6_init_72 : decode cX6_init 72 = .ok (.putfield 41, 3) := by decide +kernel
theorem dX6_init_75 : decode cX6_init 75 = .ok (.aload_n 0, 1) := by decide +kernel
theorem dX6_init_76 : decode cX6_init 76 = .ok (.aload_n 1, 1) := by decide +kernel
theorem dX6_init_77 : decode cX6_init 77 = .ok (.invokevirtual 44, 3) := by decide +kernel
theorem dX6_init_80 : decode cX6_init 80 = .ok (.return_, 1) := by decide +kernel
theorem dX6_isGone_0 : decode cX6_isGone 0 = .ok (.aload_n 0, 1) := by decide +kernel
theorem dX6_isGone_1 : decode cX6_isGone 1 = .ok (.getfield 18, 3) := by decide +kernel
theorem dX6_isGone_4 : decode cX6_isGone 4 = .ok (.ifCond .gt 7, 3) := by decide +kernel
theorem dX6_isGone_7 : decode cX6_isGone 7 = .ok (.iconst 1, 1) := by decide +kernel
theorem dX6_isGone_8 : decode cX6_isGone 8 = .ok (.goto 4, 3) := by decide +kernel
theorem dX6_isGone_11 : decode cX6_isGone 11 = .ok (.iconst 0, 1) := by decide +kernel
theorem dX6_isGone_12 : decode cX6_isGone 12 = .ok (.ireturn, 1) := by decide +kernel
theorem dX6_settle_0 : decode cX6_settle 0 = .ok (.aload_n 0, 1) := by decide +kernel
theorem dX6_settle_1 : decode cX6_settle 1 = .ok (.aload_n 1, 1) := by decide +kernel
theorem dX6_settle_2 : decode cX6_settle 2 = .ok (.putfield 48, 3) := by decide +kernel
theorem dX6_settle_5 : decode cX6_settle 5 = .ok (.aload_n 0, 1) := by decide +kernel
theorem dX6_settle_6 : decode cX6_settle 6 = .ok (.aload_n 1, 1) := by decide +kernel
theorem dX6_settle_7 : decode cX6_settle 7 = .ok (.getfield 52, 3) := by decide +kernel
theorem dX6_settle_10 : decode cX6_settle 10 = .ok (.putfield 57, 3) := by decide +kernel
theorem dX6_settle_13 : decode cX6_settle 13 = .ok (.aload_n 0, 1) := by decide +kernel
theorem dX6_settle_14 : decode cX6_settle 14 = .ok (.aload_n 1, 1) := by decide +kernel
theorem dX6_settle_15 : decode cX6_settle 15 = .ok (.getfield 58, 3) := by decide +kernel
theorem dX6_settle_18 : decode cX6_settle 18 = .ok (.putfield 61, 3) := by decide +kernel
theorem dX6_settle_21 : decode cX6_settle 21 = .ok (.aload_n 0, 1) := by decide +kernel
theorem dX6_settle_22 : decode cX6_settle 22 = .ok (.aload_n 1, 1) := by decide +kernel
theorem dX6_settle_23 : decode cX6_settle 23 = .ok (.getfield 62, 3) := by decide +kernel
theorem dX6_settle_26 : decode cX6_settle 26 = .ok (.putfield 65, 3) := by decide +kernel
theorem dX6_settle_29 : decode cX6_settle 29 = .ok (.return_, 1) := by decide +kernel
theorem dX6_letIn_0 : decode cX6_letIn 0 = .ok (.iconst 0, 1) := by decide +kernel
theorem dX6_letIn_1 : decode cX6_letIn 1 = .ok (.istore_n 1, 1) := by decide +kernel
theorem dX6_letIn_2 : decode cX6_letIn 2 = .ok (.iload_n 1, 1) := by decide +kernel
theorem dX6_letIn_3 : decode cX6_letIn 3 = .ok (.aload_n 0, 1) := by decide +kernel
theorem dX6_letIn_4 : decode cX6_letIn 4 = .ok (.getfield 12, 3) := by decide +kernel
theorem dX6_letIn_7 : decode cX6_letIn 7 = .ok (.getfield 66, 3) := by decide +kernel
theorem dX6_letIn_10 : decode cX6_letIn 10 = .ok (.if_icmp .ge 32, 3) := by decide +kernel
theorem dX6_letIn_13 : decode cX6_letIn 13 = .ok (.aload_n 0, 1) := by decide +kernel
theorem dX6_letIn_14 : decode cX6_letIn 14 = .ok (.getfield 26, 3) := by decide +kernel
theorem dX6_letIn_17 : decode cX6_letIn 17 = .ok (.iload_n 1, 1) := by decide +kernel
theorem dX6_letIn_18 : decode cX6_letIn 18 = .ok (.aload_n 0, 1) := by decide +kernel
theorem dX6_letIn_19 : decode cX6_letIn 19 = .ok (.getfield 12, 3) := by decide +kernel
theorem dX6_letIn_22 : decode cX6_letIn 22 = .ok (.getfield 69, 3) := by decide +kernel
theorem dX6_letIn_25 : decode cX6_letIn 25 = .ok (.iload_n 1, 1) := by decide +kernel
theorem dX6_letIn_26 : decode cX6_letIn 26 = .ok (.iaload, 1) := by decide +kernel
theorem dX6_letIn_27 : decode cX6_letIn 27 = .ok (.aload_n 0, 1) := by decide +kernel
theorem dX6_letIn_28 : decode cX6_letIn 28 = .ok (.getfield 72, 3) := by decide +kernel
theorem dX6_letIn_31 : decode cX6_letIn 31 = .ok (.bipush 10, 2) := by decide +kernel
theorem dX6_letIn_33 : decode cX6_letIn 33 = .ok (.idiv, 1) := by decide +kernel
theorem dX6_letIn_34 : decode cX6_letIn 34 = .ok (.isub, 1) := by decide +kernel
theorem dX6_letIn_35 : decode cX6_letIn 35 = .ok (.iastore, 1) := by decide +kernel
theorem dX6_letIn_36 : decode cX6_letIn 36 = .ok (.iinc 1 1, 3) := by decide +kernel
theorem dX6_letIn_39 : decode cX6_letIn 39 = .ok (.goto (-37), 3) := by decide +kernel
theorem dX6_letIn_42 : decode cX6_letIn 42 = .ok (.iconst 0, 1) := by decide +kernel
theorem dX6_letIn_43 : decode cX6_letIn 43 = .ok (.istore_n 1, 1) := by decide +kernel
theorem dX6_letIn_44 : decode cX6_letIn 44 = .ok (.iload_n 1, 1) := by decide +kernel
theorem dX6_letIn_45 : decode cX6_letIn 45 = .ok (.aload_n 0, 1) := by decide +kernel
theorem dX6_letIn_46 : decode cX6_letIn 46 = .ok (.getfield 48, 3) := by decide +kernel
theorem dX6_letIn_49 : decode cX6_letIn 49 = .ok (.getfield 75, 3) := by decide +kernel
theorem dX6_letIn_52 : decode cX6_letIn 52 = .ok (.if_icmp .ge 73, 3) := by decide +kernel
theorem dX6_letIn_55 : decode cX6_letIn 55 = .ok (.aload_n 0, 1) := by decide +kernel
theorem dX6_letIn_56 : decode cX6_letIn 56 = .ok (.getfield 48, 3) := by decide +kernel
theorem dX6_letIn_59 : decode cX6_letIn 59 = .ok (.iload_n 1, 1) := by decide +kernel
theorem dX6_letIn_60 : decode cX6_letIn 60 = .ok (.aload_n 0, 1) := by decide +kernel
theorem dX6_letIn_61 : decode cX6_letIn 61 = .ok (.getfield 12, 3) := by decide +kernel
theorem dX6_letIn_64 : decode cX6_letIn 64 = .ok (.aload_n 0, 1) := by decide +kernel
theorem dX6_letIn_65 : decode cX6_letIn 65 = .ok (.getfield 72, 3) := by decide +kernel
theorem dX6_letIn_68 : decode cX6_letIn 68 = .ok (.aload_n 0, 1) := by decide +kernel
theorem dX6_letIn_69 : decode cX6_letIn 69 = .ok (.getfield 78, 3) := by decide +kernel
theorem dX6_letIn_72 : decode cX6_letIn 72 = .ok (.invokevirtual 81, 3) := by decide +kernel
theorem dX6_letIn_75 : decode cX6_letIn 75 = .ok (.istore_n 2, 1) := by decide +kernel
theorem dX6_letIn_76 : decode cX6_letIn 76 = .ok (.iconst 0, 1) := by decide +kernel
theorem dX6_letIn_77 : decode cX6_letIn 77 = .ok (.istore_n 3, 1) := by decide +kernel
theorem dX6_letIn_78 : decode cX6_letIn 78 = .ok (.iload_n 3, 1) := by decide +kernel
theorem dX6_letIn_79 : decode cX6_letIn 79 = .ok (.aload_n 0, 1) := by decide +kernel
theorem dX6_letIn_80 : decode cX6_letIn 80 = .ok (.getfield 12, 3) := by decide +kernel
theorem dX6_letIn_83 : decode cX6_letIn 83 = .ok (.getfield 66, 3) := by decide +kernel
theorem dX6_letIn_86 : decode cX6_letIn 86 = .ok (.if_icmp .ge 33, 3) := by decide +kernel
theorem dX6_letIn_89 : decode cX6_letIn 89 = .ok (.aload_n 0, 1) := by decide +kernel
theorem dX6_letIn_90 : decode cX6_letIn 90 = .ok (.getfield 26, 3) := by decide +kernel
theorem dX6_letIn_93 : decode cX6_letIn 93 = .ok (.iload_n 3, 1) := by decide +kernel
theorem dX6_letIn_94 : decode cX6_letIn 94 = .ok (.dup2, 1) := by decide +kernel
theorem dX6_letIn_95 : decode cX6_letIn 95 = .ok (.iaload, 1) := by decide +kernel
theorem dX6_letIn_96 : decode cX6_letIn 96 = .ok (.iload_n 2, 1) := by decide +kernel
theorem dX6_letIn_97 : decode cX6_letIn 97 = .ok (.iload_n 3, 1) := by decide +kernel
theorem dX6_letIn_98 : decode cX6_letIn 98 = .ok (.ishr, 1) := by decide +kernel
theorem dX6_letIn_99 : decode cX6_letIn 99 = .ok (.iconst 1, 1) := by decide +kernel
theorem dX6_letIn_100 : decode cX6_letIn 100 = .ok (.iand, 1) := by decide +kernel
theorem dX6_letIn_101 : decode cX6_letIn 101 = .ok (.aload_n 0, 1) := by decide +kernel
theorem dX6_letIn_102 : decode cX6_letIn 102 = .ok (.getfield 48, 3) := by decide +kernel
theorem dX6_letIn_105 : decode cX6_letIn 105 = .ok (.getfield 85, 3) := by decide +kernel
theorem dX6_letIn_108 : decode cX6_letIn 108 = .ok (.iload_n 1, 1) := by decide +kernel
theorem dX6_letIn_109 : decode cX6_letIn 109 = .ok (.iaload, 1) := by decide +kernel
theorem dX6_letIn_110 : decode cX6_letIn 110 = .ok (.imul, 1) := by decide +kernel
theorem dX6_letIn_111 : decode cX6_letIn 111 = .ok (.iadd, 1) := by decide +kernel
theorem dX6_letIn_112 : decode cX6_letIn 112 = .ok (.iastore, 1) := by decide +kernel
theorem dX6_letIn_113 : decode cX6_letIn 113 = .ok (.iinc 3 1, 3) := by decide +kernel
theorem dX6_letIn_116 : decode cX6_letIn 116 = .ok (.goto (-38), 3) := by decide +kernel
theorem dX6_letIn_119 : decode cX6_letIn 119 = .ok (.iinc 1 1, 3) := by decide +kernel
theorem dX6_letIn_122 : decode cX6_letIn 122 = .ok (.goto (-78), 3) := by decide +kernel
theorem dX6_letIn_125 : decode cX6_letIn 125 = .ok (.iconst 0, 1) := by decide +kernel
theorem dX6_letIn_126 : decode cX6_letIn 126 = .ok (.istore_n 1, 1) := by decide +kernel
theorem dX6_letIn_127 : decode cX6_letIn 127 = .ok (.iconst 0, 1) := by decide +kernel
theorem dX6_letIn_128 : decode cX6_letIn 128 = .ok (.istore_n 2, 1) := by decide +kernel
theorem dX6_letIn_129 : decode cX6_letIn 129 = .ok (.iload_n 2, 1) := by decide +kernel
theorem dX6_letIn_130 : decode cX6_letIn 130 = .ok (.aload_n 0, 1) := by decide +kernel
theorem dX6_letIn_131 : decode cX6_letIn 131 = .ok (.getfield 12, 3) := by decide +kernel
theorem dX6_letIn_134 : decode cX6_letIn 134 = .ok (.getfield 66, 3) := by decide +kernel
theorem dX6_letIn_137 : decode cX6_letIn 137 = .ok (.if_icmp .ge 67, 3) := by decide +kernel
theorem dX6_letIn_140 : decode cX6_letIn 140 = .ok (.aload_n 0, 1) := by decide +kernel
theorem dX6_letIn_141 : decode cX6_letIn 141 = .ok (.getfield 12, 3) := by decide +kernel
theorem dX6_letIn_144 : decode cX6_letIn 144 = .ok (.getfield 88, 3) := by decide +kernel
theorem dX6_letIn_147 : decode cX6_letIn 147 = .ok (.iload_n 2, 1) := by decide +kernel
theorem dX6_letIn_148 : decode cX6_letIn 148 = .ok (.iaload, 1) := by decide +kernel
theorem dX6_letIn_149 : decode cX6_letIn 149 = .ok (.iconst 2, 1) := by decide +kernel
theorem dX6_letIn_150 : decode cX6_letIn 150 = .ok (.if_icmp .ne 16, 3) := by decide +kernel
theorem dX6_letIn_153 : decode cX6_letIn 153 = .ok (.aload_n 0, 1) := by decide +kernel
theorem dX6_letIn_154 : decode cX6_letIn 154 = .ok (.getfield 72, 3) := by decide +kernel
theorem dX6_letIn_157 : decode cX6_letIn 157 = .ok (.bipush 100, 2) := by decide +kernel
theorem dX6_letIn_159 : decode cX6_letIn 159 = .ok (.if_icmp .le 7, 3) := by decide +kernel
theorem dX6_letIn_162 : decode cX6_letIn 162 = .ok (.iconst 1, 1) := by decide +kernel
theorem dX6_letIn_163 : decode cX6_letIn 163 = .ok (.goto 4, 3) := by decide +kernel
theorem dX6_letIn_166 : decode cX6_letIn 166 = .ok (.iconst 0, 1) := by decide +kernel
theorem dX6_letIn_167 : decode cX6_letIn 167 = .ok (.istore_n 3, 1) := by decide +kernel
theorem dX6_letIn_168 : decode cX6_letIn 168 = .ok (.aload_n 0, 1) := by decide +kernel
theorem dX6_letIn_169 : decode cX6_letIn 169 = .ok (.getfield 26, 3) := by decide +kernel
theorem dX6_letIn_172 : decode cX6_letIn 172 = .ok (.iload_n 2, 1) := by decide +kernel
theorem dX6_letIn_173 : decode cX6_letIn 173 = .ok (.iaload, 1) := by decide +kernel
theorem dX6_letIn_174 : decode cX6_letIn 174 = .ok (.ifCond .lt 24, 3) := by decide +kernel
theorem dX6_letIn_177 : decode cX6_letIn 177 = .ok (.iload_n 3, 1) := by decide +kernel
theorem dX6_letIn_178 : decode cX6_letIn 178 = .ok (.ifCond .ne 20, 3) := by decide +kernel
theorem dX6_letIn_181 : decode cX6_letIn 181 = .ok (.aload_n 0, 1) := by decide +kernel
theorem dX6_letIn_182 : decode cX6_letIn 182 = .ok (.getfield 12, 3) := by decide +kernel
theorem dX6_letIn_185 : decode cX6_letIn 185 = .ok (.iload_n 2, 1) := by decide +kernel
theorem dX6_letIn_186 : decode cX6_letIn 186 = .ok (.invokevirtual 91, 3) := by decide +kernel
theorem dX6_letIn_189 : decode cX6_letIn 189 = .ok (.ifCond .ne 9, 3) := by decide +kernel
theorem dX6_letIn_192 : decode cX6_letIn 192 = .ok (.iload_n 1, 1) := by decide +kernel
theorem dX6_letIn_193 : decode cX6_letIn 193 = .ok (.iconst 1, 1) := by decide +kernel
theorem dX6_letIn_194 : decode cX6_letIn 194 = .ok (.iload_n 2, 1) := by decide +kernel
theorem dX6_letIn_195 : decode cX6_letIn 195 = .ok (.ishl, 1) := by decide +kernel
theorem dX6_letIn_196 : decode cX6_letIn 196 = .ok (.ior, 1) := by decide +kernel
theorem dX6_letIn_197 : decode cX6_letIn 197 = .ok (.istore_n 1, 1) := by decide +kernel
theorem dX6_letIn_198 : decode cX6_letIn 198 = .ok (.iinc 2 1, 3) := by decide +kernel
theorem dX6_letIn_201 : decode cX6_letIn 201 = .ok (.goto (-72), 3) := by decide +kernel
theorem dX6_letIn_204 : decode cX6_letIn 204 = .ok (.iload_n 1, 1) := by decide +kernel
theorem dX6_letIn_205 : decode cX6_letIn 205 = .ok (.ireturn, 1) := by decide +kernel
theorem dX6_prayerOf_0 : decode cX6_prayerOf 0 = .ok (.aload_n 0, 1) := by decide +kernel
theorem dX6_prayerOf_1 : decode cX6_prayerOf 1 = .ok (.getfield 12, 3) := by decide +kernel
theorem dX6_prayerOf_4 : decode cX6_prayerOf 4 = .ok (.iload_n 1, 1) := by decide +kernel
theorem dX6_prayerOf_5 : decode cX6_prayerOf 5 = .ok (.invokevirtual 91, 3) := by decide +kernel
theorem dX6_prayerOf_8 : decode cX6_prayerOf 8 = .ok (.ifCond .eq 5, 3) := by decide +kernel
theorem dX6_prayerOf_11 : decode cX6_prayerOf 11 = .ok (.iconst 0, 1) := by decide +kernel
theorem dX6_prayerOf_12 : decode cX6_prayerOf 12 = .ok (.ireturn, 1) := by decide +kernel
theorem dX6_prayerOf_13 : decode cX6_prayerOf 13 = .ok (.aload_n 0, 1) := by decide +kernel
theorem dX6_prayerOf_14 : decode cX6_prayerOf 14 = .ok (.getfield 12, 3) := by decide +kernel
theorem dX6_prayerOf_17 : decode cX6_prayerOf 17 = .ok (.getfield 69, 3) := by decide +kernel
theorem dX6_prayerOf_20 : decode cX6_prayerOf 20 = .ok (.iload_n 1, 1) := by decide +kernel
theorem dX6_prayerOf_21 : decode cX6_prayerOf 21 = .ok (.iaload, 1) := by decide +kernel
theorem dX6_prayerOf_22 : decode cX6_prayerOf 22 = .ok (.istore_n 3, 1) := by decide +kernel
theorem dX6_prayerOf_23 : decode cX6_prayerOf 23 = .ok (.aload_n 0, 1) := by decide +kernel
theorem dX6_prayerOf_24 : decode cX6_prayerOf 24 = .ok (.getfield 12, 3) := by decide +kernel
theorem dX6_prayerOf_27 : decode cX6_prayerOf 27 = .ok (.getfield 95, 3) := by decide +kernel
theorem dX6_prayerOf_30 : decode cX6_prayerOf 30 = .ok (.iload_n 1, 1) := by decide +kernel
theorem dX6_prayerOf_31 : decode cX6_prayerOf 31 = .ok (.iaload, 1) := by decide +kernel
theorem dX6_prayerOf_32 : decode cX6_prayerOf 32 = .ok (.istore 4, 2) := by decide +kernel
theorem dX6_prayerOf_34 : decode cX6_prayerOf 34 = .ok (.aload_n 0, 1) := by decide +kernel
theorem dX6_prayerOf_35 : decode cX6_prayerOf 35 = .ok (.getfield 12, 3) := by decide +kernel
theorem dX6_prayerOf_38 : decode cX6_prayerOf 38 = .ok (.getfield 88, 3) := by decide +kernel
theorem dX6_prayerOf_41 : decode cX6_prayerOf 41 = .ok (.iload_n 1, 1) := by decide +kernel
theorem dX6_prayerOf_42 : decode cX6_prayerOf 42 = .ok (.iaload, 1) := by decide +kernel
theorem dX6_prayerOf_43 : decode cX6_prayerOf 43 = .ok (.tableswitch 117 1 6 #[37, 41, 117, 61, 83, 93], 37) := by decide +kernel
theorem dX6_prayerOf_80 : decode cX6_prayerOf 80 = .ok (.iload_n 3, 1) := by decide +kernel
theorem dX6_prayerOf_81 : decode cX6_prayerOf 81 = .ok (.iconst 5, 1) := by decide +kernel
theorem dX6_prayerOf_82 : decode cX6_prayerOf 82 = .ok (.idiv, 1) := by decide +kernel
theorem dX6_prayerOf_83 : decode cX6_prayerOf 83 = .ok (.ireturn, 1) := by decide +kernel
theorem dX6_prayerOf_84 : decode cX6_prayerOf 84 = .ok (.iload_n 3, 1) := by decide +kernel
theorem dX6_prayerOf_85 : decode cX6_prayerOf 85 = .ok (.bipush 10, 2) := by decide +kernel
theorem dX6_prayerOf_87 : decode cX6_prayerOf 87 = .ok (.idiv, 1) := by decide +kernel
theorem dX6_prayerOf_88 : decode cX6_prayerOf 88 = .ok (.iload_n 2, 1) := by decide +kernel
theorem dX6_prayerOf_89 : decode cX6_prayerOf 89 = .ok (.iload_n 1, 1) := by decide +kernel
theorem dX6_prayerOf_90 : decode cX6_prayerOf 90 = .ok (.ishr, 1) := by decide +kernel
theorem dX6_prayerOf_91 : decode cX6_prayerOf 91 = .ok (.iconst 1, 1) := by decide +kernel
theorem dX6_prayerOf_92 : decode cX6_prayerOf 92 = .ok (.iand, 1) := by decide +kernel
theorem dX6_prayerOf_93 : decode cX6_prayerOf 93 = .ok (.ifCond .eq 8, 3) := by decide +kernel
theorem dX6_prayerOf_96 : decode cX6_prayerOf 96 = .ok (.iload 4, 2) := by decide +kernel
theorem dX6_prayerOf_98 : decode cX6_prayerOf 98 = .ok (.goto 4, 3) := by decide +kernel
theorem dX6_prayerOf_101 : decode cX6_prayerOf 101 = .ok (.iconst 0, 1) := by decide +kernel
theorem dX6_prayerOf_102 : decode cX6_prayerOf 102 = .ok (.iadd, 1) := by decide +kernel
theorem dX6_prayerOf_103 : decode cX6_prayerOf 103 = .ok (.ireturn, 1) := by decide +kernel
theorem dX6_prayerOf_104 : decode cX6_prayerOf 104 = .ok (.aload_n 0, 1) := by decide +kernel
theorem dX6_prayerOf_105 : decode cX6_prayerOf 105 = .ok (.getfield 78, 3) := by decide +kernel
theorem dX6_prayerOf_108 : decode cX6_prayerOf 108 = .ok (.iload 4, 2) := by decide +kernel
theorem dX6_prayerOf_110 : decode cX6_prayerOf 110 = .ok (.iconst 2, 1) := by decide +kernel
theorem dX6_prayerOf_111 : decode cX6_prayerOf 111 = .ok (.iadd, 1) := by decide +kernel
theorem dX6_prayerOf_112 : decode cX6_prayerOf 112 = .ok (.invokestatic 98, 3) := by decide +kernel
theorem dX6_prayerOf_115 : decode cX6_prayerOf 115 = .ok (.ifCond .eq 7, 3) := by decide +kernel
theorem dX6_prayerOf_118 : decode cX6_prayerOf 118 = .ok (.iconst 0, 1) := by decide +kernel
theorem dX6_prayerOf_119 : decode cX6_prayerOf 119 = .ok (.goto 6, 3) := by decide +kernel
theorem dX6_prayerOf_122 : decode cX6_prayerOf 122 = .ok (.iload_n 3, 1) := by decide +kernel
theorem dX6_prayerOf_123 : decode cX6_prayerOf 123 = .ok (.iconst 5, 1) := by decide +kernel
theorem dX6_prayerOf_124 : decode cX6_prayerOf 124 = .ok (.idiv, 1) := by decide +kernel
theorem dX6_prayerOf_125 : decode cX6_prayerOf 125 = .ok (.ireturn, 1) := by decide +kernel
theorem dX6_prayerOf_126 : decode cX6_prayerOf 126 = .ok (.iload_n 3, 1) := by decide +kernel
theorem dX6_prayerOf_127 : decode cX6_prayerOf 127 = .ok (.ifCond .le 7, 3) := by decide +kernel
theorem dX6_prayerOf_130 : decode cX6_prayerOf 130 = .ok (.iconst 3, 1) := by decide +kernel
theorem dX6_prayerOf_131 : decode cX6_prayerOf 131 = .ok (.goto 4, 3) := by decide +kernel
theorem dX6_prayerOf_134 : decode cX6_prayerOf 134 = .ok (.iconst 0, 1) := by decide +kernel
theorem dX6_prayerOf_135 : decode cX6_prayerOf 135 = .ok (.ireturn, 1) := by decide +kernel
theorem dX6_prayerOf_136 : decode cX6_prayerOf 136 = .ok (.iload_n 3, 1) := by decide +kernel
theorem dX6_prayerOf_137 : decode cX6_prayerOf 137 = .ok (.bipush 10, 2) := by decide +kernel
theorem dX6_prayerOf_139 : decode cX6_prayerOf 139 = .ok (.idiv, 1) := by decide +kernel
theorem dX6_prayerOf_140 : decode cX6_prayerOf 140 = .ok (.aload_n 0, 1) := by decide +kernel
theorem dX6_prayerOf_141 : decode cX6_prayerOf 141 = .ok (.getfield 12, 3) := by decide +kernel
theorem dX6_prayerOf_144 : decode cX6_prayerOf 144 = .ok (.getfield 102, 3) := by decide +kernel
theorem dX6_prayerOf_147 : decode cX6_prayerOf 147 = .ok (.iload_n 1, 1) := by decide +kernel
theorem dX6_prayerOf_148 : decode cX6_prayerOf 148 = .ok (.iconst 4, 1) := by decide +kernel
theorem dX6_prayerOf_149 : decode cX6_prayerOf 149 = .ok (.imul, 1) := by decide +kernel
theorem dX6_prayerOf_150 : decode cX6_prayerOf 150 = .ok (.aload_n 0, 1) := by decide +kernel
theorem dX6_prayerOf_151 : decode cX6_prayerOf 151 = .ok (.getfield 78, 3) := by decide +kernel
theorem dX6_prayerOf_154 : decode cX6_prayerOf 154 = .ok (.iconst 4, 1) := by decide +kernel
theorem dX6_prayerOf_155 : decode cX6_prayerOf 155 = .ok (.irem, 1) := by decide +kernel
theorem dX6_prayerOf_156 : decode cX6_prayerOf 156 = .ok (.iadd, 1) := by decide +kernel
theorem dX6_prayerOf_157 : decode cX6_prayerOf 157 = .ok (.iaload, 1) := by decide +kernel
theorem dX6_prayerOf_158 : decode cX6_prayerOf 158 = .ok (.iadd, 1) := by decide +kernel
theorem dX6_prayerOf_159 : decode cX6_prayerOf 159 = .ok (.ireturn, 1) := by decide +kernel
theorem dX6_prayerOf_160 : decode cX6_prayerOf 160 = .ok (.iload_n 3, 1) := by decide +kernel
theorem dX6_prayerOf_161 : decode cX6_prayerOf 161 = .ok (.bipush 10, 2) := by decide +kernel
theorem dX6_prayerOf_163 : decode cX6_prayerOf 163 = .ok (.idiv, 1) := by decide +kernel
theorem dX6_prayerOf_164 : decode cX6_prayerOf 164 = .ok (.ireturn, 1) := by decide +kernel
theorem dX6_prayers_0 : decode cX6_prayers 0 = .ok (.iconst 0, 1) := by decide +kernel
theorem dX6_prayers_1 : decode cX6_prayers 1 = .ok (.istore_n 2, 1) := by decide +kernel
theorem dX6_prayers_2 : decode cX6_prayers 2 = .ok (.iconst 0, 1) := by decide +kernel
theorem dX6_prayers_3 : decode cX6_prayers 3 = .ok (.istore_n 3, 1) := by decide +kernel
theorem dX6_prayers_4 : decode cX6_prayers 4 = .ok (.iload_n 3, 1) := by decide +kernel
theorem dX6_prayers_5 : decode cX6_prayers 5 = .ok (.aload_n 0, 1) := by decide +kernel
theorem dX6_prayers_6 : decode cX6_prayers 6 = .ok (.getfield 12, 3) := by decide +kernel
theorem dX6_prayers_9 : decode cX6_prayers 9 = .ok (.getfield 66, 3) := by decide +kernel
theorem dX6_prayers_12 : decode cX6_prayers 12 = .ok (.if_icmp .ge 18, 3) := by decide +kernel
theorem dX6_prayers_15 : decode cX6_prayers 15 = .ok (.iload_n 2, 1) := by decide +kernel
theorem dX6_prayers_16 : decode cX6_prayers 16 = .ok (.aload_n 0, 1) := by decide +kernel
theorem dX6_prayers_17 : decode cX6_prayers 17 = .ok (.iload_n 3, 1) := by decide +kernel
theorem dX6_prayers_18 : decode cX6_prayers 18 = .ok (.iload_n 1, 1) := by decide +kernel
theorem dX6_prayers_19 : decode cX6_prayers 19 = .ok (.invokevirtual 105, 3) := by decide +kernel
theorem dX6_prayers_22 : decode cX6_prayers 22 = .ok (.iadd, 1) := by decide +kernel
theorem dX6_prayers_23 : decode cX6_prayers 23 = .ok (.istore_n 2, 1) := by decide +kernel
theorem dX6_prayers_24 : decode cX6_prayers 24 = .ok (.iinc 3 1, 3) := by decide +kernel
theorem dX6_prayers_27 : decode cX6_prayers 27 = .ok (.goto (-23), 3) := by decide +kernel
theorem dX6_prayers_30 : decode cX6_prayers 30 = .ok (.iload_n 2, 1) := by decide +kernel
theorem dX6_prayers_31 : decode cX6_prayers 31 = .ok (.ireturn, 1) := by decide +kernel
theorem dX6_goDay_0 : decode cX6_goDay 0 = .ok (.aload_n 0, 1) := by decide +kernel
theorem dX6_goDay_1 : decode cX6_goDay 1 = .ok (.invokevirtual 109, 3) := by decide +kernel
theorem dX6_goDay_4 : decode cX6_goDay 4 = .ok (.ifCond .eq 4, 3) := by decide +kernel
theorem dX6_goDay_7 : decode cX6_goDay 7 = .ok (.return_, 1) := by decide +kernel
theorem dX6_goDay_8 : decode cX6_goDay 8 = .ok (.aload_n 0, 1) := by decide +kernel
theorem dX6_goDay_9 : decode cX6_goDay 9 = .ok (.invokevirtual 113, 3) := by decide +kernel
theorem dX6_goDay_12 : decode cX6_goDay 12 = .ok (.istore_n 1, 1) := by decide +kernel
theorem dX6_goDay_13 : decode cX6_goDay 13 = .ok (.aload_n 0, 1) := by decide +kernel
theorem dX6_goDay_14 : decode cX6_goDay 14 = .ok (.iload_n 1, 1) := by decide +kernel
theorem dX6_goDay_15 : decode cX6_goDay 15 = .ok (.invokevirtual 117, 3) := by decide +kernel
theorem dX6_goDay_18 : decode cX6_goDay 18 = .ok (.istore_n 2, 1) := by decide +kernel
theorem dX6_goDay_19 : decode cX6_goDay 19 = .ok (.iconst 0, 1) := by decide +kernel
theorem dX6_goDay_20 : decode cX6_goDay 20 = .ok (.aload_n 0, 1) := by decide +kernel
theorem dX6_goDay_21 : decode cX6_goDay 21 = .ok (.getfield 57, 3) := by decide +kernel
theorem dX6_goDay_24 : decode cX6_goDay 24 = .ok (.iload_n 1, 1) := by decide +kernel
theorem dX6_goDay_25 : decode cX6_goDay 25 = .ok (.invokestatic 121, 3) := by decide +kernel
theorem dX6_goDay_28 : decode cX6_goDay 28 = .ok (.isub, 1) := by decide +kernel
theorem dX6_goDay_29 : decode cX6_goDay 29 = .ok (.invokestatic 126, 3) := by decide +kernel
theorem dX6_goDay_32 : decode cX6_goDay 32 = .ok (.istore_n 3, 1) := by decide +kernel
theorem dX6_goDay_33 : decode cX6_goDay 33 = .ok (.aload_n 0, 1) := by decide +kernel
theorem dX6_goDay_34 : decode cX6_goDay 34 = .ok (.invokevirtual 131, 3) := by decide +kernel
theorem dX6_goDay_37 : decode cX6_goDay 37 = .ok (.aload_n 0, 1) := by decide +kernel
theorem dX6_goDay_38 : decode cX6_goDay 38 = .ok (.getfield 12, 3) := by decide +kernel
theorem dX6_goDay_41 : decode cX6_goDay 41 = .ok (.invokevirtual 134, 3) := by decide +kernel
theorem dX6_goDay_44 : decode cX6_goDay 44 = .ok (.aload_n 0, 1) := by decide +kernel
theorem dX6_goDay_45 : decode cX6_goDay 45 = .ok (.aload_n 0, 1) := by decide +kernel
theorem dX6_goDay_46 : decode cX6_goDay 46 = .ok (.getfield 18, 3) := by decide +kernel
theorem dX6_goDay_49 : decode cX6_goDay 49 = .ok (.iload_n 2, 1) := by decide +kernel
theorem dX6_goDay_50 : decode cX6_goDay 50 = .ok (.iadd, 1) := by decide +kernel
theorem dX6_goDay_51 : decode cX6_goDay 51 = .ok (.iload_n 3, 1) := by decide +kernel
theorem dX6_goDay_52 : decode cX6_goDay 52 = .ok (.isub, 1) := by decide +kernel
theorem dX6_goDay_53 : decode cX6_goDay 53 = .ok (.iconst 0, 1) := by decide +kernel
theorem dX6_goDay_54 : decode cX6_goDay 54 = .ok (.sipush 999, 3) := by decide +kernel
theorem dX6_goDay_57 : decode cX6_goDay 57 = .ok (.invokestatic 137, 3) := by decide +kernel
theorem dX6_goDay_60 : decode cX6_goDay 60 = .ok (.putfield 18, 3) := by decide +kernel
theorem dX6_goDay_63 : decode cX6_goDay 63 = .ok (.aload_n 0, 1) := by decide +kernel
theorem dX6_goDay_64 : decode cX6_goDay 64 = .ok (.sipush 999, 3) := by decide +kernel
theorem dX6_goDay_67 : decode cX6_goDay 67 = .ok (.aload_n 0, 1) := by decide +kernel
theorem dX6_goDay_68 : decode cX6_goDay 68 = .ok (.getfield 72, 3) := by decide +kernel
theorem dX6_goDay_71 : decode cX6_goDay 71 = .ok (.aload_n 0, 1) := by decide +kernel
theorem dX6_goDay_72 : decode cX6_goDay 72 = .ok (.getfield 65, 3) := by decide +kernel
theorem dX6_goDay_75 : decode cX6_goDay 75 = .ok (.iadd, 1) := by decide +kernel
theorem dX6_goDay_76 : decode cX6_goDay 76 = .ok (.invokestatic 141, 3) := by decide +kernel
theorem dX6_goDay_79 : decode cX6_goDay 79 = .ok (.putfield 72, 3) := by decide +kernel
theorem dX6_goDay_82 : decode cX6_goDay 82 = .ok (.aload_n 0, 1) := by decide +kernel
theorem dX6_goDay_83 : decode cX6_goDay 83 = .ok (.dup, 1) := by decide +kernel
theorem dX6_goDay_84 : decode cX6_goDay 84 = .ok (.getfield 78, 3) := by decide +kernel
theorem dX6_goDay_87 : decode cX6_goDay 87 = .ok (.iconst 1, 1) := by decide +kernel
theorem dX6_goDay_88 : decode cX6_goDay 88 = .ok (.iadd, 1) := by decide +kernel
theorem dX6_goDay_89 : decode cX6_goDay 89 = .ok (.putfield 78, 3) := by decide +kernel
theorem dX6_goDay_92 : decode cX6_goDay 92 = .ok (.return_, 1) := by decide +kernel
theorem dX6_goDays_0 : decode cX6_goDays 0 = .ok (.iconst 0, 1) := by decide +kernel
theorem dX6_goDays_1 : decode cX6_goDays 1 = .ok (.istore_n 2, 1) := by decide +kernel
theorem dX6_goDays_2 : decode cX6_goDays 2 = .ok (.iload_n 2, 1) := by decide +kernel
theorem dX6_goDays_3 : decode cX6_goDays 3 = .ok (.iload_n 1, 1) := by decide +kernel
theorem dX6_goDays_4 : decode cX6_goDays 4 = .ok (.if_icmp .ge 20, 3) := by decide +kernel
theorem dX6_goDays_7 : decode cX6_goDays 7 = .ok (.aload_n 0, 1) := by decide +kernel
theorem dX6_goDays_8 : decode cX6_goDays 8 = .ok (.invokevirtual 109, 3) := by decide +kernel
theorem dX6_goDays_11 : decode cX6_goDays 11 = .ok (.ifCond .ne 13, 3) := by decide +kernel
theorem dX6_goDays_14 : decode cX6_goDays 14 = .ok (.aload_n 0, 1) := by decide +kernel
theorem dX6_goDays_15 : decode cX6_goDays 15 = .ok (.invokevirtual 144, 3) := by decide +kernel
theorem dX6_goDays_18 : decode cX6_goDays 18 = .ok (.iinc 2 1, 3) := by decide +kernel
theorem dX6_goDays_21 : decode cX6_goDays 21 = .ok (.goto (-19), 3) := by decide +kernel
theorem dX6_goDays_24 : decode cX6_goDays 24 = .ok (.return_, 1) := by decide +kernel
theorem dX6_givePocket_0 : decode cX6_givePocket 0 = .ok (.aload_n 0, 1) := by decide +kernel
theorem dX6_givePocket_1 : decode cX6_givePocket 1 = .ok (.getfield 147, 3) := by decide +kernel
theorem dX6_givePocket_4 : decode cX6_givePocket 4 = .ok (.ifCond .gt 4, 3) := by decide +kernel
theorem dX6_givePocket_7 : decode cX6_givePocket 7 = .ok (.return_, 1) := by decide +kernel
theorem dX6_givePocket_8 : decode cX6_givePocket 8 = .ok (.aload_n 0, 1) := by decide +kernel
theorem dX6_givePocket_9 : decode cX6_givePocket 9 = .ok (.getfield 22, 3) := by decide +kernel
theorem dX6_givePocket_12 : decode cX6_givePocket 12 = .ok (.aload_n 0, 1) := by decide +kernel
theorem dX6_givePocket_13 : decode cX6_givePocket 13 = .ok (.getfield 78, 3) := by decide +kernel
theorem dX6_givePocket_16 : decode cX6_givePocket 16 = .ok (.aload_n 0, 1) := by decide +kernel
theorem dX6_givePocket_17 : decode cX6_givePocket 17 = .ok (.getfield 147, 3) := by decide +kernel
theorem dX6_givePocket_20 : decode cX6_givePocket 20 = .ok (.irem, 1) := by decide +kernel
theorem dX6_givePocket_21 : decode cX6_givePocket 21 = .ok (.iaload, 1) := by decide +kernel
theorem dX6_givePocket_22 : decode cX6_givePocket 22 = .ok (.istore_n 1, 1) := by decide +kernel
theorem dX6_givePocket_23 : decode cX6_givePocket 23 = .ok (.iload_n 1, 1) := by decide +kernel
theorem dX6_givePocket_24 : decode cX6_givePocket 24 = .ok (.iconst 0, 1) := by decide +kernel
theorem dX6_givePocket_25 : decode cX6_givePocket 25 = .ok (.aload_n 0, 1) := by decide +kernel
theorem dX6_givePocket_26 : decode cX6_givePocket 26 = .ok (.getfield 12, 3) := by decide +kernel
theorem dX6_givePocket_29 : decode cX6_givePocket 29 = .ok (.getfield 66, 3) := by decide +kernel
theorem dX6_givePocket_32 : decode cX6_givePocket 32 = .ok (.iconst 1, 1) := by decide +kernel
theorem dX6_givePocket_33 : decode cX6_givePocket 33 = .ok (.isub, 1) := by decide +kernel
theorem dX6_givePocket_34 : decode cX6_givePocket 34 = .ok (.invokestatic 150, 3) := by decide +kernel
theorem dX6_givePocket_37 : decode cX6_givePocket 37 = .ok (.ifCond .eq 26, 3) := by decide +kernel
theorem dX6_givePocket_40 : decode cX6_givePocket 40 = .ok (.aload_n 0, 1) := by decide +kernel
theorem dX6_givePocket_41 : decode cX6_givePocket 41 = .ok (.getfield 12, 3) := by decide +kernel
theorem dX6_givePocket_44 : decode cX6_givePocket 44 = .ok (.iload_n 1, 1) := by decide +kernel
theorem dX6_givePocket_45 : decode cX6_givePocket 45 = .ok (.invokevirtual 91, 3) := by decide +kernel
theorem dX6_givePocket_48 : decode cX6_givePocket 48 = .ok (.ifCond .ne 15, 3) := by decide +kernel
theorem dX6_givePocket_51 : decode cX6_givePocket 51 = .ok (.aload_n 0, 1) := by decide +kernel
theorem dX6_givePocket_52 : decode cX6_givePocket 52 = .ok (.getfield 12, 3) := by decide +kernel
theorem dX6_givePocket_55 : decode cX6_givePocket 55 = .ok (.iload_n 1, 1) := by decide +kernel
theorem dX6_givePocket_56 : decode cX6_givePocket 56 = .ok (.aload_n 0, 1) := by decide +kernel
theorem dX6_givePocket_57 : decode cX6_givePocket 57 = .ok (.getfield 61, 3) := by decide +kernel
theorem dX6_givePocket_60 : decode cX6_givePocket 60 = .ok (.invokevirtual 154, 3) := by decide +kernel
theorem dX6_givePocket_63 : decode cX6_givePocket 63 = .ok (.return_, 1) := by decide +kernel
theorem dX6_suffer_0 : decode cX6_suffer 0 = .ok (.iload_n 1, 1) := by decide +kernel
theorem dX6_suffer_1 : decode cX6_suffer 1 = .ok (.tableswitch 64 0 2 #[27, 34, 46], 27) := by decide +kernel
theorem dX6_suffer_28 : decode cX6_suffer 28 = .ok (.aload_n 0, 1) := by decide +kernel
theorem dX6_suffer_29 : decode cX6_suffer 29 = .ok (.invokevirtual 144, 3) := by decide +kernel
theorem dX6_suffer_32 : decode cX6_suffer 32 = .ok (.goto 38, 3) := by decide +kernel
theorem dX6_suffer_35 : decode cX6_suffer 35 = .ok (.aload_n 0, 1) := by decide +kernel
theorem dX6_suffer_36 : decode cX6_suffer 36 = .ok (.getfield 12, 3) := by decide +kernel
theorem dX6_suffer_39 : decode cX6_suffer 39 = .ok (.iload_n 2, 1) := by decide +kernel
theorem dX6_suffer_40 : decode cX6_suffer 40 = .ok (.iconst 1, 1) := by decide +kernel
theorem dX6_suffer_41 : decode cX6_suffer 41 = .ok (.invokevirtual 158, 3) := by decide +kernel
theorem dX6_suffer_44 : decode cX6_suffer 44 = .ok (.goto 26, 3) := by decide +kernel
theorem dX6_suffer_47 : decode cX6_suffer 47 = .ok (.aload_n 0, 1) := by decide +kernel
theorem dX6_suffer_48 : decode cX6_suffer 48 = .ok (.iconst 0, 1) := by decide +kernel
theorem dX6_suffer_49 : decode cX6_suffer 49 = .ok (.aload_n 0, 1) := by decide +kernel
theorem dX6_suffer_50 : decode cX6_suffer 50 = .ok (.getfield 18, 3) := by decide +kernel
theorem dX6_suffer_53 : decode cX6_suffer 53 = .ok (.bipush 10, 2) := by decide +kernel
theorem dX6_suffer_55 : decode cX6_suffer 55 = .ok (.isub, 1) := by decide +kernel
theorem dX6_suffer_56 : decode cX6_suffer 56 = .ok (.invokestatic 126, 3) := by decide +kernel
theorem dX6_suffer_59 : decode cX6_suffer 59 = .ok (.putfield 18, 3) := by decide +kernel
theorem dX6_suffer_62 : decode cX6_suffer 62 = .ok (.goto 8, 3) := by decide +kernel
theorem dX6_suffer_65 : decode cX6_suffer 65 = .ok (.aload_n 0, 1) := by decide +kernel
theorem dX6_suffer_66 : decode cX6_suffer 66 = .ok (.iconst 0, 1) := by decide +kernel
theorem dX6_suffer_67 : decode cX6_suffer 67 = .ok (.putfield 72, 3) := by decide +kernel
theorem dX6_suffer_70 : decode cX6_suffer 70 = .ok (.return_, 1) := by decide +kernel
theorem dX6_faresAs_0 : decode cX6_faresAs 0 = .ok (.aload_n 1, 1) := by decide +kernel
theorem dX6_faresAs_1 : decode cX6_faresAs 1 = .ok (.invokevirtual 162, 3) := by decide +kernel
theorem dX6_faresAs_4 : decode cX6_faresAs 4 = .ok (.istore_n 2, 1) := by decide +kernel
theorem dX6_faresAs_5 : decode cX6_faresAs 5 = .ok (.iconst 0, 1) := by decide +kernel
theorem dX6_faresAs_6 : decode cX6_faresAs 6 = .ok (.istore_n 3, 1) := by decide +kernel
theorem dX6_faresAs_7 : decode cX6_faresAs 7 = .ok (.iload_n 3, 1) := by decide +kernel
theorem dX6_faresAs_8 : decode cX6_faresAs 8 = .ok (.iload_n 2, 1) := by decide +kernel
theorem dX6_faresAs_9 : decode cX6_faresAs 9 = .ok (.if_icmp .gt 62, 3) := by decide +kernel
theorem dX6_faresAs_12 : decode cX6_faresAs 12 = .ok (.iload_n 3, 1) := by decide +kernel
theorem dX6_faresAs_13 : decode cX6_faresAs 13 = .ok (.ifCond .le 7, 3) := by decide +kernel
theorem dX6_faresAs_16 : decode cX6_faresAs 16 = .ok (.aload_n 0, 1) := by decide +kernel
theorem dX6_faresAs_17 : decode cX6_faresAs 17 = .ok (.invokevirtual 144, 3) := by decide +kernel
theorem dX6_faresAs_20 : decode cX6_faresAs 20 = .ok (.iconst 0, 1) := by decide +kernel
theorem dX6_faresAs_21 : decode cX6_faresAs 21 = .ok (.istore 4, 2) := by decide +kernel
theorem dX6_faresAs_23 : decode cX6_faresAs 23 = .ok (.iload 4, 2) := by decide +kernel
theorem dX6_faresAs_25 : decode cX6_faresAs 25 = .ok (.aload_n 1, 1) := by decide +kernel
theorem dX6_faresAs_26 : decode cX6_faresAs 26 = .ok (.getfield 165, 3) := by decide +kernel
theorem dX6_faresAs_29 : decode cX6_faresAs 29 = .ok (.if_icmp .ge 36, 3) := by decide +kernel
theorem dX6_faresAs_32 : decode cX6_faresAs 32 = .ok (.aload_n 1, 1) := by decide +kernel
theorem dX6_faresAs_33 : decode cX6_faresAs 33 = .ok (.getfield 166, 3) := by decide +kernel
theorem dX6_faresAs_36 : decode cX6_faresAs 36 = .ok (.iload 4, 2) := by decide +kernel
theorem dX6_faresAs_38 : decode cX6_faresAs 38 = .ok (.iaload, 1) := by decide +kernel
theorem dX6_faresAs_39 : decode cX6_faresAs 39 = .ok (.iload_n 3, 1) := by decide +kernel
theorem dX6_faresAs_40 : decode cX6_faresAs 40 = .ok (.if_icmp .ne 19, 3) := by decide +kernel
theorem dX6_faresAs_43 : decode cX6_faresAs 43 = .ok (.aload_n 1, 1) := by decide +kernel
theorem dX6_faresAs_44 : decode cX6_faresAs 44 = .ok (.getfield 169, 3) := by decide +kernel
theorem dX6_faresAs_47 : decode cX6_faresAs 47 = .ok (.iload 4, 2) := by decide +kernel
theorem dX6_faresAs_49 : decode cX6_faresAs 49 = .ok (.iaload, 1) := by decide +kernel
theorem dX6_faresAs_50 : decode cX6_faresAs 50 = .ok (.aload_n 0, 1) := by decide +kernel
theorem dX6_faresAs_51 : decode cX6_faresAs 51 = .ok (.getfield 18, 3) := by decide +kernel
theorem dX6_faresAs_54 : decode cX6_faresAs 54 = .ok (.if_icmp .eq 5, 3) := by decide +kernel
theorem dX6_faresAs_57 : decode cX6_faresAs 57 = .ok (.iconst 0, 1) := by decide +kernel
theorem dX6_faresAs_58 : decode cX6_faresAs 58 = .ok (.ireturn, 1) := by decide +kernel
theorem dX6_faresAs_59 : decode cX6_faresAs 59 = .ok (.iinc 4 1, 3) := by decide +kernel
theorem dX6_faresAs_62 : decode cX6_faresAs 62 = .ok (.goto (-39), 3) := by decide +kernel
theorem dX6_faresAs_65 : decode cX6_faresAs 65 = .ok (.iinc 3 1, 3) := by decide +kernel
theorem dX6_faresAs_68 : decode cX6_faresAs 68 = .ok (.goto (-61), 3) := by decide +kernel
theorem dX6_faresAs_71 : decode cX6_faresAs 71 = .ok (.iconst 1, 1) := by decide +kernel
theorem dX6_faresAs_72 : decode cX6_faresAs 72 = .ok (.ireturn, 1) := by decide +kernel
theorem dX6_startAs_0 : decode cX6_startAs 0 = .ok (.aload_n 0, 1) := by decide +kernel
theorem dX6_startAs_1 : decode cX6_startAs 1 = .ok (.getfield 12, 3) := by decide +kernel
theorem dX6_startAs_4 : decode cX6_startAs 4 = .ok (.aload_n 1, 1) := by decide +kernel
theorem dX6_startAs_5 : decode cX6_startAs 5 = .ok (.getfield 12, 3) := by decide +kernel
theorem dX6_startAs_8 : decode cX6_startAs 8 = .ok (.invokevirtual 172, 3) := by decide +kernel
theorem dX6_startAs_11 : decode cX6_startAs 11 = .ok (.aload_n 0, 1) := by decide +kernel
theorem dX6_startAs_12 : decode cX6_startAs 12 = .ok (.aload_n 1, 1) := by decide +kernel
theorem dX6_startAs_13 : decode cX6_startAs 13 = .ok (.getfield 18, 3) := by decide +kernel
theorem dX6_startAs_16 : decode cX6_startAs 16 = .ok (.putfield 18, 3) := by decide +kernel
theorem dX6_startAs_19 : decode cX6_startAs 19 = .ok (.aload_n 0, 1) := by decide +kernel
theorem dX6_startAs_20 : decode cX6_startAs 20 = .ok (.aload_n 1, 1) := by decide +kernel
theorem dX6_startAs_21 : decode cX6_startAs 21 = .ok (.getfield 72, 3) := by decide +kernel
theorem dX6_startAs_24 : decode cX6_startAs 24 = .ok (.putfield 72, 3) := by decide +kernel
theorem dX6_startAs_27 : decode cX6_startAs 27 = .ok (.aload_n 0, 1) := by decide +kernel
theorem dX6_startAs_28 : decode cX6_startAs 28 = .ok (.aload_n 1, 1) := by decide +kernel
theorem dX6_startAs_29 : decode cX6_startAs 29 = .ok (.getfield 78, 3) := by decide +kernel
theorem dX6_startAs_32 : decode cX6_startAs 32 = .ok (.putfield 78, 3) := by decide +kernel
theorem dX6_startAs_35 : decode cX6_startAs 35 = .ok (.aload_n 1, 1) := by decide +kernel
theorem dX6_startAs_36 : decode cX6_startAs 36 = .ok (.getfield 22, 3) := by decide +kernel
theorem dX6_startAs_39 : decode cX6_startAs 39 = .ok (.iconst 0, 1) := by decide +kernel
theorem dX6_startAs_40 : decode cX6_startAs 40 = .ok (.aload_n 0, 1) := by decide +kernel
theorem dX6_startAs_41 : decode cX6_startAs 41 = .ok (.getfield 22, 3) := by decide +kernel
theorem dX6_startAs_44 : decode cX6_startAs 44 = .ok (.iconst 0, 1) := by decide +kernel
theorem dX6_startAs_45 : decode cX6_startAs 45 = .ok (.bipush 6, 2) := by decide +kernel
theorem dX6_startAs_47 : decode cX6_startAs 47 = .ok (.invokestatic 176, 3) := by decide +kernel
theorem dX6_startAs_50 : decode cX6_startAs 50 = .ok (.aload_n 0, 1) := by decide +kernel
theorem dX6_startAs_51 : decode cX6_startAs 51 = .ok (.aload_n 1, 1) := by decide +kernel
theorem dX6_startAs_52 : decode cX6_startAs 52 = .ok (.getfield 147, 3) := by decide +kernel
theorem dX6_startAs_55 : decode cX6_startAs 55 = .ok (.putfield 147, 3) := by decide +kernel
theorem dX6_startAs_58 : decode cX6_startAs 58 = .ok (.aload_n 0, 1) := by decide +kernel
theorem dX6_startAs_59 : decode cX6_startAs 59 = .ok (.aload_n 1, 1) := by decide +kernel
theorem dX6_startAs_60 : decode cX6_startAs 60 = .ok (.getfield 48, 3) := by decide +kernel
theorem dX6_startAs_63 : decode cX6_startAs 63 = .ok (.invokevirtual 44, 3) := by decide +kernel
theorem dX6_startAs_66 : decode cX6_startAs 66 = .ok (.return_, 1) := by decide +kernel
theorem dX6_becomeAs_0 : decode cX6_becomeAs 0 = .ok (.aload_n 0, 1) := by decide +kernel
theorem dX6_becomeAs_1 : decode cX6_becomeAs 1 = .ok (.aload_n 1, 1) := by decide +kernel
theorem dX6_becomeAs_2 : decode cX6_becomeAs 2 = .ok (.invokevirtual 182, 3) := by decide +kernel
theorem dX6_becomeAs_5 : decode cX6_becomeAs 5 = .ok (.aload_n 0, 1) := by decide +kernel
theorem dX6_becomeAs_6 : decode cX6_becomeAs 6 = .ok (.getfield 34, 3) := by decide +kernel
theorem dX6_becomeAs_9 : decode cX6_becomeAs 9 = .ok (.aload_n 1, 1) := by decide +kernel
theorem dX6_becomeAs_10 : decode cX6_becomeAs 10 = .ok (.getfield 34, 3) := by decide +kernel
theorem dX6_becomeAs_13 : decode cX6_becomeAs 13 = .ok (.invokevirtual 186, 3) := by decide +kernel
theorem dX6_becomeAs_16 : decode cX6_becomeAs 16 = .ok (.aload_n 0, 1) := by decide +kernel
theorem dX6_becomeAs_17 : decode cX6_becomeAs 17 = .ok (.getfield 38, 3) := by decide +kernel
theorem dX6_becomeAs_20 : decode cX6_becomeAs 20 = .ok (.aload_n 1, 1) := by decide +kernel
theorem dX6_becomeAs_21 : decode cX6_becomeAs 21 = .ok (.getfield 38, 3) := by decide +kernel
theorem dX6_becomeAs_24 : decode cX6_becomeAs 24 = .ok (.invokevirtual 186, 3) := by decide +kernel
theorem dX6_becomeAs_27 : decode cX6_becomeAs 27 = .ok (.aload_n 0, 1) := by decide +kernel
theorem dX6_becomeAs_28 : decode cX6_becomeAs 28 = .ok (.getfield 41, 3) := by decide +kernel
theorem dX6_becomeAs_31 : decode cX6_becomeAs 31 = .ok (.aload_n 1, 1) := by decide +kernel
theorem dX6_becomeAs_32 : decode cX6_becomeAs 32 = .ok (.getfield 41, 3) := by decide +kernel
theorem dX6_becomeAs_35 : decode cX6_becomeAs 35 = .ok (.invokevirtual 186, 3) := by decide +kernel
theorem dX6_becomeAs_38 : decode cX6_becomeAs 38 = .ok (.return_, 1) := by decide +kernel
theorem dX6_isMultiple_0 : decode cX6_isMultiple 0 = .ok (.iload_n 1, 1) := by decide +kernel
theorem dX6_isMultiple_1 : decode cX6_isMultiple 1 = .ok (.ifCond .le 13, 3) := by decide +kernel
theorem dX6_isMultiple_4 : decode cX6_isMultiple 4 = .ok (.iload_n 0, 1) := by decide +kernel
theorem dX6_isMultiple_5 : decode cX6_isMultiple 5 = .ok (.iload_n 1, 1) := by decide +kernel
theorem dX6_isMultiple_6 : decode cX6_isMultiple 6 = .ok (.irem, 1) := by decide +kernel
theorem dX6_isMultiple_7 : decode cX6_isMultiple 7 = .ok (.ifCond .ne 7, 3) := by decide +kernel
theorem dX6_isMultiple_10 : decode cX6_isMultiple 10 = .ok (.iconst 1, 1) := by decide +kernel
theorem dX6_isMultiple_11 : decode cX6_isMultiple 11 = .ok (.goto 4, 3) := by decide +kernel
theorem dX6_isMultiple_14 : decode cX6_isMultiple 14 = .ok (.iconst 0, 1) := by decide +kernel
theorem dX6_isMultiple_15 : decode cX6_isMultiple 15 = .ok (.ireturn, 1) := by decide +kernel
