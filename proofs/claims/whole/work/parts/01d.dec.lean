theorem dX8_init_0 : decode cX8_init 0 = .ok (.aload_n 0, 1) := by decide +kernel
theorem dX8_init_1 : decode cX8_init 1 = .ok (.invokespecial 3, 3) := by decide +kernel
theorem dX8_init_4 : decode cX8_init 4 = .ok (.aload_n 0, 1) := by decide +kernel
theorem dX8_init_5 : decode cX8_init 5 = .ok (.bipush 6, 2) := by decide +kernel
theorem dX8_init_7 : decode cX8_init 7 = .ok (.newarray .int, 2) := by decide +kernel
theorem dX8_init_9 : decode cX8_init 9 = .ok (.putfield 9, 3) := by decide +kernel
theorem dX8_init_12 : decode cX8_init 12 = .ok (.aload_n 0, 1) := by decide +kernel
theorem dX8_init_13 : decode cX8_init 13 = .ok (.bipush 6, 2) := by decide +kernel
theorem dX8_init_15 : decode cX8_init 15 = .ok (.newarray .int, 2) := by decide +kernel
theorem dX8_init_17 : decode cX8_init 17 = .ok (.putfield 15, 3) := by decide +kernel
theorem dX8_init_20 : decode cX8_init 20 = .ok (.aload_n 0, 1) := by decide +kernel
theorem dX8_init_21 : decode cX8_init 21 = .ok (.bipush 6, 2) := by decide +kernel
theorem dX8_init_23 : decode cX8_init 23 = .ok (.newarray .int, 2) := by decide +kernel
theorem dX8_init_25 : decode cX8_init 25 = .ok (.putfield 18, 3) := by decide +kernel
theorem dX8_init_28 : decode cX8_init 28 = .ok (.aload_n 0, 1) := by decide +kernel
theorem dX8_init_29 : decode cX8_init 29 = .ok (.bipush 6, 2) := by decide +kernel
theorem dX8_init_31 : decode cX8_init 31 = .ok (.newarray .int, 2) := by decide +kernel
theorem dX8_init_33 : decode cX8_init 33 = .ok (.putfield 21, 3) := by decide +kernel
theorem dX8_init_36 : decode cX8_init 36 = .ok (.aload_n 0, 1) := by decide +kernel
theorem dX8_init_37 : decode cX8_init 37 = .ok (.bipush 6, 2) := by decide +kernel
theorem dX8_init_39 : decode cX8_init 39 = .ok (.newarray .int, 2) := by decide +kernel
theorem dX8_init_41 : decode cX8_init 41 = .ok (.putfield 24, 3) := by decide +kernel
theorem dX8_init_44 : decode cX8_init 44 = .ok (.aload_n 0, 1) := by decide +kernel
theorem dX8_init_45 : decode cX8_init 45 = .ok (.bipush 24, 2) := by decide +kernel
theorem dX8_init_47 : decode cX8_init 47 = .ok (.newarray .int, 2) := by decide +kernel
theorem dX8_init_49 : decode cX8_init 49 = .ok (.putfield 27, 3) := by decide +kernel
theorem dX8_init_52 : decode cX8_init 52 = .ok (.aload_n 0, 1) := by decide +kernel
theorem dX8_init_53 : decode cX8_init 53 = .ok (.bipush 6, 2) := by decide +kernel
theorem dX8_init_55 : decode cX8_init 55 = .ok (.newarray .int, 2) := by decide +kernel
theorem dX8_init_57 : decode cX8_init 57 = .ok (.putfield 30, 3) := by decide +kernel
theorem dX8_init_60 : decode cX8_init 60 = .ok (.aload_n 0, 1) := by decide +kernel
theorem dX8_init_61 : decode cX8_init 61 = .ok (.bipush 100, 2) := by decide +kernel
theorem dX8_init_63 : decode cX8_init 63 = .ok (.newarray .int, 2) := by decide +kernel
theorem dX8_init_65 : decode cX8_init 65 = .ok (.putfield 33, 3) := by decide +kernel
theorem dX8_init_68 : decode cX8_init 68 = .ok (.aload_n 0, 1) := by decide +kernel
theorem dX8_init_69 : decode cX8_init 69 = .ok (.bipush 6, 2) := by decide +kernel
theorem dX8_init_71 : decode cX8_init 71 = .ok (.newarray .int, 2) := by decide +kernel
theorem dX8_init_73 : decode cX8_init 73 = .ok (.putfield 36, 3) := by decide +kernel
theorem dX8_init_76 : decode cX8_init 76 = .ok (.aload_n 0, 1) := by decide +kernel
theorem dX8_init_77 : decode cX8_init 77 = .ok (.bipush 60, 2) := by decide +kernel
theorem dX8_init_79 : decode cX8_init 79 = .ok (.newarray .int, 2) := by decide +kernel
theorem dX8_init_81 : decode cX8_init 81 = .ok (.putfield 39, 3) := by decide +kernel
theorem dX8_init_84 : decode cX8_init 84 = .ok (.aload_n 0, 1) := by decide +kernel
theorem dX8_init_85 : decode cX8_init 85 = .ok (.bipush 60, 2) := by decide +kernel
theorem dX8_init_87 : decode cX8_init 87 = .ok (.newarray .int, 2) := by decide +kernel
theorem dX8_init_89 : decode cX8_init 89 = .ok (.putfield 42, 3) := by decide +kernel
theorem dX8_init_92 : decode cX8_init 92 = .ok (.aload_n 0, 1) := by decide +kernel
theorem dX8_init_93 : decode cX8_init 93 = .ok (.bipush 60, 2) := by decide +kernel
theorem dX8_init_95 : decode cX8_init 95 = .ok (.newarray .int, 2) := by decide +kernel
theorem dX8_init_97 : decode cX8_init 97 = .ok (.putfield 45, 3) := by decide +kernel
theorem dX8_init_100 : decode cX8_init 100 = .ok (.aload_n 0, 1) := by decide +kernel
theorem dX8_init_101 : decode cX8_init 101 = .ok (.bipush 60, 2) := by decide +kernel
theorem dX8_init_103 : decode cX8_init 103 = .ok (.newarray .int, 2) := by decide +kernel
theorem dX8_init_105 : decode cX8_init 105 = .ok (.putfield 48, 3) := by decide +kernel
theorem dX8_init_108 : decode cX8_init 108 = .ok (.aload_n 0, 1) := by decide +kernel
theorem dX8_init_109 : decode cX8_init 109 = .ok (.sipush 1000, 3) := by decide +kernel
theorem dX8_init_112 : decode cX8_init 112 = .ok (.newarray .int, 2) := by decide +kernel
theorem dX8_init_114 : decode cX8_init 114 = .ok (.putfield 51, 3) := by decide +kernel
theorem dX8_init_117 : decode cX8_init 117 = .ok (.aload_n 0, 1) := by decide +kernel
theorem dX8_init_118 : decode cX8_init 118 = .ok (.bipush 100, 2) := by decide +kernel
theorem dX8_init_120 : decode cX8_init 120 = .ok (.newarray .boolean, 2) := by decide +kernel
theorem dX8_init_122 : decode cX8_init 122 = .ok (.putfield 54, 3) := by decide +kernel
theorem dX8_init_125 : decode cX8_init 125 = .ok (.aload_n 0, 1) := by decide +kernel
theorem dX8_init_126 : decode cX8_init 126 = .ok (.iconst 5, 1) := by decide +kernel
theorem dX8_init_127 : decode cX8_init 127 = .ok (.newarray .int, 2) := by decide +kernel
theorem dX8_init_129 : decode cX8_init 129 = .ok (.putfield 58, 3) := by decide +kernel
theorem dX8_init_132 : decode cX8_init 132 = .ok (.aload_n 0, 1) := by decide +kernel
theorem dX8_init_133 : decode cX8_init 133 = .ok (.iconst 5, 1) := by decide +kernel
theorem dX8_init_134 : decode cX8_init 134 = .ok (.newarray .int, 2) := by decide +kernel
theorem dX8_init_136 : decode cX8_init 136 = .ok (.putfield 61, 3) := by decide +kernel
theorem dX8_init_139 : decode cX8_init 139 = .ok (.aload_n 0, 1) := by decide +kernel
theorem dX8_init_140 : decode cX8_init 140 = .ok (.bipush 10, 2) := by decide +kernel
theorem dX8_init_142 : decode cX8_init 142 = .ok (.newarray .int, 2) := by decide +kernel
theorem dX8_init_144 : decode cX8_init 144 = .ok (.putfield 64, 3) := by decide +kernel
theorem dX8_init_147 : decode cX8_init 147 = .ok (.aload_n 0, 1) := by decide +kernel
theorem dX8_init_148 : decode cX8_init 148 = .ok (.bipush 10, 2) := by decide +kernel
theorem dX8_init_150 : decode cX8_init 150 = .ok (.newarray .int, 2) := by decide +kernel
theorem dX8_init_152 : decode cX8_init 152 = .ok (.putfield 67, 3) := by decide +kernel
theorem dX8_init_155 : decode cX8_init 155 = .ok (.aload_n 0, 1) := by decide +kernel
theorem dX8_init_156 : decode cX8_init 156 = .ok (.bipush 8, 2) := by decide +kernel
theorem dX8_init_158 : decode cX8_init 158 = .ok (.newarray .int, 2) := by decide +kernel
theorem dX8_init_160 : decode cX8_init 160 = .ok (.putfield 70, 3) := by decide +kernel
theorem dX8_init_163 : decode cX8_init 163 = .ok (.aload_n 0, 1) := by decide +kernel
theorem dX8_init_164 : decode cX8_init 164 = .ok (.bipush 8, 2) := by decide +kernel
theorem dX8_init_166 : decode cX8_init 166 = .ok (.newarray .int, 2) := by decide +kernel
theorem dX8_init_168 : decode cX8_init 168 = .ok (.putfield 73, 3) := by decide +kernel
theorem dX8_init_171 : decode cX8_init 171 = .ok (.aload_n 0, 1) := by decide +kernel
theorem dX8_init_172 : decode cX8_init 172 = .ok (.bipush 64, 2) := by decide +kernel
theorem dX8_init_174 : decode cX8_init 174 = .ok (.newarray .int, 2) := by decide +kernel
theorem dX8_init_176 : decode cX8_init 176 = .ok (.putfield 76, 3) := by decide +kernel
theorem dX8_init_179 : decode cX8_init 179 = .ok (.aload_n 0, 1) := by decide +kernel
theorem dX8_init_180 : decode cX8_init 180 = .ok (.bipush 64, 2) := by decide +kernel
theorem dX8_init_182 : decode cX8_init 182 = .ok (.newarray .int, 2) := by decide +kernel
theorem dX8_init_184 : decode cX8_init 184 = .ok (.putfield 79, 3) := by decide +kernel
theorem dX8_init_187 : decode cX8_init 187 = .ok (.aload_n 0, 1) := by decide +kernel
theorem dX8_init_188 : decode cX8_init 188 = .ok (.bipush 50, 2) := by decide +kernel
theorem dX8_init_190 : decode cX8_init 190 = .ok (.newarray .int, 2) := by decide +kernel
theorem dX8_init_192 : decode cX8_init 192 = .ok (.putfield 82, 3) := by decide +kernel
theorem dX8_init_195 : decode cX8_init 195 = .ok (.aload_n 0, 1) := by decide +kernel
theorem dX8_init_196 : decode cX8_init 196 = .ok (.bipush 20, 2) := by decide +kernel
theorem dX8_init_198 : decode cX8_init 198 = .ok (.newarray .int, 2) := by decide +kernel
theorem dX8_init_200 : decode cX8_init 200 = .ok (.putfield 85, 3) := by decide +kernel
theorem dX8_init_203 : decode cX8_init 203 = .ok (.aload_n 0, 1) := by decide +kernel
theorem dX8_init_204 : decode cX8_init 204 = .ok (.bipush 6, 2) := by decide +kernel
theorem dX8_init_206 : decode cX8_init 206 = .ok (.newarray .int, 2) := by decide +kernel
theorem dX8_init_208 : decode cX8_init 208 = .ok (.putfield 88, 3) := by decide +kernel
theorem dX8_init_211 : decode cX8_init 211 = .ok (.aload_n 0, 1) := by decide +kernel
theorem dX8_init_212 : decode cX8_init 212 = .ok (.bipush 6, 2) := by decide +kernel
theorem dX8_init_214 : decode cX8_init 214 = .ok (.newarray .int, 2) := by decide +kernel
theorem dX8_init_216 : decode cX8_init 216 = .ok (.putfield 91, 3) := by decide +kernel
theorem dX8_init_219 : decode cX8_init 219 = .ok (.aload_n 0, 1) := by decide +kernel
theorem dX8_init_220 : decode cX8_init 220 = .ok (.sipush 360, 3) := by decide +kernel
theorem dX8_init_223 : decode cX8_init 223 = .ok (.newarray .long, 2) := by decide +kernel
theorem dX8_init_225 : decode cX8_init 225 = .ok (.putfield 94, 3) := by decide +kernel
theorem dX8_init_228 : decode cX8_init 228 = .ok (.aload_n 0, 1) := by decide +kernel
theorem dX8_init_229 : decode cX8_init 229 = .ok (.bipush 50, 2) := by decide +kernel
theorem dX8_init_231 : decode cX8_init 231 = .ok (.putfield 98, 3) := by decide +kernel
theorem dX8_init_234 : decode cX8_init 234 = .ok (.aload_n 0, 1) := by decide +kernel
theorem dX8_init_235 : decode cX8_init 235 = .ok (.iconst (-1), 1) := by decide +kernel
theorem dX8_init_236 : decode cX8_init 236 = .ok (.putfield 102, 3) := by decide +kernel
theorem dX8_init_239 : decode cX8_init 239 = .ok (.aload_n 0, 1) := by decide +kernel
theorem dX8_init_240 : decode cX8_init 240 = .ok (.iconst (-1), 1) := by decide +kernel
theorem dX8_init_241 : decode cX8_init 241 = .ok (.putfield 105, 3) := by decide +kernel
theorem dX8_init_244 : decode cX8_init 244 = .ok (.aload_n 0, 1) := by decide +kernel
theorem dX8_init_245 : decode cX8_init 245 = .ok (.iconst (-1), 1) := by decide +kernel
theorem dX8_init_246 : decode cX8_init 246 = .ok (.putfield 108, 3) := by decide +kernel
theorem dX8_init_249 : decode cX8_init 249 = .ok (.iconst 0, 1) := by decide +kernel
theorem dX8_init_250 : decode cX8_init 250 = .ok (.istore_n 1, 1) := by decide +kernel
theorem dX8_init_251 : decode cX8_init 251 = .ok (.iload_n 1, 1) := by decide +kernel
theorem dX8_init_252 : decode cX8_init 252 = .ok (.bipush 6, 2) := by decide +kernel
theorem dX8_init_254 : decode cX8_init 254 = .ok (.if_icmp .ge 16, 3) := by decide +kernel
theorem dX8_init_257 : decode cX8_init 257 = .ok (.aload_n 0, 1) := by decide +kernel
theorem dX8_init_258 : decode cX8_init 258 = .ok (.getfield 88, 3) := by decide +kernel
theorem dX8_init_261 : decode cX8_init 261 = .ok (.iload_n 1, 1) := by decide +kernel
theorem dX8_init_262 : decode cX8_init 262 = .ok (.iconst (-1), 1) := by decide +kernel
theorem dX8_init_263 : decode cX8_init 263 = .ok (.iastore, 1) := by decide +kernel
theorem dX8_init_264 : decode cX8_init 264 = .ok (.iinc 1 1, 3) := by decide +kernel
theorem dX8_init_267 : decode cX8_init 267 = .ok (.goto (-16), 3) := by decide +kernel
theorem dX8_init_270 : decode cX8_init 270 = .ok (.return_, 1) := by decide +kernel
theorem dX8_within_0 : decode cX8_within 0 = .ok (.iload_n 0, 1) := by decide +kernel
theorem dX8_within_1 : decode cX8_within 1 = .ok (.iload_n 1, 1) := by decide +kernel
theorem dX8_within_2 : decode cX8_within 2 = .ok (.if_icmp .lt 12, 3) := by decide +kernel
theorem dX8_within_5 : decode cX8_within 5 = .ok (.iload_n 0, 1) := by decide +kernel
theorem dX8_within_6 : decode cX8_within 6 = .ok (.iload_n 2, 1) := by decide +kernel
theorem dX8_within_7 : decode cX8_within 7 = .ok (.if_icmp .gt 7, 3) := by decide +kernel
theorem dX8_within_10 : decode cX8_within 10 = .ok (.iconst 1, 1) := by decide +kernel
theorem dX8_within_11 : decode cX8_within 11 = .ok (.goto 4, 3) := by decide +kernel
theorem dX8_within_14 : decode cX8_within 14 = .ok (.iconst 0, 1) := by decide +kernel
theorem dX8_within_15 : decode cX8_within 15 = .ok (.ireturn, 1) := by decide +kernel
theorem dX8_isOne_0 : decode cX8_isOne 0 = .ok (.iload_n 1, 1) := by decide +kernel
theorem dX8_isOne_1 : decode cX8_isOne 1 = .ok (.iconst 0, 1) := by decide +kernel
theorem dX8_isOne_2 : decode cX8_isOne 2 = .ok (.aload_n 0, 1) := by decide +kernel
theorem dX8_isOne_3 : decode cX8_isOne 3 = .ok (.getfield 111, 3) := by decide +kernel
theorem dX8_isOne_6 : decode cX8_isOne 6 = .ok (.iconst 1, 1) := by decide +kernel
theorem dX8_isOne_7 : decode cX8_isOne 7 = .ok (.isub, 1) := by decide +kernel
theorem dX8_isOne_8 : decode cX8_isOne 8 = .ok (.invokestatic 114, 3) := by decide +kernel
theorem dX8_isOne_11 : decode cX8_isOne 11 = .ok (.ireturn, 1) := by decide +kernel
theorem dX8_person_0 : decode cX8_person 0 = .ok (.iload_n 1, 1) := by decide +kernel
theorem dX8_person_1 : decode cX8_person 1 = .ok (.iconst 0, 1) := by decide +kernel
theorem dX8_person_2 : decode cX8_person 2 = .ok (.bipush 6, 2) := by decide +kernel
theorem dX8_person_4 : decode cX8_person 4 = .ok (.invokestatic 114, 3) := by decide +kernel
theorem dX8_person_7 : decode cX8_person 7 = .ok (.ifCond .ne 5, 3) := by decide +kernel
theorem dX8_person_10 : decode cX8_person 10 = .ok (.iconst (-1), 1) := by decide +kernel
theorem dX8_person_11 : decode cX8_person 11 = .ok (.ireturn, 1) := by decide +kernel
theorem dX8_person_12 : decode cX8_person 12 = .ok (.iload_n 2, 1) := by decide +kernel
theorem dX8_person_13 : decode cX8_person 13 = .ok (.iconst 0, 1) := by decide +kernel
theorem dX8_person_14 : decode cX8_person 14 = .ok (.bipush 9, 2) := by decide +kernel
theorem dX8_person_16 : decode cX8_person 16 = .ok (.invokestatic 114, 3) := by decide +kernel
theorem dX8_person_19 : decode cX8_person 19 = .ok (.ifCond .eq 14, 3) := by decide +kernel
theorem dX8_person_22 : decode cX8_person 22 = .ok (.iload_n 3, 1) := by decide +kernel
theorem dX8_person_23 : decode cX8_person 23 = .ok (.iconst 0, 1) := by decide +kernel
theorem dX8_person_24 : decode cX8_person 24 = .ok (.sipush 999, 3) := by decide +kernel
theorem dX8_person_27 : decode cX8_person 27 = .ok (.invokestatic 114, 3) := by decide +kernel
theorem dX8_person_30 : decode cX8_person 30 = .ok (.ifCond .ne 6, 3) := by decide +kernel
theorem dX8_person_33 : decode cX8_person 33 = .ok (.bipush (-2), 2) := by decide +kernel
theorem dX8_person_35 : decode cX8_person 35 = .ok (.ireturn, 1) := by decide +kernel
theorem dX8_person_36 : decode cX8_person 36 = .ok (.aload_n 0, 1) := by decide +kernel
theorem dX8_person_37 : decode cX8_person 37 = .ok (.getfield 111, 3) := by decide +kernel
theorem dX8_person_40 : decode cX8_person 40 = .ok (.bipush 6, 2) := by decide +kernel
theorem dX8_person_42 : decode cX8_person 42 = .ok (.if_icmp .ne 6, 3) := by decide +kernel
theorem dX8_person_45 : decode cX8_person 45 = .ok (.bipush (-4), 2) := by decide +kernel
theorem dX8_person_47 : decode cX8_person 47 = .ok (.ireturn, 1) := by decide +kernel
theorem dX8_person_48 : decode cX8_person 48 = .ok (.aload_n 0, 1) := by decide +kernel
theorem dX8_person_49 : decode cX8_person 49 = .ok (.getfield 9, 3) := by decide +kernel
theorem dX8_person_52 : decode cX8_person 52 = .ok (.aload_n 0, 1) := by decide +kernel
theorem dX8_person_53 : decode cX8_person 53 = .ok (.getfield 111, 3) := by decide +kernel
theorem dX8_person_56 : decode cX8_person 56 = .ok (.iload_n 1, 1) := by decide +kernel
theorem dX8_person_57 : decode cX8_person 57 = .ok (.iastore, 1) := by decide +kernel
theorem dX8_person_58 : decode cX8_person 58 = .ok (.aload_n 0, 1) := by decide +kernel
theorem dX8_person_59 : decode cX8_person 59 = .ok (.getfield 15, 3) := by decide +kernel
theorem dX8_person_62 : decode cX8_person 62 = .ok (.aload_n 0, 1) := by decide +kernel
theorem dX8_person_63 : decode cX8_person 63 = .ok (.getfield 111, 3) := by decide +kernel
theorem dX8_person_66 : decode cX8_person 66 = .ok (.iload_n 2, 1) := by decide +kernel
theorem dX8_person_67 : decode cX8_person 67 = .ok (.iastore, 1) := by decide +kernel
theorem dX8_person_68 : decode cX8_person 68 = .ok (.aload_n 0, 1) := by decide +kernel
theorem dX8_person_69 : decode cX8_person 69 = .ok (.getfield 18, 3) := by decide +kernel
theorem dX8_person_72 : decode cX8_person 72 = .ok (.aload_n 0, 1) := by decide +kernel
theorem dX8_person_73 : decode cX8_person 73 = .ok (.getfield 111, 3) := by decide +kernel
theorem dX8_person_76 : decode cX8_person 76 = .ok (.iload_n 3, 1) := by decide +kernel
theorem dX8_person_77 : decode cX8_person 77 = .ok (.iastore, 1) := by decide +kernel
theorem dX8_person_78 : decode cX8_person 78 = .ok (.aload_n 0, 1) := by decide +kernel
theorem dX8_person_79 : decode cX8_person 79 = .ok (.getfield 21, 3) := by decide +kernel
theorem dX8_person_82 : decode cX8_person 82 = .ok (.aload_n 0, 1) := by decide +kernel
theorem dX8_person_83 : decode cX8_person 83 = .ok (.getfield 111, 3) := by decide +kernel
theorem dX8_person_86 : decode cX8_person 86 = .ok (.iconst 0, 1) := by decide +kernel
theorem dX8_person_87 : decode cX8_person 87 = .ok (.iastore, 1) := by decide +kernel
theorem dX8_person_88 : decode cX8_person 88 = .ok (.aload_n 0, 1) := by decide +kernel
theorem dX8_person_89 : decode cX8_person 89 = .ok (.getfield 24, 3) := by decide +kernel
theorem dX8_person_92 : decode cX8_person 92 = .ok (.aload_n 0, 1) := by decide +kernel
theorem dX8_person_93 : decode cX8_person 93 = .ok (.getfield 111, 3) := by decide +kernel
theorem dX8_person_96 : decode cX8_person 96 = .ok (.iconst 0, 1) := by decide +kernel
theorem dX8_person_97 : decode cX8_person 97 = .ok (.iastore, 1) := by decide +kernel
theorem dX8_person_98 : decode cX8_person 98 = .ok (.iconst 0, 1) := by decide +kernel
theorem dX8_person_99 : decode cX8_person 99 = .ok (.istore 4, 2) := by decide +kernel
theorem dX8_person_101 : decode cX8_person 101 = .ok (.iload 4, 2) := by decide +kernel
theorem dX8_person_103 : decode cX8_person 103 = .ok (.iconst 4, 1) := by decide +kernel
theorem dX8_person_104 : decode cX8_person 104 = .ok (.if_icmp .ge 24, 3) := by decide +kernel
theorem dX8_person_107 : decode cX8_person 107 = .ok (.aload_n 0, 1) := by decide +kernel
theorem dX8_person_108 : decode cX8_person 108 = .ok (.getfield 27, 3) := by decide +kernel
theorem dX8_person_111 : decode cX8_person 111 = .ok (.iconst 4, 1) := by decide +kernel
theorem dX8_person_112 : decode cX8_person 112 = .ok (.aload_n 0, 1) := by decide +kernel
theorem dX8_person_113 : decode cX8_person 113 = .ok (.getfield 111, 3) := by decide +kernel
theorem dX8_person_116 : decode cX8_person 116 = .ok (.imul, 1) := by decide +kernel
theorem dX8_person_117 : decode cX8_person 117 = .ok (.iload 4, 2) := by decide +kernel
theorem dX8_person_119 : decode cX8_person 119 = .ok (.iadd, 1) := by decide +kernel
theorem dX8_person_120 : decode cX8_person 120 = .ok (.iconst 0, 1) := by decide +kernel
theorem dX8_person_121 : decode cX8_person 121 = .ok (.iastore, 1) := by decide +kernel
theorem dX8_person_122 : decode cX8_person 122 = .ok (.iinc 4 1, 3) := by decide +kernel
theorem dX8_person_125 : decode cX8_person 125 = .ok (.goto (-24), 3) := by decide +kernel
theorem dX8_person_128 : decode cX8_person 128 = .ok (.aload_n 0, 1) := by decide +kernel
theorem dX8_person_129 : decode cX8_person 129 = .ok (.dup, 1) := by decide +kernel
theorem dX8_person_130 : decode cX8_person 130 = .ok (.getfield 111, 3) := by decide +kernel
theorem dX8_person_133 : decode cX8_person 133 = .ok (.dup_x1, 1) := by decide +kernel
theorem dX8_person_134 : decode cX8_person 134 = .ok (.iconst 1, 1) := by decide +kernel
theorem dX8_person_135 : decode cX8_person 135 = .ok (.iadd, 1) := by decide +kernel
theorem dX8_person_136 : decode cX8_person 136 = .ok (.putfield 111, 3) := by decide +kernel
theorem dX8_person_139 : decode cX8_person 139 = .ok (.ireturn, 1) := by decide +kernel
theorem dX8_of_0 : decode cX8_of 0 = .ok (.aload_n 0, 1) := by decide +kernel
theorem dX8_of_1 : decode cX8_of 1 = .ok (.iload_n 1, 1) := by decide +kernel
theorem dX8_of_2 : decode cX8_of 2 = .ok (.invokevirtual 118, 3) := by decide +kernel
theorem dX8_of_5 : decode cX8_of 5 = .ok (.ifCond .ne 7, 3) := by decide +kernel
theorem dX8_of_8 : decode cX8_of 8 = .ok (.sipush (-10001), 3) := by decide +kernel
theorem dX8_of_11 : decode cX8_of 11 = .ok (.ireturn, 1) := by decide +kernel
theorem dX8_of_12 : decode cX8_of 12 = .ok (.iload_n 2, 1) := by decide +kernel
theorem dX8_of_13 : decode cX8_of 13 = .ok (.tableswitch 108 0 7 #[47, 54, 61, 68, 75, 82, 88, 102], 47) := by decide +kernel
theorem dX8_of_60 : decode cX8_of 60 = .ok (.aload_n 0, 1) := by decide +kernel
theorem dX8_of_61 : decode cX8_of 61 = .ok (.getfield 9, 3) := by decide +kernel
theorem dX8_of_64 : decode cX8_of 64 = .ok (.iload_n 1, 1) := by decide +kernel
theorem dX8_of_65 : decode cX8_of 65 = .ok (.iaload, 1) := by decide +kernel
theorem dX8_of_66 : decode cX8_of 66 = .ok (.ireturn, 1) := by decide +kernel
theorem dX8_of_67 : decode cX8_of 67 = .ok (.aload_n 0, 1) := by decide +kernel
theorem dX8_of_68 : decode cX8_of 68 = .ok (.getfield 15, 3) := by decide +kernel
theorem dX8_of_71 : decode cX8_of 71 = .ok (.iload_n 1, 1) := by decide +kernel
theorem dX8_of_72 : decode cX8_of 72 = .ok (.iaload, 1) := by decide +kernel
theorem dX8_of_73 : decode cX8_of 73 = .ok (.ireturn, 1) := by decide +kernel
theorem dX8_of_74 : decode cX8_of 74 = .ok (.aload_n 0, 1) := by decide +kernel
theorem dX8_of_75 : decode cX8_of 75 = .ok (.getfield 18, 3) := by decide +kernel
theorem dX8_of_78 : decode cX8_of 78 = .ok (.iload_n 1, 1) := by decide +kernel
theorem dX8_of_79 : decode cX8_of 79 = .ok (.iaload, 1) := by decide +kernel
theorem dX8_of_80 : decode cX8_of 80 = .ok (.ireturn, 1) := by decide +kernel
theorem dX8_of_81 : decode cX8_of 81 = .ok (.aload_n 0, 1) := by decide +kernel
theorem dX8_of_82 : decode cX8_of 82 = .ok (.getfield 21, 3) := by decide +kernel
theorem dX8_of_85 : decode cX8_of 85 = .ok (.iload_n 1, 1) := by decide +kernel
theorem dX8_of_86 : decode cX8_of 86 = .ok (.iaload, 1) := by decide +kernel
theorem dX8_of_87 : decode cX8_of 87 = .ok (.ireturn, 1) := by decide +kernel
theorem dX8_of_88 : decode cX8_of 88 = .ok (.aload_n 0, 1) := by decide +kernel
theorem dX8_of_89 : decode cX8_of 89 = .ok (.getfield 24, 3) := by decide +kernel
theorem dX8_of_92 : decode cX8_of 92 = .ok (.iload_n 1, 1) := by decide +kernel
theorem dX8_of_93 : decode cX8_of 93 = .ok (.iaload, 1) := by decide +kernel
theorem dX8_of_94 : decode cX8_of 94 = .ok (.ireturn, 1) := by decide +kernel
theorem dX8_of_95 : decode cX8_of 95 = .ok (.aload_n 0, 1) := by decide +kernel
theorem dX8_of_96 : decode cX8_of 96 = .ok (.iload_n 1, 1) := by decide +kernel
theorem dX8_of_97 : decode cX8_of 97 = .ok (.invokevirtual 122, 3) := by decide +kernel
theorem dX8_of_100 : decode cX8_of 100 = .ok (.ireturn, 1) := by decide +kernel
theorem dX8_of_101 : decode cX8_of 101 = .ok (.aload_n 0, 1) := by decide +kernel
theorem dX8_of_102 : decode cX8_of 102 = .ok (.iload_n 1, 1) := by decide +kernel
theorem dX8_of_103 : decode cX8_of 103 = .ok (.invokevirtual 126, 3) := by decide +kernel
theorem dX8_of_106 : decode cX8_of 106 = .ok (.ifCond .eq 7, 3) := by decide +kernel
theorem dX8_of_109 : decode cX8_of 109 = .ok (.iconst 1, 1) := by decide +kernel
theorem dX8_of_110 : decode cX8_of 110 = .ok (.goto 4, 3) := by decide +kernel
theorem dX8_of_113 : decode cX8_of 113 = .ok (.iconst 0, 1) := by decide +kernel
theorem dX8_of_114 : decode cX8_of 114 = .ok (.ireturn, 1) := by decide +kernel
theorem dX8_of_115 : decode cX8_of 115 = .ok (.aload_n 0, 1) := by decide +kernel
theorem dX8_of_116 : decode cX8_of 116 = .ok (.iload_n 1, 1) := by decide +kernel
theorem dX8_of_117 : decode cX8_of 117 = .ok (.invokevirtual 129, 3) := by decide +kernel
theorem dX8_of_120 : decode cX8_of 120 = .ok (.ireturn, 1) := by decide +kernel
theorem dX8_of_121 : decode cX8_of 121 = .ok (.iload_n 2, 1) := by decide +kernel
theorem dX8_of_122 : decode cX8_of 122 = .ok (.bipush 10, 2) := by decide +kernel
theorem dX8_of_124 : decode cX8_of 124 = .ok (.bipush 109, 2) := by decide +kernel
theorem dX8_of_126 : decode cX8_of 126 = .ok (.invokestatic 114, 3) := by decide +kernel
theorem dX8_of_129 : decode cX8_of 129 = .ok (.ifCond .eq 15, 3) := by decide +kernel
theorem dX8_of_132 : decode cX8_of 132 = .ok (.aload_n 0, 1) := by decide +kernel
theorem dX8_of_133 : decode cX8_of 133 = .ok (.iload_n 1, 1) := by decide +kernel
theorem dX8_of_134 : decode cX8_of 134 = .ok (.iload_n 2, 1) := by decide +kernel
theorem dX8_of_135 : decode cX8_of 135 = .ok (.bipush 10, 2) := by decide +kernel
theorem dX8_of_137 : decode cX8_of 137 = .ok (.isub, 1) := by decide +kernel
theorem dX8_of_138 : decode cX8_of 138 = .ok (.invokevirtual 132, 3) := by decide +kernel
theorem dX8_of_141 : decode cX8_of 141 = .ok (.goto 6, 3) := by decide +kernel
theorem dX8_of_144 : decode cX8_of 144 = .ok (.sipush (-10001), 3) := by decide +kernel
theorem dX8_of_147 : decode cX8_of 147 = .ok (.ireturn, 1) := by decide +kernel
theorem dX8_thanks_0 : decode cX8_thanks 0 = .ok (.aload_n 0, 1) := by decide +kernel
theorem dX8_thanks_1 : decode cX8_thanks 1 = .ok (.iload_n 1, 1) := by decide +kernel
theorem dX8_thanks_2 : decode cX8_thanks 2 = .ok (.invokevirtual 118, 3) := by decide +kernel
theorem dX8_thanks_5 : decode cX8_thanks 5 = .ok (.ifCond .ne 5, 3) := by decide +kernel
theorem dX8_thanks_8 : decode cX8_thanks 8 = .ok (.iconst (-1), 1) := by decide +kernel
theorem dX8_thanks_9 : decode cX8_thanks 9 = .ok (.ireturn, 1) := by decide +kernel
theorem dX8_thanks_10 : decode cX8_thanks 10 = .ok (.iload_n 2, 1) := by decide +kernel
theorem dX8_thanks_11 : decode cX8_thanks 11 = .ok (.iconst 0, 1) := by decide +kernel
theorem dX8_thanks_12 : decode cX8_thanks 12 = .ok (.sipush 999, 3) := by decide +kernel
theorem dX8_thanks_15 : decode cX8_thanks 15 = .ok (.invokestatic 114, 3) := by decide +kernel
theorem dX8_thanks_18 : decode cX8_thanks 18 = .ok (.ifCond .ne 6, 3) := by decide +kernel
theorem dX8_thanks_21 : decode cX8_thanks 21 = .ok (.bipush (-2), 2) := by decide +kernel
theorem dX8_thanks_23 : decode cX8_thanks 23 = .ok (.ireturn, 1) := by decide +kernel
theorem dX8_thanks_24 : decode cX8_thanks 24 = .ok (.aload_n 0, 1) := by decide +kernel
theorem dX8_thanks_25 : decode cX8_thanks 25 = .ok (.getfield 18, 3) := by decide +kernel
theorem dX8_thanks_28 : decode cX8_thanks 28 = .ok (.iload_n 1, 1) := by decide +kernel
theorem dX8_thanks_29 : decode cX8_thanks 29 = .ok (.iaload, 1) := by decide +kernel
theorem dX8_thanks_30 : decode cX8_thanks 30 = .ok (.istore_n 3, 1) := by decide +kernel
theorem dX8_thanks_31 : decode cX8_thanks 31 = .ok (.aload_n 0, 1) := by decide +kernel
theorem dX8_thanks_32 : decode cX8_thanks 32 = .ok (.getfield 18, 3) := by decide +kernel
theorem dX8_thanks_35 : decode cX8_thanks 35 = .ok (.iload_n 1, 1) := by decide +kernel
theorem dX8_thanks_36 : decode cX8_thanks 36 = .ok (.iload_n 2, 1) := by decide +kernel
theorem dX8_thanks_37 : decode cX8_thanks 37 = .ok (.iastore, 1) := by decide +kernel
theorem dX8_thanks_38 : decode cX8_thanks 38 = .ok (.iload_n 3, 1) := by decide +kernel
theorem dX8_thanks_39 : decode cX8_thanks 39 = .ok (.ireturn, 1) := by decide +kernel
theorem dX8_kill_0 : decode cX8_kill 0 = .ok (.aload_n 0, 1) := by decide +kernel
theorem dX8_kill_1 : decode cX8_kill 1 = .ok (.iload_n 1, 1) := by decide +kernel
theorem dX8_kill_2 : decode cX8_kill 2 = .ok (.invokevirtual 118, 3) := by decide +kernel
theorem dX8_kill_5 : decode cX8_kill 5 = .ok (.ifCond .ne 5, 3) := by decide +kernel
theorem dX8_kill_8 : decode cX8_kill 8 = .ok (.iconst (-1), 1) := by decide +kernel
theorem dX8_kill_9 : decode cX8_kill 9 = .ok (.ireturn, 1) := by decide +kernel
theorem dX8_kill_10 : decode cX8_kill 10 = .ok (.aload_n 0, 1) := by decide +kernel
theorem dX8_kill_11 : decode cX8_kill 11 = .ok (.getfield 24, 3) := by decide +kernel
theorem dX8_kill_14 : decode cX8_kill 14 = .ok (.iload_n 1, 1) := by decide +kernel
theorem dX8_kill_15 : decode cX8_kill 15 = .ok (.iaload, 1) := by decide +kernel
theorem dX8_kill_16 : decode cX8_kill 16 = .ok (.istore_n 3, 1) := by decide +kernel
theorem dX8_kill_17 : decode cX8_kill 17 = .ok (.aload_n 0, 1) := by decide +kernel
theorem dX8_kill_18 : decode cX8_kill 18 = .ok (.getfield 24, 3) := by decide +kernel
theorem dX8_kill_21 : decode cX8_kill 21 = .ok (.iload_n 1, 1) := by decide +kernel
theorem dX8_kill_22 : decode cX8_kill 22 = .ok (.iload_n 2, 1) := by decide +kernel
theorem dX8_kill_23 : decode cX8_kill 23 = .ok (.ifCond .eq 7, 3) := by decide +kernel
theorem dX8_kill_26 : decode cX8_kill 26 = .ok (.iconst 1, 1) := by decide +kernel
theorem dX8_kill_27 : decode cX8_kill 27 = .ok (.goto 4, 3) := by decide +kernel
theorem dX8_kill_30 : decode cX8_kill 30 = .ok (.iconst 0, 1) := by decide +kernel
theorem dX8_kill_31 : decode cX8_kill 31 = .ok (.iastore, 1) := by decide +kernel
theorem dX8_kill_32 : decode cX8_kill 32 = .ok (.iload_n 3, 1) := by decide +kernel
theorem dX8_kill_33 : decode cX8_kill 33 = .ok (.ireturn, 1) := by decide +kernel
theorem dX8_row_0 : decode cX8_row 0 = .ok (.aload_n 0, 1) := by decide +kernel
theorem dX8_row_1 : decode cX8_row 1 = .ok (.iload_n 1, 1) := by decide +kernel
theorem dX8_row_2 : decode cX8_row 2 = .ok (.invokevirtual 118, 3) := by decide +kernel
theorem dX8_row_5 : decode cX8_row 5 = .ok (.ifCond .eq 12, 3) := by decide +kernel
theorem dX8_row_8 : decode cX8_row 8 = .ok (.iload_n 2, 1) := by decide +kernel
theorem dX8_row_9 : decode cX8_row 9 = .ok (.iconst 0, 1) := by decide +kernel
theorem dX8_row_10 : decode cX8_row 10 = .ok (.iconst 3, 1) := by decide +kernel
theorem dX8_row_11 : decode cX8_row 11 = .ok (.invokestatic 114, 3) := by decide +kernel
theorem dX8_row_14 : decode cX8_row 14 = .ok (.ifCond .ne 5, 3) := by decide +kernel
theorem dX8_row_17 : decode cX8_row 17 = .ok (.iconst (-1), 1) := by decide +kernel
theorem dX8_row_18 : decode cX8_row 18 = .ok (.ireturn, 1) := by decide +kernel
theorem dX8_row_19 : decode cX8_row 19 = .ok (.iload_n 3, 1) := by decide +kernel
theorem dX8_row_20 : decode cX8_row 20 = .ok (.iconst 0, 1) := by decide +kernel
theorem dX8_row_21 : decode cX8_row 21 = .ok (.bipush 9, 2) := by decide +kernel
theorem dX8_row_23 : decode cX8_row 23 = .ok (.invokestatic 114, 3) := by decide +kernel
theorem dX8_row_26 : decode cX8_row 26 = .ok (.ifCond .ne 6, 3) := by decide +kernel
theorem dX8_row_29 : decode cX8_row 29 = .ok (.bipush (-2), 2) := by decide +kernel
theorem dX8_row_31 : decode cX8_row 31 = .ok (.ireturn, 1) := by decide +kernel
theorem dX8_row_32 : decode cX8_row 32 = .ok (.aload_n 0, 1) := by decide +kernel
theorem dX8_row_33 : decode cX8_row 33 = .ok (.getfield 9, 3) := by decide +kernel
theorem dX8_row_36 : decode cX8_row 36 = .ok (.iload_n 1, 1) := by decide +kernel
theorem dX8_row_37 : decode cX8_row 37 = .ok (.iaload, 1) := by decide +kernel
theorem dX8_row_38 : decode cX8_row 38 = .ok (.bipush 6, 2) := by decide +kernel
theorem dX8_row_40 : decode cX8_row 40 = .ok (.if_icmp .eq 6, 3) := by decide +kernel
theorem dX8_row_43 : decode cX8_row 43 = .ok (.bipush (-3), 2) := by decide +kernel
theorem dX8_row_45 : decode cX8_row 45 = .ok (.ireturn, 1) := by decide +kernel
theorem dX8_row_46 : decode cX8_row 46 = .ok (.aload_n 0, 1) := by decide +kernel
theorem dX8_row_47 : decode cX8_row 47 = .ok (.getfield 27, 3) := by decide +kernel
theorem dX8_row_50 : decode cX8_row 50 = .ok (.iconst 4, 1) := by decide +kernel
theorem dX8_row_51 : decode cX8_row 51 = .ok (.iload_n 1, 1) := by decide +kernel
theorem dX8_row_52 : decode cX8_row 52 = .ok (.imul, 1) := by decide +kernel
theorem dX8_row_53 : decode cX8_row 53 = .ok (.iload_n 2, 1) := by decide +kernel
theorem dX8_row_54 : decode cX8_row 54 = .ok (.iadd, 1) := by decide +kernel
theorem dX8_row_55 : decode cX8_row 55 = .ok (.iaload, 1) := by decide +kernel
theorem dX8_row_56 : decode cX8_row 56 = .ok (.istore 4, 2) := by decide +kernel
theorem dX8_row_58 : decode cX8_row 58 = .ok (.aload_n 0, 1) := by decide +kernel
theorem dX8_row_59 : decode cX8_row 59 = .ok (.getfield 27, 3) := by decide +kernel
theorem dX8_row_62 : decode cX8_row 62 = .ok (.iconst 4, 1) := by decide +kernel
theorem dX8_row_63 : decode cX8_row 63 = .ok (.iload_n 1, 1) := by decide +kernel
theorem dX8_row_64 : decode cX8_row 64 = .ok (.imul, 1) := by decide +kernel
theorem dX8_row_65 : decode cX8_row 65 = .ok (.iload_n 2, 1) := by decide +kernel
theorem dX8_row_66 : decode cX8_row 66 = .ok (.iadd, 1) := by decide +kernel
theorem dX8_row_67 : decode cX8_row 67 = .ok (.iload_n 3, 1) := by decide +kernel
theorem dX8_row_68 : decode cX8_row 68 = .ok (.iastore, 1) := by decide +kernel
theorem dX8_row_69 : decode cX8_row 69 = .ok (.iload 4, 2) := by decide +kernel
theorem dX8_row_71 : decode cX8_row 71 = .ok (.ireturn, 1) := by decide +kernel
theorem dX8_soldier_0 : decode cX8_soldier 0 = .ok (.iload_n 1, 1) := by decide +kernel
theorem dX8_soldier_1 : decode cX8_soldier 1 = .ok (.iconst 0, 1) := by decide +kernel
theorem dX8_soldier_2 : decode cX8_soldier 2 = .ok (.iconst 1, 1) := by decide +kernel
theorem dX8_soldier_3 : decode cX8_soldier 3 = .ok (.invokestatic 114, 3) := by decide +kernel
theorem dX8_soldier_6 : decode cX8_soldier 6 = .ok (.ifCond .ne 5, 3) := by decide +kernel
theorem dX8_soldier_9 : decode cX8_soldier 9 = .ok (.iconst (-1), 1) := by decide +kernel
theorem dX8_soldier_10 : decode cX8_soldier 10 = .ok (.ireturn, 1) := by decide +kernel
theorem dX8_soldier_11 : decode cX8_soldier 11 = .ok (.iload_n 2, 1) := by decide +kernel
theorem dX8_soldier_12 : decode cX8_soldier 12 = .ok (.iconst 0, 1) := by decide +kernel
theorem dX8_soldier_13 : decode cX8_soldier 13 = .ok (.sipush 999, 3) := by decide +kernel
theorem dX8_soldier_16 : decode cX8_soldier 16 = .ok (.invokestatic 114, 3) := by decide +kernel
theorem dX8_soldier_19 : decode cX8_soldier 19 = .ok (.ifCond .ne 6, 3) := by decide +kernel
theorem dX8_soldier_22 : decode cX8_soldier 22 = .ok (.bipush (-2), 2) := by decide +kernel
theorem dX8_soldier_24 : decode cX8_soldier 24 = .ok (.ireturn, 1) := by decide +kernel
theorem dX8_soldier_25 : decode cX8_soldier 25 = .ok (.iload_n 1, 1) := by decide +kernel
theorem dX8_soldier_26 : decode cX8_soldier 26 = .ok (.ifCond .ne 10, 3) := by decide +kernel
theorem dX8_soldier_29 : decode cX8_soldier 29 = .ok (.aload_n 0, 1) := by decide +kernel
theorem dX8_soldier_30 : decode cX8_soldier 30 = .ok (.getfield 98, 3) := by decide +kernel
theorem dX8_soldier_33 : decode cX8_soldier 33 = .ok (.goto 7, 3) := by decide +kernel
theorem dX8_soldier_36 : decode cX8_soldier 36 = .ok (.aload_n 0, 1) := by decide +kernel
theorem dX8_soldier_37 : decode cX8_soldier 37 = .ok (.getfield 136, 3) := by decide +kernel
theorem dX8_soldier_40 : decode cX8_soldier 40 = .ok (.istore_n 3, 1) := by decide +kernel
theorem dX8_soldier_41 : decode cX8_soldier 41 = .ok (.iload_n 1, 1) := by decide +kernel
theorem dX8_soldier_42 : decode cX8_soldier 42 = .ok (.ifCond .ne 11, 3) := by decide +kernel
theorem dX8_soldier_45 : decode cX8_soldier 45 = .ok (.aload_n 0, 1) := by decide +kernel
theorem dX8_soldier_46 : decode cX8_soldier 46 = .ok (.iload_n 2, 1) := by decide +kernel
theorem dX8_soldier_47 : decode cX8_soldier 47 = .ok (.putfield 98, 3) := by decide +kernel
theorem dX8_soldier_50 : decode cX8_soldier 50 = .ok (.goto 8, 3) := by decide +kernel
theorem dX8_soldier_53 : decode cX8_soldier 53 = .ok (.aload_n 0, 1) := by decide +kernel
theorem dX8_soldier_54 : decode cX8_soldier 54 = .ok (.iload_n 2, 1) := by decide +kernel
theorem dX8_soldier_55 : decode cX8_soldier 55 = .ok (.putfield 136, 3) := by decide +kernel
theorem dX8_soldier_58 : decode cX8_soldier 58 = .ok (.iload_n 3, 1) := by decide +kernel
theorem dX8_soldier_59 : decode cX8_soldier 59 = .ok (.ireturn, 1) := by decide +kernel
theorem dX8_round_0 : decode cX8_round 0 = .ok (.iload_n 1, 1) := by decide +kernel
theorem dX8_round_1 : decode cX8_round 1 = .ok (.iconst (-1), 1) := by decide +kernel
theorem dX8_round_2 : decode cX8_round 2 = .ok (.if_icmp .ne 10, 3) := by decide +kernel
theorem dX8_round_5 : decode cX8_round 5 = .ok (.aload_n 0, 1) := by decide +kernel
theorem dX8_round_6 : decode cX8_round 6 = .ok (.iconst 0, 1) := by decide +kernel
theorem dX8_round_7 : decode cX8_round 7 = .ok (.putfield 139, 3) := by decide +kernel
theorem dX8_round_10 : decode cX8_round 10 = .ok (.iconst 0, 1) := by decide +kernel
theorem dX8_round_11 : decode cX8_round 11 = .ok (.ireturn, 1) := by decide +kernel
theorem dX8_round_12 : decode cX8_round 12 = .ok (.aload_n 0, 1) := by decide +kernel
theorem dX8_round_13 : decode cX8_round 13 = .ok (.iload_n 1, 1) := by decide +kernel
theorem dX8_round_14 : decode cX8_round 14 = .ok (.invokevirtual 118, 3) := by decide +kernel
theorem dX8_round_17 : decode cX8_round 17 = .ok (.ifCond .ne 5, 3) := by decide +kernel
theorem dX8_round_20 : decode cX8_round 20 = .ok (.iconst (-1), 1) := by decide +kernel
theorem dX8_round_21 : decode cX8_round 21 = .ok (.ireturn, 1) := by decide +kernel
theorem dX8_round_22 : decode cX8_round 22 = .ok (.aload_n 0, 1) := by decide +kernel
theorem dX8_round_23 : decode cX8_round 23 = .ok (.getfield 139, 3) := by decide +kernel
theorem dX8_round_26 : decode cX8_round 26 = .ok (.bipush 6, 2) := by decide +kernel
theorem dX8_round_28 : decode cX8_round 28 = .ok (.if_icmp .ne 6, 3) := by decide +kernel
theorem dX8_round_31 : decode cX8_round 31 = .ok (.bipush (-4), 2) := by decide +kernel
theorem dX8_round_33 : decode cX8_round 33 = .ok (.ireturn, 1) := by decide +kernel
theorem dX8_round_34 : decode cX8_round 34 = .ok (.aload_n 0, 1) := by decide +kernel
theorem dX8_round_35 : decode cX8_round 35 = .ok (.getfield 30, 3) := by decide +kernel
theorem dX8_round_38 : decode cX8_round 38 = .ok (.aload_n 0, 1) := by decide +kernel
theorem dX8_round_39 : decode cX8_round 39 = .ok (.dup, 1) := by decide +kernel
theorem dX8_round_40 : decode cX8_round 40 = .ok (.getfield 139, 3) := by decide +kernel
theorem dX8_round_43 : decode cX8_round 43 = .ok (.dup_x1, 1) := by decide +kernel
theorem dX8_round_44 : decode cX8_round 44 = .ok (.iconst 1, 1) := by decide +kernel
theorem dX8_round_45 : decode cX8_round 45 = .ok (.iadd, 1) := by decide +kernel
theorem dX8_round_46 : decode cX8_round 46 = .ok (.putfield 139, 3) := by decide +kernel
theorem dX8_round_49 : decode cX8_round 49 = .ok (.iload_n 1, 1) := by decide +kernel
theorem dX8_round_50 : decode cX8_round 50 = .ok (.iastore, 1) := by decide +kernel
theorem dX8_round_51 : decode cX8_round 51 = .ok (.aload_n 0, 1) := by decide +kernel
theorem dX8_round_52 : decode cX8_round 52 = .ok (.getfield 139, 3) := by decide +kernel
theorem dX8_round_55 : decode cX8_round 55 = .ok (.ireturn, 1) := by decide +kernel
theorem dX8_feed_0 : decode cX8_feed 0 = .ok (.iload_n 1, 1) := by decide +kernel
theorem dX8_feed_1 : decode cX8_feed 1 = .ok (.iconst 0, 1) := by decide +kernel
theorem dX8_feed_2 : decode cX8_feed 2 = .ok (.bipush 127, 2) := by decide +kernel
theorem dX8_feed_4 : decode cX8_feed 4 = .ok (.invokestatic 114, 3) := by decide +kernel
theorem dX8_feed_7 : decode cX8_feed 7 = .ok (.ifCond .ne 6, 3) := by decide +kernel
theorem dX8_feed_10 : decode cX8_feed 10 = .ok (.bipush (-2), 2) := by decide +kernel
theorem dX8_feed_12 : decode cX8_feed 12 = .ok (.ireturn, 1) := by decide +kernel
theorem dX8_feed_13 : decode cX8_feed 13 = .ok (.aload_n 0, 1) := by decide +kernel
theorem dX8_feed_14 : decode cX8_feed 14 = .ok (.getfield 142, 3) := by decide +kernel
theorem dX8_feed_17 : decode cX8_feed 17 = .ok (.bipush 100, 2) := by decide +kernel
theorem dX8_feed_19 : decode cX8_feed 19 = .ok (.if_icmp .ne 6, 3) := by decide +kernel
theorem dX8_feed_22 : decode cX8_feed 22 = .ok (.bipush (-4), 2) := by decide +kernel
theorem dX8_feed_24 : decode cX8_feed 24 = .ok (.ireturn, 1) := by decide +kernel
theorem dX8_feed_25 : decode cX8_feed 25 = .ok (.aload_n 0, 1) := by decide +kernel
theorem dX8_feed_26 : decode cX8_feed 26 = .ok (.getfield 33, 3) := by decide +kernel
theorem dX8_feed_29 : decode cX8_feed 29 = .ok (.aload_n 0, 1) := by decide +kernel
theorem dX8_feed_30 : decode cX8_feed 30 = .ok (.dup, 1) := by decide +kernel
theorem dX8_feed_31 : decode cX8_feed 31 = .ok (.getfield 142, 3) := by decide +kernel
theorem dX8_feed_34 : decode cX8_feed 34 = .ok (.dup_x1, 1) := by decide +kernel
theorem dX8_feed_35 : decode cX8_feed 35 = .ok (.iconst 1, 1) := by decide +kernel
theorem dX8_feed_36 : decode cX8_feed 36 = .ok (.iadd, 1) := by decide +kernel
theorem dX8_feed_37 : decode cX8_feed 37 = .ok (.putfield 142, 3) := by decide +kernel
theorem dX8_feed_40 : decode cX8_feed 40 = .ok (.iload_n 1, 1) := by decide +kernel
theorem dX8_feed_41 : decode cX8_feed 41 = .ok (.iastore, 1) := by decide +kernel
theorem dX8_feed_42 : decode cX8_feed 42 = .ok (.aload_n 0, 1) := by decide +kernel
theorem dX8_feed_43 : decode cX8_feed 43 = .ok (.getfield 142, 3) := by decide +kernel
theorem dX8_feed_46 : decode cX8_feed 46 = .ok (.ireturn, 1) := by decide +kernel
theorem dX8_is_0 : decode cX8_is 0 = .ok (.aload_n 0, 1) := by decide +kernel
theorem dX8_is_1 : decode cX8_is 1 = .ok (.getfield 145, 3) := by decide +kernel
theorem dX8_is_4 : decode cX8_is 4 = .ok (.aload_n 0, 1) := by decide +kernel
theorem dX8_is_5 : decode cX8_is 5 = .ok (.getfield 142, 3) := by decide +kernel
theorem dX8_is_8 : decode cX8_is 8 = .ok (.if_icmp .eq 16, 3) := by decide +kernel
theorem dX8_is_11 : decode cX8_is 11 = .ok (.aload_n 0, 1) := by decide +kernel
theorem dX8_is_12 : decode cX8_is 12 = .ok (.getfield 33, 3) := by decide +kernel
theorem dX8_is_15 : decode cX8_is 15 = .ok (.aload_n 0, 1) := by decide +kernel
theorem dX8_is_16 : decode cX8_is 16 = .ok (.getfield 145, 3) := by decide +kernel
theorem dX8_is_19 : decode cX8_is 19 = .ok (.iaload, 1) := by decide +kernel
theorem dX8_is_20 : decode cX8_is 20 = .ok (.iload_n 1, 1) := by decide +kernel
theorem dX8_is_21 : decode cX8_is 21 = .ok (.if_icmp .eq 5, 3) := by decide +kernel
theorem dX8_is_24 : decode cX8_is 24 = .ok (.iconst 0, 1) := by decide +kernel
theorem dX8_is_25 : decode cX8_is 25 = .ok (.ireturn, 1) := by decide +kernel
theorem dX8_is_26 : decode cX8_is 26 = .ok (.aload_n 0, 1) := by decide +kernel
theorem dX8_is_27 : decode cX8_is 27 = .ok (.dup, 1) := by decide +kernel
theorem dX8_is_28 : decode cX8_is 28 = .ok (.getfield 145, 3) := by decide +kernel
theorem dX8_is_31 : decode cX8_is 31 = .ok (.iconst 1, 1) := by decide +kernel
theorem dX8_is_32 : decode cX8_is 32 = .ok (.iadd, 1) := by decide +kernel
theorem dX8_is_33 : decode cX8_is 33 = .ok (.putfield 145, 3) := by decide +kernel
theorem dX8_is_36 : decode cX8_is 36 = .ok (.iconst 1, 1) := by decide +kernel
theorem dX8_is_37 : decode cX8_is 37 = .ok (.ireturn, 1) := by decide +kernel
theorem dX8_isDigit_0 : decode cX8_isDigit 0 = .ok (.aload_n 0, 1) := by decide +kernel
theorem dX8_isDigit_1 : decode cX8_isDigit 1 = .ok (.getfield 145, 3) := by decide +kernel
theorem dX8_isDigit_4 : decode cX8_isDigit 4 = .ok (.aload_n 0, 1) := by decide +kernel
theorem dX8_isDigit_5 : decode cX8_isDigit 5 = .ok (.getfield 142, 3) := by decide +kernel
theorem dX8_isDigit_8 : decode cX8_isDigit 8 = .ok (.if_icmp .ge 35, 3) := by decide +kernel
theorem dX8_isDigit_11 : decode cX8_isDigit 11 = .ok (.aload_n 0, 1) := by decide +kernel
theorem dX8_isDigit_12 : decode cX8_isDigit 12 = .ok (.getfield 33, 3) := by decide +kernel
theorem dX8_isDigit_15 : decode cX8_isDigit 15 = .ok (.aload_n 0, 1) := by decide +kernel
theorem dX8_isDigit_16 : decode cX8_isDigit 16 = .ok (.getfield 145, 3) := by decide +kernel
theorem dX8_isDigit_19 : decode cX8_isDigit 19 = .ok (.iaload, 1) := by decide +kernel
theorem dX8_isDigit_20 : decode cX8_isDigit 20 = .ok (.bipush 48, 2) := by decide +kernel
theorem dX8_isDigit_22 : decode cX8_isDigit 22 = .ok (.if_icmp .lt 21, 3) := by decide +kernel
theorem dX8_isDigit_25 : decode cX8_isDigit 25 = .ok (.aload_n 0, 1) := by decide +kernel
theorem dX8_isDigit_26 : decode cX8_isDigit 26 = .ok (.getfield 33, 3) := by decide +kernel
theorem dX8_isDigit_29 : decode cX8_isDigit 29 = .ok (.aload_n 0, 1) := by decide +kernel
theorem dX8_isDigit_30 : decode cX8_isDigit 30 = .ok (.getfield 145, 3) := by decide +kernel
theorem dX8_isDigit_33 : decode cX8_isDigit 33 = .ok (.iaload, 1) := by decide +kernel
theorem dX8_isDigit_34 : decode cX8_isDigit 34 = .ok (.bipush 57, 2) := by decide +kernel
theorem dX8_isDigit_36 : decode cX8_isDigit 36 = .ok (.if_icmp .gt 7, 3) := by decide +kernel
theorem dX8_isDigit_39 : decode cX8_isDigit 39 = .ok (.iconst 1, 1) := by decide +kernel
theorem dX8_isDigit_40 : decode cX8_isDigit 40 = .ok (.goto 4, 3) := by decide +kernel
theorem dX8_isDigit_43 : decode cX8_isDigit 43 = .ok (.iconst 0, 1) := by decide +kernel
theorem dX8_isDigit_44 : decode cX8_isDigit 44 = .ok (.ireturn, 1) := by decide +kernel
theorem dX8_isNumber_0 : decode cX8_isNumber 0 = .ok (.aload_n 0, 1) := by decide +kernel
theorem dX8_isNumber_1 : decode cX8_isNumber 1 = .ok (.iconst 0, 1) := by decide +kernel
theorem dX8_isNumber_2 : decode cX8_isNumber 2 = .ok (.putfield 148, 3) := by decide +kernel
theorem dX8_isNumber_5 : decode cX8_isNumber 5 = .ok (.aload_n 0, 1) := by decide +kernel
theorem dX8_isNumber_6 : decode cX8_isNumber 6 = .ok (.iconst 0, 1) := by decide +kernel
theorem dX8_isNumber_7 : decode cX8_isNumber 7 = .ok (.putfield 151, 3) := by decide +kernel
theorem dX8_isNumber_10 : decode cX8_isNumber 10 = .ok (.aload_n 0, 1) := by decide +kernel
theorem dX8_isNumber_11 : decode cX8_isNumber 11 = .ok (.getfield 151, 3) := by decide +kernel
theorem dX8_isNumber_14 : decode cX8_isNumber 14 = .ok (.iconst 2, 1) := by decide +kernel
theorem dX8_isNumber_15 : decode cX8_isNumber 15 = .ok (.if_icmp .ge 57, 3) := by decide +kernel
theorem dX8_isNumber_18 : decode cX8_isNumber 18 = .ok (.aload_n 0, 1) := by decide +kernel
theorem dX8_isNumber_19 : decode cX8_isNumber 19 = .ok (.invokevirtual 154, 3) := by decide +kernel
theorem dX8_isNumber_22 : decode cX8_isNumber 22 = .ok (.ifCond .eq 50, 3) := by decide +kernel
theorem dX8_isNumber_25 : decode cX8_isNumber 25 = .ok (.aload_n 0, 1) := by decide +kernel
theorem dX8_isNumber_26 : decode cX8_isNumber 26 = .ok (.bipush 10, 2) := by decide +kernel
theorem dX8_isNumber_28 : decode cX8_isNumber 28 = .ok (.aload_n 0, 1) := by decide +kernel
theorem dX8_isNumber_29 : decode cX8_isNumber 29 = .ok (.getfield 148, 3) := by decide +kernel
theorem dX8_isNumber_32 : decode cX8_isNumber 32 = .ok (.imul, 1) := by decide +kernel
theorem dX8_isNumber_33 : decode cX8_isNumber 33 = .ok (.aload_n 0, 1) := by decide +kernel
theorem dX8_isNumber_34 : decode cX8_isNumber 34 = .ok (.getfield 33, 3) := by decide +kernel
theorem dX8_isNumber_37 : decode cX8_isNumber 37 = .ok (.aload_n 0, 1) := by decide +kernel
theorem dX8_isNumber_38 : decode cX8_isNumber 38 = .ok (.getfield 145, 3) := by decide +kernel
theorem dX8_isNumber_41 : decode cX8_isNumber 41 = .ok (.iaload, 1) := by decide +kernel
theorem dX8_isNumber_42 : decode cX8_isNumber 42 = .ok (.iadd, 1) := by decide +kernel
theorem dX8_isNumber_43 : decode cX8_isNumber 43 = .ok (.bipush 48, 2) := by decide +kernel
theorem dX8_isNumber_45 : decode cX8_isNumber 45 = .ok (.isub, 1) := by decide +kernel
theorem dX8_isNumber_46 : decode cX8_isNumber 46 = .ok (.putfield 148, 3) := by decide +kernel
theorem dX8_isNumber_49 : decode cX8_isNumber 49 = .ok (.aload_n 0, 1) := by decide +kernel
theorem dX8_isNumber_50 : decode cX8_isNumber 50 = .ok (.dup, 1) := by decide +kernel
theorem dX8_isNumber_51 : decode cX8_isNumber 51 = .ok (.getfield 145, 3) := by decide +kernel
theorem dX8_isNumber_54 : decode cX8_isNumber 54 = .ok (.iconst 1, 1) := by decide +kernel
theorem dX8_isNumber_55 : decode cX8_isNumber 55 = .ok (.iadd, 1) := by decide +kernel
theorem dX8_isNumber_56 : decode cX8_isNumber 56 = .ok (.putfield 145, 3) := by decide +kernel
theorem dX8_isNumber_59 : decode cX8_isNumber 59 = .ok (.aload_n 0, 1) := by decide +kernel
theorem dX8_isNumber_60 : decode cX8_isNumber 60 = .ok (.dup, 1) := by decide +kernel
theorem dX8_isNumber_61 : decode cX8_isNumber 61 = .ok (.getfield 151, 3) := by decide +kernel
theorem dX8_isNumber_64 : decode cX8_isNumber 64 = .ok (.iconst 1, 1) := by decide +kernel
theorem dX8_isNumber_65 : decode cX8_isNumber 65 = .ok (.iadd, 1) := by decide +kernel
theorem dX8_isNumber_66 : decode cX8_isNumber 66 = .ok (.putfield 151, 3) := by decide +kernel
theorem dX8_isNumber_69 : decode cX8_isNumber 69 = .ok (.goto (-59), 3) := by decide +kernel
theorem dX8_isNumber_72 : decode cX8_isNumber 72 = .ok (.aload_n 0, 1) := by decide +kernel
theorem dX8_isNumber_73 : decode cX8_isNumber 73 = .ok (.getfield 151, 3) := by decide +kernel
theorem dX8_isNumber_76 : decode cX8_isNumber 76 = .ok (.ifCond .le 7, 3) := by decide +kernel
theorem dX8_isNumber_79 : decode cX8_isNumber 79 = .ok (.iconst 1, 1) := by decide +kernel
theorem dX8_isNumber_80 : decode cX8_isNumber 80 = .ok (.goto 4, 3) := by decide +kernel
theorem dX8_isNumber_83 : decode cX8_isNumber 83 = .ok (.iconst 0, 1) := by decide +kernel
theorem dX8_isNumber_84 : decode cX8_isNumber 84 = .ok (.ireturn, 1) := by decide +kernel
theorem dX8_isAll_0 : decode cX8_isAll 0 = .ok (.iconst 0, 1) := by decide +kernel
theorem dX8_isAll_1 : decode cX8_isAll 1 = .ok (.istore_n 2, 1) := by decide +kernel
theorem dX8_isAll_2 : decode cX8_isAll 2 = .ok (.iload_n 2, 1) := by decide +kernel
theorem dX8_isAll_3 : decode cX8_isAll 3 = .ok (.aload_n 1, 1) := by decide +kernel
theorem dX8_isAll_4 : decode cX8_isAll 4 = .ok (.invokevirtual 158, 3) := by decide +kernel
theorem dX8_isAll_7 : decode cX8_isAll 7 = .ok (.if_icmp .ge 23, 3) := by decide +kernel
theorem dX8_isAll_10 : decode cX8_isAll 10 = .ok (.aload_n 0, 1) := by decide +kernel
theorem dX8_isAll_11 : decode cX8_isAll 11 = .ok (.aload_n 1, 1) := by decide +kernel
theorem dX8_isAll_12 : decode cX8_isAll 12 = .ok (.iload_n 2, 1) := by decide +kernel
theorem dX8_isAll_13 : decode cX8_isAll 13 = .ok (.invokevirtual 163, 3) := by decide +kernel
theorem dX8_isAll_16 : decode cX8_isAll 16 = .ok (.invokevirtual 167, 3) := by decide +kernel
theorem dX8_isAll_19 : decode cX8_isAll 19 = .ok (.ifCond .ne 5, 3) := by decide +kernel
theorem dX8_isAll_22 : decode cX8_isAll 22 = .ok (.iconst 0, 1) := by decide +kernel
theorem dX8_isAll_23 : decode cX8_isAll 23 = .ok (.ireturn, 1) := by decide +kernel
theorem dX8_isAll_24 : decode cX8_isAll 24 = .ok (.iinc 2 1, 3) := by decide +kernel
theorem dX8_isAll_27 : decode cX8_isAll 27 = .ok (.goto (-25), 3) := by decide +kernel
theorem dX8_isAll_30 : decode cX8_isAll 30 = .ok (.iconst 1, 1) := by decide +kernel
theorem dX8_isAll_31 : decode cX8_isAll 31 = .ok (.ireturn, 1) := by decide +kernel
theorem dX8_codes_0 : decode cX8_codes 0 = .ok (.aload_n 0, 1) := by decide +kernel
theorem dX8_codes_1 : decode cX8_codes 1 = .ok (.getfield 51, 3) := by decide +kernel
theorem dX8_codes_4 : decode cX8_codes 4 = .ok (.aload_n 0, 1) := by decide +kernel
theorem dX8_codes_5 : decode cX8_codes 5 = .ok (.dup, 1) := by decide +kernel
theorem dX8_codes_6 : decode cX8_codes 6 = .ok (.getfield 170, 3) := by decide +kernel
theorem dX8_codes_9 : decode cX8_codes 9 = .ok (.dup_x1, 1) := by decide +kernel
theorem dX8_codes_10 : decode cX8_codes 10 = .ok (.iconst 1, 1) := by decide +kernel
theorem dX8_codes_11 : decode cX8_codes 11 = .ok (.iadd, 1) := by decide +kernel
theorem dX8_codes_12 : decode cX8_codes 12 = .ok (.putfield 170, 3) := by decide +kernel
theorem dX8_codes_15 : decode cX8_codes 15 = .ok (.iload_n 1, 1) := by decide +kernel
theorem dX8_codes_16 : decode cX8_codes 16 = .ok (.iastore, 1) := by decide +kernel
theorem dX8_codes_17 : decode cX8_codes 17 = .ok (.iconst 1, 1) := by decide +kernel
theorem dX8_codes_18 : decode cX8_codes 18 = .ok (.ireturn, 1) := by decide +kernel
theorem dX8_isTest_0 : decode cX8_isTest 0 = .ok (.aload_n 0, 1) := by decide +kernel
theorem dX8_isTest_1 : decode cX8_isTest 1 = .ok (.getfield 145, 3) := by decide +kernel
theorem dX8_isTest_4 : decode cX8_isTest 4 = .ok (.aload_n 0, 1) := by decide +kernel
theorem dX8_isTest_5 : decode cX8_isTest 5 = .ok (.getfield 142, 3) := by decide +kernel
theorem dX8_isTest_8 : decode cX8_isTest 8 = .ok (.if_icmp .ge 32, 3) := by decide +kernel
theorem dX8_isTest_11 : decode cX8_isTest 11 = .ok (.aload_n 0, 1) := by decide +kernel
theorem dX8_isTest_12 : decode cX8_isTest 12 = .ok (.getfield 33, 3) := by decide +kernel
theorem dX8_isTest_15 : decode cX8_isTest 15 = .ok (.aload_n 0, 1) := by decide +kernel
theorem dX8_isTest_16 : decode cX8_isTest 16 = .ok (.getfield 145, 3) := by decide +kernel
theorem dX8_isTest_19 : decode cX8_isTest 19 = .ok (.iaload, 1) := by decide +kernel
theorem dX8_isTest_20 : decode cX8_isTest 20 = .ok (.ifCond .le 20, 3) := by decide +kernel
theorem dX8_isTest_23 : decode cX8_isTest 23 = .ok (.ldc 173, 2) := by decide +kernel
theorem dX8_isTest_25 : decode cX8_isTest 25 = .ok (.aload_n 0, 1) := by decide +kernel
theorem dX8_isTest_26 : decode cX8_isTest 26 = .ok (.getfield 33, 3) := by decide +kernel
theorem dX8_isTest_29 : decode cX8_isTest 29 = .ok (.aload_n 0, 1) := by decide +kernel
theorem dX8_isTest_30 : decode cX8_isTest 30 = .ok (.getfield 145, 3) := by decide +kernel
theorem dX8_isTest_33 : decode cX8_isTest 33 = .ok (.iaload, 1) := by decide +kernel
theorem dX8_isTest_34 : decode cX8_isTest 34 = .ok (.invokevirtual 175, 3) := by decide +kernel
theorem dX8_isTest_37 : decode cX8_isTest 37 = .ok (.goto 4, 3) := by decide +kernel
theorem dX8_isTest_40 : decode cX8_isTest 40 = .ok (.iconst (-1), 1) := by decide +kernel
theorem dX8_isTest_41 : decode cX8_isTest 41 = .ok (.istore_n 1, 1) := by decide +kernel
theorem dX8_isTest_42 : decode cX8_isTest 42 = .ok (.iload_n 1, 1) := by decide +kernel
theorem dX8_isTest_43 : decode cX8_isTest 43 = .ok (.ifCond .ge 5, 3) := by decide +kernel
theorem dX8_isTest_46 : decode cX8_isTest 46 = .ok (.iconst 0, 1) := by decide +kernel
theorem dX8_isTest_47 : decode cX8_isTest 47 = .ok (.ireturn, 1) := by decide +kernel
theorem dX8_isTest_48 : decode cX8_isTest 48 = .ok (.aload_n 0, 1) := by decide +kernel
theorem dX8_isTest_49 : decode cX8_isTest 49 = .ok (.dup, 1) := by decide +kernel
theorem dX8_isTest_50 : decode cX8_isTest 50 = .ok (.getfield 145, 3) := by decide +kernel
theorem dX8_isTest_53 : decode cX8_isTest 53 = .ok (.iconst 1, 1) := by decide +kernel
theorem dX8_isTest_54 : decode cX8_isTest 54 = .ok (.iadd, 1) := by decide +kernel
theorem dX8_isTest_55 : decode cX8_isTest 55 = .ok (.putfield 145, 3) := by decide +kernel
theorem dX8_isTest_58 : decode cX8_isTest 58 = .ok (.aload_n 0, 1) := by decide +kernel
theorem dX8_isTest_59 : decode cX8_isTest 59 = .ok (.getfield 145, 3) := by decide +kernel
theorem dX8_isTest_62 : decode cX8_isTest 62 = .ok (.aload_n 0, 1) := by decide +kernel
theorem dX8_isTest_63 : decode cX8_isTest 63 = .ok (.getfield 142, 3) := by decide +kernel
theorem dX8_isTest_66 : decode cX8_isTest 66 = .ok (.if_icmp .ge 32, 3) := by decide +kernel
theorem dX8_isTest_69 : decode cX8_isTest 69 = .ok (.aload_n 0, 1) := by decide +kernel
theorem dX8_isTest_70 : decode cX8_isTest 70 = .ok (.getfield 33, 3) := by decide +kernel
theorem dX8_isTest_73 : decode cX8_isTest 73 = .ok (.aload_n 0, 1) := by decide +kernel
theorem dX8_isTest_74 : decode cX8_isTest 74 = .ok (.getfield 145, 3) := by decide +kernel
theorem dX8_isTest_77 : decode cX8_isTest 77 = .ok (.iaload, 1) := by decide +kernel
theorem dX8_isTest_78 : decode cX8_isTest 78 = .ok (.ifCond .le 20, 3) := by decide +kernel
theorem dX8_isTest_81 : decode cX8_isTest 81 = .ok (.ldc 178, 2) := by decide +kernel
theorem dX8_isTest_83 : decode cX8_isTest 83 = .ok (.aload_n 0, 1) := by decide +kernel
theorem dX8_isTest_84 : decode cX8_isTest 84 = .ok (.getfield 33, 3) := by decide +kernel
theorem dX8_isTest_87 : decode cX8_isTest 87 = .ok (.aload_n 0, 1) := by decide +kernel
theorem dX8_isTest_88 : decode cX8_isTest 88 = .ok (.getfield 145, 3) := by decide +kernel
theorem dX8_isTest_91 : decode cX8_isTest 91 = .ok (.iaload, 1) := by decide +kernel
theorem dX8_isTest_92 : decode cX8_isTest 92 = .ok (.invokevirtual 175, 3) := by decide +kernel
theorem dX8_isTest_95 : decode cX8_isTest 95 = .ok (.goto 4, 3) := by decide +kernel
theorem dX8_isTest_98 : decode cX8_isTest 98 = .ok (.iconst (-1), 1) := by decide +kernel
theorem dX8_isTest_99 : decode cX8_isTest 99 = .ok (.istore_n 2, 1) := by decide +kernel
theorem dX8_isTest_100 : decode cX8_isTest 100 = .ok (.iload_n 2, 1) := by decide +kernel
theorem dX8_isTest_101 : decode cX8_isTest 101 = .ok (.ifCond .ge 5, 3) := by decide +kernel
theorem dX8_isTest_104 : decode cX8_isTest 104 = .ok (.iconst 0, 1) := by decide +kernel
theorem dX8_isTest_105 : decode cX8_isTest 105 = .ok (.ireturn, 1) := by decide +kernel
theorem dX8_isTest_106 : decode cX8_isTest 106 = .ok (.aload_n 0, 1) := by decide +kernel
theorem dX8_isTest_107 : decode cX8_isTest 107 = .ok (.dup, 1) := by decide +kernel
theorem dX8_isTest_108 : decode cX8_isTest 108 = .ok (.getfield 145, 3) := by decide +kernel
theorem dX8_isTest_111 : decode cX8_isTest 111 = .ok (.iconst 1, 1) := by decide +kernel
theorem dX8_isTest_112 : decode cX8_isTest 112 = .ok (.iadd, 1) := by decide +kernel
theorem dX8_isTest_113 : decode cX8_isTest 113 = .ok (.putfield 145, 3) := by decide +kernel
theorem dX8_isTest_116 : decode cX8_isTest 116 = .ok (.aload_n 0, 1) := by decide +kernel
theorem dX8_isTest_117 : decode cX8_isTest 117 = .ok (.invokevirtual 180, 3) := by decide +kernel
theorem dX8_isTest_120 : decode cX8_isTest 120 = .ok (.ifCond .eq 31, 3) := by decide +kernel
theorem dX8_isTest_123 : decode cX8_isTest 123 = .ok (.aload_n 0, 1) := by decide +kernel
theorem dX8_isTest_124 : decode cX8_isTest 124 = .ok (.iconst 3, 1) := by decide +kernel
theorem dX8_isTest_125 : decode cX8_isTest 125 = .ok (.sipush 300, 3) := by decide +kernel
theorem dX8_isTest_128 : decode cX8_isTest 128 = .ok (.iload_n 1, 1) := by decide +kernel
theorem dX8_isTest_129 : decode cX8_isTest 129 = .ok (.imul, 1) := by decide +kernel
theorem dX8_isTest_130 : decode cX8_isTest 130 = .ok (.iadd, 1) := by decide +kernel
theorem dX8_isTest_131 : decode cX8_isTest 131 = .ok (.bipush 100, 2) := by decide +kernel
theorem dX8_isTest_133 : decode cX8_isTest 133 = .ok (.iload_n 2, 1) := by decide +kernel
theorem dX8_isTest_134 : decode cX8_isTest 134 = .ok (.imul, 1) := by decide +kernel
theorem dX8_isTest_135 : decode cX8_isTest 135 = .ok (.iadd, 1) := by decide +kernel
theorem dX8_isTest_136 : decode cX8_isTest 136 = .ok (.aload_n 0, 1) := by decide +kernel
theorem dX8_isTest_137 : decode cX8_isTest 137 = .ok (.getfield 148, 3) := by decide +kernel
theorem dX8_isTest_140 : decode cX8_isTest 140 = .ok (.iadd, 1) := by decide +kernel
theorem dX8_isTest_141 : decode cX8_isTest 141 = .ok (.invokevirtual 183, 3) := by decide +kernel
theorem dX8_isTest_144 : decode cX8_isTest 144 = .ok (.ifCond .eq 7, 3) := by decide +kernel
theorem dX8_isTest_147 : decode cX8_isTest 147 = .ok (.iconst 1, 1) := by decide +kernel
theorem dX8_isTest_148 : decode cX8_isTest 148 = .ok (.goto 4, 3) := by decide +kernel
theorem dX8_isTest_151 : decode cX8_isTest 151 = .ok (.iconst 0, 1) := by decide +kernel
theorem dX8_isTest_152 : decode cX8_isTest 152 = .ok (.ireturn, 1) := by decide +kernel
theorem dX8_opens_0 : decode cX8_opens 0 = .ok (.aload_n 0, 1) := by decide +kernel
theorem dX8_opens_1 : decode cX8_opens 1 = .ok (.getfield 186, 3) := by decide +kernel
theorem dX8_opens_4 : decode cX8_opens 4 = .ok (.iconst 4, 1) := by decide +kernel
theorem dX8_opens_5 : decode cX8_opens 5 = .ok (.if_icmp .eq 11, 3) := by decide +kernel
theorem dX8_opens_8 : decode cX8_opens 8 = .ok (.aload_n 0, 1) := by decide +kernel
theorem dX8_opens_9 : decode cX8_opens 9 = .ok (.iload_n 1, 1) := by decide +kernel
theorem dX8_opens_10 : decode cX8_opens 10 = .ok (.invokevirtual 167, 3) := by decide +kernel
theorem dX8_opens_13 : decode cX8_opens 13 = .ok (.ifCond .ne 5, 3) := by decide +kernel
theorem dX8_opens_16 : decode cX8_opens 16 = .ok (.iconst 0, 1) := by decide +kernel
theorem dX8_opens_17 : decode cX8_opens 17 = .ok (.ireturn, 1) := by decide +kernel
theorem dX8_opens_18 : decode cX8_opens 18 = .ok (.aload_n 0, 1) := by decide +kernel
theorem dX8_opens_19 : decode cX8_opens 19 = .ok (.dup, 1) := by decide +kernel
theorem dX8_opens_20 : decode cX8_opens 20 = .ok (.getfield 186, 3) := by decide +kernel
theorem dX8_opens_23 : decode cX8_opens 23 = .ok (.iconst 1, 1) := by decide +kernel
theorem dX8_opens_24 : decode cX8_opens 24 = .ok (.iadd, 1) := by decide +kernel
theorem dX8_opens_25 : decode cX8_opens 25 = .ok (.putfield 186, 3) := by decide +kernel
theorem dX8_opens_28 : decode cX8_opens 28 = .ok (.iconst 1, 1) := by decide +kernel
theorem dX8_opens_29 : decode cX8_opens 29 = .ok (.ireturn, 1) := by decide +kernel
theorem dX8_isF_0 : decode cX8_isF 0 = .ok (.aload_n 0, 1) := by decide +kernel
theorem dX8_isF_1 : decode cX8_isF 1 = .ok (.bipush 33, 2) := by decide +kernel
theorem dX8_isF_3 : decode cX8_isF 3 = .ok (.invokevirtual 189, 3) := by decide +kernel
theorem dX8_isF_6 : decode cX8_isF 6 = .ok (.ifCond .eq 27, 3) := by decide +kernel
theorem dX8_isF_9 : decode cX8_isF 9 = .ok (.aload_n 0, 1) := by decide +kernel
theorem dX8_isF_10 : decode cX8_isF 10 = .ok (.invokevirtual 192, 3) := by decide +kernel
theorem dX8_isF_13 : decode cX8_isF 13 = .ok (.ifCond .eq 15, 3) := by decide +kernel
theorem dX8_isF_16 : decode cX8_isF 16 = .ok (.aload_n 0, 1) := by decide +kernel
theorem dX8_isF_17 : decode cX8_isF 17 = .ok (.iconst 2, 1) := by decide +kernel
theorem dX8_isF_18 : decode cX8_isF 18 = .ok (.invokevirtual 183, 3) := by decide +kernel
theorem dX8_isF_21 : decode cX8_isF 21 = .ok (.ifCond .eq 7, 3) := by decide +kernel
theorem dX8_isF_24 : decode cX8_isF 24 = .ok (.iconst 1, 1) := by decide +kernel
theorem dX8_isF_25 : decode cX8_isF 25 = .ok (.goto 4, 3) := by decide +kernel
theorem dX8_isF_28 : decode cX8_isF 28 = .ok (.iconst 0, 1) := by decide +kernel
theorem dX8_isF_29 : decode cX8_isF 29 = .ok (.istore_n 1, 1) := by decide +kernel
theorem dX8_isF_30 : decode cX8_isF 30 = .ok (.goto 42, 3) := by decide +kernel
theorem dX8_isF_33 : decode cX8_isF 33 = .ok (.aload_n 0, 1) := by decide +kernel
theorem dX8_isF_34 : decode cX8_isF 34 = .ok (.bipush 40, 2) := by decide +kernel
theorem dX8_isF_36 : decode cX8_isF 36 = .ok (.invokevirtual 189, 3) := by decide +kernel
theorem dX8_isF_39 : decode cX8_isF 39 = .ok (.ifCond .eq 28, 3) := by decide +kernel
theorem dX8_isF_42 : decode cX8_isF 42 = .ok (.aload_n 0, 1) := by decide +kernel
theorem dX8_isF_43 : decode cX8_isF 43 = .ok (.invokevirtual 195, 3) := by decide +kernel
theorem dX8_isF_46 : decode cX8_isF 46 = .ok (.ifCond .eq 16, 3) := by decide +kernel
theorem dX8_isF_49 : decode cX8_isF 49 = .ok (.aload_n 0, 1) := by decide +kernel
theorem dX8_isF_50 : decode cX8_isF 50 = .ok (.bipush 41, 2) := by decide +kernel
theorem dX8_isF_52 : decode cX8_isF 52 = .ok (.invokevirtual 167, 3) := by decide +kernel
theorem dX8_isF_55 : decode cX8_isF 55 = .ok (.ifCond .eq 7, 3) := by decide +kernel
theorem dX8_isF_58 : decode cX8_isF 58 = .ok (.iconst 1, 1) := by decide +kernel
theorem dX8_isF_59 : decode cX8_isF 59 = .ok (.goto 4, 3) := by decide +kernel
theorem dX8_isF_62 : decode cX8_isF 62 = .ok (.iconst 0, 1) := by decide +kernel
theorem dX8_isF_63 : decode cX8_isF 63 = .ok (.istore_n 1, 1) := by decide +kernel
theorem dX8_isF_64 : decode cX8_isF 64 = .ok (.goto 8, 3) := by decide +kernel
theorem dX8_isF_67 : decode cX8_isF 67 = .ok (.aload_n 0, 1) := by decide +kernel
theorem dX8_isF_68 : decode cX8_isF 68 = .ok (.invokevirtual 198, 3) := by decide +kernel
theorem dX8_isF_71 : decode cX8_isF 71 = .ok (.ireturn, 1) := by decide +kernel
theorem dX8_isF_72 : decode cX8_isF 72 = .ok (.aload_n 0, 1) := by decide +kernel
theorem dX8_isF_73 : decode cX8_isF 73 = .ok (.dup, 1) := by decide +kernel
theorem dX8_isF_74 : decode cX8_isF 74 = .ok (.getfield 186, 3) := by decide +kernel
theorem dX8_isF_77 : decode cX8_isF 77 = .ok (.iconst 1, 1) := by decide +kernel
theorem dX8_isF_78 : decode cX8_isF 78 = .ok (.isub, 1) := by decide +kernel
theorem dX8_isF_79 : decode cX8_isF 79 = .ok (.putfield 186, 3) := by decide +kernel
theorem dX8_isF_82 : decode cX8_isF 82 = .ok (.iload_n 1, 1) := by decide +kernel
theorem dX8_isF_83 : decode cX8_isF 83 = .ok (.ireturn, 1) := by decide +kernel
theorem dX8_isT_0 : decode cX8_isT 0 = .ok (.aload_n 0, 1) := by decide +kernel
theorem dX8_isT_1 : decode cX8_isT 1 = .ok (.invokevirtual 192, 3) := by decide +kernel
theorem dX8_isT_4 : decode cX8_isT 4 = .ok (.ifCond .ne 5, 3) := by decide +kernel
theorem dX8_isT_7 : decode cX8_isT 7 = .ok (.iconst 0, 1) := by decide +kernel
theorem dX8_isT_8 : decode cX8_isT 8 = .ok (.ireturn, 1) := by decide +kernel
theorem dX8_isT_9 : decode cX8_isT 9 = .ok (.aload_n 0, 1) := by decide +kernel
theorem dX8_isT_10 : decode cX8_isT 10 = .ok (.bipush 38, 2) := by decide +kernel
theorem dX8_isT_12 : decode cX8_isT 12 = .ok (.invokevirtual 167, 3) := by decide +kernel
theorem dX8_isT_15 : decode cX8_isT 15 = .ok (.ifCond .eq 20, 3) := by decide +kernel
theorem dX8_isT_18 : decode cX8_isT 18 = .ok (.aload_n 0, 1) := by decide +kernel
theorem dX8_isT_19 : decode cX8_isT 19 = .ok (.invokevirtual 192, 3) := by decide +kernel
theorem dX8_isT_22 : decode cX8_isT 22 = .ok (.ifCond .eq 11, 3) := by decide +kernel
theorem dX8_isT_25 : decode cX8_isT 25 = .ok (.aload_n 0, 1) := by decide +kernel
theorem dX8_isT_26 : decode cX8_isT 26 = .ok (.iconst 0, 1) := by decide +kernel
theorem dX8_isT_27 : decode cX8_isT 27 = .ok (.invokevirtual 183, 3) := by decide +kernel
theorem dX8_isT_30 : decode cX8_isT 30 = .ok (.ifCond .ne (-21), 3) := by decide +kernel
theorem dX8_isT_33 : decode cX8_isT 33 = .ok (.iconst 0, 1) := by decide +kernel
theorem dX8_isT_34 : decode cX8_isT 34 = .ok (.ireturn, 1) := by decide +kernel
theorem dX8_isT_35 : decode cX8_isT 35 = .ok (.iconst 1, 1) := by decide +kernel
theorem dX8_isT_36 : decode cX8_isT 36 = .ok (.ireturn, 1) := by decide +kernel
theorem dX8_isE_0 : decode cX8_isE 0 = .ok (.aload_n 0, 1) := by decide +kernel
theorem dX8_isE_1 : decode cX8_isE 1 = .ok (.invokevirtual 201, 3) := by decide +kernel
theorem dX8_isE_4 : decode cX8_isE 4 = .ok (.ifCond .ne 5, 3) := by decide +kernel
theorem dX8_isE_7 : decode cX8_isE 7 = .ok (.iconst 0, 1) := by decide +kernel
theorem dX8_isE_8 : decode cX8_isE 8 = .ok (.ireturn, 1) := by decide +kernel
theorem dX8_isE_9 : decode cX8_isE 9 = .ok (.aload_n 0, 1) := by decide +kernel
theorem dX8_isE_10 : decode cX8_isE 10 = .ok (.bipush 124, 2) := by decide +kernel
theorem dX8_isE_12 : decode cX8_isE 12 = .ok (.invokevirtual 167, 3) := by decide +kernel
theorem dX8_isE_15 : decode cX8_isE 15 = .ok (.ifCond .eq 20, 3) := by decide +kernel
theorem dX8_isE_18 : decode cX8_isE 18 = .ok (.aload_n 0, 1) := by decide +kernel
theorem dX8_isE_19 : decode cX8_isE 19 = .ok (.invokevirtual 201, 3) := by decide +kernel
theorem dX8_isE_22 : decode cX8_isE 22 = .ok (.ifCond .eq 11, 3) := by decide +kernel
theorem dX8_isE_25 : decode cX8_isE 25 = .ok (.aload_n 0, 1) := by decide +kernel
theorem dX8_isE_26 : decode cX8_isE 26 = .ok (.iconst 1, 1) := by decide +kernel
theorem dX8_isE_27 : decode cX8_isE 27 = .ok (.invokevirtual 183, 3) := by decide +kernel
theorem dX8_isE_30 : decode cX8_isE 30 = .ok (.ifCond .ne (-21), 3) := by decide +kernel
theorem dX8_isE_33 : decode cX8_isE 33 = .ok (.iconst 0, 1) := by decide +kernel
theorem dX8_isE_34 : decode cX8_isE 34 = .ok (.ireturn, 1) := by decide +kernel
theorem dX8_isE_35 : decode cX8_isE 35 = .ok (.iconst 1, 1) := by decide +kernel
theorem dX8_isE_36 : decode cX8_isE 36 = .ok (.ireturn, 1) := by decide +kernel
theorem dX8_isClause_0 : decode cX8_isClause 0 = .ok (.iconst (-1), 1) := by decide +kernel
theorem dX8_isClause_1 : decode cX8_isClause 1 = .ok (.istore_n 2, 1) := by decide +kernel
theorem dX8_isClause_2 : decode cX8_isClause 2 = .ok (.aload_n 0, 1) := by decide +kernel
theorem dX8_isClause_3 : decode cX8_isClause 3 = .ok (.getfield 145, 3) := by decide +kernel
theorem dX8_isClause_6 : decode cX8_isClause 6 = .ok (.aload_n 0, 1) := by decide +kernel
theorem dX8_isClause_7 : decode cX8_isClause 7 = .ok (.getfield 142, 3) := by decide +kernel
theorem dX8_isClause_10 : decode cX8_isClause 10 = .ok (.if_icmp .ge 77, 3) := by decide +kernel
theorem dX8_isClause_13 : decode cX8_isClause 13 = .ok (.aload_n 0, 1) := by decide +kernel
theorem dX8_isClause_14 : decode cX8_isClause 14 = .ok (.getfield 33, 3) := by decide +kernel
theorem dX8_isClause_17 : decode cX8_isClause 17 = .ok (.aload_n 0, 1) := by decide +kernel
theorem dX8_isClause_18 : decode cX8_isClause 18 = .ok (.getfield 145, 3) := by decide +kernel
theorem dX8_isClause_21 : decode cX8_isClause 21 = .ok (.iaload, 1) := by decide +kernel
theorem dX8_isClause_22 : decode cX8_isClause 22 = .ok (.bipush 111, 2) := by decide +kernel
theorem dX8_isClause_24 : decode cX8_isClause 24 = .ok (.if_icmp .ne 7, 3) := by decide +kernel
theorem dX8_isClause_27 : decode cX8_isClause 27 = .ok (.iconst 0, 1) := by decide +kernel
theorem dX8_isClause_28 : decode cX8_isClause 28 = .ok (.goto 58, 3) := by decide +kernel
theorem dX8_isClause_31 : decode cX8_isClause 31 = .ok (.aload_n 0, 1) := by decide +kernel
theorem dX8_isClause_32 : decode cX8_isClause 32 = .ok (.getfield 33, 3) := by decide +kernel
theorem dX8_isClause_35 : decode cX8_isClause 35 = .ok (.aload_n 0, 1) := by decide +kernel
theorem dX8_isClause_36 : decode cX8_isClause 36 = .ok (.getfield 145, 3) := by decide +kernel
theorem dX8_isClause_39 : decode cX8_isClause 39 = .ok (.iaload, 1) := by decide +kernel
theorem dX8_isClause_40 : decode cX8_isClause 40 = .ok (.bipush 99, 2) := by decide +kernel
theorem dX8_isClause_42 : decode cX8_isClause 42 = .ok (.if_icmp .ne 7, 3) := by decide +kernel
theorem dX8_isClause_45 : decode cX8_isClause 45 = .ok (.iconst 2, 1) := by decide +kernel
theorem dX8_isClause_46 : decode cX8_isClause 46 = .ok (.goto 40, 3) := by decide +kernel
theorem dX8_isClause_49 : decode cX8_isClause 49 = .ok (.aload_n 0, 1) := by decide +kernel
theorem dX8_isClause_50 : decode cX8_isClause 50 = .ok (.getfield 33, 3) := by decide +kernel
theorem dX8_isClause_53 : decode cX8_isClause 53 = .ok (.aload_n 0, 1) := by decide +kernel
theorem dX8_isClause_54 : decode cX8_isClause 54 = .ok (.getfield 145, 3) := by decide +kernel
theorem dX8_isClause_57 : decode cX8_isClause 57 = .ok (.iaload, 1) := by decide +kernel
theorem dX8_isClause_58 : decode cX8_isClause 58 = .ok (.bipush 112, 2) := by decide +kernel
theorem dX8_isClause_60 : decode cX8_isClause 60 = .ok (.if_icmp .ne 7, 3) := by decide +kernel
theorem dX8_isClause_63 : decode cX8_isClause 63 = .ok (.iconst 3, 1) := by decide +kernel
theorem dX8_isClause_64 : decode cX8_isClause 64 = .ok (.goto 22, 3) := by decide +kernel
theorem dX8_isClause_67 : decode cX8_isClause 67 = .ok (.aload_n 0, 1) := by decide +kernel
theorem dX8_isClause_68 : decode cX8_isClause 68 = .ok (.getfield 33, 3) := by decide +kernel
theorem dX8_isClause_71 : decode cX8_isClause 71 = .ok (.aload_n 0, 1) := by decide +kernel
theorem dX8_isClause_72 : decode cX8_isClause 72 = .ok (.getfield 145, 3) := by decide +kernel
theorem dX8_isClause_75 : decode cX8_isClause 75 = .ok (.iaload, 1) := by decide +kernel
theorem dX8_isClause_76 : decode cX8_isClause 76 = .ok (.bipush 115, 2) := by decide +kernel
theorem dX8_isClause_78 : decode cX8_isClause 78 = .ok (.if_icmp .ne 7, 3) := by decide +kernel
theorem dX8_isClause_81 : decode cX8_isClause 81 = .ok (.iconst 1, 1) := by decide +kernel
theorem dX8_isClause_82 : decode cX8_isClause 82 = .ok (.goto 4, 3) := by decide +kernel
theorem dX8_isClause_85 : decode cX8_isClause 85 = .ok (.iconst (-1), 1) := by decide +kernel
theorem dX8_isClause_86 : decode cX8_isClause 86 = .ok (.istore_n 2, 1) := by decide +kernel
theorem dX8_isClause_87 : decode cX8_isClause 87 = .ok (.iload_n 2, 1) := by decide +kernel
theorem dX8_isClause_88 : decode cX8_isClause 88 = .ok (.iconst 1, 1) := by decide +kernel
theorem dX8_isClause_89 : decode cX8_isClause 89 = .ok (.if_icmp .ne 34, 3) := by decide +kernel
theorem dX8_isClause_92 : decode cX8_isClause 92 = .ok (.aload_n 0, 1) := by decide +kernel
theorem dX8_isClause_93 : decode cX8_isClause 93 = .ok (.getfield 145, 3) := by decide +kernel
theorem dX8_isClause_96 : decode cX8_isClause 96 = .ok (.iconst 1, 1) := by decide +kernel
theorem dX8_isClause_97 : decode cX8_isClause 97 = .ok (.iadd, 1) := by decide +kernel
theorem dX8_isClause_98 : decode cX8_isClause 98 = .ok (.aload_n 0, 1) := by decide +kernel
theorem dX8_isClause_99 : decode cX8_isClause 99 = .ok (.getfield 142, 3) := by decide +kernel
theorem dX8_isClause_102 : decode cX8_isClause 102 = .ok (.if_icmp .ge 21, 3) := by decide +kernel
theorem dX8_isClause_105 : decode cX8_isClause 105 = .ok (.aload_n 0, 1) := by decide +kernel
theorem dX8_isClause_106 : decode cX8_isClause 106 = .ok (.getfield 33, 3) := by decide +kernel
theorem dX8_isClause_109 : decode cX8_isClause 109 = .ok (.aload_n 0, 1) := by decide +kernel
theorem dX8_isClause_110 : decode cX8_isClause 110 = .ok (.getfield 145, 3) := by decide +kernel
theorem dX8_isClause_113 : decode cX8_isClause 113 = .ok (.iconst 1, 1) := by decide +kernel
theorem dX8_isClause_114 : decode cX8_isClause 114 = .ok (.iadd, 1) := by decide +kernel
theorem dX8_isClause_115 : decode cX8_isClause 115 = .ok (.iaload, 1) := by decide +kernel
theorem dX8_isClause_116 : decode cX8_isClause 116 = .ok (.bipush 116, 2) := by decide +kernel
theorem dX8_isClause_118 : decode cX8_isClause 118 = .ok (.if_icmp .ne 5, 3) := by decide +kernel
theorem dX8_isClause_121 : decode cX8_isClause 121 = .ok (.iconst 4, 1) := by decide +kernel
theorem dX8_isClause_122 : decode cX8_isClause 122 = .ok (.istore_n 2, 1) := by decide +kernel
theorem dX8_isClause_123 : decode cX8_isClause 123 = .ok (.iload_n 2, 1) := by decide +kernel
theorem dX8_isClause_124 : decode cX8_isClause 124 = .ok (.ifCond .ne 12, 3) := by decide +kernel
theorem dX8_isClause_127 : decode cX8_isClause 127 = .ok (.aload_n 0, 1) := by decide +kernel
theorem dX8_isClause_128 : decode cX8_isClause 128 = .ok (.ldc 204, 2) := by decide +kernel
theorem dX8_isClause_130 : decode cX8_isClause 130 = .ok (.invokevirtual 206, 3) := by decide +kernel
theorem dX8_isClause_133 : decode cX8_isClause 133 = .ok (.goto 64, 3) := by decide +kernel
theorem dX8_isClause_136 : decode cX8_isClause 136 = .ok (.iload_n 2, 1) := by decide +kernel
theorem dX8_isClause_137 : decode cX8_isClause 137 = .ok (.iconst 1, 1) := by decide +kernel
theorem dX8_isClause_138 : decode cX8_isClause 138 = .ok (.if_icmp .ne 12, 3) := by decide +kernel
theorem dX8_isClause_141 : decode cX8_isClause 141 = .ok (.aload_n 0, 1) := by decide +kernel
theorem dX8_isClause_142 : decode cX8_isClause 142 = .ok (.ldc 210, 2) := by decide +kernel
theorem dX8_isClause_144 : decode cX8_isClause 144 = .ok (.invokevirtual 206, 3) := by decide +kernel
theorem dX8_isClause_147 : decode cX8_isClause 147 = .ok (.goto 50, 3) := by decide +kernel
theorem dX8_isClause_150 : decode cX8_isClause 150 = .ok (.iload_n 2, 1) := by decide +kernel
theorem dX8_isClause_151 : decode cX8_isClause 151 = .ok (.iconst 2, 1) := by decide +kernel
theorem dX8_isClause_152 : decode cX8_isClause 152 = .ok (.if_icmp .ne 12, 3) := by decide +kernel
theorem dX8_isClause_155 : decode cX8_isClause 155 = .ok (.aload_n 0, 1) := by decide +kernel
theorem dX8_isClause_156 : decode cX8_isClause 156 = .ok (.ldc 212, 2) := by decide +kernel
theorem dX8_isClause_158 : decode cX8_isClause 158 = .ok (.invokevirtual 206, 3) := by decide +kernel
theorem dX8_isClause_161 : decode cX8_isClause 161 = .ok (.goto 36, 3) := by decide +kernel
theorem dX8_isClause_164 : decode cX8_isClause 164 = .ok (.iload_n 2, 1) := by decide +kernel
theorem dX8_isClause_165 : decode cX8_isClause 165 = .ok (.iconst 3, 1) := by decide +kernel
theorem dX8_isClause_166 : decode cX8_isClause 166 = .ok (.if_icmp .ne 12, 3) := by decide +kernel
theorem dX8_isClause_169 : decode cX8_isClause 169 = .ok (.aload_n 0, 1) := by decide +kernel
theorem dX8_isClause_170 : decode cX8_isClause 170 = .ok (.ldc 214, 2) := by decide +kernel
theorem dX8_isClause_172 : decode cX8_isClause 172 = .ok (.invokevirtual 206, 3) := by decide +kernel
theorem dX8_isClause_175 : decode cX8_isClause 175 = .ok (.goto 22, 3) := by decide +kernel
theorem dX8_isClause_178 : decode cX8_isClause 178 = .ok (.iload_n 2, 1) := by decide +kernel
theorem dX8_isClause_179 : decode cX8_isClause 179 = .ok (.iconst 4, 1) := by decide +kernel
theorem dX8_isClause_180 : decode cX8_isClause 180 = .ok (.if_icmp .ne 16, 3) := by decide +kernel
theorem dX8_isClause_183 : decode cX8_isClause 183 = .ok (.aload_n 0, 1) := by decide +kernel
theorem dX8_isClause_184 : decode cX8_isClause 184 = .ok (.ldc 216, 2) := by decide +kernel
theorem dX8_isClause_186 : decode cX8_isClause 186 = .ok (.invokevirtual 206, 3) := by decide +kernel
theorem dX8_isClause_189 : decode cX8_isClause 189 = .ok (.ifCond .eq 7, 3) := by decide +kernel
theorem dX8_isClause_192 : decode cX8_isClause 192 = .ok (.iconst 1, 1) := by decide +kernel
theorem dX8_isClause_193 : decode cX8_isClause 193 = .ok (.goto 4, 3) := by decide +kernel
theorem dX8_isClause_196 : decode cX8_isClause 196 = .ok (.iconst 0, 1) := by decide +kernel
theorem dX8_isClause_197 : decode cX8_isClause 197 = .ok (.istore_n 3, 1) := by decide +kernel
theorem dX8_isClause_198 : decode cX8_isClause 198 = .ok (.iload_n 3, 1) := by decide +kernel
theorem dX8_isClause_199 : decode cX8_isClause 199 = .ok (.ifCond .eq 10, 3) := by decide +kernel
theorem dX8_isClause_202 : decode cX8_isClause 202 = .ok (.aload_n 0, 1) := by decide +kernel
theorem dX8_isClause_203 : decode cX8_isClause 203 = .ok (.invokevirtual 180, 3) := by decide +kernel
theorem dX8_isClause_206 : decode cX8_isClause 206 = .ok (.ifCond .ne 5, 3) := by decide +kernel
theorem dX8_isClause_209 : decode cX8_isClause 209 = .ok (.iconst 0, 1) := by decide +kernel
theorem dX8_isClause_210 : decode cX8_isClause 210 = .ok (.ireturn, 1) := by decide +kernel
theorem dX8_isClause_211 : decode cX8_isClause 211 = .ok (.aload_n 0, 1) := by decide +kernel
theorem dX8_isClause_212 : decode cX8_isClause 212 = .ok (.getfield 39, 3) := by decide +kernel
theorem dX8_isClause_215 : decode cX8_isClause 215 = .ok (.iload_n 1, 1) := by decide +kernel
theorem dX8_isClause_216 : decode cX8_isClause 216 = .ok (.iload_n 2, 1) := by decide +kernel
theorem dX8_isClause_217 : decode cX8_isClause 217 = .ok (.iastore, 1) := by decide +kernel
theorem dX8_isClause_218 : decode cX8_isClause 218 = .ok (.aload_n 0, 1) := by decide +kernel
theorem dX8_isClause_219 : decode cX8_isClause 219 = .ok (.getfield 42, 3) := by decide +kernel
theorem dX8_isClause_222 : decode cX8_isClause 222 = .ok (.iload_n 1, 1) := by decide +kernel
theorem dX8_isClause_223 : decode cX8_isClause 223 = .ok (.aload_n 0, 1) := by decide +kernel
theorem dX8_isClause_224 : decode cX8_isClause 224 = .ok (.getfield 148, 3) := by decide +kernel
theorem dX8_isClause_227 : decode cX8_isClause 227 = .ok (.iastore, 1) := by decide +kernel
theorem dX8_isClause_228 : decode cX8_isClause 228 = .ok (.aload_n 0, 1) := by decide +kernel
theorem dX8_isClause_229 : decode cX8_isClause 229 = .ok (.getfield 45, 3) := by decide +kernel
theorem dX8_isClause_232 : decode cX8_isClause 232 = .ok (.iload_n 1, 1) := by decide +kernel
theorem dX8_isClause_233 : decode cX8_isClause 233 = .ok (.aload_n 0, 1) := by decide +kernel
theorem dX8_isClause_234 : decode cX8_isClause 234 = .ok (.getfield 170, 3) := by decide +kernel
theorem dX8_isClause_237 : decode cX8_isClause 237 = .ok (.iastore, 1) := by decide +kernel
theorem dX8_isClause_238 : decode cX8_isClause 238 = .ok (.aload_n 0, 1) := by decide +kernel
theorem dX8_isClause_239 : decode cX8_isClause 239 = .ok (.iconst 0, 1) := by decide +kernel
theorem dX8_isClause_240 : decode cX8_isClause 240 = .ok (.putfield 186, 3) := by decide +kernel
theorem dX8_isClause_243 : decode cX8_isClause 243 = .ok (.iload_n 2, 1) := by decide +kernel
theorem dX8_isClause_244 : decode cX8_isClause 244 = .ok (.iconst 2, 1) := by decide +kernel
theorem dX8_isClause_245 : decode cX8_isClause 245 = .ok (.if_icmp .ge 21, 3) := by decide +kernel
theorem dX8_isClause_248 : decode cX8_isClause 248 = .ok (.aload_n 0, 1) := by decide +kernel
theorem dX8_isClause_249 : decode cX8_isClause 249 = .ok (.bipush 32, 2) := by decide +kernel
theorem dX8_isClause_251 : decode cX8_isClause 251 = .ok (.invokevirtual 167, 3) := by decide +kernel
theorem dX8_isClause_254 : decode cX8_isClause 254 = .ok (.ifCond .eq 10, 3) := by decide +kernel
theorem dX8_isClause_257 : decode cX8_isClause 257 = .ok (.aload_n 0, 1) := by decide +kernel
theorem dX8_isClause_258 : decode cX8_isClause 258 = .ok (.invokevirtual 195, 3) := by decide +kernel
theorem dX8_isClause_261 : decode cX8_isClause 261 = .ok (.ifCond .ne 5, 3) := by decide +kernel
theorem dX8_isClause_264 : decode cX8_isClause 264 = .ok (.iconst 0, 1) := by decide +kernel
theorem dX8_isClause_265 : decode cX8_isClause 265 = .ok (.ireturn, 1) := by decide +kernel
theorem dX8_isClause_266 : decode cX8_isClause 266 = .ok (.aload_n 0, 1) := by decide +kernel
theorem dX8_isClause_267 : decode cX8_isClause 267 = .ok (.getfield 48, 3) := by decide +kernel
theorem dX8_isClause_270 : decode cX8_isClause 270 = .ok (.iload_n 1, 1) := by decide +kernel
theorem dX8_isClause_271 : decode cX8_isClause 271 = .ok (.aload_n 0, 1) := by decide +kernel
theorem dX8_isClause_272 : decode cX8_isClause 272 = .ok (.getfield 170, 3) := by decide +kernel
theorem dX8_isClause_275 : decode cX8_isClause 275 = .ok (.aload_n 0, 1) := by decide +kernel
theorem dX8_isClause_276 : decode cX8_isClause 276 = .ok (.getfield 45, 3) := by decide +kernel
theorem dX8_isClause_279 : decode cX8_isClause 279 = .ok (.iload_n 1, 1) := by decide +kernel
theorem dX8_isClause_280 : decode cX8_isClause 280 = .ok (.iaload, 1) := by decide +kernel
theorem dX8_isClause_281 : decode cX8_isClause 281 = .ok (.isub, 1) := by decide +kernel
theorem dX8_isClause_282 : decode cX8_isClause 282 = .ok (.iastore, 1) := by decide +kernel
theorem dX8_isClause_283 : decode cX8_isClause 283 = .ok (.iconst 1, 1) := by decide +kernel
theorem dX8_isClause_284 : decode cX8_isClause 284 = .ok (.ireturn, 1) := by decide +kernel
theorem dX8_land_0 : decode cX8_land 0 = .ok (.aload_n 0, 1) := by decide +kernel
theorem dX8_land_1 : decode cX8_land 1 = .ok (.getfield 218, 3) := by decide +kernel
theorem dX8_land_4 : decode cX8_land 4 = .ok (.bipush 6, 2) := by decide +kernel
theorem dX8_land_6 : decode cX8_land 6 = .ok (.if_icmp .ne 6, 3) := by decide +kernel
theorem dX8_land_9 : decode cX8_land 9 = .ok (.bipush (-4), 2) := by decide +kernel
theorem dX8_land_11 : decode cX8_land 11 = .ok (.ireturn, 1) := by decide +kernel
theorem dX8_land_12 : decode cX8_land 12 = .ok (.aload_n 0, 1) := by decide +kernel
theorem dX8_land_13 : decode cX8_land 13 = .ok (.getfield 170, 3) := by decide +kernel
theorem dX8_land_16 : decode cX8_land 16 = .ok (.istore_n 1, 1) := by decide +kernel
theorem dX8_land_17 : decode cX8_land 17 = .ok (.aload_n 0, 1) := by decide +kernel
theorem dX8_land_18 : decode cX8_land 18 = .ok (.iconst 0, 1) := by decide +kernel
theorem dX8_land_19 : decode cX8_land 19 = .ok (.putfield 145, 3) := by decide +kernel
theorem dX8_land_22 : decode cX8_land 22 = .ok (.iconst 0, 1) := by decide +kernel
theorem dX8_land_23 : decode cX8_land 23 = .ok (.istore_n 2, 1) := by decide +kernel
theorem dX8_land_24 : decode cX8_land 24 = .ok (.iconst 1, 1) := by decide +kernel
theorem dX8_land_25 : decode cX8_land 25 = .ok (.istore_n 3, 1) := by decide +kernel
theorem dX8_land_26 : decode cX8_land 26 = .ok (.iconst 0, 1) := by decide +kernel
theorem dX8_land_27 : decode cX8_land 27 = .ok (.istore 4, 2) := by decide +kernel
theorem dX8_land_29 : decode cX8_land 29 = .ok (.iload_n 3, 1) := by decide +kernel
theorem dX8_land_30 : decode cX8_land 30 = .ok (.ifCond .eq 93, 3) := by decide +kernel
theorem dX8_land_33 : decode cX8_land 33 = .ok (.iload 4, 2) := by decide +kernel
theorem dX8_land_35 : decode cX8_land 35 = .ok (.ifCond .ne 88, 3) := by decide +kernel
theorem dX8_land_38 : decode cX8_land 38 = .ok (.iload_n 2, 1) := by decide +kernel
theorem dX8_land_39 : decode cX8_land 39 = .ok (.bipush 10, 2) := by decide +kernel
theorem dX8_land_41 : decode cX8_land 41 = .ok (.if_icmp .ge 23, 3) := by decide +kernel
theorem dX8_land_44 : decode cX8_land 44 = .ok (.aload_n 0, 1) := by decide +kernel
theorem dX8_land_45 : decode cX8_land 45 = .ok (.bipush 10, 2) := by decide +kernel
theorem dX8_land_47 : decode cX8_land 47 = .ok (.aload_n 0, 1) := by decide +kernel
theorem dX8_land_48 : decode cX8_land 48 = .ok (.getfield 218, 3) := by decide +kernel
theorem dX8_land_51 : decode cX8_land 51 = .ok (.imul, 1) := by decide +kernel
theorem dX8_land_52 : decode cX8_land 52 = .ok (.iload_n 2, 1) := by decide +kernel
theorem dX8_land_53 : decode cX8_land 53 = .ok (.iadd, 1) := by decide +kernel
theorem dX8_land_54 : decode cX8_land 54 = .ok (.invokevirtual 221, 3) := by decide +kernel
theorem dX8_land_57 : decode cX8_land 57 = .ok (.ifCond .eq 7, 3) := by decide +kernel
theorem dX8_land_60 : decode cX8_land 60 = .ok (.iconst 1, 1) := by decide +kernel
theorem dX8_land_61 : decode cX8_land 61 = .ok (.goto 4, 3) := by decide +kernel
theorem dX8_land_64 : decode cX8_land 64 = .ok (.iconst 0, 1) := by decide +kernel
theorem dX8_land_65 : decode cX8_land 65 = .ok (.istore_n 3, 1) := by decide +kernel
theorem dX8_land_66 : decode cX8_land 66 = .ok (.iload_n 3, 1) := by decide +kernel
theorem dX8_land_67 : decode cX8_land 67 = .ok (.ifCond .ne 6, 3) := by decide +kernel
theorem dX8_land_70 : decode cX8_land 70 = .ok (.goto (-41), 3) := by decide +kernel
theorem dX8_land_73 : decode cX8_land 73 = .ok (.iinc 2 1, 3) := by decide +kernel
theorem dX8_land_76 : decode cX8_land 76 = .ok (.aload_n 0, 1) := by decide +kernel
theorem dX8_land_77 : decode cX8_land 77 = .ok (.getfield 145, 3) := by decide +kernel
theorem dX8_land_80 : decode cX8_land 80 = .ok (.aload_n 0, 1) := by decide +kernel
theorem dX8_land_81 : decode cX8_land 81 = .ok (.getfield 142, 3) := by decide +kernel
theorem dX8_land_84 : decode cX8_land 84 = .ok (.if_icmp .ne 7, 3) := by decide +kernel
theorem dX8_land_87 : decode cX8_land 87 = .ok (.iconst 1, 1) := by decide +kernel
theorem dX8_land_88 : decode cX8_land 88 = .ok (.goto 4, 3) := by decide +kernel
theorem dX8_land_91 : decode cX8_land 91 = .ok (.iconst 0, 1) := by decide +kernel
theorem dX8_land_92 : decode cX8_land 92 = .ok (.istore 4, 2) := by decide +kernel
theorem dX8_land_94 : decode cX8_land 94 = .ok (.iload 4, 2) := by decide +kernel
theorem dX8_land_96 : decode cX8_land 96 = .ok (.ifCond .ne 18, 3) := by decide +kernel
theorem dX8_land_99 : decode cX8_land 99 = .ok (.iload_n 2, 1) := by decide +kernel
theorem dX8_land_100 : decode cX8_land 100 = .ok (.bipush 10, 2) := by decide +kernel
theorem dX8_land_102 : decode cX8_land 102 = .ok (.if_icmp .ge 16, 3) := by decide +kernel
theorem dX8_land_105 : decode cX8_land 105 = .ok (.aload_n 0, 1) := by decide +kernel
theorem dX8_land_106 : decode cX8_land 106 = .ok (.bipush 59, 2) := by decide +kernel
theorem dX8_land_108 : decode cX8_land 108 = .ok (.invokevirtual 167, 3) := by decide +kernel
theorem dX8_land_111 : decode cX8_land 111 = .ok (.ifCond .eq 7, 3) := by decide +kernel
theorem dX8_land_114 : decode cX8_land 114 = .ok (.iconst 1, 1) := by decide +kernel
theorem dX8_land_115 : decode cX8_land 115 = .ok (.goto 4, 3) := by decide +kernel
theorem dX8_land_118 : decode cX8_land 118 = .ok (.iconst 0, 1) := by decide +kernel
theorem dX8_land_119 : decode cX8_land 119 = .ok (.istore_n 3, 1) := by decide +kernel
theorem dX8_land_120 : decode cX8_land 120 = .ok (.goto (-91), 3) := by decide +kernel
theorem dX8_land_123 : decode cX8_land 123 = .ok (.aload_n 0, 1) := by decide +kernel
theorem dX8_land_124 : decode cX8_land 124 = .ok (.iconst 0, 1) := by decide +kernel
theorem dX8_land_125 : decode cX8_land 125 = .ok (.putfield 142, 3) := by decide +kernel
theorem dX8_land_128 : decode cX8_land 128 = .ok (.iload 4, 2) := by decide +kernel
theorem dX8_land_130 : decode cX8_land 130 = .ok (.ifCond .ne 16, 3) := by decide +kernel
theorem dX8_land_133 : decode cX8_land 133 = .ok (.aload_n 0, 1) := by decide +kernel
theorem dX8_land_134 : decode cX8_land 134 = .ok (.iload_n 1, 1) := by decide +kernel
theorem dX8_land_135 : decode cX8_land 135 = .ok (.putfield 170, 3) := by decide +kernel
theorem dX8_land_138 : decode cX8_land 138 = .ok (.bipush (-10), 2) := by decide +kernel
theorem dX8_land_140 : decode cX8_land 140 = .ok (.aload_n 0, 1) := by decide +kernel
theorem dX8_land_141 : decode cX8_land 141 = .ok (.getfield 145, 3) := by decide +kernel
theorem dX8_land_144 : decode cX8_land 144 = .ok (.isub, 1) := by decide +kernel
theorem dX8_land_145 : decode cX8_land 145 = .ok (.ireturn, 1) := by decide +kernel
theorem dX8_land_146 : decode cX8_land 146 = .ok (.aload_n 0, 1) := by decide +kernel
theorem dX8_land_147 : decode cX8_land 147 = .ok (.getfield 36, 3) := by decide +kernel
theorem dX8_land_150 : decode cX8_land 150 = .ok (.aload_n 0, 1) := by decide +kernel
theorem dX8_land_151 : decode cX8_land 151 = .ok (.getfield 218, 3) := by decide +kernel
theorem dX8_land_154 : decode cX8_land 154 = .ok (.iload_n 2, 1) := by decide +kernel
theorem dX8_land_155 : decode cX8_land 155 = .ok (.iastore, 1) := by decide +kernel
theorem dX8_land_156 : decode cX8_land 156 = .ok (.aload_n 0, 1) := by decide +kernel
theorem dX8_land_157 : decode cX8_land 157 = .ok (.aload_n 0, 1) := by decide +kernel
theorem dX8_land_158 : decode cX8_land 158 = .ok (.getfield 218, 3) := by decide +kernel
theorem dX8_land_161 : decode cX8_land 161 = .ok (.putfield 102, 3) := by decide +kernel
theorem dX8_land_164 : decode cX8_land 164 = .ok (.aload_n 0, 1) := by decide +kernel
theorem dX8_land_165 : decode cX8_land 165 = .ok (.dup, 1) := by decide +kernel
theorem dX8_land_166 : decode cX8_land 166 = .ok (.getfield 218, 3) := by decide +kernel
theorem dX8_land_169 : decode cX8_land 169 = .ok (.dup_x1, 1) := by decide +kernel
theorem dX8_land_170 : decode cX8_land 170 = .ok (.iconst 1, 1) := by decide +kernel
theorem dX8_land_171 : decode cX8_land 171 = .ok (.iadd, 1) := by decide +kernel
theorem dX8_land_172 : decode cX8_land 172 = .ok (.putfield 218, 3) := by decide +kernel
theorem dX8_land_175 : decode cX8_land 175 = .ok (.ireturn, 1) := by decide +kernel
theorem dX8_letterOf_0 : decode cX8_letterOf 0 = .ok (.iload_n 2, 1) := by decide +kernel
theorem dX8_letterOf_1 : decode cX8_letterOf 1 = .ok (.tableswitch 69 0 4 #[35, 37, 44, 51, 61], 35) := by decide +kernel
theorem dX8_letterOf_36 : decode cX8_letterOf 36 = .ok (.iload_n 1, 1) := by decide +kernel
theorem dX8_letterOf_37 : decode cX8_letterOf 37 = .ok (.ireturn, 1) := by decide +kernel
theorem dX8_letterOf_38 : decode cX8_letterOf 38 = .ok (.aload_n 0, 1) := by decide +kernel
theorem dX8_letterOf_39 : decode cX8_letterOf 39 = .ok (.getfield 9, 3) := by decide +kernel
theorem dX8_letterOf_42 : decode cX8_letterOf 42 = .ok (.iload_n 1, 1) := by decide +kernel
theorem dX8_letterOf_43 : decode cX8_letterOf 43 = .ok (.iaload, 1) := by decide +kernel
theorem dX8_letterOf_44 : decode cX8_letterOf 44 = .ok (.ireturn, 1) := by decide +kernel
theorem dX8_letterOf_45 : decode cX8_letterOf 45 = .ok (.aload_n 0, 1) := by decide +kernel
theorem dX8_letterOf_46 : decode cX8_letterOf 46 = .ok (.getfield 15, 3) := by decide +kernel
theorem dX8_letterOf_49 : decode cX8_letterOf 49 = .ok (.iload_n 1, 1) := by decide +kernel
theorem dX8_letterOf_50 : decode cX8_letterOf 50 = .ok (.iaload, 1) := by decide +kernel
theorem dX8_letterOf_51 : decode cX8_letterOf 51 = .ok (.ireturn, 1) := by decide +kernel
theorem dX8_letterOf_52 : decode cX8_letterOf 52 = .ok (.aload_n 0, 1) := by decide +kernel
theorem dX8_letterOf_53 : decode cX8_letterOf 53 = .ok (.getfield 18, 3) := by decide +kernel
theorem dX8_letterOf_56 : decode cX8_letterOf 56 = .ok (.iload_n 1, 1) := by decide +kernel
theorem dX8_letterOf_57 : decode cX8_letterOf 57 = .ok (.iaload, 1) := by decide +kernel
theorem dX8_letterOf_58 : decode cX8_letterOf 58 = .ok (.bipush 10, 2) := by decide +kernel
theorem dX8_letterOf_60 : decode cX8_letterOf 60 = .ok (.idiv, 1) := by decide +kernel
theorem dX8_letterOf_61 : decode cX8_letterOf 61 = .ok (.ireturn, 1) := by decide +kernel
theorem dX8_letterOf_62 : decode cX8_letterOf 62 = .ok (.aload_n 0, 1) := by decide +kernel
theorem dX8_letterOf_63 : decode cX8_letterOf 63 = .ok (.getfield 136, 3) := by decide +kernel
theorem dX8_letterOf_66 : decode cX8_letterOf 66 = .ok (.bipush 10, 2) := by decide +kernel
theorem dX8_letterOf_68 : decode cX8_letterOf 68 = .ok (.idiv, 1) := by decide +kernel
theorem dX8_letterOf_69 : decode cX8_letterOf 69 = .ok (.ireturn, 1) := by decide +kernel
theorem dX8_letterOf_70 : decode cX8_letterOf 70 = .ok (.aload_n 0, 1) := by decide +kernel
theorem dX8_letterOf_71 : decode cX8_letterOf 71 = .ok (.getfield 224, 3) := by decide +kernel
theorem dX8_letterOf_74 : decode cX8_letterOf 74 = .ok (.bipush 10, 2) := by decide +kernel
theorem dX8_letterOf_76 : decode cX8_letterOf 76 = .ok (.irem, 1) := by decide +kernel
theorem dX8_letterOf_77 : decode cX8_letterOf 77 = .ok (.ireturn, 1) := by decide +kernel
theorem dX8_isTrue_0 : decode cX8_isTrue 0 = .ok (.iconst 0, 1) := by decide +kernel
theorem dX8_isTrue_1 : decode cX8_isTrue 1 = .ok (.istore_n 3, 1) := by decide +kernel
theorem dX8_isTrue_2 : decode cX8_isTrue 2 = .ok (.aload_n 0, 1) := by decide +kernel
theorem dX8_isTrue_3 : decode cX8_isTrue 3 = .ok (.getfield 45, 3) := by decide +kernel
theorem dX8_isTrue_6 : decode cX8_isTrue 6 = .ok (.iload_n 2, 1) := by decide +kernel
theorem dX8_isTrue_7 : decode cX8_isTrue 7 = .ok (.iaload, 1) := by decide +kernel
theorem dX8_isTrue_8 : decode cX8_isTrue 8 = .ok (.istore 4, 2) := by decide +kernel
theorem dX8_isTrue_10 : decode cX8_isTrue 10 = .ok (.iload 4, 2) := by decide +kernel
theorem dX8_isTrue_12 : decode cX8_isTrue 12 = .ok (.aload_n 0, 1) := by decide +kernel
theorem dX8_isTrue_13 : decode cX8_isTrue 13 = .ok (.getfield 45, 3) := by decide +kernel
theorem dX8_isTrue_16 : decode cX8_isTrue 16 = .ok (.iload_n 2, 1) := by decide +kernel
theorem dX8_isTrue_17 : decode cX8_isTrue 17 = .ok (.iaload, 1) := by decide +kernel
theorem dX8_isTrue_18 : decode cX8_isTrue 18 = .ok (.aload_n 0, 1) := by decide +kernel
theorem dX8_isTrue_19 : decode cX8_isTrue 19 = .ok (.getfield 48, 3) := by decide +kernel
theorem dX8_isTrue_22 : decode cX8_isTrue 22 = .ok (.iload_n 2, 1) := by decide +kernel
theorem dX8_isTrue_23 : decode cX8_isTrue 23 = .ok (.iaload, 1) := by decide +kernel
theorem dX8_isTrue_24 : decode cX8_isTrue 24 = .ok (.iadd, 1) := by decide +kernel
theorem dX8_isTrue_25 : decode cX8_isTrue 25 = .ok (.if_icmp .ge 226, 3) := by decide +kernel
theorem dX8_isTrue_28 : decode cX8_isTrue 28 = .ok (.aload_n 0, 1) := by decide +kernel
theorem dX8_isTrue_29 : decode cX8_isTrue 29 = .ok (.getfield 51, 3) := by decide +kernel
theorem dX8_isTrue_32 : decode cX8_isTrue 32 = .ok (.iload 4, 2) := by decide +kernel
theorem dX8_isTrue_34 : decode cX8_isTrue 34 = .ok (.iaload, 1) := by decide +kernel
theorem dX8_isTrue_35 : decode cX8_isTrue 35 = .ok (.istore 5, 2) := by decide +kernel
theorem dX8_isTrue_37 : decode cX8_isTrue 37 = .ok (.iload 5, 2) := by decide +kernel
theorem dX8_isTrue_39 : decode cX8_isTrue 39 = .ok (.iconst 3, 1) := by decide +kernel
theorem dX8_isTrue_40 : decode cX8_isTrue 40 = .ok (.if_icmp .lt 103, 3) := by decide +kernel
theorem dX8_isTrue_43 : decode cX8_isTrue 43 = .ok (.aload_n 0, 1) := by decide +kernel
theorem dX8_isTrue_44 : decode cX8_isTrue 44 = .ok (.iload_n 1, 1) := by decide +kernel
theorem dX8_isTrue_45 : decode cX8_isTrue 45 = .ok (.iload 5, 2) := by decide +kernel
theorem dX8_isTrue_47 : decode cX8_isTrue 47 = .ok (.iconst 3, 1) := by decide +kernel
theorem dX8_isTrue_48 : decode cX8_isTrue 48 = .ok (.isub, 1) := by decide +kernel
theorem dX8_isTrue_49 : decode cX8_isTrue 49 = .ok (.sipush 300, 3) := by decide +kernel
theorem dX8_isTrue_52 : decode cX8_isTrue 52 = .ok (.idiv, 1) := by decide +kernel
theorem dX8_isTrue_53 : decode cX8_isTrue 53 = .ok (.invokevirtual 227, 3) := by decide +kernel
theorem dX8_isTrue_56 : decode cX8_isTrue 56 = .ok (.istore 6, 2) := by decide +kernel
theorem dX8_isTrue_58 : decode cX8_isTrue 58 = .ok (.iload 5, 2) := by decide +kernel
theorem dX8_isTrue_60 : decode cX8_isTrue 60 = .ok (.iconst 3, 1) := by decide +kernel
theorem dX8_isTrue_61 : decode cX8_isTrue 61 = .ok (.isub, 1) := by decide +kernel
theorem dX8_isTrue_62 : decode cX8_isTrue 62 = .ok (.bipush 100, 2) := by decide +kernel
theorem dX8_isTrue_64 : decode cX8_isTrue 64 = .ok (.irem, 1) := by decide +kernel
theorem dX8_isTrue_65 : decode cX8_isTrue 65 = .ok (.istore 7, 2) := by decide +kernel
theorem dX8_isTrue_67 : decode cX8_isTrue 67 = .ok (.iload 5, 2) := by decide +kernel
theorem dX8_isTrue_69 : decode cX8_isTrue 69 = .ok (.iconst 3, 1) := by decide +kernel
theorem dX8_isTrue_70 : decode cX8_isTrue 70 = .ok (.isub, 1) := by decide +kernel
theorem dX8_isTrue_71 : decode cX8_isTrue 71 = .ok (.bipush 100, 2) := by decide +kernel
theorem dX8_isTrue_73 : decode cX8_isTrue 73 = .ok (.idiv, 1) := by decide +kernel
theorem dX8_isTrue_74 : decode cX8_isTrue 74 = .ok (.iconst 3, 1) := by decide +kernel
theorem dX8_isTrue_75 : decode cX8_isTrue 75 = .ok (.irem, 1) := by decide +kernel
theorem dX8_isTrue_76 : decode cX8_isTrue 76 = .ok (.istore 8, 2) := by decide +kernel
theorem dX8_isTrue_78 : decode cX8_isTrue 78 = .ok (.aload_n 0, 1) := by decide +kernel
theorem dX8_isTrue_79 : decode cX8_isTrue 79 = .ok (.getfield 54, 3) := by decide +kernel
theorem dX8_isTrue_82 : decode cX8_isTrue 82 = .ok (.iload_n 3, 1) := by decide +kernel
theorem dX8_isTrue_83 : decode cX8_isTrue 83 = .ok (.iinc 3 1, 3) := by decide +kernel
theorem dX8_isTrue_86 : decode cX8_isTrue 86 = .ok (.iload 8, 2) := by decide +kernel
theorem dX8_isTrue_88 : decode cX8_isTrue 88 = .ok (.ifCond .ne 18, 3) := by decide +kernel
theorem dX8_isTrue_91 : decode cX8_isTrue 91 = .ok (.iload 6, 2) := by decide +kernel
theorem dX8_isTrue_93 : decode cX8_isTrue 93 = .ok (.iload 7, 2) := by decide +kernel
theorem dX8_isTrue_95 : decode cX8_isTrue 95 = .ok (.if_icmp .ge 7, 3) := by decide +kernel
theorem dX8_isTrue_98 : decode cX8_isTrue 98 = .ok (.iconst 1, 1) := by decide +kernel
theorem dX8_isTrue_99 : decode cX8_isTrue 99 = .ok (.goto 40, 3) := by decide +kernel
theorem dX8_isTrue_102 : decode cX8_isTrue 102 = .ok (.iconst 0, 1) := by decide +kernel
theorem dX8_isTrue_103 : decode cX8_isTrue 103 = .ok (.goto 36, 3) := by decide +kernel
theorem dX8_isTrue_106 : decode cX8_isTrue 106 = .ok (.iload 8, 2) := by decide +kernel
theorem dX8_isTrue_108 : decode cX8_isTrue 108 = .ok (.iconst 1, 1) := by decide +kernel
theorem dX8_isTrue_109 : decode cX8_isTrue 109 = .ok (.if_icmp .ne 18, 3) := by decide +kernel
theorem dX8_isTrue_112 : decode cX8_isTrue 112 = .ok (.iload 6, 2) := by decide +kernel
theorem dX8_isTrue_114 : decode cX8_isTrue 114 = .ok (.iload 7, 2) := by decide +kernel
theorem dX8_isTrue_116 : decode cX8_isTrue 116 = .ok (.if_icmp .ne 7, 3) := by decide +kernel
theorem dX8_isTrue_119 : decode cX8_isTrue 119 = .ok (.iconst 1, 1) := by decide +kernel
theorem dX8_isTrue_120 : decode cX8_isTrue 120 = .ok (.goto 19, 3) := by decide +kernel
theorem dX8_isTrue_123 : decode cX8_isTrue 123 = .ok (.iconst 0, 1) := by decide +kernel
theorem dX8_isTrue_124 : decode cX8_isTrue 124 = .ok (.goto 15, 3) := by decide +kernel
theorem dX8_isTrue_127 : decode cX8_isTrue 127 = .ok (.iload 6, 2) := by decide +kernel
theorem dX8_isTrue_129 : decode cX8_isTrue 129 = .ok (.iload 7, 2) := by decide +kernel
theorem dX8_isTrue_131 : decode cX8_isTrue 131 = .ok (.if_icmp .le 7, 3) := by decide +kernel
theorem dX8_isTrue_134 : decode cX8_isTrue 134 = .ok (.iconst 1, 1) := by decide +kernel
theorem dX8_isTrue_135 : decode cX8_isTrue 135 = .ok (.goto 4, 3) := by decide +kernel
theorem dX8_isTrue_138 : decode cX8_isTrue 138 = .ok (.iconst 0, 1) := by decide +kernel
theorem dX8_isTrue_139 : decode cX8_isTrue 139 = .ok (.bastore, 1) := by decide +kernel
theorem dX8_isTrue_140 : decode cX8_isTrue 140 = .ok (.goto 105, 3) := by decide +kernel
theorem dX8_isTrue_143 : decode cX8_isTrue 143 = .ok (.iload 5, 2) := by decide +kernel
theorem dX8_isTrue_145 : decode cX8_isTrue 145 = .ok (.iconst 2, 1) := by decide +kernel
theorem dX8_isTrue_146 : decode cX8_isTrue 146 = .ok (.if_icmp .ne 30, 3) := by decide +kernel
theorem dX8_isTrue_149 : decode cX8_isTrue 149 = .ok (.aload_n 0, 1) := by decide +kernel
theorem dX8_isTrue_150 : decode cX8_isTrue 150 = .ok (.getfield 54, 3) := by decide +kernel
theorem dX8_isTrue_153 : decode cX8_isTrue 153 = .ok (.iload_n 3, 1) := by decide +kernel
theorem dX8_isTrue_154 : decode cX8_isTrue 154 = .ok (.iconst 1, 1) := by decide +kernel
theorem dX8_isTrue_155 : decode cX8_isTrue 155 = .ok (.isub, 1) := by decide +kernel
theorem dX8_isTrue_156 : decode cX8_isTrue 156 = .ok (.aload_n 0, 1) := by decide +kernel
theorem dX8_isTrue_157 : decode cX8_isTrue 157 = .ok (.getfield 54, 3) := by decide +kernel
theorem dX8_isTrue_160 : decode cX8_isTrue 160 = .ok (.iload_n 3, 1) := by decide +kernel
theorem dX8_isTrue_161 : decode cX8_isTrue 161 = .ok (.iconst 1, 1) := by decide +kernel
theorem dX8_isTrue_162 : decode cX8_isTrue 162 = .ok (.isub, 1) := by decide +kernel
theorem dX8_isTrue_163 : decode cX8_isTrue 163 = .ok (.baload, 1) := by decide +kernel
theorem dX8_isTrue_164 : decode cX8_isTrue 164 = .ok (.ifCond .ne 7, 3) := by decide +kernel
theorem dX8_isTrue_167 : decode cX8_isTrue 167 = .ok (.iconst 1, 1) := by decide +kernel
theorem dX8_isTrue_168 : decode cX8_isTrue 168 = .ok (.goto 4, 3) := by decide +kernel
theorem dX8_isTrue_171 : decode cX8_isTrue 171 = .ok (.iconst 0, 1) := by decide +kernel
theorem dX8_isTrue_172 : decode cX8_isTrue 172 = .ok (.bastore, 1) := by decide +kernel
theorem dX8_isTrue_173 : decode cX8_isTrue 173 = .ok (.goto 72, 3) := by decide +kernel
theorem dX8_isTrue_176 : decode cX8_isTrue 176 = .ok (.iinc 3 (-1), 3) := by decide +kernel
theorem dX8_isTrue_179 : decode cX8_isTrue 179 = .ok (.aload_n 0, 1) := by decide +kernel
theorem dX8_isTrue_180 : decode cX8_isTrue 180 = .ok (.getfield 54, 3) := by decide +kernel
theorem dX8_isTrue_183 : decode cX8_isTrue 183 = .ok (.iload_n 3, 1) := by decide +kernel
theorem dX8_isTrue_184 : decode cX8_isTrue 184 = .ok (.iconst 1, 1) := by decide +kernel
theorem dX8_isTrue_185 : decode cX8_isTrue 185 = .ok (.isub, 1) := by decide +kernel
theorem dX8_isTrue_186 : decode cX8_isTrue 186 = .ok (.iload 5, 2) := by decide +kernel
theorem dX8_isTrue_188 : decode cX8_isTrue 188 = .ok (.ifCond .ne 31, 3) := by decide +kernel
theorem dX8_isTrue_191 : decode cX8_isTrue 191 = .ok (.aload_n 0, 1) := by decide +kernel
theorem dX8_isTrue_192 : decode cX8_isTrue 192 = .ok (.getfield 54, 3) := by decide +kernel
theorem dX8_isTrue_195 : decode cX8_isTrue 195 = .ok (.iload_n 3, 1) := by decide +kernel
theorem dX8_isTrue_196 : decode cX8_isTrue 196 = .ok (.iconst 1, 1) := by decide +kernel
theorem dX8_isTrue_197 : decode cX8_isTrue 197 = .ok (.isub, 1) := by decide +kernel
theorem dX8_isTrue_198 : decode cX8_isTrue 198 = .ok (.baload, 1) := by decide +kernel
theorem dX8_isTrue_199 : decode cX8_isTrue 199 = .ok (.ifCond .eq 16, 3) := by decide +kernel
theorem dX8_isTrue_202 : decode cX8_isTrue 202 = .ok (.aload_n 0, 1) := by decide +kernel
theorem dX8_isTrue_203 : decode cX8_isTrue 203 = .ok (.getfield 54, 3) := by decide +kernel
theorem dX8_isTrue_206 : decode cX8_isTrue 206 = .ok (.iload_n 3, 1) := by decide +kernel
theorem dX8_isTrue_207 : decode cX8_isTrue 207 = .ok (.baload, 1) := by decide +kernel
theorem dX8_isTrue_208 : decode cX8_isTrue 208 = .ok (.ifCond .eq 7, 3) := by decide +kernel
theorem dX8_isTrue_211 : decode cX8_isTrue 211 = .ok (.iconst 1, 1) := by decide +kernel
theorem dX8_isTrue_212 : decode cX8_isTrue 212 = .ok (.goto 32, 3) := by decide +kernel
theorem dX8_isTrue_215 : decode cX8_isTrue 215 = .ok (.iconst 0, 1) := by decide +kernel
theorem dX8_isTrue_216 : decode cX8_isTrue 216 = .ok (.goto 28, 3) := by decide +kernel
theorem dX8_isTrue_219 : decode cX8_isTrue 219 = .ok (.aload_n 0, 1) := by decide +kernel
theorem dX8_isTrue_220 : decode cX8_isTrue 220 = .ok (.getfield 54, 3) := by decide +kernel
theorem dX8_isTrue_223 : decode cX8_isTrue 223 = .ok (.iload_n 3, 1) := by decide +kernel
theorem dX8_isTrue_224 : decode cX8_isTrue 224 = .ok (.iconst 1, 1) := by decide +kernel
theorem dX8_isTrue_225 : decode cX8_isTrue 225 = .ok (.isub, 1) := by decide +kernel
theorem dX8_isTrue_226 : decode cX8_isTrue 226 = .ok (.baload, 1) := by decide +kernel
theorem dX8_isTrue_227 : decode cX8_isTrue 227 = .ok (.ifCond .ne 12, 3) := by decide +kernel
theorem dX8_isTrue_230 : decode cX8_isTrue 230 = .ok (.aload_n 0, 1) := by decide +kernel
theorem dX8_isTrue_231 : decode cX8_isTrue 231 = .ok (.getfield 54, 3) := by decide +kernel
theorem dX8_isTrue_234 : decode cX8_isTrue 234 = .ok (.iload_n 3, 1) := by decide +kernel
theorem dX8_isTrue_235 : decode cX8_isTrue 235 = .ok (.baload, 1) := by decide +kernel
theorem dX8_isTrue_236 : decode cX8_isTrue 236 = .ok (.ifCond .eq 7, 3) := by decide +kernel
theorem dX8_isTrue_239 : decode cX8_isTrue 239 = .ok (.iconst 1, 1) := by decide +kernel
theorem dX8_isTrue_240 : decode cX8_isTrue 240 = .ok (.goto 4, 3) := by decide +kernel
theorem dX8_isTrue_243 : decode cX8_isTrue 243 = .ok (.iconst 0, 1) := by decide +kernel
theorem dX8_isTrue_244 : decode cX8_isTrue 244 = .ok (.bastore, 1) := by decide +kernel
theorem dX8_isTrue_245 : decode cX8_isTrue 245 = .ok (.iinc 4 1, 3) := by decide +kernel
theorem dX8_isTrue_248 : decode cX8_isTrue 248 = .ok (.goto (-238), 3) := by decide +kernel
theorem dX8_isTrue_251 : decode cX8_isTrue 251 = .ok (.aload_n 0, 1) := by decide +kernel
theorem dX8_isTrue_252 : decode cX8_isTrue 252 = .ok (.getfield 54, 3) := by decide +kernel
theorem dX8_isTrue_255 : decode cX8_isTrue 255 = .ok (.iconst 0, 1) := by decide +kernel
theorem dX8_isTrue_256 : decode cX8_isTrue 256 = .ok (.baload, 1) := by decide +kernel
theorem dX8_isTrue_257 : decode cX8_isTrue 257 = .ok (.ireturn, 1) := by decide +kernel
theorem dX8_door_0 : decode cX8_door 0 = .ok (.iconst 0, 1) := by decide +kernel
theorem dX8_door_1 : decode cX8_door 1 = .ok (.istore_n 2, 1) := by decide +kernel
theorem dX8_door_2 : decode cX8_door 2 = .ok (.iconst 0, 1) := by decide +kernel
theorem dX8_door_3 : decode cX8_door 3 = .ok (.istore_n 3, 1) := by decide +kernel
theorem dX8_door_4 : decode cX8_door 4 = .ok (.aload_n 0, 1) := by decide +kernel
theorem dX8_door_5 : decode cX8_door 5 = .ok (.getfield 102, 3) := by decide +kernel
theorem dX8_door_8 : decode cX8_door 8 = .ok (.iconst (-1), 1) := by decide +kernel
theorem dX8_door_9 : decode cX8_door 9 = .ok (.if_icmp .eq 85, 3) := by decide +kernel
theorem dX8_door_12 : decode cX8_door 12 = .ok (.iload_n 3, 1) := by decide +kernel
theorem dX8_door_13 : decode cX8_door 13 = .ok (.aload_n 0, 1) := by decide +kernel
theorem dX8_door_14 : decode cX8_door 14 = .ok (.getfield 36, 3) := by decide +kernel
theorem dX8_door_17 : decode cX8_door 17 = .ok (.aload_n 0, 1) := by decide +kernel
theorem dX8_door_18 : decode cX8_door 18 = .ok (.getfield 102, 3) := by decide +kernel
theorem dX8_door_21 : decode cX8_door 21 = .ok (.iaload, 1) := by decide +kernel
theorem dX8_door_22 : decode cX8_door 22 = .ok (.if_icmp .ge 72, 3) := by decide +kernel
theorem dX8_door_25 : decode cX8_door 25 = .ok (.bipush 10, 2) := by decide +kernel
theorem dX8_door_27 : decode cX8_door 27 = .ok (.aload_n 0, 1) := by decide +kernel
theorem dX8_door_28 : decode cX8_door 28 = .ok (.getfield 102, 3) := by decide +kernel
theorem dX8_door_31 : decode cX8_door 31 = .ok (.imul, 1) := by decide +kernel
theorem dX8_door_32 : decode cX8_door 32 = .ok (.iload_n 3, 1) := by decide +kernel
theorem dX8_door_33 : decode cX8_door 33 = .ok (.iadd, 1) := by decide +kernel
theorem dX8_door_34 : decode cX8_door 34 = .ok (.istore 4, 2) := by decide +kernel
theorem dX8_door_36 : decode cX8_door 36 = .ok (.aload_n 0, 1) := by decide +kernel
theorem dX8_door_37 : decode cX8_door 37 = .ok (.getfield 39, 3) := by decide +kernel
theorem dX8_door_40 : decode cX8_door 40 = .ok (.iload 4, 2) := by decide +kernel
theorem dX8_door_42 : decode cX8_door 42 = .ok (.iaload, 1) := by decide +kernel
theorem dX8_door_43 : decode cX8_door 43 = .ok (.iconst 2, 1) := by decide +kernel
theorem dX8_door_44 : decode cX8_door 44 = .ok (.if_icmp .ge 44, 3) := by decide +kernel
theorem dX8_door_47 : decode cX8_door 47 = .ok (.aload_n 0, 1) := by decide +kernel
theorem dX8_door_48 : decode cX8_door 48 = .ok (.iload_n 1, 1) := by decide +kernel
theorem dX8_door_49 : decode cX8_door 49 = .ok (.iload 4, 2) := by decide +kernel
theorem dX8_door_51 : decode cX8_door 51 = .ok (.invokevirtual 230, 3) := by decide +kernel
theorem dX8_door_54 : decode cX8_door 54 = .ok (.ifCond .eq 34, 3) := by decide +kernel
theorem dX8_door_57 : decode cX8_door 57 = .ok (.iload_n 2, 1) := by decide +kernel
theorem dX8_door_58 : decode cX8_door 58 = .ok (.aload_n 0, 1) := by decide +kernel
theorem dX8_door_59 : decode cX8_door 59 = .ok (.getfield 39, 3) := by decide +kernel
theorem dX8_door_62 : decode cX8_door 62 = .ok (.iload 4, 2) := by decide +kernel
theorem dX8_door_64 : decode cX8_door 64 = .ok (.iaload, 1) := by decide +kernel
theorem dX8_door_65 : decode cX8_door 65 = .ok (.ifCond .ne 13, 3) := by decide +kernel
theorem dX8_door_68 : decode cX8_door 68 = .ok (.aload_n 0, 1) := by decide +kernel
theorem dX8_door_69 : decode cX8_door 69 = .ok (.getfield 42, 3) := by decide +kernel
theorem dX8_door_72 : decode cX8_door 72 = .ok (.iload 4, 2) := by decide +kernel
theorem dX8_door_74 : decode cX8_door 74 = .ok (.iaload, 1) := by decide +kernel
theorem dX8_door_75 : decode cX8_door 75 = .ok (.goto 11, 3) := by decide +kernel
theorem dX8_door_78 : decode cX8_door 78 = .ok (.aload_n 0, 1) := by decide +kernel
theorem dX8_door_79 : decode cX8_door 79 = .ok (.getfield 42, 3) := by decide +kernel
theorem dX8_door_82 : decode cX8_door 82 = .ok (.iload 4, 2) := by decide +kernel
theorem dX8_door_84 : decode cX8_door 84 = .ok (.iaload, 1) := by decide +kernel
theorem dX8_door_85 : decode cX8_door 85 = .ok (.ineg, 1) := by decide +kernel
theorem dX8_door_86 : decode cX8_door 86 = .ok (.iadd, 1) := by decide +kernel
theorem dX8_door_87 : decode cX8_door 87 = .ok (.istore_n 2, 1) := by decide +kernel
theorem dX8_door_88 : decode cX8_door 88 = .ok (.iinc 3 1, 3) := by decide +kernel
theorem dX8_door_91 : decode cX8_door 91 = .ok (.goto (-87), 3) := by decide +kernel
theorem dX8_door_94 : decode cX8_door 94 = .ok (.iload_n 2, 1) := by decide +kernel
theorem dX8_door_95 : decode cX8_door 95 = .ok (.ireturn, 1) := by decide +kernel
theorem dX8_lastOf_0 : decode cX8_lastOf 0 = .ok (.iload_n 2, 1) := by decide +kernel
theorem dX8_lastOf_1 : decode cX8_lastOf 1 = .ok (.istore_n 3, 1) := by decide +kernel
theorem dX8_lastOf_2 : decode cX8_lastOf 2 = .ok (.iconst 0, 1) := by decide +kernel
theorem dX8_lastOf_3 : decode cX8_lastOf 3 = .ok (.istore 4, 2) := by decide +kernel
theorem dX8_lastOf_5 : decode cX8_lastOf 5 = .ok (.aload_n 0, 1) := by decide +kernel
theorem dX8_lastOf_6 : decode cX8_lastOf 6 = .ok (.getfield 102, 3) := by decide +kernel
theorem dX8_lastOf_9 : decode cX8_lastOf 9 = .ok (.iconst (-1), 1) := by decide +kernel
theorem dX8_lastOf_10 : decode cX8_lastOf 10 = .ok (.if_icmp .eq 58, 3) := by decide +kernel
theorem dX8_lastOf_13 : decode cX8_lastOf 13 = .ok (.iload 4, 2) := by decide +kernel
theorem dX8_lastOf_15 : decode cX8_lastOf 15 = .ok (.aload_n 0, 1) := by decide +kernel
theorem dX8_lastOf_16 : decode cX8_lastOf 16 = .ok (.getfield 36, 3) := by decide +kernel
theorem dX8_lastOf_19 : decode cX8_lastOf 19 = .ok (.aload_n 0, 1) := by decide +kernel
theorem dX8_lastOf_20 : decode cX8_lastOf 20 = .ok (.getfield 102, 3) := by decide +kernel
theorem dX8_lastOf_23 : decode cX8_lastOf 23 = .ok (.iaload, 1) := by decide +kernel
theorem dX8_lastOf_24 : decode cX8_lastOf 24 = .ok (.if_icmp .ge 44, 3) := by decide +kernel
theorem dX8_lastOf_27 : decode cX8_lastOf 27 = .ok (.aload_n 0, 1) := by decide +kernel
theorem dX8_lastOf_28 : decode cX8_lastOf 28 = .ok (.getfield 39, 3) := by decide +kernel
theorem dX8_lastOf_31 : decode cX8_lastOf 31 = .ok (.bipush 10, 2) := by decide +kernel
theorem dX8_lastOf_33 : decode cX8_lastOf 33 = .ok (.aload_n 0, 1) := by decide +kernel
theorem dX8_lastOf_34 : decode cX8_lastOf 34 = .ok (.getfield 102, 3) := by decide +kernel
theorem dX8_lastOf_37 : decode cX8_lastOf 37 = .ok (.imul, 1) := by decide +kernel
theorem dX8_lastOf_38 : decode cX8_lastOf 38 = .ok (.iload 4, 2) := by decide +kernel
theorem dX8_lastOf_40 : decode cX8_lastOf 40 = .ok (.iadd, 1) := by decide +kernel
theorem dX8_lastOf_41 : decode cX8_lastOf 41 = .ok (.iaload, 1) := by decide +kernel
theorem dX8_lastOf_42 : decode cX8_lastOf 42 = .ok (.iload_n 1, 1) := by decide +kernel
theorem dX8_lastOf_43 : decode cX8_lastOf 43 = .ok (.if_icmp .ne 19, 3) := by decide +kernel
theorem dX8_lastOf_46 : decode cX8_lastOf 46 = .ok (.aload_n 0, 1) := by decide +kernel
theorem dX8_lastOf_47 : decode cX8_lastOf 47 = .ok (.getfield 42, 3) := by decide +kernel
theorem dX8_lastOf_50 : decode cX8_lastOf 50 = .ok (.bipush 10, 2) := by decide +kernel
theorem dX8_lastOf_52 : decode cX8_lastOf 52 = .ok (.aload_n 0, 1) := by decide +kernel
theorem dX8_lastOf_53 : decode cX8_lastOf 53 = .ok (.getfield 102, 3) := by decide +kernel
theorem dX8_lastOf_56 : decode cX8_lastOf 56 = .ok (.imul, 1) := by decide +kernel
theorem dX8_lastOf_57 : decode cX8_lastOf 57 = .ok (.iload 4, 2) := by decide +kernel
theorem dX8_lastOf_59 : decode cX8_lastOf 59 = .ok (.iadd, 1) := by decide +kernel
theorem dX8_lastOf_60 : decode cX8_lastOf 60 = .ok (.iaload, 1) := by decide +kernel
theorem dX8_lastOf_61 : decode cX8_lastOf 61 = .ok (.istore_n 3, 1) := by decide +kernel
theorem dX8_lastOf_62 : decode cX8_lastOf 62 = .ok (.iinc 4 1, 3) := by decide +kernel
theorem dX8_lastOf_65 : decode cX8_lastOf 65 = .ok (.goto (-60), 3) := by decide +kernel
theorem dX8_lastOf_68 : decode cX8_lastOf 68 = .ok (.iload_n 3, 1) := by decide +kernel
theorem dX8_lastOf_69 : decode cX8_lastOf 69 = .ok (.ireturn, 1) := by decide +kernel
theorem dX8_cold_0 : decode cX8_cold 0 = .ok (.aload_n 0, 1) := by decide +kernel
theorem dX8_cold_1 : decode cX8_cold 1 = .ok (.getfield 105, 3) := by decide +kernel
theorem dX8_cold_4 : decode cX8_cold 4 = .ok (.iconst (-1), 1) := by decide +kernel
theorem dX8_cold_5 : decode cX8_cold 5 = .ok (.if_icmp .ne 12, 3) := by decide +kernel
theorem dX8_cold_8 : decode cX8_cold 8 = .ok (.aload_n 0, 1) := by decide +kernel
theorem dX8_cold_9 : decode cX8_cold 9 = .ok (.iconst 2, 1) := by decide +kernel
theorem dX8_cold_10 : decode cX8_cold 10 = .ok (.iconst 5, 1) := by decide +kernel
theorem dX8_cold_11 : decode cX8_cold 11 = .ok (.invokevirtual 234, 3) := by decide +kernel
theorem dX8_cold_14 : decode cX8_cold 14 = .ok (.goto 7, 3) := by decide +kernel
theorem dX8_cold_17 : decode cX8_cold 17 = .ok (.aload_n 0, 1) := by decide +kernel
theorem dX8_cold_18 : decode cX8_cold 18 = .ok (.getfield 105, 3) := by decide +kernel
theorem dX8_cold_21 : decode cX8_cold 21 = .ok (.ireturn, 1) := by decide +kernel
theorem dX8_pocket_0 : decode cX8_pocket 0 = .ok (.aload_n 0, 1) := by decide +kernel
theorem dX8_pocket_1 : decode cX8_pocket 1 = .ok (.getfield 108, 3) := by decide +kernel
theorem dX8_pocket_4 : decode cX8_pocket 4 = .ok (.iconst (-1), 1) := by decide +kernel
theorem dX8_pocket_5 : decode cX8_pocket 5 = .ok (.if_icmp .ne 13, 3) := by decide +kernel
theorem dX8_pocket_8 : decode cX8_pocket 8 = .ok (.aload_n 0, 1) := by decide +kernel
theorem dX8_pocket_9 : decode cX8_pocket 9 = .ok (.iconst 3, 1) := by decide +kernel
theorem dX8_pocket_10 : decode cX8_pocket 10 = .ok (.bipush 10, 2) := by decide +kernel
theorem dX8_pocket_12 : decode cX8_pocket 12 = .ok (.invokevirtual 234, 3) := by decide +kernel
theorem dX8_pocket_15 : decode cX8_pocket 15 = .ok (.goto 7, 3) := by decide +kernel
theorem dX8_pocket_18 : decode cX8_pocket 18 = .ok (.aload_n 0, 1) := by decide +kernel
theorem dX8_pocket_19 : decode cX8_pocket 19 = .ok (.getfield 108, 3) := by decide +kernel
theorem dX8_pocket_22 : decode cX8_pocket 22 = .ok (.ireturn, 1) := by decide +kernel
theorem dX8_welcome_0 : decode cX8_welcome 0 = .ok (.aload_n 0, 1) := by decide +kernel
theorem dX8_welcome_1 : decode cX8_welcome 1 = .ok (.iload_n 1, 1) := by decide +kernel
theorem dX8_welcome_2 : decode cX8_welcome 2 = .ok (.invokevirtual 237, 3) := by decide +kernel
theorem dX8_welcome_5 : decode cX8_welcome 5 = .ok (.aload_n 0, 1) := by decide +kernel
theorem dX8_welcome_6 : decode cX8_welcome 6 = .ok (.getfield 18, 3) := by decide +kernel
theorem dX8_welcome_9 : decode cX8_welcome 9 = .ok (.iload_n 1, 1) := by decide +kernel
theorem dX8_welcome_10 : decode cX8_welcome 10 = .ok (.iaload, 1) := by decide +kernel
theorem dX8_welcome_11 : decode cX8_welcome 11 = .ok (.iadd, 1) := by decide +kernel
theorem dX8_welcome_12 : decode cX8_welcome 12 = .ok (.aload_n 0, 1) := by decide +kernel
theorem dX8_welcome_13 : decode cX8_welcome 13 = .ok (.getfield 136, 3) := by decide +kernel
theorem dX8_welcome_16 : decode cX8_welcome 16 = .ok (.bipush 10, 2) := by decide +kernel
theorem dX8_welcome_18 : decode cX8_welcome 18 = .ok (.idiv, 1) := by decide +kernel
theorem dX8_welcome_19 : decode cX8_welcome 19 = .ok (.isub, 1) := by decide +kernel
theorem dX8_welcome_20 : decode cX8_welcome 20 = .ok (.ireturn, 1) := by decide +kernel
theorem dX8_lets_0 : decode cX8_lets 0 = .ok (.aload_n 0, 1) := by decide +kernel
theorem dX8_lets_1 : decode cX8_lets 1 = .ok (.getfield 24, 3) := by decide +kernel
theorem dX8_lets_4 : decode cX8_lets 4 = .ok (.iload_n 1, 1) := by decide +kernel
theorem dX8_lets_5 : decode cX8_lets 5 = .ok (.iaload, 1) := by decide +kernel
theorem dX8_lets_6 : decode cX8_lets 6 = .ok (.ifCond .ne 34, 3) := by decide +kernel
theorem dX8_lets_9 : decode cX8_lets 9 = .ok (.aload_n 0, 1) := by decide +kernel
theorem dX8_lets_10 : decode cX8_lets 10 = .ok (.iload_n 1, 1) := by decide +kernel
theorem dX8_lets_11 : decode cX8_lets 11 = .ok (.invokevirtual 122, 3) := by decide +kernel
theorem dX8_lets_14 : decode cX8_lets 14 = .ok (.ifCond .lt 26, 3) := by decide +kernel
theorem dX8_lets_17 : decode cX8_lets 17 = .ok (.aload_n 0, 1) := by decide +kernel
theorem dX8_lets_18 : decode cX8_lets 18 = .ok (.getfield 9, 3) := by decide +kernel
theorem dX8_lets_21 : decode cX8_lets 21 = .ok (.iload_n 1, 1) := by decide +kernel
theorem dX8_lets_22 : decode cX8_lets 22 = .ok (.iaload, 1) := by decide +kernel
theorem dX8_lets_23 : decode cX8_lets 23 = .ok (.iconst 2, 1) := by decide +kernel
theorem dX8_lets_24 : decode cX8_lets 24 = .ok (.if_icmp .ne 12, 3) := by decide +kernel
theorem dX8_lets_27 : decode cX8_lets 27 = .ok (.aload_n 0, 1) := by decide +kernel
theorem dX8_lets_28 : decode cX8_lets 28 = .ok (.getfield 136, 3) := by decide +kernel
theorem dX8_lets_31 : decode cX8_lets 31 = .ok (.bipush 100, 2) := by decide +kernel
theorem dX8_lets_33 : decode cX8_lets 33 = .ok (.if_icmp .gt 7, 3) := by decide +kernel
theorem dX8_lets_36 : decode cX8_lets 36 = .ok (.iconst 1, 1) := by decide +kernel
theorem dX8_lets_37 : decode cX8_lets 37 = .ok (.goto 4, 3) := by decide +kernel
theorem dX8_lets_40 : decode cX8_lets 40 = .ok (.iconst 0, 1) := by decide +kernel
theorem dX8_lets_41 : decode cX8_lets 41 = .ok (.ireturn, 1) := by decide +kernel
theorem dX8_prays_0 : decode cX8_prays 0 = .ok (.aload_n 0, 1) := by decide +kernel
theorem dX8_prays_1 : decode cX8_prays 1 = .ok (.getfield 24, 3) := by decide +kernel
theorem dX8_prays_4 : decode cX8_prays 4 = .ok (.iload_n 1, 1) := by decide +kernel
theorem dX8_prays_5 : decode cX8_prays 5 = .ok (.iaload, 1) := by decide +kernel
theorem dX8_prays_6 : decode cX8_prays 6 = .ok (.iconst 1, 1) := by decide +kernel
theorem dX8_prays_7 : decode cX8_prays 7 = .ok (.if_icmp .ne 5, 3) := by decide +kernel
theorem dX8_prays_10 : decode cX8_prays 10 = .ok (.iconst 0, 1) := by decide +kernel
theorem dX8_prays_11 : decode cX8_prays 11 = .ok (.ireturn, 1) := by decide +kernel
theorem dX8_prays_12 : decode cX8_prays 12 = .ok (.aload_n 0, 1) := by decide +kernel
theorem dX8_prays_13 : decode cX8_prays 13 = .ok (.getfield 9, 3) := by decide +kernel
theorem dX8_prays_16 : decode cX8_prays 16 = .ok (.iload_n 1, 1) := by decide +kernel
theorem dX8_prays_17 : decode cX8_prays 17 = .ok (.iaload, 1) := by decide +kernel
theorem dX8_prays_18 : decode cX8_prays 18 = .ok (.tableswitch 146 1 6 #[38, 47, 146, 76, 105, 120], 38) := by decide +kernel
theorem dX8_prays_56 : decode cX8_prays 56 = .ok (.aload_n 0, 1) := by decide +kernel
theorem dX8_prays_57 : decode cX8_prays 57 = .ok (.getfield 18, 3) := by decide +kernel
theorem dX8_prays_60 : decode cX8_prays 60 = .ok (.iload_n 1, 1) := by decide +kernel
theorem dX8_prays_61 : decode cX8_prays 61 = .ok (.iaload, 1) := by decide +kernel
theorem dX8_prays_62 : decode cX8_prays 62 = .ok (.iconst 5, 1) := by decide +kernel
theorem dX8_prays_63 : decode cX8_prays 63 = .ok (.idiv, 1) := by decide +kernel
theorem dX8_prays_64 : decode cX8_prays 64 = .ok (.ireturn, 1) := by decide +kernel
theorem dX8_prays_65 : decode cX8_prays 65 = .ok (.aload_n 0, 1) := by decide +kernel
theorem dX8_prays_66 : decode cX8_prays 66 = .ok (.getfield 18, 3) := by decide +kernel
theorem dX8_prays_69 : decode cX8_prays 69 = .ok (.iload_n 1, 1) := by decide +kernel
theorem dX8_prays_70 : decode cX8_prays 70 = .ok (.iaload, 1) := by decide +kernel
theorem dX8_prays_71 : decode cX8_prays 71 = .ok (.bipush 10, 2) := by decide +kernel
theorem dX8_prays_73 : decode cX8_prays 73 = .ok (.idiv, 1) := by decide +kernel
theorem dX8_prays_74 : decode cX8_prays 74 = .ok (.aload_n 0, 1) := by decide +kernel
theorem dX8_prays_75 : decode cX8_prays 75 = .ok (.iload_n 1, 1) := by decide +kernel
theorem dX8_prays_76 : decode cX8_prays 76 = .ok (.invokevirtual 126, 3) := by decide +kernel
theorem dX8_prays_79 : decode cX8_prays 79 = .ok (.ifCond .eq 12, 3) := by decide +kernel
theorem dX8_prays_82 : decode cX8_prays 82 = .ok (.aload_n 0, 1) := by decide +kernel
theorem dX8_prays_83 : decode cX8_prays 83 = .ok (.getfield 15, 3) := by decide +kernel
theorem dX8_prays_86 : decode cX8_prays 86 = .ok (.iload_n 1, 1) := by decide +kernel
theorem dX8_prays_87 : decode cX8_prays 87 = .ok (.iaload, 1) := by decide +kernel
theorem dX8_prays_88 : decode cX8_prays 88 = .ok (.goto 4, 3) := by decide +kernel
theorem dX8_prays_91 : decode cX8_prays 91 = .ok (.iconst 0, 1) := by decide +kernel
theorem dX8_prays_92 : decode cX8_prays 92 = .ok (.iadd, 1) := by decide +kernel
theorem dX8_prays_93 : decode cX8_prays 93 = .ok (.ireturn, 1) := by decide +kernel
theorem dX8_prays_94 : decode cX8_prays 94 = .ok (.aload_n 0, 1) := by decide +kernel
theorem dX8_prays_95 : decode cX8_prays 95 = .ok (.getfield 224, 3) := by decide +kernel
theorem dX8_prays_98 : decode cX8_prays 98 = .ok (.aload_n 0, 1) := by decide +kernel
theorem dX8_prays_99 : decode cX8_prays 99 = .ok (.getfield 15, 3) := by decide +kernel
theorem dX8_prays_102 : decode cX8_prays 102 = .ok (.iload_n 1, 1) := by decide +kernel
theorem dX8_prays_103 : decode cX8_prays 103 = .ok (.iaload, 1) := by decide +kernel
theorem dX8_prays_104 : decode cX8_prays 104 = .ok (.iconst 2, 1) := by decide +kernel
theorem dX8_prays_105 : decode cX8_prays 105 = .ok (.iadd, 1) := by decide +kernel
theorem dX8_prays_106 : decode cX8_prays 106 = .ok (.irem, 1) := by decide +kernel
theorem dX8_prays_107 : decode cX8_prays 107 = .ok (.ifCond .ne 7, 3) := by decide +kernel
theorem dX8_prays_110 : decode cX8_prays 110 = .ok (.iconst 0, 1) := by decide +kernel
theorem dX8_prays_111 : decode cX8_prays 111 = .ok (.goto 11, 3) := by decide +kernel
theorem dX8_prays_114 : decode cX8_prays 114 = .ok (.aload_n 0, 1) := by decide +kernel
theorem dX8_prays_115 : decode cX8_prays 115 = .ok (.getfield 18, 3) := by decide +kernel
theorem dX8_prays_118 : decode cX8_prays 118 = .ok (.iload_n 1, 1) := by decide +kernel
theorem dX8_prays_119 : decode cX8_prays 119 = .ok (.iaload, 1) := by decide +kernel
theorem dX8_prays_120 : decode cX8_prays 120 = .ok (.iconst 5, 1) := by decide +kernel
theorem dX8_prays_121 : decode cX8_prays 121 = .ok (.idiv, 1) := by decide +kernel
theorem dX8_prays_122 : decode cX8_prays 122 = .ok (.ireturn, 1) := by decide +kernel
theorem dX8_prays_123 : decode cX8_prays 123 = .ok (.aload_n 0, 1) := by decide +kernel
theorem dX8_prays_124 : decode cX8_prays 124 = .ok (.getfield 18, 3) := by decide +kernel
theorem dX8_prays_127 : decode cX8_prays 127 = .ok (.iload_n 1, 1) := by decide +kernel
theorem dX8_prays_128 : decode cX8_prays 128 = .ok (.iaload, 1) := by decide +kernel
theorem dX8_prays_129 : decode cX8_prays 129 = .ok (.ifCond .le 7, 3) := by decide +kernel
theorem dX8_prays_132 : decode cX8_prays 132 = .ok (.iconst 3, 1) := by decide +kernel
theorem dX8_prays_133 : decode cX8_prays 133 = .ok (.goto 4, 3) := by decide +kernel
theorem dX8_prays_136 : decode cX8_prays 136 = .ok (.iconst 0, 1) := by decide +kernel
theorem dX8_prays_137 : decode cX8_prays 137 = .ok (.ireturn, 1) := by decide +kernel
theorem dX8_prays_138 : decode cX8_prays 138 = .ok (.aload_n 0, 1) := by decide +kernel
theorem dX8_prays_139 : decode cX8_prays 139 = .ok (.getfield 18, 3) := by decide +kernel
theorem dX8_prays_142 : decode cX8_prays 142 = .ok (.iload_n 1, 1) := by decide +kernel
theorem dX8_prays_143 : decode cX8_prays 143 = .ok (.iaload, 1) := by decide +kernel
theorem dX8_prays_144 : decode cX8_prays 144 = .ok (.bipush 10, 2) := by decide +kernel
theorem dX8_prays_146 : decode cX8_prays 146 = .ok (.idiv, 1) := by decide +kernel
theorem dX8_prays_147 : decode cX8_prays 147 = .ok (.aload_n 0, 1) := by decide +kernel
theorem dX8_prays_148 : decode cX8_prays 148 = .ok (.getfield 27, 3) := by decide +kernel
theorem dX8_prays_151 : decode cX8_prays 151 = .ok (.iconst 4, 1) := by decide +kernel
theorem dX8_prays_152 : decode cX8_prays 152 = .ok (.iload_n 1, 1) := by decide +kernel
theorem dX8_prays_153 : decode cX8_prays 153 = .ok (.imul, 1) := by decide +kernel
theorem dX8_prays_154 : decode cX8_prays 154 = .ok (.aload_n 0, 1) := by decide +kernel
theorem dX8_prays_155 : decode cX8_prays 155 = .ok (.getfield 224, 3) := by decide +kernel
theorem dX8_prays_158 : decode cX8_prays 158 = .ok (.iconst 4, 1) := by decide +kernel
theorem dX8_prays_159 : decode cX8_prays 159 = .ok (.irem, 1) := by decide +kernel
theorem dX8_prays_160 : decode cX8_prays 160 = .ok (.iadd, 1) := by decide +kernel
theorem dX8_prays_161 : decode cX8_prays 161 = .ok (.iaload, 1) := by decide +kernel
theorem dX8_prays_162 : decode cX8_prays 162 = .ok (.iadd, 1) := by decide +kernel
theorem dX8_prays_163 : decode cX8_prays 163 = .ok (.ireturn, 1) := by decide +kernel
theorem dX8_prays_164 : decode cX8_prays 164 = .ok (.aload_n 0, 1) := by decide +kernel
theorem dX8_prays_165 : decode cX8_prays 165 = .ok (.getfield 18, 3) := by decide +kernel
theorem dX8_prays_168 : decode cX8_prays 168 = .ok (.iload_n 1, 1) := by decide +kernel
theorem dX8_prays_169 : decode cX8_prays 169 = .ok (.iaload, 1) := by decide +kernel
theorem dX8_prays_170 : decode cX8_prays 170 = .ok (.bipush 10, 2) := by decide +kernel
theorem dX8_prays_172 : decode cX8_prays 172 = .ok (.idiv, 1) := by decide +kernel
theorem dX8_prays_173 : decode cX8_prays 173 = .ok (.ireturn, 1) := by decide +kernel
theorem dX8_thanksFor_0 : decode cX8_thanksFor 0 = .ok (.aload_n 0, 1) := by decide +kernel
theorem dX8_thanksFor_1 : decode cX8_thanksFor 1 = .ok (.getfield 9, 3) := by decide +kernel
theorem dX8_thanksFor_4 : decode cX8_thanksFor 4 = .ok (.iload_n 1, 1) := by decide +kernel
theorem dX8_thanksFor_5 : decode cX8_thanksFor 5 = .ok (.iaload, 1) := by decide +kernel
theorem dX8_thanksFor_6 : decode cX8_thanksFor 6 = .ok (.tableswitch 47 2 6 #[34, 38, 47, 34, 38], 34) := by decide +kernel
theorem dX8_thanksFor_40 : decode cX8_thanksFor 40 = .ok (.iload_n 2, 1) := by decide +kernel
theorem dX8_thanksFor_41 : decode cX8_thanksFor 41 = .ok (.iconst 2, 1) := by decide +kernel
theorem dX8_thanksFor_42 : decode cX8_thanksFor 42 = .ok (.idiv, 1) := by decide +kernel
theorem dX8_thanksFor_43 : decode cX8_thanksFor 43 = .ok (.ireturn, 1) := by decide +kernel
theorem dX8_thanksFor_44 : decode cX8_thanksFor 44 = .ok (.iload_n 2, 1) := by decide +kernel
theorem dX8_thanksFor_45 : decode cX8_thanksFor 45 = .ok (.aload_n 0, 1) := by decide +kernel
theorem dX8_thanksFor_46 : decode cX8_thanksFor 46 = .ok (.getfield 15, 3) := by decide +kernel
theorem dX8_thanksFor_49 : decode cX8_thanksFor 49 = .ok (.iload_n 1, 1) := by decide +kernel
theorem dX8_thanksFor_50 : decode cX8_thanksFor 50 = .ok (.iaload, 1) := by decide +kernel
theorem dX8_thanksFor_51 : decode cX8_thanksFor 51 = .ok (.iadd, 1) := by decide +kernel
theorem dX8_thanksFor_52 : decode cX8_thanksFor 52 = .ok (.ireturn, 1) := by decide +kernel
theorem dX8_thanksFor_53 : decode cX8_thanksFor 53 = .ok (.iload_n 2, 1) := by decide +kernel
theorem dX8_thanksFor_54 : decode cX8_thanksFor 54 = .ok (.ireturn, 1) := by decide +kernel
theorem dX8_letting_0 : decode cX8_letting 0 = .ok (.iconst 0, 1) := by decide +kernel
theorem dX8_letting_1 : decode cX8_letting 1 = .ok (.istore_n 1, 1) := by decide +kernel
theorem dX8_letting_2 : decode cX8_letting 2 = .ok (.iconst 0, 1) := by decide +kernel
theorem dX8_letting_3 : decode cX8_letting 3 = .ok (.istore_n 2, 1) := by decide +kernel
theorem dX8_letting_4 : decode cX8_letting 4 = .ok (.iload_n 2, 1) := by decide +kernel
theorem dX8_letting_5 : decode cX8_letting 5 = .ok (.aload_n 0, 1) := by decide +kernel
theorem dX8_letting_6 : decode cX8_letting 6 = .ok (.getfield 111, 3) := by decide +kernel
theorem dX8_letting_9 : decode cX8_letting 9 = .ok (.if_icmp .ge 23, 3) := by decide +kernel
theorem dX8_letting_12 : decode cX8_letting 12 = .ok (.aload_n 0, 1) := by decide +kernel
theorem dX8_letting_13 : decode cX8_letting 13 = .ok (.iload_n 2, 1) := by decide +kernel
theorem dX8_letting_14 : decode cX8_letting 14 = .ok (.invokevirtual 126, 3) := by decide +kernel
theorem dX8_letting_17 : decode cX8_letting 17 = .ok (.ifCond .eq 9, 3) := by decide +kernel
theorem dX8_letting_20 : decode cX8_letting 20 = .ok (.iload_n 1, 1) := by decide +kernel
theorem dX8_letting_21 : decode cX8_letting 21 = .ok (.iconst 1, 1) := by decide +kernel
theorem dX8_letting_22 : decode cX8_letting 22 = .ok (.iload_n 2, 1) := by decide +kernel
theorem dX8_letting_23 : decode cX8_letting 23 = .ok (.ishl, 1) := by decide +kernel
theorem dX8_letting_24 : decode cX8_letting 24 = .ok (.ior, 1) := by decide +kernel
theorem dX8_letting_25 : decode cX8_letting 25 = .ok (.istore_n 1, 1) := by decide +kernel
theorem dX8_letting_26 : decode cX8_letting 26 = .ok (.iinc 2 1, 3) := by decide +kernel
theorem dX8_letting_29 : decode cX8_letting 29 = .ok (.goto (-25), 3) := by decide +kernel
theorem dX8_letting_32 : decode cX8_letting 32 = .ok (.iload_n 1, 1) := by decide +kernel
theorem dX8_letting_33 : decode cX8_letting 33 = .ok (.ireturn, 1) := by decide +kernel
theorem dX8_prayers_0 : decode cX8_prayers 0 = .ok (.iconst 0, 1) := by decide +kernel
theorem dX8_prayers_1 : decode cX8_prayers 1 = .ok (.istore_n 1, 1) := by decide +kernel
theorem dX8_prayers_2 : decode cX8_prayers 2 = .ok (.iconst 0, 1) := by decide +kernel
theorem dX8_prayers_3 : decode cX8_prayers 3 = .ok (.istore_n 2, 1) := by decide +kernel
theorem dX8_prayers_4 : decode cX8_prayers 4 = .ok (.iload_n 2, 1) := by decide +kernel
theorem dX8_prayers_5 : decode cX8_prayers 5 = .ok (.aload_n 0, 1) := by decide +kernel
theorem dX8_prayers_6 : decode cX8_prayers 6 = .ok (.getfield 111, 3) := by decide +kernel
theorem dX8_prayers_9 : decode cX8_prayers 9 = .ok (.if_icmp .ge 17, 3) := by decide +kernel
theorem dX8_prayers_12 : decode cX8_prayers 12 = .ok (.iload_n 1, 1) := by decide +kernel
theorem dX8_prayers_13 : decode cX8_prayers 13 = .ok (.aload_n 0, 1) := by decide +kernel
theorem dX8_prayers_14 : decode cX8_prayers 14 = .ok (.iload_n 2, 1) := by decide +kernel
theorem dX8_prayers_15 : decode cX8_prayers 15 = .ok (.invokevirtual 129, 3) := by decide +kernel
theorem dX8_prayers_18 : decode cX8_prayers 18 = .ok (.iadd, 1) := by decide +kernel
theorem dX8_prayers_19 : decode cX8_prayers 19 = .ok (.istore_n 1, 1) := by decide +kernel
theorem dX8_prayers_20 : decode cX8_prayers 20 = .ok (.iinc 2 1, 3) := by decide +kernel
theorem dX8_prayers_23 : decode cX8_prayers 23 = .ok (.goto (-19), 3) := by decide +kernel
theorem dX8_prayers_26 : decode cX8_prayers 26 = .ok (.iload_n 1, 1) := by decide +kernel
theorem dX8_prayers_27 : decode cX8_prayers 27 = .ok (.ireturn, 1) := by decide +kernel
theorem dX8_goesDay_0 : decode cX8_goesDay 0 = .ok (.aload_n 0, 1) := by decide +kernel
theorem dX8_goesDay_1 : decode cX8_goesDay 1 = .ok (.getfield 98, 3) := by decide +kernel
theorem dX8_goesDay_4 : decode cX8_goesDay 4 = .ok (.ifCond .ne 4, 3) := by decide +kernel
theorem dX8_goesDay_7 : decode cX8_goesDay 7 = .ok (.return_, 1) := by decide +kernel
theorem dX8_goesDay_8 : decode cX8_goesDay 8 = .ok (.aload_n 0, 1) := by decide +kernel
theorem dX8_goesDay_9 : decode cX8_goesDay 9 = .ok (.invokevirtual 240, 3) := by decide +kernel
theorem dX8_goesDay_12 : decode cX8_goesDay 12 = .ok (.iconst 0, 1) := by decide +kernel
theorem dX8_goesDay_13 : decode cX8_goesDay 13 = .ok (.aload_n 0, 1) := by decide +kernel
theorem dX8_goesDay_14 : decode cX8_goesDay 14 = .ok (.invokevirtual 243, 3) := by decide +kernel
theorem dX8_goesDay_17 : decode cX8_goesDay 17 = .ok (.aload_n 0, 1) := by decide +kernel
theorem dX8_goesDay_18 : decode cX8_goesDay 18 = .ok (.invokevirtual 246, 3) := by decide +kernel
theorem dX8_goesDay_21 : decode cX8_goesDay 21 = .ok (.invokestatic 249, 3) := by decide +kernel
theorem dX8_goesDay_24 : decode cX8_goesDay 24 = .ok (.isub, 1) := by decide +kernel
theorem dX8_goesDay_25 : decode cX8_goesDay 25 = .ok (.invokestatic 254, 3) := by decide +kernel
theorem dX8_goesDay_28 : decode cX8_goesDay 28 = .ok (.isub, 1) := by decide +kernel
theorem dX8_goesDay_29 : decode cX8_goesDay 29 = .ok (.istore_n 1, 1) := by decide +kernel
theorem dX8_goesDay_30 : decode cX8_goesDay 30 = .ok (.aload_n 0, 1) := by decide +kernel
theorem dX8_goesDay_31 : decode cX8_goesDay 31 = .ok (.getfield 139, 3) := by decide +kernel
theorem dX8_goesDay_34 : decode cX8_goesDay 34 = .ok (.ifCond .le 78, 3) := by decide +kernel
theorem dX8_goesDay_37 : decode cX8_goesDay 37 = .ok (.aload_n 0, 1) := by decide +kernel
theorem dX8_goesDay_38 : decode cX8_goesDay 38 = .ok (.getfield 30, 3) := by decide +kernel
theorem dX8_goesDay_41 : decode cX8_goesDay 41 = .ok (.aload_n 0, 1) := by decide +kernel
theorem dX8_goesDay_42 : decode cX8_goesDay 42 = .ok (.getfield 224, 3) := by decide +kernel
theorem dX8_goesDay_45 : decode cX8_goesDay 45 = .ok (.aload_n 0, 1) := by decide +kernel
theorem dX8_goesDay_46 : decode cX8_goesDay 46 = .ok (.getfield 139, 3) := by decide +kernel
theorem dX8_goesDay_49 : decode cX8_goesDay 49 = .ok (.irem, 1) := by decide +kernel
theorem dX8_goesDay_50 : decode cX8_goesDay 50 = .ok (.iaload, 1) := by decide +kernel
theorem dX8_goesDay_51 : decode cX8_goesDay 51 = .ok (.istore_n 2, 1) := by decide +kernel
theorem dX8_goesDay_52 : decode cX8_goesDay 52 = .ok (.aload_n 0, 1) := by decide +kernel
theorem dX8_goesDay_53 : decode cX8_goesDay 53 = .ok (.getfield 24, 3) := by decide +kernel
theorem dX8_goesDay_56 : decode cX8_goesDay 56 = .ok (.iload_n 2, 1) := by decide +kernel
theorem dX8_goesDay_57 : decode cX8_goesDay 57 = .ok (.iaload, 1) := by decide +kernel
theorem dX8_goesDay_58 : decode cX8_goesDay 58 = .ok (.ifCond .ne 54, 3) := by decide +kernel
theorem dX8_goesDay_61 : decode cX8_goesDay 61 = .ok (.aload_n 0, 1) := by decide +kernel
theorem dX8_goesDay_62 : decode cX8_goesDay 62 = .ok (.getfield 21, 3) := by decide +kernel
theorem dX8_goesDay_65 : decode cX8_goesDay 65 = .ok (.iload_n 2, 1) := by decide +kernel
theorem dX8_goesDay_66 : decode cX8_goesDay 66 = .ok (.ldc_w 259, 3) := by decide +kernel
theorem dX8_goesDay_69 : decode cX8_goesDay 69 = .ok (.aload_n 0, 1) := by decide +kernel
theorem dX8_goesDay_70 : decode cX8_goesDay 70 = .ok (.getfield 21, 3) := by decide +kernel
theorem dX8_goesDay_73 : decode cX8_goesDay 73 = .ok (.iload_n 2, 1) := by decide +kernel
theorem dX8_goesDay_74 : decode cX8_goesDay 74 = .ok (.iaload, 1) := by decide +kernel
theorem dX8_goesDay_75 : decode cX8_goesDay 75 = .ok (.aload_n 0, 1) := by decide +kernel
theorem dX8_goesDay_76 : decode cX8_goesDay 76 = .ok (.invokevirtual 260, 3) := by decide +kernel
theorem dX8_goesDay_79 : decode cX8_goesDay 79 = .ok (.iadd, 1) := by decide +kernel
theorem dX8_goesDay_80 : decode cX8_goesDay 80 = .ok (.invokestatic 263, 3) := by decide +kernel
theorem dX8_goesDay_83 : decode cX8_goesDay 83 = .ok (.iastore, 1) := by decide +kernel
theorem dX8_goesDay_84 : decode cX8_goesDay 84 = .ok (.aload_n 0, 1) := by decide +kernel
theorem dX8_goesDay_85 : decode cX8_goesDay 85 = .ok (.getfield 18, 3) := by decide +kernel
theorem dX8_goesDay_88 : decode cX8_goesDay 88 = .ok (.iload_n 2, 1) := by decide +kernel
theorem dX8_goesDay_89 : decode cX8_goesDay 89 = .ok (.sipush 999, 3) := by decide +kernel
theorem dX8_goesDay_92 : decode cX8_goesDay 92 = .ok (.aload_n 0, 1) := by decide +kernel
theorem dX8_goesDay_93 : decode cX8_goesDay 93 = .ok (.getfield 18, 3) := by decide +kernel
theorem dX8_goesDay_96 : decode cX8_goesDay 96 = .ok (.iload_n 2, 1) := by decide +kernel
theorem dX8_goesDay_97 : decode cX8_goesDay 97 = .ok (.iaload, 1) := by decide +kernel
theorem dX8_goesDay_98 : decode cX8_goesDay 98 = .ok (.aload_n 0, 1) := by decide +kernel
theorem dX8_goesDay_99 : decode cX8_goesDay 99 = .ok (.iload_n 2, 1) := by decide +kernel
theorem dX8_goesDay_100 : decode cX8_goesDay 100 = .ok (.aload_n 0, 1) := by decide +kernel
theorem dX8_goesDay_101 : decode cX8_goesDay 101 = .ok (.invokevirtual 260, 3) := by decide +kernel
theorem dX8_goesDay_104 : decode cX8_goesDay 104 = .ok (.invokevirtual 132, 3) := by decide +kernel
theorem dX8_goesDay_107 : decode cX8_goesDay 107 = .ok (.iadd, 1) := by decide +kernel
theorem dX8_goesDay_108 : decode cX8_goesDay 108 = .ok (.invokestatic 263, 3) := by decide +kernel
theorem dX8_goesDay_111 : decode cX8_goesDay 111 = .ok (.iastore, 1) := by decide +kernel
theorem dX8_goesDay_112 : decode cX8_goesDay 112 = .ok (.aload_n 0, 1) := by decide +kernel
theorem dX8_goesDay_113 : decode cX8_goesDay 113 = .ok (.iconst 4, 1) := by decide +kernel
theorem dX8_goesDay_114 : decode cX8_goesDay 114 = .ok (.iconst 1, 1) := by decide +kernel
theorem dX8_goesDay_115 : decode cX8_goesDay 115 = .ok (.invokevirtual 234, 3) := by decide +kernel
theorem dX8_goesDay_118 : decode cX8_goesDay 118 = .ok (.istore_n 2, 1) := by decide +kernel
theorem dX8_goesDay_119 : decode cX8_goesDay 119 = .ok (.iconst 0, 1) := by decide +kernel
theorem dX8_goesDay_120 : decode cX8_goesDay 120 = .ok (.istore_n 3, 1) := by decide +kernel
theorem dX8_goesDay_121 : decode cX8_goesDay 121 = .ok (.iload_n 3, 1) := by decide +kernel
theorem dX8_goesDay_122 : decode cX8_goesDay 122 = .ok (.aload_n 0, 1) := by decide +kernel
theorem dX8_goesDay_123 : decode cX8_goesDay 123 = .ok (.getfield 111, 3) := by decide +kernel
theorem dX8_goesDay_126 : decode cX8_goesDay 126 = .ok (.if_icmp .ge 27, 3) := by decide +kernel
theorem dX8_goesDay_129 : decode cX8_goesDay 129 = .ok (.aload_n 0, 1) := by decide +kernel
theorem dX8_goesDay_130 : decode cX8_goesDay 130 = .ok (.getfield 18, 3) := by decide +kernel
theorem dX8_goesDay_133 : decode cX8_goesDay 133 = .ok (.iload_n 3, 1) := by decide +kernel
theorem dX8_goesDay_134 : decode cX8_goesDay 134 = .ok (.iconst 0, 1) := by decide +kernel
theorem dX8_goesDay_135 : decode cX8_goesDay 135 = .ok (.aload_n 0, 1) := by decide +kernel
theorem dX8_goesDay_136 : decode cX8_goesDay 136 = .ok (.getfield 18, 3) := by decide +kernel
theorem dX8_goesDay_139 : decode cX8_goesDay 139 = .ok (.iload_n 3, 1) := by decide +kernel
theorem dX8_goesDay_140 : decode cX8_goesDay 140 = .ok (.iaload, 1) := by decide +kernel
theorem dX8_goesDay_141 : decode cX8_goesDay 141 = .ok (.iconst 1, 1) := by decide +kernel
theorem dX8_goesDay_142 : decode cX8_goesDay 142 = .ok (.isub, 1) := by decide +kernel
theorem dX8_goesDay_143 : decode cX8_goesDay 143 = .ok (.invokestatic 254, 3) := by decide +kernel
theorem dX8_goesDay_146 : decode cX8_goesDay 146 = .ok (.iastore, 1) := by decide +kernel
theorem dX8_goesDay_147 : decode cX8_goesDay 147 = .ok (.iinc 3 1, 3) := by decide +kernel
theorem dX8_goesDay_150 : decode cX8_goesDay 150 = .ok (.goto (-29), 3) := by decide +kernel
theorem dX8_goesDay_153 : decode cX8_goesDay 153 = .ok (.aload_n 0, 1) := by decide +kernel
theorem dX8_goesDay_154 : decode cX8_goesDay 154 = .ok (.iconst 0, 1) := by decide +kernel
theorem dX8_goesDay_155 : decode cX8_goesDay 155 = .ok (.sipush 999, 3) := by decide +kernel
theorem dX8_goesDay_158 : decode cX8_goesDay 158 = .ok (.aload_n 0, 1) := by decide +kernel
theorem dX8_goesDay_159 : decode cX8_goesDay 159 = .ok (.getfield 98, 3) := by decide +kernel
theorem dX8_goesDay_162 : decode cX8_goesDay 162 = .ok (.iload_n 1, 1) := by decide +kernel
theorem dX8_goesDay_163 : decode cX8_goesDay 163 = .ok (.iadd, 1) := by decide +kernel
theorem dX8_goesDay_164 : decode cX8_goesDay 164 = .ok (.invokestatic 263, 3) := by decide +kernel
theorem dX8_goesDay_167 : decode cX8_goesDay 167 = .ok (.invokestatic 254, 3) := by decide +kernel
theorem dX8_goesDay_170 : decode cX8_goesDay 170 = .ok (.putfield 98, 3) := by decide +kernel
theorem dX8_goesDay_173 : decode cX8_goesDay 173 = .ok (.aload_n 0, 1) := by decide +kernel
theorem dX8_goesDay_174 : decode cX8_goesDay 174 = .ok (.sipush 999, 3) := by decide +kernel
theorem dX8_goesDay_177 : decode cX8_goesDay 177 = .ok (.aload_n 0, 1) := by decide +kernel
theorem dX8_goesDay_178 : decode cX8_goesDay 178 = .ok (.getfield 136, 3) := by decide +kernel
theorem dX8_goesDay_181 : decode cX8_goesDay 181 = .ok (.iload_n 2, 1) := by decide +kernel
theorem dX8_goesDay_182 : decode cX8_goesDay 182 = .ok (.iadd, 1) := by decide +kernel
theorem dX8_goesDay_183 : decode cX8_goesDay 183 = .ok (.invokestatic 263, 3) := by decide +kernel
theorem dX8_goesDay_186 : decode cX8_goesDay 186 = .ok (.putfield 136, 3) := by decide +kernel
theorem dX8_goesDay_189 : decode cX8_goesDay 189 = .ok (.aload_n 0, 1) := by decide +kernel
theorem dX8_goesDay_190 : decode cX8_goesDay 190 = .ok (.dup, 1) := by decide +kernel
theorem dX8_goesDay_191 : decode cX8_goesDay 191 = .ok (.getfield 224, 3) := by decide +kernel
theorem dX8_goesDay_194 : decode cX8_goesDay 194 = .ok (.iconst 1, 1) := by decide +kernel
theorem dX8_goesDay_195 : decode cX8_goesDay 195 = .ok (.iadd, 1) := by decide +kernel
theorem dX8_goesDay_196 : decode cX8_goesDay 196 = .ok (.putfield 224, 3) := by decide +kernel
theorem dX8_goesDay_199 : decode cX8_goesDay 199 = .ok (.return_, 1) := by decide +kernel
theorem dX8_days_0 : decode cX8_days 0 = .ok (.iconst 0, 1) := by decide +kernel
theorem dX8_days_1 : decode cX8_days 1 = .ok (.istore_n 2, 1) := by decide +kernel
theorem dX8_days_2 : decode cX8_days 2 = .ok (.iload_n 2, 1) := by decide +kernel
theorem dX8_days_3 : decode cX8_days 3 = .ok (.iload_n 1, 1) := by decide +kernel
theorem dX8_days_4 : decode cX8_days 4 = .ok (.if_icmp .ge 13, 3) := by decide +kernel
theorem dX8_days_7 : decode cX8_days 7 = .ok (.aload_n 0, 1) := by decide +kernel
theorem dX8_days_8 : decode cX8_days 8 = .ok (.invokevirtual 266, 3) := by decide +kernel
theorem dX8_days_11 : decode cX8_days 11 = .ok (.iinc 2 1, 3) := by decide +kernel
theorem dX8_days_14 : decode cX8_days 14 = .ok (.goto (-12), 3) := by decide +kernel
theorem dX8_days_17 : decode cX8_days 17 = .ok (.return_, 1) := by decide +kernel
theorem dX8_told_0 : decode cX8_told 0 = .ok (.iload_n 1, 1) := by decide +kernel
theorem dX8_told_1 : decode cX8_told 1 = .ok (.tableswitch 89 0 7 #[47, 52, 57, 62, 67, 72, 79, 84], 47) := by decide +kernel
theorem dX8_told_48 : decode cX8_told 48 = .ok (.aload_n 0, 1) := by decide +kernel
theorem dX8_told_49 : decode cX8_told 49 = .ok (.getfield 224, 3) := by decide +kernel
theorem dX8_told_52 : decode cX8_told 52 = .ok (.ireturn, 1) := by decide +kernel
theorem dX8_told_53 : decode cX8_told 53 = .ok (.aload_n 0, 1) := by decide +kernel
theorem dX8_told_54 : decode cX8_told 54 = .ok (.getfield 98, 3) := by decide +kernel
theorem dX8_told_57 : decode cX8_told 57 = .ok (.ireturn, 1) := by decide +kernel
theorem dX8_told_58 : decode cX8_told 58 = .ok (.aload_n 0, 1) := by decide +kernel
theorem dX8_told_59 : decode cX8_told 59 = .ok (.getfield 136, 3) := by decide +kernel
theorem dX8_told_62 : decode cX8_told 62 = .ok (.ireturn, 1) := by decide +kernel
theorem dX8_told_63 : decode cX8_told 63 = .ok (.aload_n 0, 1) := by decide +kernel
theorem dX8_told_64 : decode cX8_told 64 = .ok (.invokevirtual 243, 3) := by decide +kernel
theorem dX8_told_67 : decode cX8_told 67 = .ok (.ireturn, 1) := by decide +kernel
theorem dX8_told_68 : decode cX8_told 68 = .ok (.aload_n 0, 1) := by decide +kernel
theorem dX8_told_69 : decode cX8_told 69 = .ok (.invokevirtual 260, 3) := by decide +kernel
theorem dX8_told_72 : decode cX8_told 72 = .ok (.ireturn, 1) := by decide +kernel
theorem dX8_told_73 : decode cX8_told 73 = .ok (.aload_n 0, 1) := by decide +kernel
theorem dX8_told_74 : decode cX8_told 74 = .ok (.iconst 4, 1) := by decide +kernel
theorem dX8_told_75 : decode cX8_told 75 = .ok (.iconst 1, 1) := by decide +kernel
theorem dX8_told_76 : decode cX8_told 76 = .ok (.invokevirtual 234, 3) := by decide +kernel
theorem dX8_told_79 : decode cX8_told 79 = .ok (.ireturn, 1) := by decide +kernel
theorem dX8_told_80 : decode cX8_told 80 = .ok (.aload_n 0, 1) := by decide +kernel
theorem dX8_told_81 : decode cX8_told 81 = .ok (.invokevirtual 246, 3) := by decide +kernel
theorem dX8_told_84 : decode cX8_told 84 = .ok (.ireturn, 1) := by decide +kernel
theorem dX8_told_85 : decode cX8_told 85 = .ok (.aload_n 0, 1) := by decide +kernel
theorem dX8_told_86 : decode cX8_told 86 = .ok (.invokevirtual 240, 3) := by decide +kernel
theorem dX8_told_89 : decode cX8_told 89 = .ok (.ireturn, 1) := by decide +kernel
theorem dX8_told_90 : decode cX8_told 90 = .ok (.iload_n 1, 1) := by decide +kernel
theorem dX8_told_91 : decode cX8_told 91 = .ok (.bipush 10, 2) := by decide +kernel
theorem dX8_told_93 : decode cX8_told 93 = .ok (.bipush 9, 2) := by decide +kernel
theorem dX8_told_95 : decode cX8_told 95 = .ok (.aload_n 0, 1) := by decide +kernel
theorem dX8_told_96 : decode cX8_told 96 = .ok (.getfield 139, 3) := by decide +kernel
theorem dX8_told_99 : decode cX8_told 99 = .ok (.iadd, 1) := by decide +kernel
theorem dX8_told_100 : decode cX8_told 100 = .ok (.invokestatic 114, 3) := by decide +kernel
theorem dX8_told_103 : decode cX8_told 103 = .ok (.ifCond .eq 15, 3) := by decide +kernel
theorem dX8_told_106 : decode cX8_told 106 = .ok (.aload_n 0, 1) := by decide +kernel
theorem dX8_told_107 : decode cX8_told 107 = .ok (.getfield 30, 3) := by decide +kernel
theorem dX8_told_110 : decode cX8_told 110 = .ok (.iload_n 1, 1) := by decide +kernel
theorem dX8_told_111 : decode cX8_told 111 = .ok (.bipush 10, 2) := by decide +kernel
theorem dX8_told_113 : decode cX8_told 113 = .ok (.isub, 1) := by decide +kernel
theorem dX8_told_114 : decode cX8_told 114 = .ok (.iaload, 1) := by decide +kernel
theorem dX8_told_115 : decode cX8_told 115 = .ok (.goto 4, 3) := by decide +kernel
theorem dX8_told_118 : decode cX8_told 118 = .ok (.iconst (-1), 1) := by decide +kernel
theorem dX8_told_119 : decode cX8_told 119 = .ok (.ireturn, 1) := by decide +kernel
theorem dX8_isDays_0 : decode cX8_isDays 0 = .ok (.iload_n 0, 1) := by decide +kernel
theorem dX8_isDays_1 : decode cX8_isDays 1 = .ok (.iconst 0, 1) := by decide +kernel
theorem dX8_isDays_2 : decode cX8_isDays 2 = .ok (.bipush 60, 2) := by decide +kernel
theorem dX8_isDays_4 : decode cX8_isDays 4 = .ok (.invokestatic 114, 3) := by decide +kernel
theorem dX8_isDays_7 : decode cX8_isDays 7 = .ok (.ireturn, 1) := by decide +kernel
theorem dX8_pass_0 : decode cX8_pass 0 = .ok (.iload_n 1, 1) := by decide +kernel
theorem dX8_pass_1 : decode cX8_pass 1 = .ok (.invokestatic 269, 3) := by decide +kernel
theorem dX8_pass_4 : decode cX8_pass 4 = .ok (.ifCond .ne 6, 3) := by decide +kernel
theorem dX8_pass_7 : decode cX8_pass 7 = .ok (.bipush (-2), 2) := by decide +kernel
theorem dX8_pass_9 : decode cX8_pass 9 = .ok (.ireturn, 1) := by decide +kernel
theorem dX8_pass_10 : decode cX8_pass 10 = .ok (.aload_n 0, 1) := by decide +kernel
theorem dX8_pass_11 : decode cX8_pass 11 = .ok (.getfield 98, 3) := by decide +kernel
theorem dX8_pass_14 : decode cX8_pass 14 = .ok (.ifCond .eq 15, 3) := by decide +kernel
theorem dX8_pass_17 : decode cX8_pass 17 = .ok (.aload_n 0, 1) := by decide +kernel
theorem dX8_pass_18 : decode cX8_pass 18 = .ok (.getfield 224, 3) := by decide +kernel
theorem dX8_pass_21 : decode cX8_pass 21 = .ok (.iload_n 1, 1) := by decide +kernel
theorem dX8_pass_22 : decode cX8_pass 22 = .ok (.iadd, 1) := by decide +kernel
theorem dX8_pass_23 : decode cX8_pass 23 = .ok (.sipush 9999, 3) := by decide +kernel
theorem dX8_pass_26 : decode cX8_pass 26 = .ok (.if_icmp .le 6, 3) := by decide +kernel
theorem dX8_pass_29 : decode cX8_pass 29 = .ok (.bipush (-3), 2) := by decide +kernel
theorem dX8_pass_31 : decode cX8_pass 31 = .ok (.ireturn, 1) := by decide +kernel
theorem dX8_pass_32 : decode cX8_pass 32 = .ok (.aload_n 0, 1) := by decide +kernel
theorem dX8_pass_33 : decode cX8_pass 33 = .ok (.iload_n 1, 1) := by decide +kernel
theorem dX8_pass_34 : decode cX8_pass 34 = .ok (.invokevirtual 272, 3) := by decide +kernel
theorem dX8_pass_37 : decode cX8_pass 37 = .ok (.aload_n 0, 1) := by decide +kernel
theorem dX8_pass_38 : decode cX8_pass 38 = .ok (.getfield 98, 3) := by decide +kernel
theorem dX8_pass_41 : decode cX8_pass 41 = .ok (.ireturn, 1) := by decide +kernel
theorem dX8_healthOn_0 : decode cX8_healthOn 0 = .ok (.aload_n 0, 1) := by decide +kernel
theorem dX8_healthOn_1 : decode cX8_healthOn 1 = .ok (.aload_n 0, 1) := by decide +kernel
theorem dX8_healthOn_2 : decode cX8_healthOn 2 = .ok (.getfield 76, 3) := by decide +kernel
theorem dX8_healthOn_5 : decode cX8_healthOn 5 = .ok (.invokevirtual 276, 3) := by decide +kernel
theorem dX8_healthOn_8 : decode cX8_healthOn 8 = .ok (.aload_n 0, 1) := by decide +kernel
theorem dX8_healthOn_9 : decode cX8_healthOn 9 = .ok (.iload_n 1, 1) := by decide +kernel
theorem dX8_healthOn_10 : decode cX8_healthOn 10 = .ok (.invokevirtual 272, 3) := by decide +kernel
theorem dX8_healthOn_13 : decode cX8_healthOn 13 = .ok (.aload_n 0, 1) := by decide +kernel
theorem dX8_healthOn_14 : decode cX8_healthOn 14 = .ok (.getfield 98, 3) := by decide +kernel
theorem dX8_healthOn_17 : decode cX8_healthOn 17 = .ok (.istore_n 2, 1) := by decide +kernel
theorem dX8_healthOn_18 : decode cX8_healthOn 18 = .ok (.aload_n 0, 1) := by decide +kernel
theorem dX8_healthOn_19 : decode cX8_healthOn 19 = .ok (.aload_n 0, 1) := by decide +kernel
theorem dX8_healthOn_20 : decode cX8_healthOn 20 = .ok (.getfield 76, 3) := by decide +kernel
theorem dX8_healthOn_23 : decode cX8_healthOn 23 = .ok (.invokevirtual 280, 3) := by decide +kernel
theorem dX8_healthOn_26 : decode cX8_healthOn 26 = .ok (.iload_n 2, 1) := by decide +kernel
theorem dX8_healthOn_27 : decode cX8_healthOn 27 = .ok (.ireturn, 1) := by decide +kernel
theorem dX8_isGone_0 : decode cX8_isGone 0 = .ok (.aload_n 0, 1) := by decide +kernel
theorem dX8_isGone_1 : decode cX8_isGone 1 = .ok (.iload_n 1, 1) := by decide +kernel
theorem dX8_isGone_2 : decode cX8_isGone 2 = .ok (.invokevirtual 283, 3) := by decide +kernel
theorem dX8_isGone_5 : decode cX8_isGone 5 = .ok (.ifCond .ne 7, 3) := by decide +kernel
theorem dX8_isGone_8 : decode cX8_isGone 8 = .ok (.iconst 1, 1) := by decide +kernel
theorem dX8_isGone_9 : decode cX8_isGone 9 = .ok (.goto 4, 3) := by decide +kernel
theorem dX8_isGone_12 : decode cX8_isGone 12 = .ok (.iconst 0, 1) := by decide +kernel
theorem dX8_isGone_13 : decode cX8_isGone 13 = .ok (.ireturn, 1) := by decide +kernel
theorem dX8_on_0 : decode cX8_on 0 = .ok (.iload_n 2, 1) := by decide +kernel
theorem dX8_on_1 : decode cX8_on 1 = .ok (.iconst 0, 1) := by decide +kernel
theorem dX8_on_2 : decode cX8_on 2 = .ok (.iconst 2, 1) := by decide +kernel
theorem dX8_on_3 : decode cX8_on 3 = .ok (.invokestatic 114, 3) := by decide +kernel
theorem dX8_on_6 : decode cX8_on 6 = .ok (.ifCond .ne 27, 3) := by decide +kernel
theorem dX8_on_9 : decode cX8_on 9 = .ok (.aload_n 0, 1) := by decide +kernel
theorem dX8_on_10 : decode cX8_on 10 = .ok (.iload_n 2, 1) := by decide +kernel
theorem dX8_on_11 : decode cX8_on 11 = .ok (.bipush 10, 2) := by decide +kernel
theorem dX8_on_13 : decode cX8_on 13 = .ok (.isub, 1) := by decide +kernel
theorem dX8_on_14 : decode cX8_on 14 = .ok (.invokevirtual 118, 3) := by decide +kernel
theorem dX8_on_17 : decode cX8_on 17 = .ok (.ifCond .ne 16, 3) := by decide +kernel
theorem dX8_on_20 : decode cX8_on 20 = .ok (.aload_n 0, 1) := by decide +kernel
theorem dX8_on_21 : decode cX8_on 21 = .ok (.iload_n 2, 1) := by decide +kernel
theorem dX8_on_22 : decode cX8_on 22 = .ok (.bipush 20, 2) := by decide +kernel
theorem dX8_on_24 : decode cX8_on 24 = .ok (.isub, 1) := by decide +kernel
theorem dX8_on_25 : decode cX8_on 25 = .ok (.invokevirtual 118, 3) := by decide +kernel
theorem dX8_on_28 : decode cX8_on 28 = .ok (.ifCond .ne 5, 3) := by decide +kernel
theorem dX8_on_31 : decode cX8_on 31 = .ok (.iconst (-1), 1) := by decide +kernel
theorem dX8_on_32 : decode cX8_on 32 = .ok (.ireturn, 1) := by decide +kernel
theorem dX8_on_33 : decode cX8_on 33 = .ok (.iload_n 1, 1) := by decide +kernel
theorem dX8_on_34 : decode cX8_on 34 = .ok (.invokestatic 269, 3) := by decide +kernel
theorem dX8_on_37 : decode cX8_on 37 = .ok (.ifCond .ne 6, 3) := by decide +kernel
theorem dX8_on_40 : decode cX8_on 40 = .ok (.bipush (-2), 2) := by decide +kernel
theorem dX8_on_42 : decode cX8_on 42 = .ok (.ireturn, 1) := by decide +kernel
theorem dX8_on_43 : decode cX8_on 43 = .ok (.aload_n 0, 1) := by decide +kernel
theorem dX8_on_44 : decode cX8_on 44 = .ok (.aload_n 0, 1) := by decide +kernel
theorem dX8_on_45 : decode cX8_on 45 = .ok (.getfield 76, 3) := by decide +kernel
theorem dX8_on_48 : decode cX8_on 48 = .ok (.invokevirtual 276, 3) := by decide +kernel
theorem dX8_on_51 : decode cX8_on 51 = .ok (.aload_n 0, 1) := by decide +kernel
theorem dX8_on_52 : decode cX8_on 52 = .ok (.iload_n 1, 1) := by decide +kernel
theorem dX8_on_53 : decode cX8_on 53 = .ok (.invokevirtual 272, 3) := by decide +kernel
theorem dX8_on_56 : decode cX8_on 56 = .ok (.iload_n 2, 1) := by decide +kernel
theorem dX8_on_57 : decode cX8_on 57 = .ok (.ifCond .ne 10, 3) := by decide +kernel
theorem dX8_on_60 : decode cX8_on 60 = .ok (.aload_n 0, 1) := by decide +kernel
theorem dX8_on_61 : decode cX8_on 61 = .ok (.getfield 98, 3) := by decide +kernel
theorem dX8_on_64 : decode cX8_on 64 = .ok (.goto 54, 3) := by decide +kernel
theorem dX8_on_67 : decode cX8_on 67 = .ok (.iload_n 2, 1) := by decide +kernel
theorem dX8_on_68 : decode cX8_on 68 = .ok (.iconst 1, 1) := by decide +kernel
theorem dX8_on_69 : decode cX8_on 69 = .ok (.if_icmp .ne 10, 3) := by decide +kernel
theorem dX8_on_72 : decode cX8_on 72 = .ok (.aload_n 0, 1) := by decide +kernel
theorem dX8_on_73 : decode cX8_on 73 = .ok (.getfield 136, 3) := by decide +kernel
theorem dX8_on_76 : decode cX8_on 76 = .ok (.goto 42, 3) := by decide +kernel
theorem dX8_on_79 : decode cX8_on 79 = .ok (.iload_n 2, 1) := by decide +kernel
theorem dX8_on_80 : decode cX8_on 80 = .ok (.iconst 2, 1) := by decide +kernel
theorem dX8_on_81 : decode cX8_on 81 = .ok (.if_icmp .ne 10, 3) := by decide +kernel
theorem dX8_on_84 : decode cX8_on 84 = .ok (.aload_n 0, 1) := by decide +kernel
theorem dX8_on_85 : decode cX8_on 85 = .ok (.invokevirtual 246, 3) := by decide +kernel
theorem dX8_on_88 : decode cX8_on 88 = .ok (.goto 30, 3) := by decide +kernel
theorem dX8_on_91 : decode cX8_on 91 = .ok (.iload_n 2, 1) := by decide +kernel
theorem dX8_on_92 : decode cX8_on 92 = .ok (.bipush 20, 2) := by decide +kernel
theorem dX8_on_94 : decode cX8_on 94 = .ok (.if_icmp .ge 15, 3) := by decide +kernel
theorem dX8_on_97 : decode cX8_on 97 = .ok (.aload_n 0, 1) := by decide +kernel
theorem dX8_on_98 : decode cX8_on 98 = .ok (.getfield 18, 3) := by decide +kernel
theorem dX8_on_101 : decode cX8_on 101 = .ok (.iload_n 2, 1) := by decide +kernel
theorem dX8_on_102 : decode cX8_on 102 = .ok (.bipush 10, 2) := by decide +kernel
theorem dX8_on_104 : decode cX8_on 104 = .ok (.isub, 1) := by decide +kernel
theorem dX8_on_105 : decode cX8_on 105 = .ok (.iaload, 1) := by decide +kernel
theorem dX8_on_106 : decode cX8_on 106 = .ok (.goto 12, 3) := by decide +kernel
theorem dX8_on_109 : decode cX8_on 109 = .ok (.aload_n 0, 1) := by decide +kernel
theorem dX8_on_110 : decode cX8_on 110 = .ok (.getfield 21, 3) := by decide +kernel
theorem dX8_on_113 : decode cX8_on 113 = .ok (.iload_n 2, 1) := by decide +kernel
theorem dX8_on_114 : decode cX8_on 114 = .ok (.bipush 20, 2) := by decide +kernel
theorem dX8_on_116 : decode cX8_on 116 = .ok (.isub, 1) := by decide +kernel
theorem dX8_on_117 : decode cX8_on 117 = .ok (.iaload, 1) := by decide +kernel
theorem dX8_on_118 : decode cX8_on 118 = .ok (.istore_n 3, 1) := by decide +kernel
theorem dX8_on_119 : decode cX8_on 119 = .ok (.aload_n 0, 1) := by decide +kernel
theorem dX8_on_120 : decode cX8_on 120 = .ok (.aload_n 0, 1) := by decide +kernel
theorem dX8_on_121 : decode cX8_on 121 = .ok (.getfield 76, 3) := by decide +kernel
theorem dX8_on_124 : decode cX8_on 124 = .ok (.invokevirtual 280, 3) := by decide +kernel
theorem dX8_on_127 : decode cX8_on 127 = .ok (.iload_n 3, 1) := by decide +kernel
theorem dX8_on_128 : decode cX8_on 128 = .ok (.ireturn, 1) := by decide +kernel
theorem dX8_dies_0 : decode cX8_dies 0 = .ok (.iconst 0, 1) := by decide +kernel
theorem dX8_dies_1 : decode cX8_dies 1 = .ok (.istore_n 1, 1) := by decide +kernel
theorem dX8_dies_2 : decode cX8_dies 2 = .ok (.iload_n 1, 1) := by decide +kernel
theorem dX8_dies_3 : decode cX8_dies 3 = .ok (.bipush 100, 2) := by decide +kernel
theorem dX8_dies_5 : decode cX8_dies 5 = .ok (.if_icmp .ge 19, 3) := by decide +kernel
theorem dX8_dies_8 : decode cX8_dies 8 = .ok (.aload_n 0, 1) := by decide +kernel
theorem dX8_dies_9 : decode cX8_dies 9 = .ok (.iload_n 1, 1) := by decide +kernel
theorem dX8_dies_10 : decode cX8_dies 10 = .ok (.invokevirtual 286, 3) := by decide +kernel
theorem dX8_dies_13 : decode cX8_dies 13 = .ok (.ifCond .eq 5, 3) := by decide +kernel
theorem dX8_dies_16 : decode cX8_dies 16 = .ok (.iload_n 1, 1) := by decide +kernel
theorem dX8_dies_17 : decode cX8_dies 17 = .ok (.ireturn, 1) := by decide +kernel
theorem dX8_dies_18 : decode cX8_dies 18 = .ok (.iinc 1 1, 3) := by decide +kernel
theorem dX8_dies_21 : decode cX8_dies 21 = .ok (.goto (-19), 3) := by decide +kernel
theorem dX8_dies_24 : decode cX8_dies 24 = .ok (.bipush (-5), 2) := by decide +kernel
theorem dX8_dies_26 : decode cX8_dies 26 = .ok (.ireturn, 1) := by decide +kernel
theorem dX8_worst_0 : decode cX8_worst 0 = .ok (.iload_n 2, 1) := by decide +kernel
theorem dX8_worst_1 : decode cX8_worst 1 = .ok (.iconst 0, 1) := by decide +kernel
theorem dX8_worst_2 : decode cX8_worst 2 = .ok (.iconst 1, 1) := by decide +kernel
theorem dX8_worst_3 : decode cX8_worst 3 = .ok (.invokestatic 114, 3) := by decide +kernel
theorem dX8_worst_6 : decode cX8_worst 6 = .ok (.ifCond .ne 5, 3) := by decide +kernel
theorem dX8_worst_9 : decode cX8_worst 9 = .ok (.iconst (-1), 1) := by decide +kernel
theorem dX8_worst_10 : decode cX8_worst 10 = .ok (.ireturn, 1) := by decide +kernel
theorem dX8_worst_11 : decode cX8_worst 11 = .ok (.iload_n 1, 1) := by decide +kernel
theorem dX8_worst_12 : decode cX8_worst 12 = .ok (.invokestatic 269, 3) := by decide +kernel
theorem dX8_worst_15 : decode cX8_worst 15 = .ok (.ifCond .ne 6, 3) := by decide +kernel
theorem dX8_worst_18 : decode cX8_worst 18 = .ok (.bipush (-2), 2) := by decide +kernel
theorem dX8_worst_20 : decode cX8_worst 20 = .ok (.ireturn, 1) := by decide +kernel
theorem dX8_worst_21 : decode cX8_worst 21 = .ok (.aload_n 0, 1) := by decide +kernel
theorem dX8_worst_22 : decode cX8_worst 22 = .ok (.getfield 98, 3) := by decide +kernel
theorem dX8_worst_25 : decode cX8_worst 25 = .ok (.istore_n 3, 1) := by decide +kernel
theorem dX8_worst_26 : decode cX8_worst 26 = .ok (.iconst 0, 1) := by decide +kernel
theorem dX8_worst_27 : decode cX8_worst 27 = .ok (.istore 4, 2) := by decide +kernel
theorem dX8_worst_29 : decode cX8_worst 29 = .ok (.aload_n 0, 1) := by decide +kernel
theorem dX8_worst_30 : decode cX8_worst 30 = .ok (.aload_n 0, 1) := by decide +kernel
theorem dX8_worst_31 : decode cX8_worst 31 = .ok (.getfield 76, 3) := by decide +kernel
theorem dX8_worst_34 : decode cX8_worst 34 = .ok (.invokevirtual 276, 3) := by decide +kernel
theorem dX8_worst_37 : decode cX8_worst 37 = .ok (.iconst 1, 1) := by decide +kernel
theorem dX8_worst_38 : decode cX8_worst 38 = .ok (.istore 5, 2) := by decide +kernel
theorem dX8_worst_40 : decode cX8_worst 40 = .ok (.iload 5, 2) := by decide +kernel
theorem dX8_worst_42 : decode cX8_worst 42 = .ok (.iload_n 1, 1) := by decide +kernel
theorem dX8_worst_43 : decode cX8_worst 43 = .ok (.if_icmp .gt 33, 3) := by decide +kernel
theorem dX8_worst_46 : decode cX8_worst 46 = .ok (.aload_n 0, 1) := by decide +kernel
theorem dX8_worst_47 : decode cX8_worst 47 = .ok (.invokevirtual 266, 3) := by decide +kernel
theorem dX8_worst_50 : decode cX8_worst 50 = .ok (.aload_n 0, 1) := by decide +kernel
theorem dX8_worst_51 : decode cX8_worst 51 = .ok (.getfield 98, 3) := by decide +kernel
theorem dX8_worst_54 : decode cX8_worst 54 = .ok (.iload_n 3, 1) := by decide +kernel
theorem dX8_worst_55 : decode cX8_worst 55 = .ok (.if_icmp .lt 6, 3) := by decide +kernel
theorem dX8_worst_58 : decode cX8_worst 58 = .ok (.goto 12, 3) := by decide +kernel
theorem dX8_worst_61 : decode cX8_worst 61 = .ok (.aload_n 0, 1) := by decide +kernel
theorem dX8_worst_62 : decode cX8_worst 62 = .ok (.getfield 98, 3) := by decide +kernel
theorem dX8_worst_65 : decode cX8_worst 65 = .ok (.istore_n 3, 1) := by decide +kernel
theorem dX8_worst_66 : decode cX8_worst 66 = .ok (.iload 5, 2) := by decide +kernel
theorem dX8_worst_68 : decode cX8_worst 68 = .ok (.istore 4, 2) := by decide +kernel
theorem dX8_worst_70 : decode cX8_worst 70 = .ok (.iinc 5 1, 3) := by decide +kernel
theorem dX8_worst_73 : decode cX8_worst 73 = .ok (.goto (-33), 3) := by decide +kernel
theorem dX8_worst_76 : decode cX8_worst 76 = .ok (.aload_n 0, 1) := by decide +kernel
theorem dX8_worst_77 : decode cX8_worst 77 = .ok (.aload_n 0, 1) := by decide +kernel
theorem dX8_worst_78 : decode cX8_worst 78 = .ok (.getfield 76, 3) := by decide +kernel
theorem dX8_worst_81 : decode cX8_worst 81 = .ok (.invokevirtual 280, 3) := by decide +kernel
theorem dX8_worst_84 : decode cX8_worst 84 = .ok (.iload_n 2, 1) := by decide +kernel
theorem dX8_worst_85 : decode cX8_worst 85 = .ok (.ifCond .ne 7, 3) := by decide +kernel
theorem dX8_worst_88 : decode cX8_worst 88 = .ok (.iload_n 3, 1) := by decide +kernel
theorem dX8_worst_89 : decode cX8_worst 89 = .ok (.goto 5, 3) := by decide +kernel
theorem dX8_worst_92 : decode cX8_worst 92 = .ok (.iload 4, 2) := by decide +kernel
theorem dX8_worst_94 : decode cX8_worst 94 = .ok (.ireturn, 1) := by decide +kernel
theorem dX8_aim_0 : decode cX8_aim 0 = .ok (.bipush (-5), 2) := by decide +kernel
theorem dX8_aim_2 : decode cX8_aim 2 = .ok (.istore_n 1, 1) := by decide +kernel
theorem dX8_aim_3 : decode cX8_aim 3 = .ok (.iconst (-1), 1) := by decide +kernel
theorem dX8_aim_4 : decode cX8_aim 4 = .ok (.istore_n 2, 1) := by decide +kernel
theorem dX8_aim_5 : decode cX8_aim 5 = .ok (.aload_n 0, 1) := by decide +kernel
theorem dX8_aim_6 : decode cX8_aim 6 = .ok (.getfield 139, 3) := by decide +kernel
theorem dX8_aim_9 : decode cX8_aim 9 = .ok (.istore_n 3, 1) := by decide +kernel
theorem dX8_aim_10 : decode cX8_aim 10 = .ok (.aload_n 0, 1) := by decide +kernel
theorem dX8_aim_11 : decode cX8_aim 11 = .ok (.getfield 30, 3) := by decide +kernel
theorem dX8_aim_14 : decode cX8_aim 14 = .ok (.iconst 0, 1) := by decide +kernel
theorem dX8_aim_15 : decode cX8_aim 15 = .ok (.iaload, 1) := by decide +kernel
theorem dX8_aim_16 : decode cX8_aim 16 = .ok (.istore 4, 2) := by decide +kernel
theorem dX8_aim_18 : decode cX8_aim 18 = .ok (.iconst 0, 1) := by decide +kernel
theorem dX8_aim_19 : decode cX8_aim 19 = .ok (.istore 5, 2) := by decide +kernel
theorem dX8_aim_21 : decode cX8_aim 21 = .ok (.iload 5, 2) := by decide +kernel
theorem dX8_aim_23 : decode cX8_aim 23 = .ok (.aload_n 0, 1) := by decide +kernel
theorem dX8_aim_24 : decode cX8_aim 24 = .ok (.getfield 111, 3) := by decide +kernel
theorem dX8_aim_27 : decode cX8_aim 27 = .ok (.if_icmp .ge 45, 3) := by decide +kernel
theorem dX8_aim_30 : decode cX8_aim 30 = .ok (.aload_n 0, 1) := by decide +kernel
theorem dX8_aim_31 : decode cX8_aim 31 = .ok (.iconst 1, 1) := by decide +kernel
theorem dX8_aim_32 : decode cX8_aim 32 = .ok (.putfield 139, 3) := by decide +kernel
theorem dX8_aim_35 : decode cX8_aim 35 = .ok (.aload_n 0, 1) := by decide +kernel
theorem dX8_aim_36 : decode cX8_aim 36 = .ok (.getfield 30, 3) := by decide +kernel
theorem dX8_aim_39 : decode cX8_aim 39 = .ok (.iconst 0, 1) := by decide +kernel
theorem dX8_aim_40 : decode cX8_aim 40 = .ok (.iload 5, 2) := by decide +kernel
theorem dX8_aim_42 : decode cX8_aim 42 = .ok (.iastore, 1) := by decide +kernel
theorem dX8_aim_43 : decode cX8_aim 43 = .ok (.aload_n 0, 1) := by decide +kernel
theorem dX8_aim_44 : decode cX8_aim 44 = .ok (.bipush 40, 2) := by decide +kernel
theorem dX8_aim_46 : decode cX8_aim 46 = .ok (.invokevirtual 283, 3) := by decide +kernel
theorem dX8_aim_49 : decode cX8_aim 49 = .ok (.istore 6, 2) := by decide +kernel
theorem dX8_aim_51 : decode cX8_aim 51 = .ok (.iload 6, 2) := by decide +kernel
theorem dX8_aim_53 : decode cX8_aim 53 = .ok (.iload_n 2, 1) := by decide +kernel
theorem dX8_aim_54 : decode cX8_aim 54 = .ok (.if_icmp .gt 6, 3) := by decide +kernel
theorem dX8_aim_57 : decode cX8_aim 57 = .ok (.goto 9, 3) := by decide +kernel
theorem dX8_aim_60 : decode cX8_aim 60 = .ok (.iload 6, 2) := by decide +kernel
theorem dX8_aim_62 : decode cX8_aim 62 = .ok (.istore_n 2, 1) := by decide +kernel
theorem dX8_aim_63 : decode cX8_aim 63 = .ok (.iload 5, 2) := by decide +kernel
theorem dX8_aim_65 : decode cX8_aim 65 = .ok (.istore_n 1, 1) := by decide +kernel
theorem dX8_aim_66 : decode cX8_aim 66 = .ok (.iinc 5 1, 3) := by decide +kernel
theorem dX8_aim_69 : decode cX8_aim 69 = .ok (.goto (-48), 3) := by decide +kernel
theorem dX8_aim_72 : decode cX8_aim 72 = .ok (.aload_n 0, 1) := by decide +kernel
theorem dX8_aim_73 : decode cX8_aim 73 = .ok (.iload_n 3, 1) := by decide +kernel
theorem dX8_aim_74 : decode cX8_aim 74 = .ok (.putfield 139, 3) := by decide +kernel
theorem dX8_aim_77 : decode cX8_aim 77 = .ok (.aload_n 0, 1) := by decide +kernel
theorem dX8_aim_78 : decode cX8_aim 78 = .ok (.getfield 30, 3) := by decide +kernel
theorem dX8_aim_81 : decode cX8_aim 81 = .ok (.iconst 0, 1) := by decide +kernel
theorem dX8_aim_82 : decode cX8_aim 82 = .ok (.iload 4, 2) := by decide +kernel
theorem dX8_aim_84 : decode cX8_aim 84 = .ok (.iastore, 1) := by decide +kernel
theorem dX8_aim_85 : decode cX8_aim 85 = .ok (.iload_n 1, 1) := by decide +kernel
theorem dX8_aim_86 : decode cX8_aim 86 = .ok (.ireturn, 1) := by decide +kernel
theorem dX8_change_0 : decode cX8_change 0 = .ok (.aload_n 0, 1) := by decide +kernel
theorem dX8_change_1 : decode cX8_change 1 = .ok (.getfield 30, 3) := by decide +kernel
theorem dX8_change_4 : decode cX8_change 4 = .ok (.iload_n 1, 1) := by decide +kernel
theorem dX8_change_5 : decode cX8_change 5 = .ok (.iaload, 1) := by decide +kernel
theorem dX8_change_6 : decode cX8_change 6 = .ok (.istore_n 3, 1) := by decide +kernel
theorem dX8_change_7 : decode cX8_change 7 = .ok (.aload_n 0, 1) := by decide +kernel
theorem dX8_change_8 : decode cX8_change 8 = .ok (.getfield 30, 3) := by decide +kernel
theorem dX8_change_11 : decode cX8_change 11 = .ok (.iload_n 1, 1) := by decide +kernel
theorem dX8_change_12 : decode cX8_change 12 = .ok (.aload_n 0, 1) := by decide +kernel
theorem dX8_change_13 : decode cX8_change 13 = .ok (.getfield 30, 3) := by decide +kernel
theorem dX8_change_16 : decode cX8_change 16 = .ok (.iload_n 2, 1) := by decide +kernel
theorem dX8_change_17 : decode cX8_change 17 = .ok (.iaload, 1) := by decide +kernel
theorem dX8_change_18 : decode cX8_change 18 = .ok (.iastore, 1) := by decide +kernel
theorem dX8_change_19 : decode cX8_change 19 = .ok (.aload_n 0, 1) := by decide +kernel
theorem dX8_change_20 : decode cX8_change 20 = .ok (.getfield 30, 3) := by decide +kernel
theorem dX8_change_23 : decode cX8_change 23 = .ok (.iload_n 2, 1) := by decide +kernel
theorem dX8_change_24 : decode cX8_change 24 = .ok (.iload_n 3, 1) := by decide +kernel
theorem dX8_change_25 : decode cX8_change 25 = .ok (.iastore, 1) := by decide +kernel
theorem dX8_change_26 : decode cX8_change 26 = .ok (.return_, 1) := by decide +kernel
theorem dX8_swap_0 : decode cX8_swap 0 = .ok (.bipush (-5), 2) := by decide +kernel
theorem dX8_swap_2 : decode cX8_swap 2 = .ok (.istore_n 1, 1) := by decide +kernel
theorem dX8_swap_3 : decode cX8_swap 3 = .ok (.aload_n 0, 1) := by decide +kernel
theorem dX8_swap_4 : decode cX8_swap 4 = .ok (.bipush 40, 2) := by decide +kernel
theorem dX8_swap_6 : decode cX8_swap 6 = .ok (.invokevirtual 283, 3) := by decide +kernel
theorem dX8_swap_9 : decode cX8_swap 9 = .ok (.istore_n 2, 1) := by decide +kernel
theorem dX8_swap_10 : decode cX8_swap 10 = .ok (.iconst 0, 1) := by decide +kernel
theorem dX8_swap_11 : decode cX8_swap 11 = .ok (.istore_n 3, 1) := by decide +kernel
theorem dX8_swap_12 : decode cX8_swap 12 = .ok (.iload_n 3, 1) := by decide +kernel
theorem dX8_swap_13 : decode cX8_swap 13 = .ok (.aload_n 0, 1) := by decide +kernel
theorem dX8_swap_14 : decode cX8_swap 14 = .ok (.getfield 139, 3) := by decide +kernel
theorem dX8_swap_17 : decode cX8_swap 17 = .ok (.if_icmp .ge 71, 3) := by decide +kernel
theorem dX8_swap_20 : decode cX8_swap 20 = .ok (.iload_n 3, 1) := by decide +kernel
theorem dX8_swap_21 : decode cX8_swap 21 = .ok (.iconst 1, 1) := by decide +kernel
theorem dX8_swap_22 : decode cX8_swap 22 = .ok (.iadd, 1) := by decide +kernel
theorem dX8_swap_23 : decode cX8_swap 23 = .ok (.istore 4, 2) := by decide +kernel
theorem dX8_swap_25 : decode cX8_swap 25 = .ok (.iload 4, 2) := by decide +kernel
theorem dX8_swap_27 : decode cX8_swap 27 = .ok (.aload_n 0, 1) := by decide +kernel
theorem dX8_swap_28 : decode cX8_swap 28 = .ok (.getfield 139, 3) := by decide +kernel
theorem dX8_swap_31 : decode cX8_swap 31 = .ok (.if_icmp .ge 51, 3) := by decide +kernel
theorem dX8_swap_34 : decode cX8_swap 34 = .ok (.aload_n 0, 1) := by decide +kernel
theorem dX8_swap_35 : decode cX8_swap 35 = .ok (.iload_n 3, 1) := by decide +kernel
theorem dX8_swap_36 : decode cX8_swap 36 = .ok (.iload 4, 2) := by decide +kernel
theorem dX8_swap_38 : decode cX8_swap 38 = .ok (.invokevirtual 289, 3) := by decide +kernel
theorem dX8_swap_41 : decode cX8_swap 41 = .ok (.aload_n 0, 1) := by decide +kernel
theorem dX8_swap_42 : decode cX8_swap 42 = .ok (.bipush 40, 2) := by decide +kernel
theorem dX8_swap_44 : decode cX8_swap 44 = .ok (.invokevirtual 283, 3) := by decide +kernel
theorem dX8_swap_47 : decode cX8_swap 47 = .ok (.istore 5, 2) := by decide +kernel
theorem dX8_swap_49 : decode cX8_swap 49 = .ok (.aload_n 0, 1) := by decide +kernel
theorem dX8_swap_50 : decode cX8_swap 50 = .ok (.iload_n 3, 1) := by decide +kernel
theorem dX8_swap_51 : decode cX8_swap 51 = .ok (.iload 4, 2) := by decide +kernel
theorem dX8_swap_53 : decode cX8_swap 53 = .ok (.invokevirtual 289, 3) := by decide +kernel
theorem dX8_swap_56 : decode cX8_swap 56 = .ok (.iload 5, 2) := by decide +kernel
theorem dX8_swap_58 : decode cX8_swap 58 = .ok (.iload_n 2, 1) := by decide +kernel
theorem dX8_swap_59 : decode cX8_swap 59 = .ok (.if_icmp .gt 6, 3) := by decide +kernel
theorem dX8_swap_62 : decode cX8_swap 62 = .ok (.goto 14, 3) := by decide +kernel
theorem dX8_swap_65 : decode cX8_swap 65 = .ok (.iload 5, 2) := by decide +kernel
theorem dX8_swap_67 : decode cX8_swap 67 = .ok (.istore_n 2, 1) := by decide +kernel
theorem dX8_swap_68 : decode cX8_swap 68 = .ok (.bipush 10, 2) := by decide +kernel
theorem dX8_swap_70 : decode cX8_swap 70 = .ok (.iload_n 3, 1) := by decide +kernel
theorem dX8_swap_71 : decode cX8_swap 71 = .ok (.imul, 1) := by decide +kernel
theorem dX8_swap_72 : decode cX8_swap 72 = .ok (.iload 4, 2) := by decide +kernel
theorem dX8_swap_74 : decode cX8_swap 74 = .ok (.iadd, 1) := by decide +kernel
theorem dX8_swap_75 : decode cX8_swap 75 = .ok (.istore_n 1, 1) := by decide +kernel
theorem dX8_swap_76 : decode cX8_swap 76 = .ok (.iinc 4 1, 3) := by decide +kernel
theorem dX8_swap_79 : decode cX8_swap 79 = .ok (.goto (-54), 3) := by decide +kernel
theorem dX8_swap_82 : decode cX8_swap 82 = .ok (.iinc 3 1, 3) := by decide +kernel
theorem dX8_swap_85 : decode cX8_swap 85 = .ok (.goto (-73), 3) := by decide +kernel
theorem dX8_swap_88 : decode cX8_swap 88 = .ok (.iload_n 1, 1) := by decide +kernel
theorem dX8_swap_89 : decode cX8_swap 89 = .ok (.ireturn, 1) := by decide +kernel
theorem dX8_enough_0 : decode cX8_enough 0 = .ok (.iload_n 1, 1) := by decide +kernel
theorem dX8_enough_1 : decode cX8_enough 1 = .ok (.iconst 1, 1) := by decide +kernel
theorem dX8_enough_2 : decode cX8_enough 2 = .ok (.bipush 20, 2) := by decide +kernel
theorem dX8_enough_4 : decode cX8_enough 4 = .ok (.invokestatic 114, 3) := by decide +kernel
theorem dX8_enough_7 : decode cX8_enough 7 = .ok (.ifCond .ne 6, 3) := by decide +kernel
theorem dX8_enough_10 : decode cX8_enough 10 = .ok (.bipush (-2), 2) := by decide +kernel
theorem dX8_enough_12 : decode cX8_enough 12 = .ok (.ireturn, 1) := by decide +kernel
theorem dX8_enough_13 : decode cX8_enough 13 = .ok (.bipush (-5), 2) := by decide +kernel
theorem dX8_enough_15 : decode cX8_enough 15 = .ok (.istore_n 2, 1) := by decide +kernel
theorem dX8_enough_16 : decode cX8_enough 16 = .ok (.bipush 40, 2) := by decide +kernel
theorem dX8_enough_18 : decode cX8_enough 18 = .ok (.istore_n 3, 1) := by decide +kernel
theorem dX8_enough_19 : decode cX8_enough 19 = .ok (.iload_n 3, 1) := by decide +kernel
theorem dX8_enough_20 : decode cX8_enough 20 = .ok (.ifCond .lt 24, 3) := by decide +kernel
theorem dX8_enough_23 : decode cX8_enough 23 = .ok (.aload_n 0, 1) := by decide +kernel
theorem dX8_enough_24 : decode cX8_enough 24 = .ok (.iload_n 3, 1) := by decide +kernel
theorem dX8_enough_25 : decode cX8_enough 25 = .ok (.putfield 108, 3) := by decide +kernel
theorem dX8_enough_28 : decode cX8_enough 28 = .ok (.aload_n 0, 1) := by decide +kernel
theorem dX8_enough_29 : decode cX8_enough 29 = .ok (.iload_n 1, 1) := by decide +kernel
theorem dX8_enough_30 : decode cX8_enough 30 = .ok (.invokevirtual 286, 3) := by decide +kernel
theorem dX8_enough_33 : decode cX8_enough 33 = .ok (.ifCond .ne 5, 3) := by decide +kernel
theorem dX8_enough_36 : decode cX8_enough 36 = .ok (.iload_n 3, 1) := by decide +kernel
theorem dX8_enough_37 : decode cX8_enough 37 = .ok (.istore_n 2, 1) := by decide +kernel
theorem dX8_enough_38 : decode cX8_enough 38 = .ok (.iinc 3 (-1), 3) := by decide +kernel
theorem dX8_enough_41 : decode cX8_enough 41 = .ok (.goto (-22), 3) := by decide +kernel
theorem dX8_enough_44 : decode cX8_enough 44 = .ok (.aload_n 0, 1) := by decide +kernel
theorem dX8_enough_45 : decode cX8_enough 45 = .ok (.iconst (-1), 1) := by decide +kernel
theorem dX8_enough_46 : decode cX8_enough 46 = .ok (.putfield 108, 3) := by decide +kernel
theorem dX8_enough_49 : decode cX8_enough 49 = .ok (.iload_n 2, 1) := by decide +kernel
theorem dX8_enough_50 : decode cX8_enough 50 = .ok (.ireturn, 1) := by decide +kernel
theorem dX8_bears_0 : decode cX8_bears 0 = .ok (.iload_n 1, 1) := by decide +kernel
theorem dX8_bears_1 : decode cX8_bears 1 = .ok (.iconst 1, 1) := by decide +kernel
theorem dX8_bears_2 : decode cX8_bears 2 = .ok (.bipush 20, 2) := by decide +kernel
theorem dX8_bears_4 : decode cX8_bears 4 = .ok (.invokestatic 114, 3) := by decide +kernel
theorem dX8_bears_7 : decode cX8_bears 7 = .ok (.ifCond .ne 6, 3) := by decide +kernel
theorem dX8_bears_10 : decode cX8_bears 10 = .ok (.bipush (-2), 2) := by decide +kernel
theorem dX8_bears_12 : decode cX8_bears 12 = .ok (.ireturn, 1) := by decide +kernel
theorem dX8_bears_13 : decode cX8_bears 13 = .ok (.bipush (-5), 2) := by decide +kernel
theorem dX8_bears_15 : decode cX8_bears 15 = .ok (.istore_n 2, 1) := by decide +kernel
theorem dX8_bears_16 : decode cX8_bears 16 = .ok (.iconst 0, 1) := by decide +kernel
theorem dX8_bears_17 : decode cX8_bears 17 = .ok (.istore_n 3, 1) := by decide +kernel
theorem dX8_bears_18 : decode cX8_bears 18 = .ok (.iload_n 3, 1) := by decide +kernel
theorem dX8_bears_19 : decode cX8_bears 19 = .ok (.bipush 41, 2) := by decide +kernel
theorem dX8_bears_21 : decode cX8_bears 21 = .ok (.if_icmp .ge 24, 3) := by decide +kernel
theorem dX8_bears_24 : decode cX8_bears 24 = .ok (.aload_n 0, 1) := by decide +kernel
theorem dX8_bears_25 : decode cX8_bears 25 = .ok (.iload_n 3, 1) := by decide +kernel
theorem dX8_bears_26 : decode cX8_bears 26 = .ok (.putfield 105, 3) := by decide +kernel
theorem dX8_bears_29 : decode cX8_bears 29 = .ok (.aload_n 0, 1) := by decide +kernel
theorem dX8_bears_30 : decode cX8_bears 30 = .ok (.iload_n 1, 1) := by decide +kernel
theorem dX8_bears_31 : decode cX8_bears 31 = .ok (.invokevirtual 286, 3) := by decide +kernel
theorem dX8_bears_34 : decode cX8_bears 34 = .ok (.ifCond .ne 5, 3) := by decide +kernel
theorem dX8_bears_37 : decode cX8_bears 37 = .ok (.iload_n 3, 1) := by decide +kernel
theorem dX8_bears_38 : decode cX8_bears 38 = .ok (.istore_n 2, 1) := by decide +kernel
theorem dX8_bears_39 : decode cX8_bears 39 = .ok (.iinc 3 1, 3) := by decide +kernel
theorem dX8_bears_42 : decode cX8_bears 42 = .ok (.goto (-24), 3) := by decide +kernel
theorem dX8_bears_45 : decode cX8_bears 45 = .ok (.aload_n 0, 1) := by decide +kernel
theorem dX8_bears_46 : decode cX8_bears 46 = .ok (.iconst (-1), 1) := by decide +kernel
theorem dX8_bears_47 : decode cX8_bears 47 = .ok (.putfield 105, 3) := by decide +kernel
theorem dX8_bears_50 : decode cX8_bears 50 = .ok (.iload_n 2, 1) := by decide +kernel
theorem dX8_bears_51 : decode cX8_bears 51 = .ok (.ireturn, 1) := by decide +kernel
theorem dX8_isGoneWithout_0 : decode cX8_isGoneWithout 0 = .ok (.aload_n 0, 1) := by decide +kernel
theorem dX8_isGoneWithout_1 : decode cX8_isGoneWithout 1 = .ok (.getfield 24, 3) := by decide +kernel
theorem dX8_isGoneWithout_4 : decode cX8_isGoneWithout 4 = .ok (.iload_n 1, 1) := by decide +kernel
theorem dX8_isGoneWithout_5 : decode cX8_isGoneWithout 5 = .ok (.iaload, 1) := by decide +kernel
theorem dX8_isGoneWithout_6 : decode cX8_isGoneWithout 6 = .ok (.istore_n 3, 1) := by decide +kernel
theorem dX8_isGoneWithout_7 : decode cX8_isGoneWithout 7 = .ok (.aload_n 0, 1) := by decide +kernel
theorem dX8_isGoneWithout_8 : decode cX8_isGoneWithout 8 = .ok (.getfield 24, 3) := by decide +kernel
theorem dX8_isGoneWithout_11 : decode cX8_isGoneWithout 11 = .ok (.iload_n 1, 1) := by decide +kernel
theorem dX8_isGoneWithout_12 : decode cX8_isGoneWithout 12 = .ok (.iconst 1, 1) := by decide +kernel
theorem dX8_isGoneWithout_13 : decode cX8_isGoneWithout 13 = .ok (.iastore, 1) := by decide +kernel
theorem dX8_isGoneWithout_14 : decode cX8_isGoneWithout 14 = .ok (.aload_n 0, 1) := by decide +kernel
theorem dX8_isGoneWithout_15 : decode cX8_isGoneWithout 15 = .ok (.iload_n 2, 1) := by decide +kernel
theorem dX8_isGoneWithout_16 : decode cX8_isGoneWithout 16 = .ok (.invokevirtual 286, 3) := by decide +kernel
theorem dX8_isGoneWithout_19 : decode cX8_isGoneWithout 19 = .ok (.istore 4, 2) := by decide +kernel
theorem dX8_isGoneWithout_21 : decode cX8_isGoneWithout 21 = .ok (.aload_n 0, 1) := by decide +kernel
theorem dX8_isGoneWithout_22 : decode cX8_isGoneWithout 22 = .ok (.getfield 24, 3) := by decide +kernel
theorem dX8_isGoneWithout_25 : decode cX8_isGoneWithout 25 = .ok (.iload_n 1, 1) := by decide +kernel
theorem dX8_isGoneWithout_26 : decode cX8_isGoneWithout 26 = .ok (.iload_n 3, 1) := by decide +kernel
theorem dX8_isGoneWithout_27 : decode cX8_isGoneWithout 27 = .ok (.iastore, 1) := by decide +kernel
theorem dX8_isGoneWithout_28 : decode cX8_isGoneWithout 28 = .ok (.iload 4, 2) := by decide +kernel
theorem dX8_isGoneWithout_30 : decode cX8_isGoneWithout 30 = .ok (.ireturn, 1) := by decide +kernel
theorem dX8_whose_0 : decode cX8_whose 0 = .ok (.iload_n 1, 1) := by decide +kernel
theorem dX8_whose_1 : decode cX8_whose 1 = .ok (.iconst 1, 1) := by decide +kernel
theorem dX8_whose_2 : decode cX8_whose 2 = .ok (.bipush 60, 2) := by decide +kernel
theorem dX8_whose_4 : decode cX8_whose 4 = .ok (.invokestatic 114, 3) := by decide +kernel
theorem dX8_whose_7 : decode cX8_whose 7 = .ok (.ifCond .ne 6, 3) := by decide +kernel
theorem dX8_whose_10 : decode cX8_whose 10 = .ok (.bipush (-2), 2) := by decide +kernel
theorem dX8_whose_12 : decode cX8_whose 12 = .ok (.ireturn, 1) := by decide +kernel
theorem dX8_whose_13 : decode cX8_whose 13 = .ok (.iconst 0, 1) := by decide +kernel
theorem dX8_whose_14 : decode cX8_whose 14 = .ok (.istore_n 2, 1) := by decide +kernel
theorem dX8_whose_15 : decode cX8_whose 15 = .ok (.aload_n 0, 1) := by decide +kernel
theorem dX8_whose_16 : decode cX8_whose 16 = .ok (.iload_n 1, 1) := by decide +kernel
theorem dX8_whose_17 : decode cX8_whose 17 = .ok (.invokevirtual 286, 3) := by decide +kernel
theorem dX8_whose_20 : decode cX8_whose 20 = .ok (.ifCond .eq 5, 3) := by decide +kernel
theorem dX8_whose_23 : decode cX8_whose 23 = .ok (.iconst 0, 1) := by decide +kernel
theorem dX8_whose_24 : decode cX8_whose 24 = .ok (.ireturn, 1) := by decide +kernel
theorem dX8_whose_25 : decode cX8_whose 25 = .ok (.iconst 0, 1) := by decide +kernel
theorem dX8_whose_26 : decode cX8_whose 26 = .ok (.istore_n 3, 1) := by decide +kernel
theorem dX8_whose_27 : decode cX8_whose 27 = .ok (.iload_n 3, 1) := by decide +kernel
theorem dX8_whose_28 : decode cX8_whose 28 = .ok (.aload_n 0, 1) := by decide +kernel
theorem dX8_whose_29 : decode cX8_whose 29 = .ok (.getfield 111, 3) := by decide +kernel
theorem dX8_whose_32 : decode cX8_whose 32 = .ok (.if_icmp .ge 33, 3) := by decide +kernel
theorem dX8_whose_35 : decode cX8_whose 35 = .ok (.aload_n 0, 1) := by decide +kernel
theorem dX8_whose_36 : decode cX8_whose 36 = .ok (.getfield 24, 3) := by decide +kernel
theorem dX8_whose_39 : decode cX8_whose 39 = .ok (.iload_n 3, 1) := by decide +kernel
theorem dX8_whose_40 : decode cX8_whose 40 = .ok (.iaload, 1) := by decide +kernel
theorem dX8_whose_41 : decode cX8_whose 41 = .ok (.ifCond .ne 18, 3) := by decide +kernel
theorem dX8_whose_44 : decode cX8_whose 44 = .ok (.aload_n 0, 1) := by decide +kernel
theorem dX8_whose_45 : decode cX8_whose 45 = .ok (.iload_n 3, 1) := by decide +kernel
theorem dX8_whose_46 : decode cX8_whose 46 = .ok (.iload_n 1, 1) := by decide +kernel
theorem dX8_whose_47 : decode cX8_whose 47 = .ok (.invokevirtual 293, 3) := by decide +kernel
theorem dX8_whose_50 : decode cX8_whose 50 = .ok (.ifCond .eq 9, 3) := by decide +kernel
theorem dX8_whose_53 : decode cX8_whose 53 = .ok (.iload_n 2, 1) := by decide +kernel
theorem dX8_whose_54 : decode cX8_whose 54 = .ok (.iconst 1, 1) := by decide +kernel
theorem dX8_whose_55 : decode cX8_whose 55 = .ok (.iload_n 3, 1) := by decide +kernel
theorem dX8_whose_56 : decode cX8_whose 56 = .ok (.ishl, 1) := by decide +kernel
theorem dX8_whose_57 : decode cX8_whose 57 = .ok (.ior, 1) := by decide +kernel
theorem dX8_whose_58 : decode cX8_whose 58 = .ok (.istore_n 2, 1) := by decide +kernel
theorem dX8_whose_59 : decode cX8_whose 59 = .ok (.iinc 3 1, 3) := by decide +kernel
theorem dX8_whose_62 : decode cX8_whose 62 = .ok (.goto (-35), 3) := by decide +kernel
theorem dX8_whose_65 : decode cX8_whose 65 = .ok (.iload_n 2, 1) := by decide +kernel
theorem dX8_whose_66 : decode cX8_whose 66 = .ok (.ireturn, 1) := by decide +kernel
theorem dX8_see_0 : decode cX8_see 0 = .ok (.iload_n 1, 1) := by decide +kernel
theorem dX8_see_1 : decode cX8_see 1 = .ok (.iconst (-1), 1) := by decide +kernel
theorem dX8_see_2 : decode cX8_see 2 = .ok (.if_icmp .ne 10, 3) := by decide +kernel
theorem dX8_see_5 : decode cX8_see 5 = .ok (.aload_n 0, 1) := by decide +kernel
theorem dX8_see_6 : decode cX8_see 6 = .ok (.iconst 0, 1) := by decide +kernel
theorem dX8_see_7 : decode cX8_see 7 = .ok (.putfield 296, 3) := by decide +kernel
theorem dX8_see_10 : decode cX8_see 10 = .ok (.iconst 0, 1) := by decide +kernel
theorem dX8_see_11 : decode cX8_see 11 = .ok (.ireturn, 1) := by decide +kernel
theorem dX8_see_12 : decode cX8_see 12 = .ok (.iload_n 1, 1) := by decide +kernel
theorem dX8_see_13 : decode cX8_see 13 = .ok (.iconst 0, 1) := by decide +kernel
theorem dX8_see_14 : decode cX8_see 14 = .ok (.sipush 999, 3) := by decide +kernel
theorem dX8_see_17 : decode cX8_see 17 = .ok (.invokestatic 114, 3) := by decide +kernel
theorem dX8_see_20 : decode cX8_see 20 = .ok (.ifCond .eq 13, 3) := by decide +kernel
theorem dX8_see_23 : decode cX8_see 23 = .ok (.iload_n 2, 1) := by decide +kernel
theorem dX8_see_24 : decode cX8_see 24 = .ok (.iconst 0, 1) := by decide +kernel
theorem dX8_see_25 : decode cX8_see 25 = .ok (.bipush 20, 2) := by decide +kernel
theorem dX8_see_27 : decode cX8_see 27 = .ok (.invokestatic 114, 3) := by decide +kernel
theorem dX8_see_30 : decode cX8_see 30 = .ok (.ifCond .ne 6, 3) := by decide +kernel
theorem dX8_see_33 : decode cX8_see 33 = .ok (.bipush (-2), 2) := by decide +kernel
theorem dX8_see_35 : decode cX8_see 35 = .ok (.ireturn, 1) := by decide +kernel
theorem dX8_see_36 : decode cX8_see 36 = .ok (.aload_n 0, 1) := by decide +kernel
theorem dX8_see_37 : decode cX8_see 37 = .ok (.getfield 296, 3) := by decide +kernel
theorem dX8_see_40 : decode cX8_see 40 = .ok (.iconst 5, 1) := by decide +kernel
theorem dX8_see_41 : decode cX8_see 41 = .ok (.if_icmp .ne 6, 3) := by decide +kernel
theorem dX8_see_44 : decode cX8_see 44 = .ok (.bipush (-4), 2) := by decide +kernel
theorem dX8_see_46 : decode cX8_see 46 = .ok (.ireturn, 1) := by decide +kernel
theorem dX8_see_47 : decode cX8_see 47 = .ok (.aload_n 0, 1) := by decide +kernel
theorem dX8_see_48 : decode cX8_see 48 = .ok (.getfield 58, 3) := by decide +kernel
theorem dX8_see_51 : decode cX8_see 51 = .ok (.aload_n 0, 1) := by decide +kernel
theorem dX8_see_52 : decode cX8_see 52 = .ok (.getfield 296, 3) := by decide +kernel
theorem dX8_see_55 : decode cX8_see 55 = .ok (.iload_n 1, 1) := by decide +kernel
theorem dX8_see_56 : decode cX8_see 56 = .ok (.iastore, 1) := by decide +kernel
theorem dX8_see_57 : decode cX8_see 57 = .ok (.aload_n 0, 1) := by decide +kernel
theorem dX8_see_58 : decode cX8_see 58 = .ok (.getfield 61, 3) := by decide +kernel
theorem dX8_see_61 : decode cX8_see 61 = .ok (.aload_n 0, 1) := by decide +kernel
theorem dX8_see_62 : decode cX8_see 62 = .ok (.dup, 1) := by decide +kernel
theorem dX8_see_63 : decode cX8_see 63 = .ok (.getfield 296, 3) := by decide +kernel
theorem dX8_see_66 : decode cX8_see 66 = .ok (.dup_x1, 1) := by decide +kernel
theorem dX8_see_67 : decode cX8_see 67 = .ok (.iconst 1, 1) := by decide +kernel
theorem dX8_see_68 : decode cX8_see 68 = .ok (.iadd, 1) := by decide +kernel
theorem dX8_see_69 : decode cX8_see 69 = .ok (.putfield 296, 3) := by decide +kernel
theorem dX8_see_72 : decode cX8_see 72 = .ok (.iload_n 2, 1) := by decide +kernel
theorem dX8_see_73 : decode cX8_see 73 = .ok (.iastore, 1) := by decide +kernel
theorem dX8_see_74 : decode cX8_see 74 = .ok (.aload_n 0, 1) := by decide +kernel
theorem dX8_see_75 : decode cX8_see 75 = .ok (.getfield 296, 3) := by decide +kernel
theorem dX8_see_78 : decode cX8_see 78 = .ok (.ireturn, 1) := by decide +kernel
theorem dX8_isSeen_0 : decode cX8_isSeen 0 = .ok (.iconst 0, 1) := by decide +kernel
theorem dX8_isSeen_1 : decode cX8_isSeen 1 = .ok (.istore_n 1, 1) := by decide +kernel
theorem dX8_isSeen_2 : decode cX8_isSeen 2 = .ok (.iload_n 1, 1) := by decide +kernel
theorem dX8_isSeen_3 : decode cX8_isSeen 3 = .ok (.aload_n 0, 1) := by decide +kernel
theorem dX8_isSeen_4 : decode cX8_isSeen 4 = .ok (.getfield 296, 3) := by decide +kernel
theorem dX8_isSeen_7 : decode cX8_isSeen 7 = .ok (.if_icmp .ge 30, 3) := by decide +kernel
theorem dX8_isSeen_10 : decode cX8_isSeen 10 = .ok (.aload_n 0, 1) := by decide +kernel
theorem dX8_isSeen_11 : decode cX8_isSeen 11 = .ok (.aload_n 0, 1) := by decide +kernel
theorem dX8_isSeen_12 : decode cX8_isSeen 12 = .ok (.getfield 61, 3) := by decide +kernel
theorem dX8_isSeen_15 : decode cX8_isSeen 15 = .ok (.iload_n 1, 1) := by decide +kernel
theorem dX8_isSeen_16 : decode cX8_isSeen 16 = .ok (.iaload, 1) := by decide +kernel
theorem dX8_isSeen_17 : decode cX8_isSeen 17 = .ok (.invokevirtual 283, 3) := by decide +kernel
theorem dX8_isSeen_20 : decode cX8_isSeen 20 = .ok (.aload_n 0, 1) := by decide +kernel
theorem dX8_isSeen_21 : decode cX8_isSeen 21 = .ok (.getfield 58, 3) := by decide +kernel
theorem dX8_isSeen_24 : decode cX8_isSeen 24 = .ok (.iload_n 1, 1) := by decide +kernel
theorem dX8_isSeen_25 : decode cX8_isSeen 25 = .ok (.iaload, 1) := by decide +kernel
theorem dX8_isSeen_26 : decode cX8_isSeen 26 = .ok (.if_icmp .eq 5, 3) := by decide +kernel
theorem dX8_isSeen_29 : decode cX8_isSeen 29 = .ok (.iconst 0, 1) := by decide +kernel
theorem dX8_isSeen_30 : decode cX8_isSeen 30 = .ok (.ireturn, 1) := by decide +kernel
theorem dX8_isSeen_31 : decode cX8_isSeen 31 = .ok (.iinc 1 1, 3) := by decide +kernel
theorem dX8_isSeen_34 : decode cX8_isSeen 34 = .ok (.goto (-32), 3) := by decide +kernel
theorem dX8_isSeen_37 : decode cX8_isSeen 37 = .ok (.iconst 1, 1) := by decide +kernel
theorem dX8_isSeen_38 : decode cX8_isSeen 38 = .ok (.ireturn, 1) := by decide +kernel
theorem dX8_was_0 : decode cX8_was 0 = .ok (.aload_n 0, 1) := by decide +kernel
theorem dX8_was_1 : decode cX8_was 1 = .ok (.iload_n 1, 1) := by decide +kernel
theorem dX8_was_2 : decode cX8_was 2 = .ok (.invokevirtual 118, 3) := by decide +kernel
theorem dX8_was_5 : decode cX8_was 5 = .ok (.ifCond .eq 12, 3) := by decide +kernel
theorem dX8_was_8 : decode cX8_was 8 = .ok (.iload_n 2, 1) := by decide +kernel
theorem dX8_was_9 : decode cX8_was 9 = .ok (.iconst 0, 1) := by decide +kernel
theorem dX8_was_10 : decode cX8_was 10 = .ok (.iconst 1, 1) := by decide +kernel
theorem dX8_was_11 : decode cX8_was 11 = .ok (.invokestatic 114, 3) := by decide +kernel
theorem dX8_was_14 : decode cX8_was 14 = .ok (.ifCond .ne 5, 3) := by decide +kernel
theorem dX8_was_17 : decode cX8_was 17 = .ok (.iconst (-1), 1) := by decide +kernel
theorem dX8_was_18 : decode cX8_was 18 = .ok (.ireturn, 1) := by decide +kernel
theorem dX8_was_19 : decode cX8_was 19 = .ok (.aload_n 0, 1) := by decide +kernel
theorem dX8_was_20 : decode cX8_was 20 = .ok (.getfield 18, 3) := by decide +kernel
theorem dX8_was_23 : decode cX8_was 23 = .ok (.iload_n 1, 1) := by decide +kernel
theorem dX8_was_24 : decode cX8_was 24 = .ok (.iaload, 1) := by decide +kernel
theorem dX8_was_25 : decode cX8_was 25 = .ok (.istore_n 3, 1) := by decide +kernel
theorem dX8_was_26 : decode cX8_was 26 = .ok (.iconst 0, 1) := by decide +kernel
theorem dX8_was_27 : decode cX8_was 27 = .ok (.istore 4, 2) := by decide +kernel
theorem dX8_was_29 : decode cX8_was 29 = .ok (.bipush (-5), 2) := by decide +kernel
theorem dX8_was_31 : decode cX8_was 31 = .ok (.istore 5, 2) := by decide +kernel
theorem dX8_was_33 : decode cX8_was 33 = .ok (.bipush 40, 2) := by decide +kernel
theorem dX8_was_35 : decode cX8_was 35 = .ok (.istore 6, 2) := by decide +kernel
theorem dX8_was_37 : decode cX8_was 37 = .ok (.iload 6, 2) := by decide +kernel
theorem dX8_was_39 : decode cX8_was 39 = .ok (.ifCond .lt 34, 3) := by decide +kernel
theorem dX8_was_42 : decode cX8_was 42 = .ok (.aload_n 0, 1) := by decide +kernel
theorem dX8_was_43 : decode cX8_was 43 = .ok (.getfield 18, 3) := by decide +kernel
theorem dX8_was_46 : decode cX8_was 46 = .ok (.iload_n 1, 1) := by decide +kernel
theorem dX8_was_47 : decode cX8_was 47 = .ok (.iload 6, 2) := by decide +kernel
theorem dX8_was_49 : decode cX8_was 49 = .ok (.iastore, 1) := by decide +kernel
theorem dX8_was_50 : decode cX8_was 50 = .ok (.aload_n 0, 1) := by decide +kernel
theorem dX8_was_51 : decode cX8_was 51 = .ok (.invokevirtual 299, 3) := by decide +kernel
theorem dX8_was_54 : decode cX8_was 54 = .ok (.ifCond .ne 6, 3) := by decide +kernel
theorem dX8_was_57 : decode cX8_was 57 = .ok (.goto 10, 3) := by decide +kernel
theorem dX8_was_60 : decode cX8_was 60 = .ok (.iinc 4 1, 3) := by decide +kernel
theorem dX8_was_63 : decode cX8_was 63 = .ok (.iload 6, 2) := by decide +kernel
theorem dX8_was_65 : decode cX8_was 65 = .ok (.istore 5, 2) := by decide +kernel
theorem dX8_was_67 : decode cX8_was 67 = .ok (.iinc 6 (-1), 3) := by decide +kernel
theorem dX8_was_70 : decode cX8_was 70 = .ok (.goto (-33), 3) := by decide +kernel
theorem dX8_was_73 : decode cX8_was 73 = .ok (.aload_n 0, 1) := by decide +kernel
theorem dX8_was_74 : decode cX8_was 74 = .ok (.getfield 18, 3) := by decide +kernel
theorem dX8_was_77 : decode cX8_was 77 = .ok (.iload_n 1, 1) := by decide +kernel
theorem dX8_was_78 : decode cX8_was 78 = .ok (.iload_n 3, 1) := by decide +kernel
theorem dX8_was_79 : decode cX8_was 79 = .ok (.iastore, 1) := by decide +kernel
theorem dX8_was_80 : decode cX8_was 80 = .ok (.iload_n 2, 1) := by decide +kernel
theorem dX8_was_81 : decode cX8_was 81 = .ok (.ifCond .ne 8, 3) := by decide +kernel
theorem dX8_was_84 : decode cX8_was 84 = .ok (.iload 4, 2) := by decide +kernel
theorem dX8_was_86 : decode cX8_was 86 = .ok (.goto 5, 3) := by decide +kernel
theorem dX8_was_89 : decode cX8_was 89 = .ok (.iload 5, 2) := by decide +kernel
theorem dX8_was_91 : decode cX8_was 91 = .ok (.ireturn, 1) := by decide +kernel
theorem dX8_can_0 : decode cX8_can 0 = .ok (.aload_n 0, 1) := by decide +kernel
theorem dX8_can_1 : decode cX8_can 1 = .ok (.iload_n 1, 1) := by decide +kernel
theorem dX8_can_2 : decode cX8_can 2 = .ok (.invokevirtual 118, 3) := by decide +kernel
theorem dX8_can_5 : decode cX8_can 5 = .ok (.ifCond .eq 12, 3) := by decide +kernel
theorem dX8_can_8 : decode cX8_can 8 = .ok (.iload_n 2, 1) := by decide +kernel
theorem dX8_can_9 : decode cX8_can 9 = .ok (.iconst 0, 1) := by decide +kernel
theorem dX8_can_10 : decode cX8_can 10 = .ok (.iconst 1, 1) := by decide +kernel
theorem dX8_can_11 : decode cX8_can 11 = .ok (.invokestatic 114, 3) := by decide +kernel
theorem dX8_can_14 : decode cX8_can 14 = .ok (.ifCond .ne 5, 3) := by decide +kernel
theorem dX8_can_17 : decode cX8_can 17 = .ok (.iconst (-1), 1) := by decide +kernel
theorem dX8_can_18 : decode cX8_can 18 = .ok (.ireturn, 1) := by decide +kernel
theorem dX8_can_19 : decode cX8_can 19 = .ok (.aload_n 0, 1) := by decide +kernel
theorem dX8_can_20 : decode cX8_can 20 = .ok (.getfield 15, 3) := by decide +kernel
theorem dX8_can_23 : decode cX8_can 23 = .ok (.iload_n 1, 1) := by decide +kernel
theorem dX8_can_24 : decode cX8_can 24 = .ok (.iaload, 1) := by decide +kernel
theorem dX8_can_25 : decode cX8_can 25 = .ok (.istore_n 3, 1) := by decide +kernel
theorem dX8_can_26 : decode cX8_can 26 = .ok (.iconst 0, 1) := by decide +kernel
theorem dX8_can_27 : decode cX8_can 27 = .ok (.istore 4, 2) := by decide +kernel
theorem dX8_can_29 : decode cX8_can 29 = .ok (.bipush (-5), 2) := by decide +kernel
theorem dX8_can_31 : decode cX8_can 31 = .ok (.istore 5, 2) := by decide +kernel
theorem dX8_can_33 : decode cX8_can 33 = .ok (.bipush 9, 2) := by decide +kernel
theorem dX8_can_35 : decode cX8_can 35 = .ok (.istore 6, 2) := by decide +kernel
theorem dX8_can_37 : decode cX8_can 37 = .ok (.iload 6, 2) := by decide +kernel
theorem dX8_can_39 : decode cX8_can 39 = .ok (.ifCond .lt 34, 3) := by decide +kernel
theorem dX8_can_42 : decode cX8_can 42 = .ok (.aload_n 0, 1) := by decide +kernel
theorem dX8_can_43 : decode cX8_can 43 = .ok (.getfield 15, 3) := by decide +kernel
theorem dX8_can_46 : decode cX8_can 46 = .ok (.iload_n 1, 1) := by decide +kernel
theorem dX8_can_47 : decode cX8_can 47 = .ok (.iload 6, 2) := by decide +kernel
theorem dX8_can_49 : decode cX8_can 49 = .ok (.iastore, 1) := by decide +kernel
theorem dX8_can_50 : decode cX8_can 50 = .ok (.aload_n 0, 1) := by decide +kernel
theorem dX8_can_51 : decode cX8_can 51 = .ok (.invokevirtual 299, 3) := by decide +kernel
theorem dX8_can_54 : decode cX8_can 54 = .ok (.ifCond .ne 6, 3) := by decide +kernel
theorem dX8_can_57 : decode cX8_can 57 = .ok (.goto 10, 3) := by decide +kernel
theorem dX8_can_60 : decode cX8_can 60 = .ok (.iinc 4 1, 3) := by decide +kernel
theorem dX8_can_63 : decode cX8_can 63 = .ok (.iload 6, 2) := by decide +kernel
theorem dX8_can_65 : decode cX8_can 65 = .ok (.istore 5, 2) := by decide +kernel
theorem dX8_can_67 : decode cX8_can 67 = .ok (.iinc 6 (-1), 3) := by decide +kernel
theorem dX8_can_70 : decode cX8_can 70 = .ok (.goto (-33), 3) := by decide +kernel
theorem dX8_can_73 : decode cX8_can 73 = .ok (.aload_n 0, 1) := by decide +kernel
theorem dX8_can_74 : decode cX8_can 74 = .ok (.getfield 15, 3) := by decide +kernel
theorem dX8_can_77 : decode cX8_can 77 = .ok (.iload_n 1, 1) := by decide +kernel
theorem dX8_can_78 : decode cX8_can 78 = .ok (.iload_n 3, 1) := by decide +kernel
theorem dX8_can_79 : decode cX8_can 79 = .ok (.iastore, 1) := by decide +kernel
theorem dX8_can_80 : decode cX8_can 80 = .ok (.iload_n 2, 1) := by decide +kernel
theorem dX8_can_81 : decode cX8_can 81 = .ok (.ifCond .ne 8, 3) := by decide +kernel
theorem dX8_can_84 : decode cX8_can 84 = .ok (.iload 4, 2) := by decide +kernel
theorem dX8_can_86 : decode cX8_can 86 = .ok (.goto 5, 3) := by decide +kernel
theorem dX8_can_89 : decode cX8_can 89 = .ok (.iload 5, 2) := by decide +kernel
theorem dX8_can_91 : decode cX8_can 91 = .ok (.ireturn, 1) := by decide +kernel
theorem dX8_part_0 : decode cX8_part 0 = .ok (.iload_n 0, 1) := by decide +kernel
theorem dX8_part_1 : decode cX8_part 1 = .ok (.istore_n 3, 1) := by decide +kernel
theorem dX8_part_2 : decode cX8_part 2 = .ok (.iload_n 1, 1) := by decide +kernel
theorem dX8_part_3 : decode cX8_part 3 = .ok (.istore 4, 2) := by decide +kernel
theorem dX8_part_5 : decode cX8_part 5 = .ok (.iload 4, 2) := by decide +kernel
theorem dX8_part_7 : decode cX8_part 7 = .ok (.ifCond .eq 19, 3) := by decide +kernel
theorem dX8_part_10 : decode cX8_part 10 = .ok (.iload_n 3, 1) := by decide +kernel
theorem dX8_part_11 : decode cX8_part 11 = .ok (.iload 4, 2) := by decide +kernel
theorem dX8_part_13 : decode cX8_part 13 = .ok (.irem, 1) := by decide +kernel
theorem dX8_part_14 : decode cX8_part 14 = .ok (.istore 5, 2) := by decide +kernel
theorem dX8_part_16 : decode cX8_part 16 = .ok (.iload 4, 2) := by decide +kernel
theorem dX8_part_18 : decode cX8_part 18 = .ok (.istore_n 3, 1) := by decide +kernel
theorem dX8_part_19 : decode cX8_part 19 = .ok (.iload 5, 2) := by decide +kernel
theorem dX8_part_21 : decode cX8_part 21 = .ok (.istore 4, 2) := by decide +kernel
theorem dX8_part_23 : decode cX8_part 23 = .ok (.goto (-18), 3) := by decide +kernel
theorem dX8_part_26 : decode cX8_part 26 = .ok (.iload_n 2, 1) := by decide +kernel
theorem dX8_part_27 : decode cX8_part 27 = .ok (.ifCond .ne 10, 3) := by decide +kernel
theorem dX8_part_30 : decode cX8_part 30 = .ok (.iload_n 0, 1) := by decide +kernel
theorem dX8_part_31 : decode cX8_part 31 = .ok (.iload_n 3, 1) := by decide +kernel
theorem dX8_part_32 : decode cX8_part 32 = .ok (.idiv, 1) := by decide +kernel
theorem dX8_part_33 : decode cX8_part 33 = .ok (.i2l, 1) := by decide +kernel
theorem dX8_part_34 : decode cX8_part 34 = .ok (.goto 7, 3) := by decide +kernel
theorem dX8_part_37 : decode cX8_part 37 = .ok (.iload_n 1, 1) := by decide +kernel
theorem dX8_part_38 : decode cX8_part 38 = .ok (.iload_n 3, 1) := by decide +kernel
theorem dX8_part_39 : decode cX8_part 39 = .ok (.idiv, 1) := by decide +kernel
theorem dX8_part_40 : decode cX8_part 40 = .ok (.i2l, 1) := by decide +kernel
theorem dX8_part_41 : decode cX8_part 41 = .ok (.lreturn, 1) := by decide +kernel
theorem dX8_odds_0 : decode cX8_odds 0 = .ok (.iload_n 1, 1) := by decide +kernel
theorem dX8_odds_1 : decode cX8_odds 1 = .ok (.invokestatic 269, 3) := by decide +kernel
theorem dX8_odds_4 : decode cX8_odds 4 = .ok (.ifCond .eq 19, 3) := by decide +kernel
theorem dX8_odds_7 : decode cX8_odds 7 = .ok (.iload_n 2, 1) := by decide +kernel
theorem dX8_odds_8 : decode cX8_odds 8 = .ok (.iconst 0, 1) := by decide +kernel
theorem dX8_odds_9 : decode cX8_odds 9 = .ok (.iconst 1, 1) := by decide +kernel
theorem dX8_odds_10 : decode cX8_odds 10 = .ok (.invokestatic 114, 3) := by decide +kernel
theorem dX8_odds_13 : decode cX8_odds 13 = .ok (.ifCond .eq 10, 3) := by decide +kernel
theorem dX8_odds_16 : decode cX8_odds 16 = .ok (.aload_n 0, 1) := by decide +kernel
theorem dX8_odds_17 : decode cX8_odds 17 = .ok (.getfield 111, 3) := by decide +kernel
theorem dX8_odds_20 : decode cX8_odds 20 = .ok (.ifCond .ne 7, 3) := by decide +kernel
theorem dX8_odds_23 : decode cX8_odds 23 = .ok (.ldc2_w 302, 3) := by decide +kernel
theorem dX8_odds_26 : decode cX8_odds 26 = .ok (.lreturn, 1) := by decide +kernel
theorem dX8_odds_27 : decode cX8_odds 27 = .ok (.iconst 0, 1) := by decide +kernel
theorem dX8_odds_28 : decode cX8_odds 28 = .ok (.istore_n 3, 1) := by decide +kernel
theorem dX8_odds_29 : decode cX8_odds 29 = .ok (.iconst 0, 1) := by decide +kernel
theorem dX8_odds_30 : decode cX8_odds 30 = .ok (.istore 4, 2) := by decide +kernel
theorem dX8_odds_32 : decode cX8_odds 32 = .ok (.iload 4, 2) := by decide +kernel
theorem dX8_odds_34 : decode cX8_odds 34 = .ok (.aload_n 0, 1) := by decide +kernel
theorem dX8_odds_35 : decode cX8_odds 35 = .ok (.getfield 111, 3) := by decide +kernel
theorem dX8_odds_38 : decode cX8_odds 38 = .ok (.if_icmp .ge 22, 3) := by decide +kernel
theorem dX8_odds_41 : decode cX8_odds 41 = .ok (.aload_n 0, 1) := by decide +kernel
theorem dX8_odds_42 : decode cX8_odds 42 = .ok (.iload 4, 2) := by decide +kernel
theorem dX8_odds_44 : decode cX8_odds 44 = .ok (.iload_n 1, 1) := by decide +kernel
theorem dX8_odds_45 : decode cX8_odds 45 = .ok (.invokevirtual 293, 3) := by decide +kernel
theorem dX8_odds_48 : decode cX8_odds 48 = .ok (.ifCond .ne 6, 3) := by decide +kernel
theorem dX8_odds_51 : decode cX8_odds 51 = .ok (.iinc 3 1, 3) := by decide +kernel
theorem dX8_odds_54 : decode cX8_odds 54 = .ok (.iinc 4 1, 3) := by decide +kernel
theorem dX8_odds_57 : decode cX8_odds 57 = .ok (.goto (-25), 3) := by decide +kernel
theorem dX8_odds_60 : decode cX8_odds 60 = .ok (.iload_n 3, 1) := by decide +kernel
theorem dX8_odds_61 : decode cX8_odds 61 = .ok (.aload_n 0, 1) := by decide +kernel
theorem dX8_odds_62 : decode cX8_odds 62 = .ok (.getfield 111, 3) := by decide +kernel
theorem dX8_odds_65 : decode cX8_odds 65 = .ok (.iload_n 2, 1) := by decide +kernel
theorem dX8_odds_66 : decode cX8_odds 66 = .ok (.invokestatic 304, 3) := by decide +kernel
theorem dX8_odds_69 : decode cX8_odds 69 = .ok (.lreturn, 1) := by decide +kernel
theorem dX8_mean_0 : decode cX8_mean 0 = .ok (.iload_n 1, 1) := by decide +kernel
theorem dX8_mean_1 : decode cX8_mean 1 = .ok (.invokestatic 269, 3) := by decide +kernel
theorem dX8_mean_4 : decode cX8_mean 4 = .ok (.ifCond .eq 19, 3) := by decide +kernel
theorem dX8_mean_7 : decode cX8_mean 7 = .ok (.iload_n 2, 1) := by decide +kernel
theorem dX8_mean_8 : decode cX8_mean 8 = .ok (.iconst 0, 1) := by decide +kernel
theorem dX8_mean_9 : decode cX8_mean 9 = .ok (.iconst 1, 1) := by decide +kernel
theorem dX8_mean_10 : decode cX8_mean 10 = .ok (.invokestatic 114, 3) := by decide +kernel
theorem dX8_mean_13 : decode cX8_mean 13 = .ok (.ifCond .eq 10, 3) := by decide +kernel
theorem dX8_mean_16 : decode cX8_mean 16 = .ok (.aload_n 0, 1) := by decide +kernel
theorem dX8_mean_17 : decode cX8_mean 17 = .ok (.getfield 111, 3) := by decide +kernel
theorem dX8_mean_20 : decode cX8_mean 20 = .ok (.ifCond .ne 7, 3) := by decide +kernel
theorem dX8_mean_23 : decode cX8_mean 23 = .ok (.ldc2_w 302, 3) := by decide +kernel
theorem dX8_mean_26 : decode cX8_mean 26 = .ok (.lreturn, 1) := by decide +kernel
theorem dX8_mean_27 : decode cX8_mean 27 = .ok (.aload_n 0, 1) := by decide +kernel
theorem dX8_mean_28 : decode cX8_mean 28 = .ok (.aload_n 0, 1) := by decide +kernel
theorem dX8_mean_29 : decode cX8_mean 29 = .ok (.getfield 76, 3) := by decide +kernel
theorem dX8_mean_32 : decode cX8_mean 32 = .ok (.invokevirtual 276, 3) := by decide +kernel
theorem dX8_mean_35 : decode cX8_mean 35 = .ok (.aload_n 0, 1) := by decide +kernel
theorem dX8_mean_36 : decode cX8_mean 36 = .ok (.iload_n 1, 1) := by decide +kernel
theorem dX8_mean_37 : decode cX8_mean 37 = .ok (.invokevirtual 272, 3) := by decide +kernel
theorem dX8_mean_40 : decode cX8_mean 40 = .ok (.iconst 0, 1) := by decide +kernel
theorem dX8_mean_41 : decode cX8_mean 41 = .ok (.istore_n 3, 1) := by decide +kernel
theorem dX8_mean_42 : decode cX8_mean 42 = .ok (.iconst 0, 1) := by decide +kernel
theorem dX8_mean_43 : decode cX8_mean 43 = .ok (.istore 4, 2) := by decide +kernel
theorem dX8_mean_45 : decode cX8_mean 45 = .ok (.iload 4, 2) := by decide +kernel
theorem dX8_mean_47 : decode cX8_mean 47 = .ok (.aload_n 0, 1) := by decide +kernel
theorem dX8_mean_48 : decode cX8_mean 48 = .ok (.getfield 111, 3) := by decide +kernel
theorem dX8_mean_51 : decode cX8_mean 51 = .ok (.if_icmp .ge 19, 3) := by decide +kernel
theorem dX8_mean_54 : decode cX8_mean 54 = .ok (.iload_n 3, 1) := by decide +kernel
theorem dX8_mean_55 : decode cX8_mean 55 = .ok (.aload_n 0, 1) := by decide +kernel
theorem dX8_mean_56 : decode cX8_mean 56 = .ok (.getfield 18, 3) := by decide +kernel
theorem dX8_mean_59 : decode cX8_mean 59 = .ok (.iload 4, 2) := by decide +kernel
theorem dX8_mean_61 : decode cX8_mean 61 = .ok (.iaload, 1) := by decide +kernel
theorem dX8_mean_62 : decode cX8_mean 62 = .ok (.iadd, 1) := by decide +kernel
theorem dX8_mean_63 : decode cX8_mean 63 = .ok (.istore_n 3, 1) := by decide +kernel
theorem dX8_mean_64 : decode cX8_mean 64 = .ok (.iinc 4 1, 3) := by decide +kernel
theorem dX8_mean_67 : decode cX8_mean 67 = .ok (.goto (-22), 3) := by decide +kernel
theorem dX8_mean_70 : decode cX8_mean 70 = .ok (.aload_n 0, 1) := by decide +kernel
theorem dX8_mean_71 : decode cX8_mean 71 = .ok (.aload_n 0, 1) := by decide +kernel
theorem dX8_mean_72 : decode cX8_mean 72 = .ok (.getfield 76, 3) := by decide +kernel
theorem dX8_mean_75 : decode cX8_mean 75 = .ok (.invokevirtual 280, 3) := by decide +kernel
theorem dX8_mean_78 : decode cX8_mean 78 = .ok (.iload_n 3, 1) := by decide +kernel
theorem dX8_mean_79 : decode cX8_mean 79 = .ok (.aload_n 0, 1) := by decide +kernel
theorem dX8_mean_80 : decode cX8_mean 80 = .ok (.getfield 111, 3) := by decide +kernel
theorem dX8_mean_83 : decode cX8_mean 83 = .ok (.iload_n 2, 1) := by decide +kernel
theorem dX8_mean_84 : decode cX8_mean 84 = .ok (.invokestatic 304, 3) := by decide +kernel
theorem dX8_mean_87 : decode cX8_mean 87 = .ok (.lreturn, 1) := by decide +kernel
theorem dX8_winter_0 : decode cX8_winter 0 = .ok (.iload_n 1, 1) := by decide +kernel
theorem dX8_winter_1 : decode cX8_winter 1 = .ok (.iconst (-1), 1) := by decide +kernel
theorem dX8_winter_2 : decode cX8_winter 2 = .ok (.if_icmp .ne 10, 3) := by decide +kernel
theorem dX8_winter_5 : decode cX8_winter 5 = .ok (.aload_n 0, 1) := by decide +kernel
theorem dX8_winter_6 : decode cX8_winter 6 = .ok (.iconst 0, 1) := by decide +kernel
theorem dX8_winter_7 : decode cX8_winter 7 = .ok (.putfield 308, 3) := by decide +kernel
theorem dX8_winter_10 : decode cX8_winter 10 = .ok (.iconst 0, 1) := by decide +kernel
theorem dX8_winter_11 : decode cX8_winter 11 = .ok (.ireturn, 1) := by decide +kernel
theorem dX8_winter_12 : decode cX8_winter 12 = .ok (.iload_n 1, 1) := by decide +kernel
theorem dX8_winter_13 : decode cX8_winter 13 = .ok (.iconst 0, 1) := by decide +kernel
theorem dX8_winter_14 : decode cX8_winter 14 = .ok (.iconst 3, 1) := by decide +kernel
theorem dX8_winter_15 : decode cX8_winter 15 = .ok (.invokestatic 114, 3) := by decide +kernel
theorem dX8_winter_18 : decode cX8_winter 18 = .ok (.ifCond .eq 16, 3) := by decide +kernel
theorem dX8_winter_21 : decode cX8_winter 21 = .ok (.iload_n 1, 1) := by decide +kernel
theorem dX8_winter_22 : decode cX8_winter 22 = .ok (.iconst 1, 1) := by decide +kernel
theorem dX8_winter_23 : decode cX8_winter 23 = .ok (.if_icmp .ne 13, 3) := by decide +kernel
theorem dX8_winter_26 : decode cX8_winter 26 = .ok (.aload_n 0, 1) := by decide +kernel
theorem dX8_winter_27 : decode cX8_winter 27 = .ok (.iload_n 2, 1) := by decide +kernel
theorem dX8_winter_28 : decode cX8_winter 28 = .ok (.invokevirtual 118, 3) := by decide +kernel
theorem dX8_winter_31 : decode cX8_winter 31 = .ok (.ifCond .ne 5, 3) := by decide +kernel
theorem dX8_winter_34 : decode cX8_winter 34 = .ok (.iconst (-1), 1) := by decide +kernel
theorem dX8_winter_35 : decode cX8_winter 35 = .ok (.ireturn, 1) := by decide +kernel
theorem dX8_winter_36 : decode cX8_winter 36 = .ok (.aload_n 0, 1) := by decide +kernel
theorem dX8_winter_37 : decode cX8_winter 37 = .ok (.getfield 308, 3) := by decide +kernel
theorem dX8_winter_40 : decode cX8_winter 40 = .ok (.bipush 10, 2) := by decide +kernel
theorem dX8_winter_42 : decode cX8_winter 42 = .ok (.if_icmp .ne 6, 3) := by decide +kernel
theorem dX8_winter_45 : decode cX8_winter 45 = .ok (.bipush (-4), 2) := by decide +kernel
theorem dX8_winter_47 : decode cX8_winter 47 = .ok (.ireturn, 1) := by decide +kernel
theorem dX8_winter_48 : decode cX8_winter 48 = .ok (.aload_n 0, 1) := by decide +kernel
theorem dX8_winter_49 : decode cX8_winter 49 = .ok (.getfield 64, 3) := by decide +kernel
theorem dX8_winter_52 : decode cX8_winter 52 = .ok (.aload_n 0, 1) := by decide +kernel
theorem dX8_winter_53 : decode cX8_winter 53 = .ok (.getfield 308, 3) := by decide +kernel
theorem dX8_winter_56 : decode cX8_winter 56 = .ok (.iload_n 1, 1) := by decide +kernel
theorem dX8_winter_57 : decode cX8_winter 57 = .ok (.iastore, 1) := by decide +kernel
theorem dX8_winter_58 : decode cX8_winter 58 = .ok (.aload_n 0, 1) := by decide +kernel
theorem dX8_winter_59 : decode cX8_winter 59 = .ok (.getfield 67, 3) := by decide +kernel
theorem dX8_winter_62 : decode cX8_winter 62 = .ok (.aload_n 0, 1) := by decide +kernel
theorem dX8_winter_63 : decode cX8_winter 63 = .ok (.dup, 1) := by decide +kernel
theorem dX8_winter_64 : decode cX8_winter 64 = .ok (.getfield 308, 3) := by decide +kernel
theorem dX8_winter_67 : decode cX8_winter 67 = .ok (.dup_x1, 1) := by decide +kernel
theorem dX8_winter_68 : decode cX8_winter 68 = .ok (.iconst 1, 1) := by decide +kernel
theorem dX8_winter_69 : decode cX8_winter 69 = .ok (.iadd, 1) := by decide +kernel
theorem dX8_winter_70 : decode cX8_winter 70 = .ok (.putfield 308, 3) := by decide +kernel
theorem dX8_winter_73 : decode cX8_winter 73 = .ok (.iload_n 1, 1) := by decide +kernel
theorem dX8_winter_74 : decode cX8_winter 74 = .ok (.iconst 1, 1) := by decide +kernel
theorem dX8_winter_75 : decode cX8_winter 75 = .ok (.if_icmp .ne 7, 3) := by decide +kernel
theorem dX8_winter_78 : decode cX8_winter 78 = .ok (.iload_n 2, 1) := by decide +kernel
theorem dX8_winter_79 : decode cX8_winter 79 = .ok (.goto 4, 3) := by decide +kernel
theorem dX8_winter_82 : decode cX8_winter 82 = .ok (.iconst 0, 1) := by decide +kernel
theorem dX8_winter_83 : decode cX8_winter 83 = .ok (.iastore, 1) := by decide +kernel
theorem dX8_winter_84 : decode cX8_winter 84 = .ok (.aload_n 0, 1) := by decide +kernel
theorem dX8_winter_85 : decode cX8_winter 85 = .ok (.getfield 308, 3) := by decide +kernel
theorem dX8_winter_88 : decode cX8_winter 88 = .ok (.ireturn, 1) := by decide +kernel
theorem dX8_gone_0 : decode cX8_gone 0 = .ok (.iload_n 1, 1) := by decide +kernel
theorem dX8_gone_1 : decode cX8_gone 1 = .ok (.iconst 0, 1) := by decide +kernel
theorem dX8_gone_2 : decode cX8_gone 2 = .ok (.iconst 1, 1) := by decide +kernel
theorem dX8_gone_3 : decode cX8_gone 3 = .ok (.invokestatic 114, 3) := by decide +kernel
theorem dX8_gone_6 : decode cX8_gone 6 = .ok (.ifCond .ne 5, 3) := by decide +kernel
theorem dX8_gone_9 : decode cX8_gone 9 = .ok (.iconst (-1), 1) := by decide +kernel
theorem dX8_gone_10 : decode cX8_gone 10 = .ok (.ireturn, 1) := by decide +kernel
theorem dX8_gone_11 : decode cX8_gone 11 = .ok (.aload_n 0, 1) := by decide +kernel
theorem dX8_gone_12 : decode cX8_gone 12 = .ok (.aload_n 0, 1) := by decide +kernel
theorem dX8_gone_13 : decode cX8_gone 13 = .ok (.getfield 76, 3) := by decide +kernel
theorem dX8_gone_16 : decode cX8_gone 16 = .ok (.invokevirtual 276, 3) := by decide +kernel
theorem dX8_gone_19 : decode cX8_gone 19 = .ok (.iconst 0, 1) := by decide +kernel
theorem dX8_gone_20 : decode cX8_gone 20 = .ok (.istore_n 2, 1) := by decide +kernel
theorem dX8_gone_21 : decode cX8_gone 21 = .ok (.iload_n 2, 1) := by decide +kernel
theorem dX8_gone_22 : decode cX8_gone 22 = .ok (.aload_n 0, 1) := by decide +kernel
theorem dX8_gone_23 : decode cX8_gone 23 = .ok (.getfield 308, 3) := by decide +kernel
theorem dX8_gone_26 : decode cX8_gone 26 = .ok (.if_icmp .ge 83, 3) := by decide +kernel
theorem dX8_gone_29 : decode cX8_gone 29 = .ok (.aload_n 0, 1) := by decide +kernel
theorem dX8_gone_30 : decode cX8_gone 30 = .ok (.getfield 64, 3) := by decide +kernel
theorem dX8_gone_33 : decode cX8_gone 33 = .ok (.iload_n 2, 1) := by decide +kernel
theorem dX8_gone_34 : decode cX8_gone 34 = .ok (.iaload, 1) := by decide +kernel
theorem dX8_gone_35 : decode cX8_gone 35 = .ok (.ifCond .ne 10, 3) := by decide +kernel
theorem dX8_gone_38 : decode cX8_gone 38 = .ok (.aload_n 0, 1) := by decide +kernel
theorem dX8_gone_39 : decode cX8_gone 39 = .ok (.invokevirtual 266, 3) := by decide +kernel
theorem dX8_gone_42 : decode cX8_gone 42 = .ok (.goto 61, 3) := by decide +kernel
theorem dX8_gone_45 : decode cX8_gone 45 = .ok (.aload_n 0, 1) := by decide +kernel
theorem dX8_gone_46 : decode cX8_gone 46 = .ok (.getfield 64, 3) := by decide +kernel
theorem dX8_gone_49 : decode cX8_gone 49 = .ok (.iload_n 2, 1) := by decide +kernel
theorem dX8_gone_50 : decode cX8_gone 50 = .ok (.iaload, 1) := by decide +kernel
theorem dX8_gone_51 : decode cX8_gone 51 = .ok (.iconst 1, 1) := by decide +kernel
theorem dX8_gone_52 : decode cX8_gone 52 = .ok (.if_icmp .ne 18, 3) := by decide +kernel
theorem dX8_gone_55 : decode cX8_gone 55 = .ok (.aload_n 0, 1) := by decide +kernel
theorem dX8_gone_56 : decode cX8_gone 56 = .ok (.getfield 24, 3) := by decide +kernel
theorem dX8_gone_59 : decode cX8_gone 59 = .ok (.aload_n 0, 1) := by decide +kernel
theorem dX8_gone_60 : decode cX8_gone 60 = .ok (.getfield 67, 3) := by decide +kernel
theorem dX8_gone_63 : decode cX8_gone 63 = .ok (.iload_n 2, 1) := by decide +kernel
theorem dX8_gone_64 : decode cX8_gone 64 = .ok (.iaload, 1) := by decide +kernel
theorem dX8_gone_65 : decode cX8_gone 65 = .ok (.iconst 1, 1) := by decide +kernel
theorem dX8_gone_66 : decode cX8_gone 66 = .ok (.iastore, 1) := by decide +kernel
theorem dX8_gone_67 : decode cX8_gone 67 = .ok (.goto 36, 3) := by decide +kernel
theorem dX8_gone_70 : decode cX8_gone 70 = .ok (.aload_n 0, 1) := by decide +kernel
theorem dX8_gone_71 : decode cX8_gone 71 = .ok (.getfield 64, 3) := by decide +kernel
theorem dX8_gone_74 : decode cX8_gone 74 = .ok (.iload_n 2, 1) := by decide +kernel
theorem dX8_gone_75 : decode cX8_gone 75 = .ok (.iaload, 1) := by decide +kernel
theorem dX8_gone_76 : decode cX8_gone 76 = .ok (.iconst 2, 1) := by decide +kernel
theorem dX8_gone_77 : decode cX8_gone 77 = .ok (.if_icmp .ne 21, 3) := by decide +kernel
theorem dX8_gone_80 : decode cX8_gone 80 = .ok (.aload_n 0, 1) := by decide +kernel
theorem dX8_gone_81 : decode cX8_gone 81 = .ok (.iconst 0, 1) := by decide +kernel
theorem dX8_gone_82 : decode cX8_gone 82 = .ok (.aload_n 0, 1) := by decide +kernel
theorem dX8_gone_83 : decode cX8_gone 83 = .ok (.getfield 98, 3) := by decide +kernel
theorem dX8_gone_86 : decode cX8_gone 86 = .ok (.bipush 10, 2) := by decide +kernel
theorem dX8_gone_88 : decode cX8_gone 88 = .ok (.isub, 1) := by decide +kernel
theorem dX8_gone_89 : decode cX8_gone 89 = .ok (.invokestatic 254, 3) := by decide +kernel
theorem dX8_gone_92 : decode cX8_gone 92 = .ok (.putfield 98, 3) := by decide +kernel
theorem dX8_gone_95 : decode cX8_gone 95 = .ok (.goto 8, 3) := by decide +kernel
theorem dX8_gone_98 : decode cX8_gone 98 = .ok (.aload_n 0, 1) := by decide +kernel
theorem dX8_gone_99 : decode cX8_gone 99 = .ok (.iconst 0, 1) := by decide +kernel
theorem dX8_gone_100 : decode cX8_gone 100 = .ok (.putfield 136, 3) := by decide +kernel
theorem dX8_gone_103 : decode cX8_gone 103 = .ok (.iinc 2 1, 3) := by decide +kernel
theorem dX8_gone_106 : decode cX8_gone 106 = .ok (.goto (-85), 3) := by decide +kernel
theorem dX8_gone_109 : decode cX8_gone 109 = .ok (.iload_n 1, 1) := by decide +kernel
theorem dX8_gone_110 : decode cX8_gone 110 = .ok (.ifCond .ne 10, 3) := by decide +kernel
theorem dX8_gone_113 : decode cX8_gone 113 = .ok (.aload_n 0, 1) := by decide +kernel
theorem dX8_gone_114 : decode cX8_gone 114 = .ok (.getfield 98, 3) := by decide +kernel
theorem dX8_gone_117 : decode cX8_gone 117 = .ok (.goto 7, 3) := by decide +kernel
theorem dX8_gone_120 : decode cX8_gone 120 = .ok (.aload_n 0, 1) := by decide +kernel
theorem dX8_gone_121 : decode cX8_gone 121 = .ok (.getfield 136, 3) := by decide +kernel
theorem dX8_gone_124 : decode cX8_gone 124 = .ok (.istore_n 2, 1) := by decide +kernel
theorem dX8_gone_125 : decode cX8_gone 125 = .ok (.aload_n 0, 1) := by decide +kernel
theorem dX8_gone_126 : decode cX8_gone 126 = .ok (.aload_n 0, 1) := by decide +kernel
theorem dX8_gone_127 : decode cX8_gone 127 = .ok (.getfield 76, 3) := by decide +kernel
theorem dX8_gone_130 : decode cX8_gone 130 = .ok (.invokevirtual 280, 3) := by decide +kernel
theorem dX8_gone_133 : decode cX8_gone 133 = .ok (.iload_n 2, 1) := by decide +kernel
theorem dX8_gone_134 : decode cX8_gone 134 = .ok (.ireturn, 1) := by decide +kernel
theorem dX8_book_0 : decode cX8_book 0 = .ok (.iload_n 1, 1) := by decide +kernel
theorem dX8_book_1 : decode cX8_book 1 = .ok (.iconst (-1), 1) := by decide +kernel
theorem dX8_book_2 : decode cX8_book 2 = .ok (.if_icmp .ne 10, 3) := by decide +kernel
theorem dX8_book_5 : decode cX8_book 5 = .ok (.aload_n 0, 1) := by decide +kernel
theorem dX8_book_6 : decode cX8_book 6 = .ok (.iconst 0, 1) := by decide +kernel
theorem dX8_book_7 : decode cX8_book 7 = .ok (.putfield 311, 3) := by decide +kernel
theorem dX8_book_10 : decode cX8_book 10 = .ok (.iconst 0, 1) := by decide +kernel
theorem dX8_book_11 : decode cX8_book 11 = .ok (.ireturn, 1) := by decide +kernel
theorem dX8_book_12 : decode cX8_book 12 = .ok (.aload_n 0, 1) := by decide +kernel
theorem dX8_book_13 : decode cX8_book 13 = .ok (.iload_n 1, 1) := by decide +kernel
theorem dX8_book_14 : decode cX8_book 14 = .ok (.invokevirtual 118, 3) := by decide +kernel
theorem dX8_book_17 : decode cX8_book 17 = .ok (.ifCond .ne 5, 3) := by decide +kernel
theorem dX8_book_20 : decode cX8_book 20 = .ok (.iconst (-1), 1) := by decide +kernel
theorem dX8_book_21 : decode cX8_book 21 = .ok (.ireturn, 1) := by decide +kernel
theorem dX8_book_22 : decode cX8_book 22 = .ok (.iload_n 2, 1) := by decide +kernel
theorem dX8_book_23 : decode cX8_book 23 = .ok (.iconst 0, 1) := by decide +kernel
theorem dX8_book_24 : decode cX8_book 24 = .ok (.sipush 999, 3) := by decide +kernel
theorem dX8_book_27 : decode cX8_book 27 = .ok (.invokestatic 114, 3) := by decide +kernel
theorem dX8_book_30 : decode cX8_book 30 = .ok (.ifCond .ne 6, 3) := by decide +kernel
theorem dX8_book_33 : decode cX8_book 33 = .ok (.bipush (-2), 2) := by decide +kernel
theorem dX8_book_35 : decode cX8_book 35 = .ok (.ireturn, 1) := by decide +kernel
theorem dX8_book_36 : decode cX8_book 36 = .ok (.aload_n 0, 1) := by decide +kernel
theorem dX8_book_37 : decode cX8_book 37 = .ok (.getfield 311, 3) := by decide +kernel
theorem dX8_book_40 : decode cX8_book 40 = .ok (.bipush 8, 2) := by decide +kernel
theorem dX8_book_42 : decode cX8_book 42 = .ok (.if_icmp .ne 6, 3) := by decide +kernel
theorem dX8_book_45 : decode cX8_book 45 = .ok (.bipush (-4), 2) := by decide +kernel
theorem dX8_book_47 : decode cX8_book 47 = .ok (.ireturn, 1) := by decide +kernel
theorem dX8_book_48 : decode cX8_book 48 = .ok (.aload_n 0, 1) := by decide +kernel
theorem dX8_book_49 : decode cX8_book 49 = .ok (.getfield 70, 3) := by decide +kernel
theorem dX8_book_52 : decode cX8_book 52 = .ok (.aload_n 0, 1) := by decide +kernel
theorem dX8_book_53 : decode cX8_book 53 = .ok (.getfield 311, 3) := by decide +kernel
theorem dX8_book_56 : decode cX8_book 56 = .ok (.iload_n 1, 1) := by decide +kernel
theorem dX8_book_57 : decode cX8_book 57 = .ok (.iastore, 1) := by decide +kernel
theorem dX8_book_58 : decode cX8_book 58 = .ok (.aload_n 0, 1) := by decide +kernel
theorem dX8_book_59 : decode cX8_book 59 = .ok (.getfield 73, 3) := by decide +kernel
theorem dX8_book_62 : decode cX8_book 62 = .ok (.aload_n 0, 1) := by decide +kernel
theorem dX8_book_63 : decode cX8_book 63 = .ok (.dup, 1) := by decide +kernel
theorem dX8_book_64 : decode cX8_book 64 = .ok (.getfield 311, 3) := by decide +kernel
theorem dX8_book_67 : decode cX8_book 67 = .ok (.dup_x1, 1) := by decide +kernel
theorem dX8_book_68 : decode cX8_book 68 = .ok (.iconst 1, 1) := by decide +kernel
theorem dX8_book_69 : decode cX8_book 69 = .ok (.iadd, 1) := by decide +kernel
theorem dX8_book_70 : decode cX8_book 70 = .ok (.putfield 311, 3) := by decide +kernel
theorem dX8_book_73 : decode cX8_book 73 = .ok (.iload_n 2, 1) := by decide +kernel
theorem dX8_book_74 : decode cX8_book 74 = .ok (.iastore, 1) := by decide +kernel
theorem dX8_book_75 : decode cX8_book 75 = .ok (.aload_n 0, 1) := by decide +kernel
theorem dX8_book_76 : decode cX8_book 76 = .ok (.getfield 311, 3) := by decide +kernel
theorem dX8_book_79 : decode cX8_book 79 = .ok (.ireturn, 1) := by decide +kernel
theorem dX8_looked_0 : decode cX8_looked 0 = .ok (.iconst 0, 1) := by decide +kernel
theorem dX8_looked_1 : decode cX8_looked 1 = .ok (.istore_n 1, 1) := by decide +kernel
theorem dX8_looked_2 : decode cX8_looked 2 = .ok (.iload_n 1, 1) := by decide +kernel
theorem dX8_looked_3 : decode cX8_looked 3 = .ok (.aload_n 0, 1) := by decide +kernel
theorem dX8_looked_4 : decode cX8_looked 4 = .ok (.getfield 311, 3) := by decide +kernel
theorem dX8_looked_7 : decode cX8_looked 7 = .ok (.if_icmp .ge 31, 3) := by decide +kernel
theorem dX8_looked_10 : decode cX8_looked 10 = .ok (.aload_n 0, 1) := by decide +kernel
theorem dX8_looked_11 : decode cX8_looked 11 = .ok (.getfield 18, 3) := by decide +kernel
theorem dX8_looked_14 : decode cX8_looked 14 = .ok (.aload_n 0, 1) := by decide +kernel
theorem dX8_looked_15 : decode cX8_looked 15 = .ok (.getfield 70, 3) := by decide +kernel
theorem dX8_looked_18 : decode cX8_looked 18 = .ok (.iload_n 1, 1) := by decide +kernel
theorem dX8_looked_19 : decode cX8_looked 19 = .ok (.iaload, 1) := by decide +kernel
theorem dX8_looked_20 : decode cX8_looked 20 = .ok (.iaload, 1) := by decide +kernel
theorem dX8_looked_21 : decode cX8_looked 21 = .ok (.aload_n 0, 1) := by decide +kernel
theorem dX8_looked_22 : decode cX8_looked 22 = .ok (.getfield 73, 3) := by decide +kernel
theorem dX8_looked_25 : decode cX8_looked 25 = .ok (.iload_n 1, 1) := by decide +kernel
theorem dX8_looked_26 : decode cX8_looked 26 = .ok (.iaload, 1) := by decide +kernel
theorem dX8_looked_27 : decode cX8_looked 27 = .ok (.if_icmp .eq 5, 3) := by decide +kernel
theorem dX8_looked_30 : decode cX8_looked 30 = .ok (.iload_n 1, 1) := by decide +kernel
theorem dX8_looked_31 : decode cX8_looked 31 = .ok (.ireturn, 1) := by decide +kernel
theorem dX8_looked_32 : decode cX8_looked 32 = .ok (.iinc 1 1, 3) := by decide +kernel
theorem dX8_looked_35 : decode cX8_looked 35 = .ok (.goto (-33), 3) := by decide +kernel
theorem dX8_looked_38 : decode cX8_looked 38 = .ok (.bipush (-5), 2) := by decide +kernel
theorem dX8_looked_40 : decode cX8_looked 40 = .ok (.ireturn, 1) := by decide +kernel
theorem dX8_judge_0 : decode cX8_judge 0 = .ok (.iload_n 1, 1) := by decide +kernel
theorem dX8_judge_1 : decode cX8_judge 1 = .ok (.iconst 0, 1) := by decide +kernel
theorem dX8_judge_2 : decode cX8_judge 2 = .ok (.iconst 5, 1) := by decide +kernel
theorem dX8_judge_3 : decode cX8_judge 3 = .ok (.invokestatic 114, 3) := by decide +kernel
theorem dX8_judge_6 : decode cX8_judge 6 = .ok (.ifCond .ne 5, 3) := by decide +kernel
theorem dX8_judge_9 : decode cX8_judge 9 = .ok (.iconst (-1), 1) := by decide +kernel
theorem dX8_judge_10 : decode cX8_judge 10 = .ok (.ireturn, 1) := by decide +kernel
theorem dX8_judge_11 : decode cX8_judge 11 = .ok (.aload_n 0, 1) := by decide +kernel
theorem dX8_judge_12 : decode cX8_judge 12 = .ok (.getfield 88, 3) := by decide +kernel
theorem dX8_judge_15 : decode cX8_judge 15 = .ok (.iload_n 1, 1) := by decide +kernel
theorem dX8_judge_16 : decode cX8_judge 16 = .ok (.iaload, 1) := by decide +kernel
theorem dX8_judge_17 : decode cX8_judge 17 = .ok (.iconst (-1), 1) := by decide +kernel
theorem dX8_judge_18 : decode cX8_judge 18 = .ok (.if_icmp .eq 16, 3) := by decide +kernel
theorem dX8_judge_21 : decode cX8_judge 21 = .ok (.aload_n 0, 1) := by decide +kernel
theorem dX8_judge_22 : decode cX8_judge 22 = .ok (.getfield 88, 3) := by decide +kernel
theorem dX8_judge_25 : decode cX8_judge 25 = .ok (.iload_n 1, 1) := by decide +kernel
theorem dX8_judge_26 : decode cX8_judge 26 = .ok (.iaload, 1) := by decide +kernel
theorem dX8_judge_27 : decode cX8_judge 27 = .ok (.iconst 1, 1) := by decide +kernel
theorem dX8_judge_28 : decode cX8_judge 28 = .ok (.if_icmp .eq 6, 3) := by decide +kernel
theorem dX8_judge_31 : decode cX8_judge 31 = .ok (.bipush (-12), 2) := by decide +kernel
theorem dX8_judge_33 : decode cX8_judge 33 = .ok (.ireturn, 1) := by decide +kernel
theorem dX8_judge_34 : decode cX8_judge 34 = .ok (.iconst 0, 1) := by decide +kernel
theorem dX8_judge_35 : decode cX8_judge 35 = .ok (.istore_n 3, 1) := by decide +kernel
theorem dX8_judge_36 : decode cX8_judge 36 = .ok (.iload_n 3, 1) := by decide +kernel
theorem dX8_judge_37 : decode cX8_judge 37 = .ok (.aload_n 0, 1) := by decide +kernel
theorem dX8_judge_38 : decode cX8_judge 38 = .ok (.getfield 111, 3) := by decide +kernel
theorem dX8_judge_41 : decode cX8_judge 41 = .ok (.if_icmp .ge 70, 3) := by decide +kernel
theorem dX8_judge_44 : decode cX8_judge 44 = .ok (.aload_n 0, 1) := by decide +kernel
theorem dX8_judge_45 : decode cX8_judge 45 = .ok (.getfield 88, 3) := by decide +kernel
theorem dX8_judge_48 : decode cX8_judge 48 = .ok (.iload_n 1, 1) := by decide +kernel
theorem dX8_judge_49 : decode cX8_judge 49 = .ok (.iaload, 1) := by decide +kernel
theorem dX8_judge_50 : decode cX8_judge 50 = .ok (.iconst (-1), 1) := by decide +kernel
theorem dX8_judge_51 : decode cX8_judge 51 = .ok (.if_icmp .eq 23, 3) := by decide +kernel
theorem dX8_judge_54 : decode cX8_judge 54 = .ok (.iload_n 2, 1) := by decide +kernel
theorem dX8_judge_55 : decode cX8_judge 55 = .ok (.ifCond .lt 19, 3) := by decide +kernel
theorem dX8_judge_58 : decode cX8_judge 58 = .ok (.iload_n 2, 1) := by decide +kernel
theorem dX8_judge_59 : decode cX8_judge 59 = .ok (.i2l, 1) := by decide +kernel
theorem dX8_judge_60 : decode cX8_judge 60 = .ok (.iload_n 3, 1) := by decide +kernel
theorem dX8_judge_61 : decode cX8_judge 61 = .ok (.i2l, 1) := by decide +kernel
theorem dX8_judge_62 : decode cX8_judge 62 = .ok (.ladd, 1) := by decide +kernel
theorem dX8_judge_63 : decode cX8_judge 63 = .ok (.aload_n 0, 1) := by decide +kernel
theorem dX8_judge_64 : decode cX8_judge 64 = .ok (.getfield 91, 3) := by decide +kernel
theorem dX8_judge_67 : decode cX8_judge 67 = .ok (.iload_n 1, 1) := by decide +kernel
theorem dX8_judge_68 : decode cX8_judge 68 = .ok (.iaload, 1) := by decide +kernel
theorem dX8_judge_69 : decode cX8_judge 69 = .ok (.i2l, 1) := by decide +kernel
theorem dX8_judge_70 : decode cX8_judge 70 = .ok (.lcmp, 1) := by decide +kernel
theorem dX8_judge_71 : decode cX8_judge 71 = .ok (.ifCond .lt 8, 3) := by decide +kernel
theorem dX8_judge_74 : decode cX8_judge 74 = .ok (.bipush 100, 2) := by decide +kernel
theorem dX8_judge_76 : decode cX8_judge 76 = .ok (.iload_n 3, 1) := by decide +kernel
theorem dX8_judge_77 : decode cX8_judge 77 = .ok (.iadd, 1) := by decide +kernel
theorem dX8_judge_78 : decode cX8_judge 78 = .ok (.ireturn, 1) := by decide +kernel
theorem dX8_judge_79 : decode cX8_judge 79 = .ok (.aload_n 0, 1) := by decide +kernel
theorem dX8_judge_80 : decode cX8_judge 80 = .ok (.getfield 94, 3) := by decide +kernel
theorem dX8_judge_83 : decode cX8_judge 83 = .ok (.bipush 60, 2) := by decide +kernel
theorem dX8_judge_85 : decode cX8_judge 85 = .ok (.iload_n 1, 1) := by decide +kernel
theorem dX8_judge_86 : decode cX8_judge 86 = .ok (.imul, 1) := by decide +kernel
theorem dX8_judge_87 : decode cX8_judge 87 = .ok (.iload_n 2, 1) := by decide +kernel
theorem dX8_judge_88 : decode cX8_judge 88 = .ok (.iadd, 1) := by decide +kernel
theorem dX8_judge_89 : decode cX8_judge 89 = .ok (.iload_n 3, 1) := by decide +kernel
theorem dX8_judge_90 : decode cX8_judge 90 = .ok (.iadd, 1) := by decide +kernel
theorem dX8_judge_91 : decode cX8_judge 91 = .ok (.laload, 1) := by decide +kernel
theorem dX8_judge_92 : decode cX8_judge 92 = .ok (.aload_n 0, 1) := by decide +kernel
theorem dX8_judge_93 : decode cX8_judge 93 = .ok (.getfield 18, 3) := by decide +kernel
theorem dX8_judge_96 : decode cX8_judge 96 = .ok (.iload_n 3, 1) := by decide +kernel
theorem dX8_judge_97 : decode cX8_judge 97 = .ok (.iaload, 1) := by decide +kernel
theorem dX8_judge_98 : decode cX8_judge 98 = .ok (.i2l, 1) := by decide +kernel
theorem dX8_judge_99 : decode cX8_judge 99 = .ok (.lcmp, 1) := by decide +kernel
theorem dX8_judge_100 : decode cX8_judge 100 = .ok (.ifCond .eq 5, 3) := by decide +kernel
theorem dX8_judge_103 : decode cX8_judge 103 = .ok (.iload_n 3, 1) := by decide +kernel
theorem dX8_judge_104 : decode cX8_judge 104 = .ok (.ireturn, 1) := by decide +kernel
theorem dX8_judge_105 : decode cX8_judge 105 = .ok (.iinc 3 1, 3) := by decide +kernel
theorem dX8_judge_108 : decode cX8_judge 108 = .ok (.goto (-72), 3) := by decide +kernel
theorem dX8_judge_111 : decode cX8_judge 111 = .ok (.bipush (-5), 2) := by decide +kernel
theorem dX8_judge_113 : decode cX8_judge 113 = .ok (.ireturn, 1) := by decide +kernel
theorem dX8_keep_0 : decode cX8_keep 0 = .ok (.iconst 0, 1) := by decide +kernel
theorem dX8_keep_1 : decode cX8_keep 1 = .ok (.istore_n 2, 1) := by decide +kernel
theorem dX8_keep_2 : decode cX8_keep 2 = .ok (.iload_n 2, 1) := by decide +kernel
theorem dX8_keep_3 : decode cX8_keep 3 = .ok (.bipush 6, 2) := by decide +kernel
theorem dX8_keep_5 : decode cX8_keep 5 = .ok (.if_icmp .ge 66, 3) := by decide +kernel
theorem dX8_keep_8 : decode cX8_keep 8 = .ok (.aload_n 1, 1) := by decide +kernel
theorem dX8_keep_9 : decode cX8_keep 9 = .ok (.iload_n 2, 1) := by decide +kernel
theorem dX8_keep_10 : decode cX8_keep 10 = .ok (.aload_n 0, 1) := by decide +kernel
theorem dX8_keep_11 : decode cX8_keep 11 = .ok (.getfield 15, 3) := by decide +kernel
theorem dX8_keep_14 : decode cX8_keep 14 = .ok (.iload_n 2, 1) := by decide +kernel
theorem dX8_keep_15 : decode cX8_keep 15 = .ok (.iaload, 1) := by decide +kernel
theorem dX8_keep_16 : decode cX8_keep 16 = .ok (.iastore, 1) := by decide +kernel
theorem dX8_keep_17 : decode cX8_keep 17 = .ok (.aload_n 1, 1) := by decide +kernel
theorem dX8_keep_18 : decode cX8_keep 18 = .ok (.bipush 6, 2) := by decide +kernel
theorem dX8_keep_20 : decode cX8_keep 20 = .ok (.iload_n 2, 1) := by decide +kernel
theorem dX8_keep_21 : decode cX8_keep 21 = .ok (.iadd, 1) := by decide +kernel
theorem dX8_keep_22 : decode cX8_keep 22 = .ok (.aload_n 0, 1) := by decide +kernel
theorem dX8_keep_23 : decode cX8_keep 23 = .ok (.getfield 18, 3) := by decide +kernel
theorem dX8_keep_26 : decode cX8_keep 26 = .ok (.iload_n 2, 1) := by decide +kernel
theorem dX8_keep_27 : decode cX8_keep 27 = .ok (.iaload, 1) := by decide +kernel
theorem dX8_keep_28 : decode cX8_keep 28 = .ok (.iastore, 1) := by decide +kernel
theorem dX8_keep_29 : decode cX8_keep 29 = .ok (.aload_n 1, 1) := by decide +kernel
theorem dX8_keep_30 : decode cX8_keep 30 = .ok (.bipush 12, 2) := by decide +kernel
theorem dX8_keep_32 : decode cX8_keep 32 = .ok (.iload_n 2, 1) := by decide +kernel
theorem dX8_keep_33 : decode cX8_keep 33 = .ok (.iadd, 1) := by decide +kernel
theorem dX8_keep_34 : decode cX8_keep 34 = .ok (.aload_n 0, 1) := by decide +kernel
theorem dX8_keep_35 : decode cX8_keep 35 = .ok (.getfield 21, 3) := by decide +kernel
theorem dX8_keep_38 : decode cX8_keep 38 = .ok (.iload_n 2, 1) := by decide +kernel
theorem dX8_keep_39 : decode cX8_keep 39 = .ok (.iaload, 1) := by decide +kernel
theorem dX8_keep_40 : decode cX8_keep 40 = .ok (.iastore, 1) := by decide +kernel
theorem dX8_keep_41 : decode cX8_keep 41 = .ok (.aload_n 1, 1) := by decide +kernel
theorem dX8_keep_42 : decode cX8_keep 42 = .ok (.bipush 18, 2) := by decide +kernel
theorem dX8_keep_44 : decode cX8_keep 44 = .ok (.iload_n 2, 1) := by decide +kernel
theorem dX8_keep_45 : decode cX8_keep 45 = .ok (.iadd, 1) := by decide +kernel
theorem dX8_keep_46 : decode cX8_keep 46 = .ok (.aload_n 0, 1) := by decide +kernel
theorem dX8_keep_47 : decode cX8_keep 47 = .ok (.getfield 24, 3) := by decide +kernel
theorem dX8_keep_50 : decode cX8_keep 50 = .ok (.iload_n 2, 1) := by decide +kernel
theorem dX8_keep_51 : decode cX8_keep 51 = .ok (.iaload, 1) := by decide +kernel
theorem dX8_keep_52 : decode cX8_keep 52 = .ok (.iastore, 1) := by decide +kernel
theorem dX8_keep_53 : decode cX8_keep 53 = .ok (.aload_n 1, 1) := by decide +kernel
theorem dX8_keep_54 : decode cX8_keep 54 = .ok (.bipush 24, 2) := by decide +kernel
theorem dX8_keep_56 : decode cX8_keep 56 = .ok (.iload_n 2, 1) := by decide +kernel
theorem dX8_keep_57 : decode cX8_keep 57 = .ok (.iadd, 1) := by decide +kernel
theorem dX8_keep_58 : decode cX8_keep 58 = .ok (.aload_n 0, 1) := by decide +kernel
theorem dX8_keep_59 : decode cX8_keep 59 = .ok (.getfield 30, 3) := by decide +kernel
theorem dX8_keep_62 : decode cX8_keep 62 = .ok (.iload_n 2, 1) := by decide +kernel
theorem dX8_keep_63 : decode cX8_keep 63 = .ok (.iaload, 1) := by decide +kernel
theorem dX8_keep_64 : decode cX8_keep 64 = .ok (.iastore, 1) := by decide +kernel
theorem dX8_keep_65 : decode cX8_keep 65 = .ok (.iinc 2 1, 3) := by decide +kernel
theorem dX8_keep_68 : decode cX8_keep 68 = .ok (.goto (-66), 3) := by decide +kernel
theorem dX8_keep_71 : decode cX8_keep 71 = .ok (.iconst 0, 1) := by decide +kernel
theorem dX8_keep_72 : decode cX8_keep 72 = .ok (.istore_n 2, 1) := by decide +kernel
theorem dX8_keep_73 : decode cX8_keep 73 = .ok (.iload_n 2, 1) := by decide +kernel
theorem dX8_keep_74 : decode cX8_keep 74 = .ok (.bipush 24, 2) := by decide +kernel
theorem dX8_keep_76 : decode cX8_keep 76 = .ok (.if_icmp .ge 21, 3) := by decide +kernel
theorem dX8_keep_79 : decode cX8_keep 79 = .ok (.aload_n 1, 1) := by decide +kernel
theorem dX8_keep_80 : decode cX8_keep 80 = .ok (.bipush 30, 2) := by decide +kernel
theorem dX8_keep_82 : decode cX8_keep 82 = .ok (.iload_n 2, 1) := by decide +kernel
theorem dX8_keep_83 : decode cX8_keep 83 = .ok (.iadd, 1) := by decide +kernel
theorem dX8_keep_84 : decode cX8_keep 84 = .ok (.aload_n 0, 1) := by decide +kernel
theorem dX8_keep_85 : decode cX8_keep 85 = .ok (.getfield 27, 3) := by decide +kernel
theorem dX8_keep_88 : decode cX8_keep 88 = .ok (.iload_n 2, 1) := by decide +kernel
theorem dX8_keep_89 : decode cX8_keep 89 = .ok (.iaload, 1) := by decide +kernel
theorem dX8_keep_90 : decode cX8_keep 90 = .ok (.iastore, 1) := by decide +kernel
theorem dX8_keep_91 : decode cX8_keep 91 = .ok (.iinc 2 1, 3) := by decide +kernel
theorem dX8_keep_94 : decode cX8_keep 94 = .ok (.goto (-21), 3) := by decide +kernel
theorem dX8_keep_97 : decode cX8_keep 97 = .ok (.aload_n 1, 1) := by decide +kernel
theorem dX8_keep_98 : decode cX8_keep 98 = .ok (.bipush 54, 2) := by decide +kernel
theorem dX8_keep_100 : decode cX8_keep 100 = .ok (.aload_n 0, 1) := by decide +kernel
theorem dX8_keep_101 : decode cX8_keep 101 = .ok (.getfield 111, 3) := by decide +kernel
theorem dX8_keep_104 : decode cX8_keep 104 = .ok (.iastore, 1) := by decide +kernel
theorem dX8_keep_105 : decode cX8_keep 105 = .ok (.aload_n 1, 1) := by decide +kernel
theorem dX8_keep_106 : decode cX8_keep 106 = .ok (.bipush 55, 2) := by decide +kernel
theorem dX8_keep_108 : decode cX8_keep 108 = .ok (.aload_n 0, 1) := by decide +kernel
theorem dX8_keep_109 : decode cX8_keep 109 = .ok (.getfield 98, 3) := by decide +kernel
theorem dX8_keep_112 : decode cX8_keep 112 = .ok (.iastore, 1) := by decide +kernel
theorem dX8_keep_113 : decode cX8_keep 113 = .ok (.aload_n 1, 1) := by decide +kernel
theorem dX8_keep_114 : decode cX8_keep 114 = .ok (.bipush 56, 2) := by decide +kernel
theorem dX8_keep_116 : decode cX8_keep 116 = .ok (.aload_n 0, 1) := by decide +kernel
theorem dX8_keep_117 : decode cX8_keep 117 = .ok (.getfield 136, 3) := by decide +kernel
theorem dX8_keep_120 : decode cX8_keep 120 = .ok (.iastore, 1) := by decide +kernel
theorem dX8_keep_121 : decode cX8_keep 121 = .ok (.aload_n 1, 1) := by decide +kernel
theorem dX8_keep_122 : decode cX8_keep 122 = .ok (.bipush 57, 2) := by decide +kernel
theorem dX8_keep_124 : decode cX8_keep 124 = .ok (.aload_n 0, 1) := by decide +kernel
theorem dX8_keep_125 : decode cX8_keep 125 = .ok (.getfield 139, 3) := by decide +kernel
theorem dX8_keep_128 : decode cX8_keep 128 = .ok (.iastore, 1) := by decide +kernel
theorem dX8_keep_129 : decode cX8_keep 129 = .ok (.aload_n 1, 1) := by decide +kernel
theorem dX8_keep_130 : decode cX8_keep 130 = .ok (.bipush 58, 2) := by decide +kernel
theorem dX8_keep_132 : decode cX8_keep 132 = .ok (.aload_n 0, 1) := by decide +kernel
theorem dX8_keep_133 : decode cX8_keep 133 = .ok (.getfield 224, 3) := by decide +kernel
theorem dX8_keep_136 : decode cX8_keep 136 = .ok (.iastore, 1) := by decide +kernel
theorem dX8_keep_137 : decode cX8_keep 137 = .ok (.aload_n 1, 1) := by decide +kernel
theorem dX8_keep_138 : decode cX8_keep 138 = .ok (.bipush 59, 2) := by decide +kernel
theorem dX8_keep_140 : decode cX8_keep 140 = .ok (.aload_n 0, 1) := by decide +kernel
theorem dX8_keep_141 : decode cX8_keep 141 = .ok (.getfield 102, 3) := by decide +kernel
theorem dX8_keep_144 : decode cX8_keep 144 = .ok (.iastore, 1) := by decide +kernel
theorem dX8_keep_145 : decode cX8_keep 145 = .ok (.aload_n 1, 1) := by decide +kernel
theorem dX8_keep_146 : decode cX8_keep 146 = .ok (.bipush 60, 2) := by decide +kernel
theorem dX8_keep_148 : decode cX8_keep 148 = .ok (.aload_n 0, 1) := by decide +kernel
theorem dX8_keep_149 : decode cX8_keep 149 = .ok (.getfield 296, 3) := by decide +kernel
theorem dX8_keep_152 : decode cX8_keep 152 = .ok (.iastore, 1) := by decide +kernel
theorem dX8_keep_153 : decode cX8_keep 153 = .ok (.aload_n 1, 1) := by decide +kernel
theorem dX8_keep_154 : decode cX8_keep 154 = .ok (.bipush 61, 2) := by decide +kernel
theorem dX8_keep_156 : decode cX8_keep 156 = .ok (.aload_n 0, 1) := by decide +kernel
theorem dX8_keep_157 : decode cX8_keep 157 = .ok (.getfield 308, 3) := by decide +kernel
theorem dX8_keep_160 : decode cX8_keep 160 = .ok (.iastore, 1) := by decide +kernel
theorem dX8_keep_161 : decode cX8_keep 161 = .ok (.aload_n 1, 1) := by decide +kernel
theorem dX8_keep_162 : decode cX8_keep 162 = .ok (.bipush 62, 2) := by decide +kernel
theorem dX8_keep_164 : decode cX8_keep 164 = .ok (.aload_n 0, 1) := by decide +kernel
theorem dX8_keep_165 : decode cX8_keep 165 = .ok (.getfield 311, 3) := by decide +kernel
theorem dX8_keep_168 : decode cX8_keep 168 = .ok (.iastore, 1) := by decide +kernel
theorem dX8_keep_169 : decode cX8_keep 169 = .ok (.return_, 1) := by decide +kernel
theorem dX8_again_0 : decode cX8_again 0 = .ok (.iconst 0, 1) := by decide +kernel
theorem dX8_again_1 : decode cX8_again 1 = .ok (.istore_n 2, 1) := by decide +kernel
theorem dX8_again_2 : decode cX8_again 2 = .ok (.iload_n 2, 1) := by decide +kernel
theorem dX8_again_3 : decode cX8_again 3 = .ok (.bipush 6, 2) := by decide +kernel
theorem dX8_again_5 : decode cX8_again 5 = .ok (.if_icmp .ge 66, 3) := by decide +kernel
theorem dX8_again_8 : decode cX8_again 8 = .ok (.aload_n 0, 1) := by decide +kernel
theorem dX8_again_9 : decode cX8_again 9 = .ok (.getfield 15, 3) := by decide +kernel
theorem dX8_again_12 : decode cX8_again 12 = .ok (.iload_n 2, 1) := by decide +kernel
theorem dX8_again_13 : decode cX8_again 13 = .ok (.aload_n 1, 1) := by decide +kernel
theorem dX8_again_14 : decode cX8_again 14 = .ok (.iload_n 2, 1) := by decide +kernel
theorem dX8_again_15 : decode cX8_again 15 = .ok (.iaload, 1) := by decide +kernel
theorem dX8_again_16 : decode cX8_again 16 = .ok (.iastore, 1) := by decide +kernel
theorem dX8_again_17 : decode cX8_again 17 = .ok (.aload_n 0, 1) := by decide +kernel
theorem dX8_again_18 : decode cX8_again 18 = .ok (.getfield 18, 3) := by decide +kernel
theorem dX8_again_21 : decode cX8_again 21 = .ok (.iload_n 2, 1) := by decide +kernel
theorem dX8_again_22 : decode cX8_again 22 = .ok (.aload_n 1, 1) := by decide +kernel
theorem dX8_again_23 : decode cX8_again 23 = .ok (.bipush 6, 2) := by decide +kernel
theorem dX8_again_25 : decode cX8_again 25 = .ok (.iload_n 2, 1) := by decide +kernel
theorem dX8_again_26 : decode cX8_again 26 = .ok (.iadd, 1) := by decide +kernel
theorem dX8_again_27 : decode cX8_again 27 = .ok (.iaload, 1) := by decide +kernel
theorem dX8_again_28 : decode cX8_again 28 = .ok (.iastore, 1) := by decide +kernel
theorem dX8_again_29 : decode cX8_again 29 = .ok (.aload_n 0, 1) := by decide +kernel
theorem dX8_again_30 : decode cX8_again 30 = .ok (.getfield 21, 3) := by decide +kernel
theorem dX8_again_33 : decode cX8_again 33 = .ok (.iload_n 2, 1) := by decide +kernel
theorem dX8_again_34 : decode cX8_again 34 = .ok (.aload_n 1, 1) := by decide +kernel
theorem dX8_again_35 : decode cX8_again 35 = .ok (.bipush 12, 2) := by decide +kernel
theorem dX8_again_37 : decode cX8_again 37 = .ok (.iload_n 2, 1) := by decide +kernel
theorem dX8_again_38 : decode cX8_again 38 = .ok (.iadd, 1) := by decide +kernel
theorem dX8_again_39 : decode cX8_again 39 = .ok (.iaload, 1) := by decide +kernel
theorem dX8_again_40 : decode cX8_again 40 = .ok (.iastore, 1) := by decide +kernel
theorem dX8_again_41 : decode cX8_again 41 = .ok (.aload_n 0, 1) := by decide +kernel
theorem dX8_again_42 : decode cX8_again 42 = .ok (.getfield 24, 3) := by decide +kernel
theorem dX8_again_45 : decode cX8_again 45 = .ok (.iload_n 2, 1) := by decide +kernel
theorem dX8_again_46 : decode cX8_again 46 = .ok (.aload_n 1, 1) := by decide +kernel
theorem dX8_again_47 : decode cX8_again 47 = .ok (.bipush 18, 2) := by decide +kernel
theorem dX8_again_49 : decode cX8_again 49 = .ok (.iload_n 2, 1) := by decide +kernel
theorem dX8_again_50 : decode cX8_again 50 = .ok (.iadd, 1) := by decide +kernel
theorem dX8_again_51 : decode cX8_again 51 = .ok (.iaload, 1) := by decide +kernel
theorem dX8_again_52 : decode cX8_again 52 = .ok (.iastore, 1) := by decide +kernel
theorem dX8_again_53 : decode cX8_again 53 = .ok (.aload_n 0, 1) := by decide +kernel
theorem dX8_again_54 : decode cX8_again 54 = .ok (.getfield 30, 3) := by decide +kernel
theorem dX8_again_57 : decode cX8_again 57 = .ok (.iload_n 2, 1) := by decide +kernel
theorem dX8_again_58 : decode cX8_again 58 = .ok (.aload_n 1, 1) := by decide +kernel
theorem dX8_again_59 : decode cX8_again 59 = .ok (.bipush 24, 2) := by decide +kernel
theorem dX8_again_61 : decode cX8_again 61 = .ok (.iload_n 2, 1) := by decide +kernel
theorem dX8_again_62 : decode cX8_again 62 = .ok (.iadd, 1) := by decide +kernel
theorem dX8_again_63 : decode cX8_again 63 = .ok (.iaload, 1) := by decide +kernel
theorem dX8_again_64 : decode cX8_again 64 = .ok (.iastore, 1) := by decide +kernel
theorem dX8_again_65 : decode cX8_again 65 = .ok (.iinc 2 1, 3) := by decide +kernel
theorem dX8_again_68 : decode cX8_again 68 = .ok (.goto (-66), 3) := by decide +kernel
theorem dX8_again_71 : decode cX8_again 71 = .ok (.iconst 0, 1) := by decide +kernel
theorem dX8_again_72 : decode cX8_again 72 = .ok (.istore_n 2, 1) := by decide +kernel
theorem dX8_again_73 : decode cX8_again 73 = .ok (.iload_n 2, 1) := by decide +kernel
theorem dX8_again_74 : decode cX8_again 74 = .ok (.bipush 24, 2) := by decide +kernel
theorem dX8_again_76 : decode cX8_again 76 = .ok (.if_icmp .ge 21, 3) := by decide +kernel
theorem dX8_again_79 : decode cX8_again 79 = .ok (.aload_n 0, 1) := by decide +kernel
theorem dX8_again_80 : decode cX8_again 80 = .ok (.getfield 27, 3) := by decide +kernel
theorem dX8_again_83 : decode cX8_again 83 = .ok (.iload_n 2, 1) := by decide +kernel
theorem dX8_again_84 : decode cX8_again 84 = .ok (.aload_n 1, 1) := by decide +kernel
theorem dX8_again_85 : decode cX8_again 85 = .ok (.bipush 30, 2) := by decide +kernel
theorem dX8_again_87 : decode cX8_again 87 = .ok (.iload_n 2, 1) := by decide +kernel
theorem dX8_again_88 : decode cX8_again 88 = .ok (.iadd, 1) := by decide +kernel
theorem dX8_again_89 : decode cX8_again 89 = .ok (.iaload, 1) := by decide +kernel
theorem dX8_again_90 : decode cX8_again 90 = .ok (.iastore, 1) := by decide +kernel
theorem dX8_again_91 : decode cX8_again 91 = .ok (.iinc 2 1, 3) := by decide +kernel
theorem dX8_again_94 : decode cX8_again 94 = .ok (.goto (-21), 3) := by decide +kernel
theorem dX8_again_97 : decode cX8_again 97 = .ok (.aload_n 0, 1) := by decide +kernel
theorem dX8_again_98 : decode cX8_again 98 = .ok (.aload_n 1, 1) := by decide +kernel
theorem dX8_again_99 : decode cX8_again 99 = .ok (.bipush 54, 2) := by decide +kernel
theorem dX8_again_101 : decode cX8_again 101 = .ok (.iaload, 1) := by decide +kernel
theorem dX8_again_102 : decode cX8_again 102 = .ok (.putfield 111, 3) := by decide +kernel
theorem dX8_again_105 : decode cX8_again 105 = .ok (.aload_n 0, 1) := by decide +kernel
theorem dX8_again_106 : decode cX8_again 106 = .ok (.aload_n 1, 1) := by decide +kernel
theorem dX8_again_107 : decode cX8_again 107 = .ok (.bipush 55, 2) := by decide +kernel
theorem dX8_again_109 : decode cX8_again 109 = .ok (.iaload, 1) := by decide +kernel
theorem dX8_again_110 : decode cX8_again 110 = .ok (.putfield 98, 3) := by decide +kernel
theorem dX8_again_113 : decode cX8_again 113 = .ok (.aload_n 0, 1) := by decide +kernel
theorem dX8_again_114 : decode cX8_again 114 = .ok (.aload_n 1, 1) := by decide +kernel
theorem dX8_again_115 : decode cX8_again 115 = .ok (.bipush 56, 2) := by decide +kernel
theorem dX8_again_117 : decode cX8_again 117 = .ok (.iaload, 1) := by decide +kernel
theorem dX8_again_118 : decode cX8_again 118 = .ok (.putfield 136, 3) := by decide +kernel
theorem dX8_again_121 : decode cX8_again 121 = .ok (.aload_n 0, 1) := by decide +kernel
theorem dX8_again_122 : decode cX8_again 122 = .ok (.aload_n 1, 1) := by decide +kernel
theorem dX8_again_123 : decode cX8_again 123 = .ok (.bipush 57, 2) := by decide +kernel
theorem dX8_again_125 : decode cX8_again 125 = .ok (.iaload, 1) := by decide +kernel
theorem dX8_again_126 : decode cX8_again 126 = .ok (.putfield 139, 3) := by decide +kernel
theorem dX8_again_129 : decode cX8_again 129 = .ok (.aload_n 0, 1) := by decide +kernel
theorem dX8_again_130 : decode cX8_again 130 = .ok (.aload_n 1, 1) := by decide +kernel
theorem dX8_again_131 : decode cX8_again 131 = .ok (.bipush 58, 2) := by decide +kernel
theorem dX8_again_133 : decode cX8_again 133 = .ok (.iaload, 1) := by decide +kernel
theorem dX8_again_134 : decode cX8_again 134 = .ok (.putfield 224, 3) := by decide +kernel
theorem dX8_again_137 : decode cX8_again 137 = .ok (.aload_n 0, 1) := by decide +kernel
theorem dX8_again_138 : decode cX8_again 138 = .ok (.aload_n 1, 1) := by decide +kernel
theorem dX8_again_139 : decode cX8_again 139 = .ok (.bipush 59, 2) := by decide +kernel
theorem dX8_again_141 : decode cX8_again 141 = .ok (.iaload, 1) := by decide +kernel
theorem dX8_again_142 : decode cX8_again 142 = .ok (.putfield 102, 3) := by decide +kernel
theorem dX8_again_145 : decode cX8_again 145 = .ok (.aload_n 0, 1) := by decide +kernel
theorem dX8_again_146 : decode cX8_again 146 = .ok (.aload_n 1, 1) := by decide +kernel
theorem dX8_again_147 : decode cX8_again 147 = .ok (.bipush 60, 2) := by decide +kernel
theorem dX8_again_149 : decode cX8_again 149 = .ok (.iaload, 1) := by decide +kernel
theorem dX8_again_150 : decode cX8_again 150 = .ok (.putfield 296, 3) := by decide +kernel
theorem dX8_again_153 : decode cX8_again 153 = .ok (.aload_n 0, 1) := by decide +kernel
theorem dX8_again_154 : decode cX8_again 154 = .ok (.aload_n 1, 1) := by decide +kernel
theorem dX8_again_155 : decode cX8_again 155 = .ok (.bipush 61, 2) := by decide +kernel
theorem dX8_again_157 : decode cX8_again 157 = .ok (.iaload, 1) := by decide +kernel
theorem dX8_again_158 : decode cX8_again 158 = .ok (.putfield 308, 3) := by decide +kernel
theorem dX8_again_161 : decode cX8_again 161 = .ok (.aload_n 0, 1) := by decide +kernel
theorem dX8_again_162 : decode cX8_again 162 = .ok (.aload_n 1, 1) := by decide +kernel
theorem dX8_again_163 : decode cX8_again 163 = .ok (.bipush 62, 2) := by decide +kernel
theorem dX8_again_165 : decode cX8_again 165 = .ok (.iaload, 1) := by decide +kernel
theorem dX8_again_166 : decode cX8_again 166 = .ok (.putfield 311, 3) := by decide +kernel
theorem dX8_again_169 : decode cX8_again 169 = .ok (.return_, 1) := by decide +kernel
theorem dX8_image_0 : decode cX8_image 0 = .ok (.aload_n 0, 1) := by decide +kernel
theorem dX8_image_1 : decode cX8_image 1 = .ok (.iconst 1, 1) := by decide +kernel
theorem dX8_image_2 : decode cX8_image 2 = .ok (.putfield 314, 3) := by decide +kernel
theorem dX8_image_5 : decode cX8_image 5 = .ok (.aload_n 0, 1) := by decide +kernel
theorem dX8_image_6 : decode cX8_image 6 = .ok (.aload_n 0, 1) := by decide +kernel
theorem dX8_image_7 : decode cX8_image 7 = .ok (.getfield 79, 3) := by decide +kernel
theorem dX8_image_10 : decode cX8_image 10 = .ok (.invokevirtual 276, 3) := by decide +kernel
theorem dX8_image_13 : decode cX8_image 13 = .ok (.iconst 0, 1) := by decide +kernel
theorem dX8_image_14 : decode cX8_image 14 = .ok (.istore_n 1, 1) := by decide +kernel
theorem dX8_image_15 : decode cX8_image 15 = .ok (.iload_n 1, 1) := by decide +kernel
theorem dX8_image_16 : decode cX8_image 16 = .ok (.iconst 5, 1) := by decide +kernel
theorem dX8_image_17 : decode cX8_image 17 = .ok (.if_icmp .ge 35, 3) := by decide +kernel
theorem dX8_image_20 : decode cX8_image 20 = .ok (.aload_n 0, 1) := by decide +kernel
theorem dX8_image_21 : decode cX8_image 21 = .ok (.getfield 82, 3) := by decide +kernel
theorem dX8_image_24 : decode cX8_image 24 = .ok (.iload_n 1, 1) := by decide +kernel
theorem dX8_image_25 : decode cX8_image 25 = .ok (.aload_n 0, 1) := by decide +kernel
theorem dX8_image_26 : decode cX8_image 26 = .ok (.getfield 58, 3) := by decide +kernel
theorem dX8_image_29 : decode cX8_image 29 = .ok (.iload_n 1, 1) := by decide +kernel
theorem dX8_image_30 : decode cX8_image 30 = .ok (.iaload, 1) := by decide +kernel
theorem dX8_image_31 : decode cX8_image 31 = .ok (.iastore, 1) := by decide +kernel
theorem dX8_image_32 : decode cX8_image 32 = .ok (.aload_n 0, 1) := by decide +kernel
theorem dX8_image_33 : decode cX8_image 33 = .ok (.getfield 82, 3) := by decide +kernel
theorem dX8_image_36 : decode cX8_image 36 = .ok (.iconst 5, 1) := by decide +kernel
theorem dX8_image_37 : decode cX8_image 37 = .ok (.iload_n 1, 1) := by decide +kernel
theorem dX8_image_38 : decode cX8_image 38 = .ok (.iadd, 1) := by decide +kernel
theorem dX8_image_39 : decode cX8_image 39 = .ok (.aload_n 0, 1) := by decide +kernel
theorem dX8_image_40 : decode cX8_image 40 = .ok (.getfield 61, 3) := by decide +kernel
theorem dX8_image_43 : decode cX8_image 43 = .ok (.iload_n 1, 1) := by decide +kernel
theorem dX8_image_44 : decode cX8_image 44 = .ok (.iaload, 1) := by decide +kernel
theorem dX8_image_45 : decode cX8_image 45 = .ok (.iastore, 1) := by decide +kernel
theorem dX8_image_46 : decode cX8_image 46 = .ok (.iinc 1 1, 3) := by decide +kernel
theorem dX8_image_49 : decode cX8_image 49 = .ok (.goto (-34), 3) := by decide +kernel
theorem dX8_image_52 : decode cX8_image 52 = .ok (.iconst 0, 1) := by decide +kernel
theorem dX8_image_53 : decode cX8_image 53 = .ok (.istore_n 1, 1) := by decide +kernel
theorem dX8_image_54 : decode cX8_image 54 = .ok (.iload_n 1, 1) := by decide +kernel
theorem dX8_image_55 : decode cX8_image 55 = .ok (.bipush 10, 2) := by decide +kernel
theorem dX8_image_57 : decode cX8_image 57 = .ok (.if_icmp .ge 39, 3) := by decide +kernel
theorem dX8_image_60 : decode cX8_image 60 = .ok (.aload_n 0, 1) := by decide +kernel
theorem dX8_image_61 : decode cX8_image 61 = .ok (.getfield 82, 3) := by decide +kernel
theorem dX8_image_64 : decode cX8_image 64 = .ok (.bipush 10, 2) := by decide +kernel
theorem dX8_image_66 : decode cX8_image 66 = .ok (.iload_n 1, 1) := by decide +kernel
theorem dX8_image_67 : decode cX8_image 67 = .ok (.iadd, 1) := by decide +kernel
theorem dX8_image_68 : decode cX8_image 68 = .ok (.aload_n 0, 1) := by decide +kernel
theorem dX8_image_69 : decode cX8_image 69 = .ok (.getfield 64, 3) := by decide +kernel
theorem dX8_image_72 : decode cX8_image 72 = .ok (.iload_n 1, 1) := by decide +kernel
theorem dX8_image_73 : decode cX8_image 73 = .ok (.iaload, 1) := by decide +kernel
theorem dX8_image_74 : decode cX8_image 74 = .ok (.iastore, 1) := by decide +kernel
theorem dX8_image_75 : decode cX8_image 75 = .ok (.aload_n 0, 1) := by decide +kernel
theorem dX8_image_76 : decode cX8_image 76 = .ok (.getfield 82, 3) := by decide +kernel
theorem dX8_image_79 : decode cX8_image 79 = .ok (.bipush 20, 2) := by decide +kernel
theorem dX8_image_81 : decode cX8_image 81 = .ok (.iload_n 1, 1) := by decide +kernel
theorem dX8_image_82 : decode cX8_image 82 = .ok (.iadd, 1) := by decide +kernel
theorem dX8_image_83 : decode cX8_image 83 = .ok (.aload_n 0, 1) := by decide +kernel
theorem dX8_image_84 : decode cX8_image 84 = .ok (.getfield 67, 3) := by decide +kernel
theorem dX8_image_87 : decode cX8_image 87 = .ok (.iload_n 1, 1) := by decide +kernel
theorem dX8_image_88 : decode cX8_image 88 = .ok (.iaload, 1) := by decide +kernel
theorem dX8_image_89 : decode cX8_image 89 = .ok (.iastore, 1) := by decide +kernel
theorem dX8_image_90 : decode cX8_image 90 = .ok (.iinc 1 1, 3) := by decide +kernel
theorem dX8_image_93 : decode cX8_image 93 = .ok (.goto (-39), 3) := by decide +kernel
theorem dX8_image_96 : decode cX8_image 96 = .ok (.iconst 0, 1) := by decide +kernel
theorem dX8_image_97 : decode cX8_image 97 = .ok (.istore_n 1, 1) := by decide +kernel
theorem dX8_image_98 : decode cX8_image 98 = .ok (.iload_n 1, 1) := by decide +kernel
theorem dX8_image_99 : decode cX8_image 99 = .ok (.bipush 8, 2) := by decide +kernel
theorem dX8_image_101 : decode cX8_image 101 = .ok (.if_icmp .ge 39, 3) := by decide +kernel
theorem dX8_image_104 : decode cX8_image 104 = .ok (.aload_n 0, 1) := by decide +kernel
theorem dX8_image_105 : decode cX8_image 105 = .ok (.getfield 82, 3) := by decide +kernel
theorem dX8_image_108 : decode cX8_image 108 = .ok (.bipush 30, 2) := by decide +kernel
theorem dX8_image_110 : decode cX8_image 110 = .ok (.iload_n 1, 1) := by decide +kernel
theorem dX8_image_111 : decode cX8_image 111 = .ok (.iadd, 1) := by decide +kernel
theorem dX8_image_112 : decode cX8_image 112 = .ok (.aload_n 0, 1) := by decide +kernel
theorem dX8_image_113 : decode cX8_image 113 = .ok (.getfield 70, 3) := by decide +kernel
theorem dX8_image_116 : decode cX8_image 116 = .ok (.iload_n 1, 1) := by decide +kernel
theorem dX8_image_117 : decode cX8_image 117 = .ok (.iaload, 1) := by decide +kernel
theorem dX8_image_118 : decode cX8_image 118 = .ok (.iastore, 1) := by decide +kernel
theorem dX8_image_119 : decode cX8_image 119 = .ok (.aload_n 0, 1) := by decide +kernel
theorem dX8_image_120 : decode cX8_image 120 = .ok (.getfield 82, 3) := by decide +kernel
theorem dX8_image_123 : decode cX8_image 123 = .ok (.bipush 38, 2) := by decide +kernel
theorem dX8_image_125 : decode cX8_image 125 = .ok (.iload_n 1, 1) := by decide +kernel
theorem dX8_image_126 : decode cX8_image 126 = .ok (.iadd, 1) := by decide +kernel
theorem dX8_image_127 : decode cX8_image 127 = .ok (.aload_n 0, 1) := by decide +kernel
theorem dX8_image_128 : decode cX8_image 128 = .ok (.getfield 73, 3) := by decide +kernel
theorem dX8_image_131 : decode cX8_image 131 = .ok (.iload_n 1, 1) := by decide +kernel
theorem dX8_image_132 : decode cX8_image 132 = .ok (.iaload, 1) := by decide +kernel
theorem dX8_image_133 : decode cX8_image 133 = .ok (.iastore, 1) := by decide +kernel
theorem dX8_image_134 : decode cX8_image 134 = .ok (.iinc 1 1, 3) := by decide +kernel
theorem dX8_image_137 : decode cX8_image 137 = .ok (.goto (-39), 3) := by decide +kernel
theorem dX8_image_140 : decode cX8_image 140 = .ok (.aload_n 0, 1) := by decide +kernel
theorem dX8_image_141 : decode cX8_image 141 = .ok (.getfield 111, 3) := by decide +kernel
theorem dX8_image_144 : decode cX8_image 144 = .ok (.ireturn, 1) := by decide +kernel
theorem dX8_undo_0 : decode cX8_undo 0 = .ok (.aload_n 0, 1) := by decide +kernel
theorem dX8_undo_1 : decode cX8_undo 1 = .ok (.getfield 314, 3) := by decide +kernel
theorem dX8_undo_4 : decode cX8_undo 4 = .ok (.ifCond .ne 6, 3) := by decide +kernel
theorem dX8_undo_7 : decode cX8_undo 7 = .ok (.bipush (-3), 2) := by decide +kernel
theorem dX8_undo_9 : decode cX8_undo 9 = .ok (.ireturn, 1) := by decide +kernel
theorem dX8_undo_10 : decode cX8_undo 10 = .ok (.aload_n 0, 1) := by decide +kernel
theorem dX8_undo_11 : decode cX8_undo 11 = .ok (.aload_n 0, 1) := by decide +kernel
theorem dX8_undo_12 : decode cX8_undo 12 = .ok (.getfield 79, 3) := by decide +kernel
theorem dX8_undo_15 : decode cX8_undo 15 = .ok (.invokevirtual 280, 3) := by decide +kernel
theorem dX8_undo_18 : decode cX8_undo 18 = .ok (.iconst 0, 1) := by decide +kernel
theorem dX8_undo_19 : decode cX8_undo 19 = .ok (.istore_n 1, 1) := by decide +kernel
theorem dX8_undo_20 : decode cX8_undo 20 = .ok (.iload_n 1, 1) := by decide +kernel
theorem dX8_undo_21 : decode cX8_undo 21 = .ok (.iconst 5, 1) := by decide +kernel
theorem dX8_undo_22 : decode cX8_undo 22 = .ok (.if_icmp .ge 35, 3) := by decide +kernel
theorem dX8_undo_25 : decode cX8_undo 25 = .ok (.aload_n 0, 1) := by decide +kernel
theorem dX8_undo_26 : decode cX8_undo 26 = .ok (.getfield 58, 3) := by decide +kernel
theorem dX8_undo_29 : decode cX8_undo 29 = .ok (.iload_n 1, 1) := by decide +kernel
theorem dX8_undo_30 : decode cX8_undo 30 = .ok (.aload_n 0, 1) := by decide +kernel
theorem dX8_undo_31 : decode cX8_undo 31 = .ok (.getfield 82, 3) := by decide +kernel
theorem dX8_undo_34 : decode cX8_undo 34 = .ok (.iload_n 1, 1) := by decide +kernel
theorem dX8_undo_35 : decode cX8_undo 35 = .ok (.iaload, 1) := by decide +kernel
theorem dX8_undo_36 : decode cX8_undo 36 = .ok (.iastore, 1) := by decide +kernel
theorem dX8_undo_37 : decode cX8_undo 37 = .ok (.aload_n 0, 1) := by decide +kernel
theorem dX8_undo_38 : decode cX8_undo 38 = .ok (.getfield 61, 3) := by decide +kernel
theorem dX8_undo_41 : decode cX8_undo 41 = .ok (.iload_n 1, 1) := by decide +kernel
theorem dX8_undo_42 : decode cX8_undo 42 = .ok (.aload_n 0, 1) := by decide +kernel
theorem dX8_undo_43 : decode cX8_undo 43 = .ok (.getfield 82, 3) := by decide +kernel
theorem dX8_undo_46 : decode cX8_undo 46 = .ok (.iconst 5, 1) := by decide +kernel
theorem dX8_undo_47 : decode cX8_undo 47 = .ok (.iload_n 1, 1) := by decide +kernel
theorem dX8_undo_48 : decode cX8_undo 48 = .ok (.iadd, 1) := by decide +kernel
theorem dX8_undo_49 : decode cX8_undo 49 = .ok (.iaload, 1) := by decide +kernel
theorem dX8_undo_50 : decode cX8_undo 50 = .ok (.iastore, 1) := by decide +kernel
theorem dX8_undo_51 : decode cX8_undo 51 = .ok (.iinc 1 1, 3) := by decide +kernel
theorem dX8_undo_54 : decode cX8_undo 54 = .ok (.goto (-34), 3) := by decide +kernel
theorem dX8_undo_57 : decode cX8_undo 57 = .ok (.iconst 0, 1) := by decide +kernel
theorem dX8_undo_58 : decode cX8_undo 58 = .ok (.istore_n 1, 1) := by decide +kernel
theorem dX8_undo_59 : decode cX8_undo 59 = .ok (.iload_n 1, 1) := by decide +kernel
theorem dX8_undo_60 : decode cX8_undo 60 = .ok (.bipush 10, 2) := by decide +kernel
theorem dX8_undo_62 : decode cX8_undo 62 = .ok (.if_icmp .ge 39, 3) := by decide +kernel
theorem dX8_undo_65 : decode cX8_undo 65 = .ok (.aload_n 0, 1) := by decide +kernel
theorem dX8_undo_66 : decode cX8_undo 66 = .ok (.getfield 64, 3) := by decide +kernel
theorem dX8_undo_69 : decode cX8_undo 69 = .ok (.iload_n 1, 1) := by decide +kernel
theorem dX8_undo_70 : decode cX8_undo 70 = .ok (.aload_n 0, 1) := by decide +kernel
theorem dX8_undo_71 : decode cX8_undo 71 = .ok (.getfield 82, 3) := by decide +kernel
theorem dX8_undo_74 : decode cX8_undo 74 = .ok (.bipush 10, 2) := by decide +kernel
theorem dX8_undo_76 : decode cX8_undo 76 = .ok (.iload_n 1, 1) := by decide +kernel
theorem dX8_undo_77 : decode cX8_undo 77 = .ok (.iadd, 1) := by decide +kernel
theorem dX8_undo_78 : decode cX8_undo 78 = .ok (.iaload, 1) := by decide +kernel
theorem dX8_undo_79 : decode cX8_undo 79 = .ok (.iastore, 1) := by decide +kernel
theorem dX8_undo_80 : decode cX8_undo 80 = .ok (.aload_n 0, 1) := by decide +kernel
theorem dX8_undo_81 : decode cX8_undo 81 = .ok (.getfield 67, 3) := by decide +kernel
theorem dX8_undo_84 : decode cX8_undo 84 = .ok (.iload_n 1, 1) := by decide +kernel
theorem dX8_undo_85 : decode cX8_undo 85 = .ok (.aload_n 0, 1) := by decide +kernel
theorem dX8_undo_86 : decode cX8_undo 86 = .ok (.getfield 82, 3) := by decide +kernel
theorem dX8_undo_89 : decode cX8_undo 89 = .ok (.bipush 20, 2) := by decide +kernel
theorem dX8_undo_91 : decode cX8_undo 91 = .ok (.iload_n 1, 1) := by decide +kernel
theorem dX8_undo_92 : decode cX8_undo 92 = .ok (.iadd, 1) := by decide +kernel
theorem dX8_undo_93 : decode cX8_undo 93 = .ok (.iaload, 1) := by decide +kernel
theorem dX8_undo_94 : decode cX8_undo 94 = .ok (.iastore, 1) := by decide +kernel
theorem dX8_undo_95 : decode cX8_undo 95 = .ok (.iinc 1 1, 3) := by decide +kernel
theorem dX8_undo_98 : decode cX8_undo 98 = .ok (.goto (-39), 3) := by decide +kernel
theorem dX8_undo_101 : decode cX8_undo 101 = .ok (.iconst 0, 1) := by decide +kernel
theorem dX8_undo_102 : decode cX8_undo 102 = .ok (.istore_n 1, 1) := by decide +kernel
theorem dX8_undo_103 : decode cX8_undo 103 = .ok (.iload_n 1, 1) := by decide +kernel
theorem dX8_undo_104 : decode cX8_undo 104 = .ok (.bipush 8, 2) := by decide +kernel
theorem dX8_undo_106 : decode cX8_undo 106 = .ok (.if_icmp .ge 39, 3) := by decide +kernel
theorem dX8_undo_109 : decode cX8_undo 109 = .ok (.aload_n 0, 1) := by decide +kernel
theorem dX8_undo_110 : decode cX8_undo 110 = .ok (.getfield 70, 3) := by decide +kernel
theorem dX8_undo_113 : decode cX8_undo 113 = .ok (.iload_n 1, 1) := by decide +kernel
theorem dX8_undo_114 : decode cX8_undo 114 = .ok (.aload_n 0, 1) := by decide +kernel
theorem dX8_undo_115 : decode cX8_undo 115 = .ok (.getfield 82, 3) := by decide +kernel
theorem dX8_undo_118 : decode cX8_undo 118 = .ok (.bipush 30, 2) := by decide +kernel
theorem dX8_undo_120 : decode cX8_undo 120 = .ok (.iload_n 1, 1) := by decide +kernel
theorem dX8_undo_121 : decode cX8_undo 121 = .ok (.iadd, 1) := by decide +kernel
theorem dX8_undo_122 : decode cX8_undo 122 = .ok (.iaload, 1) := by decide +kernel
theorem dX8_undo_123 : decode cX8_undo 123 = .ok (.iastore, 1) := by decide +kernel
theorem dX8_undo_124 : decode cX8_undo 124 = .ok (.aload_n 0, 1) := by decide +kernel
theorem dX8_undo_125 : decode cX8_undo 125 = .ok (.getfield 73, 3) := by decide +kernel
theorem dX8_undo_128 : decode cX8_undo 128 = .ok (.iload_n 1, 1) := by decide +kernel
theorem dX8_undo_129 : decode cX8_undo 129 = .ok (.aload_n 0, 1) := by decide +kernel
theorem dX8_undo_130 : decode cX8_undo 130 = .ok (.getfield 82, 3) := by decide +kernel
theorem dX8_undo_133 : decode cX8_undo 133 = .ok (.bipush 38, 2) := by decide +kernel
theorem dX8_undo_135 : decode cX8_undo 135 = .ok (.iload_n 1, 1) := by decide +kernel
theorem dX8_undo_136 : decode cX8_undo 136 = .ok (.iadd, 1) := by decide +kernel
theorem dX8_undo_137 : decode cX8_undo 137 = .ok (.iaload, 1) := by decide +kernel
theorem dX8_undo_138 : decode cX8_undo 138 = .ok (.iastore, 1) := by decide +kernel
theorem dX8_undo_139 : decode cX8_undo 139 = .ok (.iinc 1 1, 3) := by decide +kernel
theorem dX8_undo_142 : decode cX8_undo 142 = .ok (.goto (-39), 3) := by decide +kernel
theorem dX8_undo_145 : decode cX8_undo 145 = .ok (.aload_n 0, 1) := by decide +kernel
theorem dX8_undo_146 : decode cX8_undo 146 = .ok (.getfield 111, 3) := by decide +kernel
theorem dX8_undo_149 : decode cX8_undo 149 = .ok (.ireturn, 1) := by decide +kernel
theorem dX8_ran_0 : decode cX8_ran 0 = .ok (.aload_n 0, 1) := by decide +kernel
theorem dX8_ran_1 : decode cX8_ran 1 = .ok (.getfield 318, 3) := by decide +kernel
theorem dX8_ran_4 : decode cX8_ran 4 = .ok (.bipush 20, 2) := by decide +kernel
theorem dX8_ran_6 : decode cX8_ran 6 = .ok (.if_icmp .ge 13, 3) := by decide +kernel
theorem dX8_ran_9 : decode cX8_ran 9 = .ok (.aload_n 0, 1) := by decide +kernel
theorem dX8_ran_10 : decode cX8_ran 10 = .ok (.getfield 85, 3) := by decide +kernel
theorem dX8_ran_13 : decode cX8_ran 13 = .ok (.aload_n 0, 1) := by decide +kernel
theorem dX8_ran_14 : decode cX8_ran 14 = .ok (.getfield 318, 3) := by decide +kernel
theorem dX8_ran_17 : decode cX8_ran 17 = .ok (.iload_n 1, 1) := by decide +kernel
theorem dX8_ran_18 : decode cX8_ran 18 = .ok (.iastore, 1) := by decide +kernel
theorem dX8_ran_19 : decode cX8_ran 19 = .ok (.aload_n 0, 1) := by decide +kernel
theorem dX8_ran_20 : decode cX8_ran 20 = .ok (.dup, 1) := by decide +kernel
theorem dX8_ran_21 : decode cX8_ran 21 = .ok (.getfield 318, 3) := by decide +kernel
theorem dX8_ran_24 : decode cX8_ran 24 = .ok (.iconst 1, 1) := by decide +kernel
theorem dX8_ran_25 : decode cX8_ran 25 = .ok (.iadd, 1) := by decide +kernel
theorem dX8_ran_26 : decode cX8_ran 26 = .ok (.putfield 318, 3) := by decide +kernel
theorem dX8_ran_29 : decode cX8_ran 29 = .ok (.return_, 1) := by decide +kernel
theorem dX8_above_0 : decode cX8_above 0 = .ok (.iload_n 0, 1) := by decide +kernel
theorem dX8_above_1 : decode cX8_above 1 = .ok (.iconst 4, 1) := by decide +kernel
theorem dX8_above_2 : decode cX8_above 2 = .ok (.if_icmp .ne 7, 3) := by decide +kernel
theorem dX8_above_5 : decode cX8_above 5 = .ok (.iconst 1, 1) := by decide +kernel
theorem dX8_above_6 : decode cX8_above 6 = .ok (.goto 23, 3) := by decide +kernel
theorem dX8_above_9 : decode cX8_above 9 = .ok (.iload_n 0, 1) := by decide +kernel
theorem dX8_above_10 : decode cX8_above 10 = .ok (.iconst 5, 1) := by decide +kernel
theorem dX8_above_11 : decode cX8_above 11 = .ok (.if_icmp .ne 7, 3) := by decide +kernel
theorem dX8_above_14 : decode cX8_above 14 = .ok (.iconst 2, 1) := by decide +kernel
theorem dX8_above_15 : decode cX8_above 15 = .ok (.goto 14, 3) := by decide +kernel
theorem dX8_above_18 : decode cX8_above 18 = .ok (.iload_n 0, 1) := by decide +kernel
theorem dX8_above_19 : decode cX8_above 19 = .ok (.bipush 6, 2) := by decide +kernel
theorem dX8_above_21 : decode cX8_above 21 = .ok (.if_icmp .ne 7, 3) := by decide +kernel
theorem dX8_above_24 : decode cX8_above 24 = .ok (.iconst 3, 1) := by decide +kernel
theorem dX8_above_25 : decode cX8_above 25 = .ok (.goto 4, 3) := by decide +kernel
theorem dX8_above_28 : decode cX8_above 28 = .ok (.iconst 0, 1) := by decide +kernel
theorem dX8_above_29 : decode cX8_above 29 = .ok (.ireturn, 1) := by decide +kernel
theorem dX8_opens__0 : decode cX8_opens_ 0 = .ok (.iload_n 2, 1) := by decide +kernel
theorem dX8_opens__1 : decode cX8_opens_ 1 = .ok (.tableswitch 105 0 6 #[95, 105, 43, 105, 59, 105, 74], 43) := by decide +kernel
theorem dX8_opens__44 : decode cX8_opens_ 44 = .ok (.aload_n 0, 1) := by decide +kernel
theorem dX8_opens__45 : decode cX8_opens_ 45 = .ok (.bipush 30, 2) := by decide +kernel
theorem dX8_opens__47 : decode cX8_opens_ 47 = .ok (.invokevirtual 321, 3) := by decide +kernel
theorem dX8_opens__50 : decode cX8_opens_ 50 = .ok (.aload_n 0, 1) := by decide +kernel
theorem dX8_opens__51 : decode cX8_opens_ 51 = .ok (.iload_n 1, 1) := by decide +kernel
theorem dX8_opens__52 : decode cX8_opens_ 52 = .ok (.iconst 0, 1) := by decide +kernel
theorem dX8_opens__53 : decode cX8_opens_ 53 = .ok (.iload_n 3, 1) := by decide +kernel
theorem dX8_opens__54 : decode cX8_opens_ 54 = .ok (.iconst 3, 1) := by decide +kernel
theorem dX8_opens__55 : decode cX8_opens_ 55 = .ok (.imul, 1) := by decide +kernel
theorem dX8_opens__56 : decode cX8_opens_ 56 = .ok (.invokevirtual 324, 3) := by decide +kernel
theorem dX8_opens__59 : decode cX8_opens_ 59 = .ok (.ireturn, 1) := by decide +kernel
theorem dX8_opens__60 : decode cX8_opens_ 60 = .ok (.aload_n 0, 1) := by decide +kernel
theorem dX8_opens__61 : decode cX8_opens_ 61 = .ok (.bipush 50, 2) := by decide +kernel
theorem dX8_opens__63 : decode cX8_opens_ 63 = .ok (.invokevirtual 321, 3) := by decide +kernel
theorem dX8_opens__66 : decode cX8_opens_ 66 = .ok (.aload_n 0, 1) := by decide +kernel
theorem dX8_opens__67 : decode cX8_opens_ 67 = .ok (.iload_n 1, 1) := by decide +kernel
theorem dX8_opens__68 : decode cX8_opens_ 68 = .ok (.iconst 1, 1) := by decide +kernel
theorem dX8_opens__69 : decode cX8_opens_ 69 = .ok (.iload_n 3, 1) := by decide +kernel
theorem dX8_opens__70 : decode cX8_opens_ 70 = .ok (.invokevirtual 324, 3) := by decide +kernel
theorem dX8_opens__73 : decode cX8_opens_ 73 = .ok (.ineg, 1) := by decide +kernel
theorem dX8_opens__74 : decode cX8_opens_ 74 = .ok (.ireturn, 1) := by decide +kernel
theorem dX8_opens__75 : decode cX8_opens_ 75 = .ok (.aload_n 0, 1) := by decide +kernel
theorem dX8_opens__76 : decode cX8_opens_ 76 = .ok (.bipush 71, 2) := by decide +kernel
theorem dX8_opens__78 : decode cX8_opens_ 78 = .ok (.invokevirtual 321, 3) := by decide +kernel
theorem dX8_opens__81 : decode cX8_opens_ 81 = .ok (.aload_n 0, 1) := by decide +kernel
theorem dX8_opens__82 : decode cX8_opens_ 82 = .ok (.iload_n 1, 1) := by decide +kernel
theorem dX8_opens__83 : decode cX8_opens_ 83 = .ok (.iconst 3, 1) := by decide +kernel
theorem dX8_opens__84 : decode cX8_opens_ 84 = .ok (.iload_n 3, 1) := by decide +kernel
theorem dX8_opens__85 : decode cX8_opens_ 85 = .ok (.invokevirtual 324, 3) := by decide +kernel
theorem dX8_opens__88 : decode cX8_opens_ 88 = .ok (.aload_n 0, 1) := by decide +kernel
theorem dX8_opens__89 : decode cX8_opens_ 89 = .ok (.getfield 15, 3) := by decide +kernel
theorem dX8_opens__92 : decode cX8_opens_ 92 = .ok (.iload_n 1, 1) := by decide +kernel
theorem dX8_opens__93 : decode cX8_opens_ 93 = .ok (.iaload, 1) := by decide +kernel
theorem dX8_opens__94 : decode cX8_opens_ 94 = .ok (.ixor, 1) := by decide +kernel
theorem dX8_opens__95 : decode cX8_opens_ 95 = .ok (.ireturn, 1) := by decide +kernel
theorem dX8_opens__96 : decode cX8_opens_ 96 = .ok (.aload_n 0, 1) := by decide +kernel
theorem dX8_opens__97 : decode cX8_opens_ 97 = .ok (.bipush 10, 2) := by decide +kernel
theorem dX8_opens__99 : decode cX8_opens_ 99 = .ok (.invokevirtual 321, 3) := by decide +kernel
theorem dX8_opens__102 : decode cX8_opens_ 102 = .ok (.iload_n 3, 1) := by decide +kernel
theorem dX8_opens__103 : decode cX8_opens_ 103 = .ok (.iload_n 1, 1) := by decide +kernel
theorem dX8_opens__104 : decode cX8_opens_ 104 = .ok (.iadd, 1) := by decide +kernel
theorem dX8_opens__105 : decode cX8_opens_ 105 = .ok (.ireturn, 1) := by decide +kernel
theorem dX8_opens__106 : decode cX8_opens_ 106 = .ok (.aload_n 0, 1) := by decide +kernel
theorem dX8_opens__107 : decode cX8_opens_ 107 = .ok (.iload_n 1, 1) := by decide +kernel
theorem dX8_opens__108 : decode cX8_opens_ 108 = .ok (.iload_n 2, 1) := by decide +kernel
theorem dX8_opens__109 : decode cX8_opens_ 109 = .ok (.invokestatic 327, 3) := by decide +kernel
theorem dX8_opens__112 : decode cX8_opens_ 112 = .ok (.iload_n 3, 1) := by decide +kernel
theorem dX8_opens__113 : decode cX8_opens_ 113 = .ok (.invokevirtual 324, 3) := by decide +kernel
theorem dX8_opens__116 : decode cX8_opens_ 116 = .ok (.ireturn, 1) := by decide +kernel
theorem dX8_prays__0 : decode cX8_prays_ 0 = .ok (.iload_n 2, 1) := by decide +kernel
theorem dX8_prays__1 : decode cX8_prays_ 1 = .ok (.tableswitch 128 0 6 #[102, 43, 128, 128, 60, 128, 76], 43) := by decide +kernel
theorem dX8_prays__44 : decode cX8_prays_ 44 = .ok (.aload_n 0, 1) := by decide +kernel
theorem dX8_prays__45 : decode cX8_prays_ 45 = .ok (.bipush 20, 2) := by decide +kernel
theorem dX8_prays__47 : decode cX8_prays_ 47 = .ok (.invokevirtual 321, 3) := by decide +kernel
theorem dX8_prays__50 : decode cX8_prays_ 50 = .ok (.aload_n 0, 1) := by decide +kernel
theorem dX8_prays__51 : decode cX8_prays_ 51 = .ok (.iload_n 1, 1) := by decide +kernel
theorem dX8_prays__52 : decode cX8_prays_ 52 = .ok (.iconst 0, 1) := by decide +kernel
theorem dX8_prays__53 : decode cX8_prays_ 53 = .ok (.iload_n 3, 1) := by decide +kernel
theorem dX8_prays__54 : decode cX8_prays_ 54 = .ok (.invokevirtual 330, 3) := by decide +kernel
theorem dX8_prays__57 : decode cX8_prays_ 57 = .ok (.bipush 6, 2) := by decide +kernel
theorem dX8_prays__59 : decode cX8_prays_ 59 = .ok (.ixor, 1) := by decide +kernel
theorem dX8_prays__60 : decode cX8_prays_ 60 = .ok (.ireturn, 1) := by decide +kernel
theorem dX8_prays__61 : decode cX8_prays_ 61 = .ok (.aload_n 0, 1) := by decide +kernel
theorem dX8_prays__62 : decode cX8_prays_ 62 = .ok (.bipush 51, 2) := by decide +kernel
theorem dX8_prays__64 : decode cX8_prays_ 64 = .ok (.invokevirtual 321, 3) := by decide +kernel
theorem dX8_prays__67 : decode cX8_prays_ 67 = .ok (.aload_n 0, 1) := by decide +kernel
theorem dX8_prays__68 : decode cX8_prays_ 68 = .ok (.iload_n 1, 1) := by decide +kernel
theorem dX8_prays__69 : decode cX8_prays_ 69 = .ok (.iconst 1, 1) := by decide +kernel
theorem dX8_prays__70 : decode cX8_prays_ 70 = .ok (.iload_n 3, 1) := by decide +kernel
theorem dX8_prays__71 : decode cX8_prays_ 71 = .ok (.iconst 1, 1) := by decide +kernel
theorem dX8_prays__72 : decode cX8_prays_ 72 = .ok (.iadd, 1) := by decide +kernel
theorem dX8_prays__73 : decode cX8_prays_ 73 = .ok (.invokevirtual 330, 3) := by decide +kernel
theorem dX8_prays__76 : decode cX8_prays_ 76 = .ok (.ireturn, 1) := by decide +kernel
theorem dX8_prays__77 : decode cX8_prays_ 77 = .ok (.aload_n 0, 1) := by decide +kernel
theorem dX8_prays__78 : decode cX8_prays_ 78 = .ok (.bipush 70, 2) := by decide +kernel
theorem dX8_prays__80 : decode cX8_prays_ 80 = .ok (.invokevirtual 321, 3) := by decide +kernel
theorem dX8_prays__83 : decode cX8_prays_ 83 = .ok (.aload_n 0, 1) := by decide +kernel
theorem dX8_prays__84 : decode cX8_prays_ 84 = .ok (.iload_n 1, 1) := by decide +kernel
theorem dX8_prays__85 : decode cX8_prays_ 85 = .ok (.iconst 3, 1) := by decide +kernel
theorem dX8_prays__86 : decode cX8_prays_ 86 = .ok (.iload_n 3, 1) := by decide +kernel
theorem dX8_prays__87 : decode cX8_prays_ 87 = .ok (.invokevirtual 330, 3) := by decide +kernel
theorem dX8_prays__90 : decode cX8_prays_ 90 = .ok (.istore 4, 2) := by decide +kernel
theorem dX8_prays__92 : decode cX8_prays_ 92 = .ok (.iload 4, 2) := by decide +kernel
theorem dX8_prays__94 : decode cX8_prays_ 94 = .ok (.aload_n 0, 1) := by decide +kernel
theorem dX8_prays__95 : decode cX8_prays_ 95 = .ok (.iload_n 1, 1) := by decide +kernel
theorem dX8_prays__96 : decode cX8_prays_ 96 = .ok (.iconst 3, 1) := by decide +kernel
theorem dX8_prays__97 : decode cX8_prays_ 97 = .ok (.iconst 2, 1) := by decide +kernel
theorem dX8_prays__98 : decode cX8_prays_ 98 = .ok (.invokevirtual 324, 3) := by decide +kernel
theorem dX8_prays__101 : decode cX8_prays_ 101 = .ok (.iadd, 1) := by decide +kernel
theorem dX8_prays__102 : decode cX8_prays_ 102 = .ok (.ireturn, 1) := by decide +kernel
theorem dX8_prays__103 : decode cX8_prays_ 103 = .ok (.aload_n 0, 1) := by decide +kernel
theorem dX8_prays__104 : decode cX8_prays_ 104 = .ok (.bipush 11, 2) := by decide +kernel
theorem dX8_prays__106 : decode cX8_prays_ 106 = .ok (.invokevirtual 321, 3) := by decide +kernel
theorem dX8_prays__109 : decode cX8_prays_ 109 = .ok (.aload_n 0, 1) := by decide +kernel
theorem dX8_prays__110 : decode cX8_prays_ 110 = .ok (.iload_n 1, 1) := by decide +kernel
theorem dX8_prays__111 : decode cX8_prays_ 111 = .ok (.aload_n 0, 1) := by decide +kernel
theorem dX8_prays__112 : decode cX8_prays_ 112 = .ok (.getfield 9, 3) := by decide +kernel
theorem dX8_prays__115 : decode cX8_prays_ 115 = .ok (.iload_n 1, 1) := by decide +kernel
theorem dX8_prays__116 : decode cX8_prays_ 116 = .ok (.iaload, 1) := by decide +kernel
theorem dX8_prays__117 : decode cX8_prays_ 117 = .ok (.iload_n 3, 1) := by decide +kernel
theorem dX8_prays__118 : decode cX8_prays_ 118 = .ok (.invokevirtual 324, 3) := by decide +kernel
theorem dX8_prays__121 : decode cX8_prays_ 121 = .ok (.aload_n 0, 1) := by decide +kernel
theorem dX8_prays__122 : decode cX8_prays_ 122 = .ok (.getfield 15, 3) := by decide +kernel
theorem dX8_prays__125 : decode cX8_prays_ 125 = .ok (.iload_n 1, 1) := by decide +kernel
theorem dX8_prays__126 : decode cX8_prays_ 126 = .ok (.iaload, 1) := by decide +kernel
theorem dX8_prays__127 : decode cX8_prays_ 127 = .ok (.isub, 1) := by decide +kernel
theorem dX8_prays__128 : decode cX8_prays_ 128 = .ok (.ireturn, 1) := by decide +kernel
theorem dX8_prays__129 : decode cX8_prays_ 129 = .ok (.aload_n 0, 1) := by decide +kernel
theorem dX8_prays__130 : decode cX8_prays_ 130 = .ok (.iload_n 1, 1) := by decide +kernel
theorem dX8_prays__131 : decode cX8_prays_ 131 = .ok (.iload_n 2, 1) := by decide +kernel
theorem dX8_prays__132 : decode cX8_prays_ 132 = .ok (.invokestatic 327, 3) := by decide +kernel
theorem dX8_prays__135 : decode cX8_prays_ 135 = .ok (.iload_n 3, 1) := by decide +kernel
theorem dX8_prays__136 : decode cX8_prays_ 136 = .ok (.invokevirtual 330, 3) := by decide +kernel
theorem dX8_prays__139 : decode cX8_prays_ 139 = .ok (.ireturn, 1) := by decide +kernel
theorem dX8_tells_0 : decode cX8_tells 0 = .ok (.iload_n 2, 1) := by decide +kernel
theorem dX8_tells_1 : decode cX8_tells 1 = .ok (.lookupswitch 103 #[(0, 82), (3, 35), (5, 66)], 35) := by decide +kernel
theorem dX8_tells_36 : decode cX8_tells 36 = .ok (.aload_n 0, 1) := by decide +kernel
theorem dX8_tells_37 : decode cX8_tells 37 = .ok (.bipush 40, 2) := by decide +kernel
theorem dX8_tells_39 : decode cX8_tells 39 = .ok (.invokevirtual 321, 3) := by decide +kernel
theorem dX8_tells_42 : decode cX8_tells 42 = .ok (.aload_n 0, 1) := by decide +kernel
theorem dX8_tells_43 : decode cX8_tells 43 = .ok (.iload_n 1, 1) := by decide +kernel
theorem dX8_tells_44 : decode cX8_tells 44 = .ok (.iconst 0, 1) := by decide +kernel
theorem dX8_tells_45 : decode cX8_tells 45 = .ok (.iload_n 3, 1) := by decide +kernel
theorem dX8_tells_46 : decode cX8_tells 46 = .ok (.invokevirtual 332, 3) := by decide +kernel
theorem dX8_tells_49 : decode cX8_tells 49 = .ok (.istore 4, 2) := by decide +kernel
theorem dX8_tells_51 : decode cX8_tells 51 = .ok (.iload 4, 2) := by decide +kernel
theorem dX8_tells_53 : decode cX8_tells 53 = .ok (.aload_n 0, 1) := by decide +kernel
theorem dX8_tells_54 : decode cX8_tells 54 = .ok (.iload_n 1, 1) := by decide +kernel
theorem dX8_tells_55 : decode cX8_tells 55 = .ok (.aload_n 0, 1) := by decide +kernel
theorem dX8_tells_56 : decode cX8_tells 56 = .ok (.getfield 9, 3) := by decide +kernel
theorem dX8_tells_59 : decode cX8_tells 59 = .ok (.iload_n 1, 1) := by decide +kernel
theorem dX8_tells_60 : decode cX8_tells 60 = .ok (.iaload, 1) := by decide +kernel
theorem dX8_tells_61 : decode cX8_tells 61 = .ok (.iconst 1, 1) := by decide +kernel
theorem dX8_tells_62 : decode cX8_tells 62 = .ok (.invokevirtual 330, 3) := by decide +kernel
theorem dX8_tells_65 : decode cX8_tells 65 = .ok (.iadd, 1) := by decide +kernel
theorem dX8_tells_66 : decode cX8_tells 66 = .ok (.ireturn, 1) := by decide +kernel
theorem dX8_tells_67 : decode cX8_tells 67 = .ok (.aload_n 0, 1) := by decide +kernel
theorem dX8_tells_68 : decode cX8_tells 68 = .ok (.bipush 60, 2) := by decide +kernel
theorem dX8_tells_70 : decode cX8_tells 70 = .ok (.invokevirtual 321, 3) := by decide +kernel
theorem dX8_tells_73 : decode cX8_tells 73 = .ok (.aload_n 0, 1) := by decide +kernel
theorem dX8_tells_74 : decode cX8_tells 74 = .ok (.iload_n 1, 1) := by decide +kernel
theorem dX8_tells_75 : decode cX8_tells 75 = .ok (.iconst 2, 1) := by decide +kernel
theorem dX8_tells_76 : decode cX8_tells 76 = .ok (.iload_n 3, 1) := by decide +kernel
theorem dX8_tells_77 : decode cX8_tells 77 = .ok (.iload_n 1, 1) := by decide +kernel
theorem dX8_tells_78 : decode cX8_tells 78 = .ok (.isub, 1) := by decide +kernel
theorem dX8_tells_79 : decode cX8_tells 79 = .ok (.invokevirtual 332, 3) := by decide +kernel
theorem dX8_tells_82 : decode cX8_tells 82 = .ok (.ireturn, 1) := by decide +kernel
theorem dX8_tells_83 : decode cX8_tells 83 = .ok (.aload_n 0, 1) := by decide +kernel
theorem dX8_tells_84 : decode cX8_tells 84 = .ok (.bipush 12, 2) := by decide +kernel
theorem dX8_tells_86 : decode cX8_tells 86 = .ok (.invokevirtual 321, 3) := by decide +kernel
theorem dX8_tells_89 : decode cX8_tells 89 = .ok (.aload_n 0, 1) := by decide +kernel
theorem dX8_tells_90 : decode cX8_tells 90 = .ok (.iload_n 1, 1) := by decide +kernel
theorem dX8_tells_91 : decode cX8_tells 91 = .ok (.aload_n 0, 1) := by decide +kernel
theorem dX8_tells_92 : decode cX8_tells 92 = .ok (.getfield 9, 3) := by decide +kernel
theorem dX8_tells_95 : decode cX8_tells 95 = .ok (.iload_n 1, 1) := by decide +kernel
theorem dX8_tells_96 : decode cX8_tells 96 = .ok (.iaload, 1) := by decide +kernel
theorem dX8_tells_97 : decode cX8_tells 97 = .ok (.iload_n 3, 1) := by decide +kernel
theorem dX8_tells_98 : decode cX8_tells 98 = .ok (.invokevirtual 330, 3) := by decide +kernel
theorem dX8_tells_101 : decode cX8_tells 101 = .ok (.iconst 2, 1) := by decide +kernel
theorem dX8_tells_102 : decode cX8_tells 102 = .ok (.imul, 1) := by decide +kernel
theorem dX8_tells_103 : decode cX8_tells 103 = .ok (.ireturn, 1) := by decide +kernel
theorem dX8_tells_104 : decode cX8_tells 104 = .ok (.aload_n 0, 1) := by decide +kernel
theorem dX8_tells_105 : decode cX8_tells 105 = .ok (.iload_n 1, 1) := by decide +kernel
theorem dX8_tells_106 : decode cX8_tells 106 = .ok (.iload_n 2, 1) := by decide +kernel
theorem dX8_tells_107 : decode cX8_tells 107 = .ok (.invokestatic 327, 3) := by decide +kernel
theorem dX8_tells_110 : decode cX8_tells 110 = .ok (.iload_n 3, 1) := by decide +kernel
theorem dX8_tells_111 : decode cX8_tells 111 = .ok (.invokevirtual 332, 3) := by decide +kernel
theorem dX8_tells_114 : decode cX8_tells 114 = .ok (.ireturn, 1) := by decide +kernel
theorem dX8_act_0 : decode cX8_act 0 = .ok (.aload_n 0, 1) := by decide +kernel
theorem dX8_act_1 : decode cX8_act 1 = .ok (.iconst 0, 1) := by decide +kernel
theorem dX8_act_2 : decode cX8_act 2 = .ok (.putfield 318, 3) := by decide +kernel
theorem dX8_act_5 : decode cX8_act 5 = .ok (.aload_n 0, 1) := by decide +kernel
theorem dX8_act_6 : decode cX8_act 6 = .ok (.iload_n 1, 1) := by decide +kernel
theorem dX8_act_7 : decode cX8_act 7 = .ok (.invokevirtual 118, 3) := by decide +kernel
theorem dX8_act_10 : decode cX8_act 10 = .ok (.ifCond .eq 12, 3) := by decide +kernel
theorem dX8_act_13 : decode cX8_act 13 = .ok (.iload_n 2, 1) := by decide +kernel
theorem dX8_act_14 : decode cX8_act 14 = .ok (.iconst 0, 1) := by decide +kernel
theorem dX8_act_15 : decode cX8_act 15 = .ok (.iconst 2, 1) := by decide +kernel
theorem dX8_act_16 : decode cX8_act 16 = .ok (.invokestatic 114, 3) := by decide +kernel
theorem dX8_act_19 : decode cX8_act 19 = .ok (.ifCond .ne 5, 3) := by decide +kernel
theorem dX8_act_22 : decode cX8_act 22 = .ok (.iconst 0, 1) := by decide +kernel
theorem dX8_act_23 : decode cX8_act 23 = .ok (.ireturn, 1) := by decide +kernel
theorem dX8_act_24 : decode cX8_act 24 = .ok (.aload_n 0, 1) := by decide +kernel
theorem dX8_act_25 : decode cX8_act 25 = .ok (.getfield 9, 3) := by decide +kernel
theorem dX8_act_28 : decode cX8_act 28 = .ok (.iload_n 1, 1) := by decide +kernel
theorem dX8_act_29 : decode cX8_act 29 = .ok (.iaload, 1) := by decide +kernel
theorem dX8_act_30 : decode cX8_act 30 = .ok (.istore 4, 2) := by decide +kernel
theorem dX8_act_32 : decode cX8_act 32 = .ok (.iload_n 2, 1) := by decide +kernel
theorem dX8_act_33 : decode cX8_act 33 = .ok (.ifCond .ne 14, 3) := by decide +kernel
theorem dX8_act_36 : decode cX8_act 36 = .ok (.aload_n 0, 1) := by decide +kernel
theorem dX8_act_37 : decode cX8_act 37 = .ok (.iload_n 1, 1) := by decide +kernel
theorem dX8_act_38 : decode cX8_act 38 = .ok (.iload 4, 2) := by decide +kernel
theorem dX8_act_40 : decode cX8_act 40 = .ok (.iload_n 3, 1) := by decide +kernel
theorem dX8_act_41 : decode cX8_act 41 = .ok (.invokevirtual 324, 3) := by decide +kernel
theorem dX8_act_44 : decode cX8_act 44 = .ok (.goto 27, 3) := by decide +kernel
theorem dX8_act_47 : decode cX8_act 47 = .ok (.iload_n 2, 1) := by decide +kernel
theorem dX8_act_48 : decode cX8_act 48 = .ok (.iconst 1, 1) := by decide +kernel
theorem dX8_act_49 : decode cX8_act 49 = .ok (.if_icmp .ne 14, 3) := by decide +kernel
theorem dX8_act_52 : decode cX8_act 52 = .ok (.aload_n 0, 1) := by decide +kernel
theorem dX8_act_53 : decode cX8_act 53 = .ok (.iload_n 1, 1) := by decide +kernel
theorem dX8_act_54 : decode cX8_act 54 = .ok (.iload 4, 2) := by decide +kernel
theorem dX8_act_56 : decode cX8_act 56 = .ok (.iload_n 3, 1) := by decide +kernel
theorem dX8_act_57 : decode cX8_act 57 = .ok (.invokevirtual 330, 3) := by decide +kernel
theorem dX8_act_60 : decode cX8_act 60 = .ok (.goto 11, 3) := by decide +kernel
theorem dX8_act_63 : decode cX8_act 63 = .ok (.aload_n 0, 1) := by decide +kernel
theorem dX8_act_64 : decode cX8_act 64 = .ok (.iload_n 1, 1) := by decide +kernel
theorem dX8_act_65 : decode cX8_act 65 = .ok (.iload 4, 2) := by decide +kernel
theorem dX8_act_67 : decode cX8_act 67 = .ok (.iload_n 3, 1) := by decide +kernel
theorem dX8_act_68 : decode cX8_act 68 = .ok (.invokevirtual 332, 3) := by decide +kernel
theorem dX8_act_71 : decode cX8_act 71 = .ok (.ireturn, 1) := by decide +kernel
theorem dX8_trace_0 : decode cX8_trace 0 = .ok (.iload_n 1, 1) := by decide +kernel
theorem dX8_trace_1 : decode cX8_trace 1 = .ok (.iconst 0, 1) := by decide +kernel
theorem dX8_trace_2 : decode cX8_trace 2 = .ok (.bipush 20, 2) := by decide +kernel
theorem dX8_trace_4 : decode cX8_trace 4 = .ok (.aload_n 0, 1) := by decide +kernel
theorem dX8_trace_5 : decode cX8_trace 5 = .ok (.getfield 318, 3) := by decide +kernel
theorem dX8_trace_8 : decode cX8_trace 8 = .ok (.invokestatic 263, 3) := by decide +kernel
theorem dX8_trace_11 : decode cX8_trace 11 = .ok (.iconst 1, 1) := by decide +kernel
theorem dX8_trace_12 : decode cX8_trace 12 = .ok (.isub, 1) := by decide +kernel
theorem dX8_trace_13 : decode cX8_trace 13 = .ok (.invokestatic 114, 3) := by decide +kernel
theorem dX8_trace_16 : decode cX8_trace 16 = .ok (.ifCond .eq 12, 3) := by decide +kernel
theorem dX8_trace_19 : decode cX8_trace 19 = .ok (.aload_n 0, 1) := by decide +kernel
theorem dX8_trace_20 : decode cX8_trace 20 = .ok (.getfield 85, 3) := by decide +kernel
theorem dX8_trace_23 : decode cX8_trace 23 = .ok (.iload_n 1, 1) := by decide +kernel
theorem dX8_trace_24 : decode cX8_trace 24 = .ok (.iaload, 1) := by decide +kernel
theorem dX8_trace_25 : decode cX8_trace 25 = .ok (.goto 4, 3) := by decide +kernel
theorem dX8_trace_28 : decode cX8_trace 28 = .ok (.iconst (-1), 1) := by decide +kernel
theorem dX8_trace_29 : decode cX8_trace 29 = .ok (.ireturn, 1) := by decide +kernel
theorem dX8_taken_0 : decode cX8_taken 0 = .ok (.iload_n 2, 1) := by decide +kernel
theorem dX8_taken_1 : decode cX8_taken 1 = .ok (.iconst 0, 1) := by decide +kernel
theorem dX8_taken_2 : decode cX8_taken 2 = .ok (.bipush 6, 2) := by decide +kernel
theorem dX8_taken_4 : decode cX8_taken 4 = .ok (.invokestatic 114, 3) := by decide +kernel
theorem dX8_taken_7 : decode cX8_taken 7 = .ok (.ifCond .ne 6, 3) := by decide +kernel
theorem dX8_taken_10 : decode cX8_taken 10 = .ok (.bipush (-2), 2) := by decide +kernel
theorem dX8_taken_12 : decode cX8_taken 12 = .ok (.ireturn, 1) := by decide +kernel
theorem dX8_taken_13 : decode cX8_taken 13 = .ok (.aload_n 0, 1) := by decide +kernel
theorem dX8_taken_14 : decode cX8_taken 14 = .ok (.iload_n 1, 1) := by decide +kernel
theorem dX8_taken_15 : decode cX8_taken 15 = .ok (.invokevirtual 118, 3) := by decide +kernel
theorem dX8_taken_18 : decode cX8_taken 18 = .ok (.ifCond .ne 6, 3) := by decide +kernel
theorem dX8_taken_21 : decode cX8_taken 21 = .ok (.bipush (-11), 2) := by decide +kernel
theorem dX8_taken_23 : decode cX8_taken 23 = .ok (.ireturn, 1) := by decide +kernel
theorem dX8_taken_24 : decode cX8_taken 24 = .ok (.aload_n 0, 1) := by decide +kernel
theorem dX8_taken_25 : decode cX8_taken 25 = .ok (.getfield 9, 3) := by decide +kernel
theorem dX8_taken_28 : decode cX8_taken 28 = .ok (.iload_n 1, 1) := by decide +kernel
theorem dX8_taken_29 : decode cX8_taken 29 = .ok (.iaload, 1) := by decide +kernel
theorem dX8_taken_30 : decode cX8_taken 30 = .ok (.istore_n 3, 1) := by decide +kernel
theorem dX8_taken_31 : decode cX8_taken 31 = .ok (.iload_n 3, 1) := by decide +kernel
theorem dX8_taken_32 : decode cX8_taken 32 = .ok (.iload_n 2, 1) := by decide +kernel
theorem dX8_taken_33 : decode cX8_taken 33 = .ok (.if_icmp .eq 15, 3) := by decide +kernel
theorem dX8_taken_36 : decode cX8_taken 36 = .ok (.iload_n 3, 1) := by decide +kernel
theorem dX8_taken_37 : decode cX8_taken 37 = .ok (.ifCond .le 11, 3) := by decide +kernel
theorem dX8_taken_40 : decode cX8_taken 40 = .ok (.iload_n 3, 1) := by decide +kernel
theorem dX8_taken_41 : decode cX8_taken 41 = .ok (.invokestatic 327, 3) := by decide +kernel
theorem dX8_taken_44 : decode cX8_taken 44 = .ok (.istore_n 3, 1) := by decide +kernel
theorem dX8_taken_45 : decode cX8_taken 45 = .ok (.goto (-14), 3) := by decide +kernel
theorem dX8_taken_48 : decode cX8_taken 48 = .ok (.iload_n 3, 1) := by decide +kernel
theorem dX8_taken_49 : decode cX8_taken 49 = .ok (.iload_n 2, 1) := by decide +kernel
theorem dX8_taken_50 : decode cX8_taken 50 = .ok (.if_icmp .ne 12, 3) := by decide +kernel
theorem dX8_taken_53 : decode cX8_taken 53 = .ok (.aload_n 0, 1) := by decide +kernel
theorem dX8_taken_54 : decode cX8_taken 54 = .ok (.getfield 9, 3) := by decide +kernel
theorem dX8_taken_57 : decode cX8_taken 57 = .ok (.iload_n 1, 1) := by decide +kernel
theorem dX8_taken_58 : decode cX8_taken 58 = .ok (.iaload, 1) := by decide +kernel
theorem dX8_taken_59 : decode cX8_taken 59 = .ok (.goto 5, 3) := by decide +kernel
theorem dX8_taken_62 : decode cX8_taken 62 = .ok (.bipush (-12), 2) := by decide +kernel
theorem dX8_taken_64 : decode cX8_taken 64 = .ok (.ireturn, 1) := by decide +kernel
theorem dX8_count_0 : decode cX8_count 0 = .ok (.iload_n 1, 1) := by decide +kernel
theorem dX8_count_1 : decode cX8_count 1 = .ok (.tableswitch 87 0 7 #[47, 52, 57, 62, 67, 72, 77, 82], 47) := by decide +kernel
theorem dX8_count_48 : decode cX8_count 48 = .ok (.aload_n 0, 1) := by decide +kernel
theorem dX8_count_49 : decode cX8_count 49 = .ok (.getfield 111, 3) := by decide +kernel
theorem dX8_count_52 : decode cX8_count 52 = .ok (.ireturn, 1) := by decide +kernel
theorem dX8_count_53 : decode cX8_count 53 = .ok (.aload_n 0, 1) := by decide +kernel
theorem dX8_count_54 : decode cX8_count 54 = .ok (.getfield 218, 3) := by decide +kernel
theorem dX8_count_57 : decode cX8_count 57 = .ok (.ireturn, 1) := by decide +kernel
theorem dX8_count_58 : decode cX8_count 58 = .ok (.aload_n 0, 1) := by decide +kernel
theorem dX8_count_59 : decode cX8_count 59 = .ok (.getfield 139, 3) := by decide +kernel
theorem dX8_count_62 : decode cX8_count 62 = .ok (.ireturn, 1) := by decide +kernel
theorem dX8_count_63 : decode cX8_count 63 = .ok (.aload_n 0, 1) := by decide +kernel
theorem dX8_count_64 : decode cX8_count 64 = .ok (.getfield 296, 3) := by decide +kernel
theorem dX8_count_67 : decode cX8_count 67 = .ok (.ireturn, 1) := by decide +kernel
theorem dX8_count_68 : decode cX8_count 68 = .ok (.aload_n 0, 1) := by decide +kernel
theorem dX8_count_69 : decode cX8_count 69 = .ok (.getfield 308, 3) := by decide +kernel
theorem dX8_count_72 : decode cX8_count 72 = .ok (.ireturn, 1) := by decide +kernel
theorem dX8_count_73 : decode cX8_count 73 = .ok (.aload_n 0, 1) := by decide +kernel
theorem dX8_count_74 : decode cX8_count 74 = .ok (.getfield 311, 3) := by decide +kernel
theorem dX8_count_77 : decode cX8_count 77 = .ok (.ireturn, 1) := by decide +kernel
theorem dX8_count_78 : decode cX8_count 78 = .ok (.aload_n 0, 1) := by decide +kernel
theorem dX8_count_79 : decode cX8_count 79 = .ok (.getfield 142, 3) := by decide +kernel
theorem dX8_count_82 : decode cX8_count 82 = .ok (.ireturn, 1) := by decide +kernel
theorem dX8_count_83 : decode cX8_count 83 = .ok (.aload_n 0, 1) := by decide +kernel
theorem dX8_count_84 : decode cX8_count 84 = .ok (.getfield 318, 3) := by decide +kernel
theorem dX8_count_87 : decode cX8_count 87 = .ok (.ireturn, 1) := by decide +kernel
theorem dX8_count_88 : decode cX8_count 88 = .ok (.bipush (-2), 2) := by decide +kernel
theorem dX8_count_90 : decode cX8_count 90 = .ok (.ireturn, 1) := by decide +kernel
theorem dX8_isTape_0 : decode cX8_isTape 0 = .ok (.iload_n 0, 1) := by decide +kernel
theorem dX8_isTape_1 : decode cX8_isTape 1 = .ok (.iconst 0, 1) := by decide +kernel
theorem dX8_isTape_2 : decode cX8_isTape 2 = .ok (.iconst 5, 1) := by decide +kernel
theorem dX8_isTape_3 : decode cX8_isTape 3 = .ok (.invokestatic 114, 3) := by decide +kernel
theorem dX8_isTape_6 : decode cX8_isTape 6 = .ok (.ireturn, 1) := by decide +kernel
theorem dX8_tape_0 : decode cX8_tape 0 = .ok (.iload_n 1, 1) := by decide +kernel
theorem dX8_tape_1 : decode cX8_tape 1 = .ok (.invokestatic 335, 3) := by decide +kernel
theorem dX8_tape_4 : decode cX8_tape 4 = .ok (.ifCond .ne 5, 3) := by decide +kernel
theorem dX8_tape_7 : decode cX8_tape 7 = .ok (.iconst (-1), 1) := by decide +kernel
theorem dX8_tape_8 : decode cX8_tape 8 = .ok (.ireturn, 1) := by decide +kernel
theorem dX8_tape_9 : decode cX8_tape 9 = .ok (.iload_n 2, 1) := by decide +kernel
theorem dX8_tape_10 : decode cX8_tape 10 = .ok (.iconst (-1), 1) := by decide +kernel
theorem dX8_tape_11 : decode cX8_tape 11 = .ok (.iconst 4, 1) := by decide +kernel
theorem dX8_tape_12 : decode cX8_tape 12 = .ok (.invokestatic 114, 3) := by decide +kernel
theorem dX8_tape_15 : decode cX8_tape 15 = .ok (.ifCond .eq 13, 3) := by decide +kernel
theorem dX8_tape_18 : decode cX8_tape 18 = .ok (.iload_n 2, 1) := by decide +kernel
theorem dX8_tape_19 : decode cX8_tape 19 = .ok (.ifCond .lt 12, 3) := by decide +kernel
theorem dX8_tape_22 : decode cX8_tape 22 = .ok (.iload_n 3, 1) := by decide +kernel
theorem dX8_tape_23 : decode cX8_tape 23 = .ok (.bipush 60, 2) := by decide +kernel
theorem dX8_tape_25 : decode cX8_tape 25 = .ok (.if_icmp .le 6, 3) := by decide +kernel
theorem dX8_tape_28 : decode cX8_tape 28 = .ok (.bipush (-2), 2) := by decide +kernel
theorem dX8_tape_30 : decode cX8_tape 30 = .ok (.ireturn, 1) := by decide +kernel
theorem dX8_tape_31 : decode cX8_tape 31 = .ok (.iload_n 2, 1) := by decide +kernel
theorem dX8_tape_32 : decode cX8_tape 32 = .ok (.ifCond .lt 10, 3) := by decide +kernel
theorem dX8_tape_35 : decode cX8_tape 35 = .ok (.iload_n 3, 1) := by decide +kernel
theorem dX8_tape_36 : decode cX8_tape 36 = .ok (.ifCond .ge 6, 3) := by decide +kernel
theorem dX8_tape_39 : decode cX8_tape 39 = .ok (.bipush (-14), 2) := by decide +kernel
theorem dX8_tape_41 : decode cX8_tape 41 = .ok (.ireturn, 1) := by decide +kernel
theorem dX8_tape_42 : decode cX8_tape 42 = .ok (.aload_n 0, 1) := by decide +kernel
theorem dX8_tape_43 : decode cX8_tape 43 = .ok (.getfield 88, 3) := by decide +kernel
theorem dX8_tape_46 : decode cX8_tape 46 = .ok (.iload_n 1, 1) := by decide +kernel
theorem dX8_tape_47 : decode cX8_tape 47 = .ok (.iload_n 2, 1) := by decide +kernel
theorem dX8_tape_48 : decode cX8_tape 48 = .ok (.iastore, 1) := by decide +kernel
theorem dX8_tape_49 : decode cX8_tape 49 = .ok (.aload_n 0, 1) := by decide +kernel
theorem dX8_tape_50 : decode cX8_tape 50 = .ok (.getfield 91, 3) := by decide +kernel
theorem dX8_tape_53 : decode cX8_tape 53 = .ok (.iload_n 1, 1) := by decide +kernel
theorem dX8_tape_54 : decode cX8_tape 54 = .ok (.iload_n 2, 1) := by decide +kernel
theorem dX8_tape_55 : decode cX8_tape 55 = .ok (.ifCond .ge 7, 3) := by decide +kernel
theorem dX8_tape_58 : decode cX8_tape 58 = .ok (.iconst 0, 1) := by decide +kernel
theorem dX8_tape_59 : decode cX8_tape 59 = .ok (.goto 4, 3) := by decide +kernel
theorem dX8_tape_62 : decode cX8_tape 62 = .ok (.iload_n 3, 1) := by decide +kernel
theorem dX8_tape_63 : decode cX8_tape 63 = .ok (.iastore, 1) := by decide +kernel
theorem dX8_tape_64 : decode cX8_tape 64 = .ok (.iconst 0, 1) := by decide +kernel
theorem dX8_tape_65 : decode cX8_tape 65 = .ok (.istore 4, 2) := by decide +kernel
theorem dX8_tape_67 : decode cX8_tape 67 = .ok (.iload 4, 2) := by decide +kernel
theorem dX8_tape_69 : decode cX8_tape 69 = .ok (.bipush 60, 2) := by decide +kernel
theorem dX8_tape_71 : decode cX8_tape 71 = .ok (.if_icmp .ge 22, 3) := by decide +kernel
theorem dX8_tape_74 : decode cX8_tape 74 = .ok (.aload_n 0, 1) := by decide +kernel
theorem dX8_tape_75 : decode cX8_tape 75 = .ok (.getfield 94, 3) := by decide +kernel
theorem dX8_tape_78 : decode cX8_tape 78 = .ok (.bipush 60, 2) := by decide +kernel
theorem dX8_tape_80 : decode cX8_tape 80 = .ok (.iload_n 1, 1) := by decide +kernel
theorem dX8_tape_81 : decode cX8_tape 81 = .ok (.imul, 1) := by decide +kernel
theorem dX8_tape_82 : decode cX8_tape 82 = .ok (.iload 4, 2) := by decide +kernel
theorem dX8_tape_84 : decode cX8_tape 84 = .ok (.iadd, 1) := by decide +kernel
theorem dX8_tape_85 : decode cX8_tape 85 = .ok (.lconst 0, 1) := by decide +kernel
theorem dX8_tape_86 : decode cX8_tape 86 = .ok (.lastore, 1) := by decide +kernel
theorem dX8_tape_87 : decode cX8_tape 87 = .ok (.iinc 4 1, 3) := by decide +kernel
theorem dX8_tape_90 : decode cX8_tape 90 = .ok (.goto (-23), 3) := by decide +kernel
theorem dX8_tape_93 : decode cX8_tape 93 = .ok (.iconst 1, 1) := by decide +kernel
theorem dX8_tape_94 : decode cX8_tape 94 = .ok (.ireturn, 1) := by decide +kernel
theorem dX8_kept_0 : decode cX8_kept 0 = .ok (.iload_n 0, 1) := by decide +kernel
theorem dX8_kept_1 : decode cX8_kept 1 = .ok (.tableswitch 47 0 3 #[31, 36, 41, 45], 31) := by decide +kernel
theorem dX8_kept_32 : decode cX8_kept 32 = .ok (.lload_n 1, 1) := by decide +kernel
theorem dX8_kept_33 : decode cX8_kept 33 = .ok (.l2i, 1) := by decide +kernel
theorem dX8_kept_34 : decode cX8_kept 34 = .ok (.i2b, 1) := by decide +kernel
theorem dX8_kept_35 : decode cX8_kept 35 = .ok (.i2l, 1) := by decide +kernel
theorem dX8_kept_36 : decode cX8_kept 36 = .ok (.lreturn, 1) := by decide +kernel
theorem dX8_kept_37 : decode cX8_kept 37 = .ok (.lload_n 1, 1) := by decide +kernel
theorem dX8_kept_38 : decode cX8_kept 38 = .ok (.l2i, 1) := by decide +kernel
theorem dX8_kept_39 : decode cX8_kept 39 = .ok (.i2s, 1) := by decide +kernel
theorem dX8_kept_40 : decode cX8_kept 40 = .ok (.i2l, 1) := by decide +kernel
theorem dX8_kept_41 : decode cX8_kept 41 = .ok (.lreturn, 1) := by decide +kernel
theorem dX8_kept_42 : decode cX8_kept 42 = .ok (.lload_n 1, 1) := by decide +kernel
theorem dX8_kept_43 : decode cX8_kept 43 = .ok (.l2i, 1) := by decide +kernel
theorem dX8_kept_44 : decode cX8_kept 44 = .ok (.i2l, 1) := by decide +kernel
theorem dX8_kept_45 : decode cX8_kept 45 = .ok (.lreturn, 1) := by decide +kernel
theorem dX8_kept_46 : decode cX8_kept 46 = .ok (.lload_n 1, 1) := by decide +kernel
theorem dX8_kept_47 : decode cX8_kept 47 = .ok (.lreturn, 1) := by decide +kernel
theorem dX8_kept_48 : decode cX8_kept 48 = .ok (.lload_n 1, 1) := by decide +kernel
theorem dX8_kept_49 : decode cX8_kept 49 = .ok (.lconst 0, 1) := by decide +kernel
theorem dX8_kept_50 : decode cX8_kept 50 = .ok (.lcmp, 1) := by decide +kernel
theorem dX8_kept_51 : decode cX8_kept 51 = .ok (.ifCond .eq 7, 3) := by decide +kernel
theorem dX8_kept_54 : decode cX8_kept 54 = .ok (.lconst 1, 1) := by decide +kernel
theorem dX8_kept_55 : decode cX8_kept 55 = .ok (.goto 4, 3) := by decide +kernel
theorem dX8_kept_58 : decode cX8_kept 58 = .ok (.lconst 0, 1) := by decide +kernel
theorem dX8_kept_59 : decode cX8_kept 59 = .ok (.lreturn, 1) := by decide +kernel
theorem dX8_item_0 : decode cX8_item 0 = .ok (.iload_n 1, 1) := by decide +kernel
theorem dX8_item_1 : decode cX8_item 1 = .ok (.invokestatic 335, 3) := by decide +kernel
theorem dX8_item_4 : decode cX8_item 4 = .ok (.ifCond .ne 5, 3) := by decide +kernel
theorem dX8_item_7 : decode cX8_item 7 = .ok (.iconst (-1), 1) := by decide +kernel
theorem dX8_item_8 : decode cX8_item 8 = .ok (.ireturn, 1) := by decide +kernel
theorem dX8_item_9 : decode cX8_item 9 = .ok (.aload_n 0, 1) := by decide +kernel
theorem dX8_item_10 : decode cX8_item 10 = .ok (.getfield 88, 3) := by decide +kernel
theorem dX8_item_13 : decode cX8_item 13 = .ok (.iload_n 1, 1) := by decide +kernel
theorem dX8_item_14 : decode cX8_item 14 = .ok (.iaload, 1) := by decide +kernel
theorem dX8_item_15 : decode cX8_item 15 = .ok (.ifCond .ge 6, 3) := by decide +kernel
theorem dX8_item_18 : decode cX8_item 18 = .ok (.bipush (-11), 2) := by decide +kernel
theorem dX8_item_20 : decode cX8_item 20 = .ok (.ireturn, 1) := by decide +kernel
theorem dX8_item_21 : decode cX8_item 21 = .ok (.iload_n 2, 1) := by decide +kernel
theorem dX8_item_22 : decode cX8_item 22 = .ok (.iconst 0, 1) := by decide +kernel
theorem dX8_item_23 : decode cX8_item 23 = .ok (.aload_n 0, 1) := by decide +kernel
theorem dX8_item_24 : decode cX8_item 24 = .ok (.getfield 91, 3) := by decide +kernel
theorem dX8_item_27 : decode cX8_item 27 = .ok (.iload_n 1, 1) := by decide +kernel
theorem dX8_item_28 : decode cX8_item 28 = .ok (.iaload, 1) := by decide +kernel
theorem dX8_item_29 : decode cX8_item 29 = .ok (.iconst 1, 1) := by decide +kernel
theorem dX8_item_30 : decode cX8_item 30 = .ok (.isub, 1) := by decide +kernel
theorem dX8_item_31 : decode cX8_item 31 = .ok (.invokestatic 114, 3) := by decide +kernel
theorem dX8_item_34 : decode cX8_item 34 = .ok (.ifCond .ne 6, 3) := by decide +kernel
theorem dX8_item_37 : decode cX8_item 37 = .ok (.bipush (-13), 2) := by decide +kernel
theorem dX8_item_39 : decode cX8_item 39 = .ok (.ireturn, 1) := by decide +kernel
theorem dX8_item_40 : decode cX8_item 40 = .ok (.aload_n 0, 1) := by decide +kernel
theorem dX8_item_41 : decode cX8_item 41 = .ok (.getfield 94, 3) := by decide +kernel
theorem dX8_item_44 : decode cX8_item 44 = .ok (.bipush 60, 2) := by decide +kernel
theorem dX8_item_46 : decode cX8_item 46 = .ok (.iload_n 1, 1) := by decide +kernel
theorem dX8_item_47 : decode cX8_item 47 = .ok (.imul, 1) := by decide +kernel
theorem dX8_item_48 : decode cX8_item 48 = .ok (.iload_n 2, 1) := by decide +kernel
theorem dX8_item_49 : decode cX8_item 49 = .ok (.iadd, 1) := by decide +kernel
theorem dX8_item_50 : decode cX8_item 50 = .ok (.aload_n 0, 1) := by decide +kernel
theorem dX8_item_51 : decode cX8_item 51 = .ok (.getfield 88, 3) := by decide +kernel
theorem dX8_item_54 : decode cX8_item 54 = .ok (.iload_n 1, 1) := by decide +kernel
theorem dX8_item_55 : decode cX8_item 55 = .ok (.iaload, 1) := by decide +kernel
theorem dX8_item_56 : decode cX8_item 56 = .ok (.lload_n 3, 1) := by decide +kernel
theorem dX8_item_57 : decode cX8_item 57 = .ok (.invokestatic 338, 3) := by decide +kernel
theorem dX8_item_60 : decode cX8_item 60 = .ok (.lastore, 1) := by decide +kernel
theorem dX8_item_61 : decode cX8_item 61 = .ok (.iconst 1, 1) := by decide +kernel
theorem dX8_item_62 : decode cX8_item 62 = .ok (.ireturn, 1) := by decide +kernel
theorem dX8_read_0 : decode cX8_read 0 = .ok (.iload_n 1, 1) := by decide +kernel
theorem dX8_read_1 : decode cX8_read 1 = .ok (.invokestatic 335, 3) := by decide +kernel
theorem dX8_read_4 : decode cX8_read 4 = .ok (.ifCond .eq 42, 3) := by decide +kernel
theorem dX8_read_7 : decode cX8_read 7 = .ok (.aload_n 0, 1) := by decide +kernel
theorem dX8_read_8 : decode cX8_read 8 = .ok (.getfield 88, 3) := by decide +kernel
theorem dX8_read_11 : decode cX8_read 11 = .ok (.iload_n 1, 1) := by decide +kernel
theorem dX8_read_12 : decode cX8_read 12 = .ok (.iaload, 1) := by decide +kernel
theorem dX8_read_13 : decode cX8_read 13 = .ok (.ifCond .lt 33, 3) := by decide +kernel
theorem dX8_read_16 : decode cX8_read 16 = .ok (.iload_n 2, 1) := by decide +kernel
theorem dX8_read_17 : decode cX8_read 17 = .ok (.iconst 0, 1) := by decide +kernel
theorem dX8_read_18 : decode cX8_read 18 = .ok (.aload_n 0, 1) := by decide +kernel
theorem dX8_read_19 : decode cX8_read 19 = .ok (.getfield 91, 3) := by decide +kernel
theorem dX8_read_22 : decode cX8_read 22 = .ok (.iload_n 1, 1) := by decide +kernel
theorem dX8_read_23 : decode cX8_read 23 = .ok (.iaload, 1) := by decide +kernel
theorem dX8_read_24 : decode cX8_read 24 = .ok (.iconst 1, 1) := by decide +kernel
theorem dX8_read_25 : decode cX8_read 25 = .ok (.isub, 1) := by decide +kernel
theorem dX8_read_26 : decode cX8_read 26 = .ok (.invokestatic 114, 3) := by decide +kernel
theorem dX8_read_29 : decode cX8_read 29 = .ok (.ifCond .eq 17, 3) := by decide +kernel
theorem dX8_read_32 : decode cX8_read 32 = .ok (.aload_n 0, 1) := by decide +kernel
theorem dX8_read_33 : decode cX8_read 33 = .ok (.getfield 94, 3) := by decide +kernel
theorem dX8_read_36 : decode cX8_read 36 = .ok (.bipush 60, 2) := by decide +kernel
theorem dX8_read_38 : decode cX8_read 38 = .ok (.iload_n 1, 1) := by decide +kernel
theorem dX8_read_39 : decode cX8_read 39 = .ok (.imul, 1) := by decide +kernel
theorem dX8_read_40 : decode cX8_read 40 = .ok (.iload_n 2, 1) := by decide +kernel
theorem dX8_read_41 : decode cX8_read 41 = .ok (.iadd, 1) := by decide +kernel
theorem dX8_read_42 : decode cX8_read 42 = .ok (.laload, 1) := by decide +kernel
theorem dX8_read_43 : decode cX8_read 43 = .ok (.goto 6, 3) := by decide +kernel
theorem dX8_read_46 : decode cX8_read 46 = .ok (.ldc2_w 302, 3) := by decide +kernel
theorem dX8_read_49 : decode cX8_read 49 = .ok (.lreturn, 1) := by decide +kernel
theorem dX8_shift_0 : decode cX8_shift 0 = .ok (.iload_n 1, 1) := by decide +kernel
theorem dX8_shift_1 : decode cX8_shift 1 = .ok (.invokestatic 335, 3) := by decide +kernel
theorem dX8_shift_4 : decode cX8_shift 4 = .ok (.ifCond .eq 10, 3) := by decide +kernel
theorem dX8_shift_7 : decode cX8_shift 7 = .ok (.iload_n 3, 1) := by decide +kernel
theorem dX8_shift_8 : decode cX8_shift 8 = .ok (.invokestatic 335, 3) := by decide +kernel
theorem dX8_shift_11 : decode cX8_shift 11 = .ok (.ifCond .ne 5, 3) := by decide +kernel
theorem dX8_shift_14 : decode cX8_shift 14 = .ok (.iconst (-1), 1) := by decide +kernel
theorem dX8_shift_15 : decode cX8_shift 15 = .ok (.ireturn, 1) := by decide +kernel
theorem dX8_shift_16 : decode cX8_shift 16 = .ok (.aload_n 0, 1) := by decide +kernel
theorem dX8_shift_17 : decode cX8_shift 17 = .ok (.getfield 88, 3) := by decide +kernel
theorem dX8_shift_20 : decode cX8_shift 20 = .ok (.iload_n 1, 1) := by decide +kernel
theorem dX8_shift_21 : decode cX8_shift 21 = .ok (.iaload, 1) := by decide +kernel
theorem dX8_shift_22 : decode cX8_shift 22 = .ok (.ifCond .lt 12, 3) := by decide +kernel
theorem dX8_shift_25 : decode cX8_shift 25 = .ok (.aload_n 0, 1) := by decide +kernel
theorem dX8_shift_26 : decode cX8_shift 26 = .ok (.getfield 88, 3) := by decide +kernel
theorem dX8_shift_29 : decode cX8_shift 29 = .ok (.iload_n 3, 1) := by decide +kernel
theorem dX8_shift_30 : decode cX8_shift 30 = .ok (.iaload, 1) := by decide +kernel
theorem dX8_shift_31 : decode cX8_shift 31 = .ok (.ifCond .ge 6, 3) := by decide +kernel
theorem dX8_shift_34 : decode cX8_shift 34 = .ok (.bipush (-11), 2) := by decide +kernel
theorem dX8_shift_36 : decode cX8_shift 36 = .ok (.ireturn, 1) := by decide +kernel
theorem dX8_shift_37 : decode cX8_shift 37 = .ok (.aload_n 0, 1) := by decide +kernel
theorem dX8_shift_38 : decode cX8_shift 38 = .ok (.getfield 88, 3) := by decide +kernel
theorem dX8_shift_41 : decode cX8_shift 41 = .ok (.iload_n 1, 1) := by decide +kernel
theorem dX8_shift_42 : decode cX8_shift 42 = .ok (.iaload, 1) := by decide +kernel
theorem dX8_shift_43 : decode cX8_shift 43 = .ok (.aload_n 0, 1) := by decide +kernel
theorem dX8_shift_44 : decode cX8_shift 44 = .ok (.getfield 88, 3) := by decide +kernel
theorem dX8_shift_47 : decode cX8_shift 47 = .ok (.iload_n 3, 1) := by decide +kernel
theorem dX8_shift_48 : decode cX8_shift 48 = .ok (.iaload, 1) := by decide +kernel
theorem dX8_shift_49 : decode cX8_shift 49 = .ok (.if_icmp .eq 6, 3) := by decide +kernel
theorem dX8_shift_52 : decode cX8_shift 52 = .ok (.bipush (-12), 2) := by decide +kernel
theorem dX8_shift_54 : decode cX8_shift 54 = .ok (.ireturn, 1) := by decide +kernel
theorem dX8_shift_55 : decode cX8_shift 55 = .ok (.iload 5, 2) := by decide +kernel
theorem dX8_shift_57 : decode cX8_shift 57 = .ok (.ifCond .lt 47, 3) := by decide +kernel
theorem dX8_shift_60 : decode cX8_shift 60 = .ok (.iload_n 2, 1) := by decide +kernel
theorem dX8_shift_61 : decode cX8_shift 61 = .ok (.ifCond .lt 43, 3) := by decide +kernel
theorem dX8_shift_64 : decode cX8_shift 64 = .ok (.iload 4, 2) := by decide +kernel
theorem dX8_shift_66 : decode cX8_shift 66 = .ok (.ifCond .lt 38, 3) := by decide +kernel
theorem dX8_shift_69 : decode cX8_shift 69 = .ok (.iload_n 2, 1) := by decide +kernel
theorem dX8_shift_70 : decode cX8_shift 70 = .ok (.i2l, 1) := by decide +kernel
theorem dX8_shift_71 : decode cX8_shift 71 = .ok (.iload 5, 2) := by decide +kernel
theorem dX8_shift_73 : decode cX8_shift 73 = .ok (.i2l, 1) := by decide +kernel
theorem dX8_shift_74 : decode cX8_shift 74 = .ok (.ladd, 1) := by decide +kernel
theorem dX8_shift_75 : decode cX8_shift 75 = .ok (.aload_n 0, 1) := by decide +kernel
theorem dX8_shift_76 : decode cX8_shift 76 = .ok (.getfield 91, 3) := by decide +kernel
theorem dX8_shift_79 : decode cX8_shift 79 = .ok (.iload_n 1, 1) := by decide +kernel
theorem dX8_shift_80 : decode cX8_shift 80 = .ok (.iaload, 1) := by decide +kernel
theorem dX8_shift_81 : decode cX8_shift 81 = .ok (.i2l, 1) := by decide +kernel
theorem dX8_shift_82 : decode cX8_shift 82 = .ok (.lcmp, 1) := by decide +kernel
theorem dX8_shift_83 : decode cX8_shift 83 = .ok (.ifCond .gt 21, 3) := by decide +kernel
theorem dX8_shift_86 : decode cX8_shift 86 = .ok (.iload 4, 2) := by decide +kernel
theorem dX8_shift_88 : decode cX8_shift 88 = .ok (.i2l, 1) := by decide +kernel
theorem dX8_shift_89 : decode cX8_shift 89 = .ok (.iload 5, 2) := by decide +kernel
theorem dX8_shift_91 : decode cX8_shift 91 = .ok (.i2l, 1) := by decide +kernel
theorem dX8_shift_92 : decode cX8_shift 92 = .ok (.ladd, 1) := by decide +kernel
theorem dX8_shift_93 : decode cX8_shift 93 = .ok (.aload_n 0, 1) := by decide +kernel
theorem dX8_shift_94 : decode cX8_shift 94 = .ok (.getfield 91, 3) := by decide +kernel
theorem dX8_shift_97 : decode cX8_shift 97 = .ok (.iload_n 3, 1) := by decide +kernel
theorem dX8_shift_98 : decode cX8_shift 98 = .ok (.iaload, 1) := by decide +kernel
theorem dX8_shift_99 : decode cX8_shift 99 = .ok (.i2l, 1) := by decide +kernel
theorem dX8_shift_100 : decode cX8_shift 100 = .ok (.lcmp, 1) := by decide +kernel
theorem dX8_shift_101 : decode cX8_shift 101 = .ok (.ifCond .le 6, 3) := by decide +kernel
theorem dX8_shift_104 : decode cX8_shift 104 = .ok (.bipush (-13), 2) := by decide +kernel
theorem dX8_shift_106 : decode cX8_shift 106 = .ok (.ireturn, 1) := by decide +kernel
theorem dX8_shift_107 : decode cX8_shift 107 = .ok (.iload_n 1, 1) := by decide +kernel
theorem dX8_shift_108 : decode cX8_shift 108 = .ok (.iload_n 3, 1) := by decide +kernel
theorem dX8_shift_109 : decode cX8_shift 109 = .ok (.if_icmp .ne 58, 3) := by decide +kernel
theorem dX8_shift_112 : decode cX8_shift 112 = .ok (.iload_n 2, 1) := by decide +kernel
theorem dX8_shift_113 : decode cX8_shift 113 = .ok (.iload 4, 2) := by decide +kernel
theorem dX8_shift_115 : decode cX8_shift 115 = .ok (.if_icmp .ge 52, 3) := by decide +kernel
theorem dX8_shift_118 : decode cX8_shift 118 = .ok (.iload 5, 2) := by decide +kernel
theorem dX8_shift_120 : decode cX8_shift 120 = .ok (.iconst 1, 1) := by decide +kernel
theorem dX8_shift_121 : decode cX8_shift 121 = .ok (.isub, 1) := by decide +kernel
theorem dX8_shift_122 : decode cX8_shift 122 = .ok (.istore 6, 2) := by decide +kernel
theorem dX8_shift_124 : decode cX8_shift 124 = .ok (.iload 6, 2) := by decide +kernel
theorem dX8_shift_126 : decode cX8_shift 126 = .ok (.ifCond .lt 38, 3) := by decide +kernel
theorem dX8_shift_129 : decode cX8_shift 129 = .ok (.aload_n 0, 1) := by decide +kernel
theorem dX8_shift_130 : decode cX8_shift 130 = .ok (.getfield 94, 3) := by decide +kernel
theorem dX8_shift_133 : decode cX8_shift 133 = .ok (.bipush 60, 2) := by decide +kernel
theorem dX8_shift_135 : decode cX8_shift 135 = .ok (.iload_n 3, 1) := by decide +kernel
theorem dX8_shift_136 : decode cX8_shift 136 = .ok (.imul, 1) := by decide +kernel
theorem dX8_shift_137 : decode cX8_shift 137 = .ok (.iload 4, 2) := by decide +kernel
theorem dX8_shift_139 : decode cX8_shift 139 = .ok (.iadd, 1) := by decide +kernel
theorem dX8_shift_140 : decode cX8_shift 140 = .ok (.iload 6, 2) := by decide +kernel
theorem dX8_shift_142 : decode cX8_shift 142 = .ok (.iadd, 1) := by decide +kernel
theorem dX8_shift_143 : decode cX8_shift 143 = .ok (.aload_n 0, 1) := by decide +kernel
theorem dX8_shift_144 : decode cX8_shift 144 = .ok (.getfield 94, 3) := by decide +kernel
theorem dX8_shift_147 : decode cX8_shift 147 = .ok (.bipush 60, 2) := by decide +kernel
theorem dX8_shift_149 : decode cX8_shift 149 = .ok (.iload_n 1, 1) := by decide +kernel
theorem dX8_shift_150 : decode cX8_shift 150 = .ok (.imul, 1) := by decide +kernel
theorem dX8_shift_151 : decode cX8_shift 151 = .ok (.iload_n 2, 1) := by decide +kernel
theorem dX8_shift_152 : decode cX8_shift 152 = .ok (.iadd, 1) := by decide +kernel
theorem dX8_shift_153 : decode cX8_shift 153 = .ok (.iload 6, 2) := by decide +kernel
theorem dX8_shift_155 : decode cX8_shift 155 = .ok (.iadd, 1) := by decide +kernel
theorem dX8_shift_156 : decode cX8_shift 156 = .ok (.laload, 1) := by decide +kernel
theorem dX8_shift_157 : decode cX8_shift 157 = .ok (.lastore, 1) := by decide +kernel
theorem dX8_shift_158 : decode cX8_shift 158 = .ok (.iinc 6 (-1), 3) := by decide +kernel
theorem dX8_shift_161 : decode cX8_shift 161 = .ok (.goto (-37), 3) := by decide +kernel
theorem dX8_shift_164 : decode cX8_shift 164 = .ok (.goto 48, 3) := by decide +kernel
theorem dX8_shift_167 : decode cX8_shift 167 = .ok (.iconst 0, 1) := by decide +kernel
theorem dX8_shift_168 : decode cX8_shift 168 = .ok (.istore 6, 2) := by decide +kernel
theorem dX8_shift_170 : decode cX8_shift 170 = .ok (.iload 6, 2) := by decide +kernel
theorem dX8_shift_172 : decode cX8_shift 172 = .ok (.iload 5, 2) := by decide +kernel
theorem dX8_shift_174 : decode cX8_shift 174 = .ok (.if_icmp .ge 38, 3) := by decide +kernel
theorem dX8_shift_177 : decode cX8_shift 177 = .ok (.aload_n 0, 1) := by decide +kernel
theorem dX8_shift_178 : decode cX8_shift 178 = .ok (.getfield 94, 3) := by decide +kernel
theorem dX8_shift_181 : decode cX8_shift 181 = .ok (.bipush 60, 2) := by decide +kernel
theorem dX8_shift_183 : decode cX8_shift 183 = .ok (.iload_n 3, 1) := by decide +kernel
theorem dX8_shift_184 : decode cX8_shift 184 = .ok (.imul, 1) := by decide +kernel
theorem dX8_shift_185 : decode cX8_shift 185 = .ok (.iload 4, 2) := by decide +kernel
theorem dX8_shift_187 : decode cX8_shift 187 = .ok (.iadd, 1) := by decide +kernel
theorem dX8_shift_188 : decode cX8_shift 188 = .ok (.iload 6, 2) := by decide +kernel
theorem dX8_shift_190 : decode cX8_shift 190 = .ok (.iadd, 1) := by decide +kernel
theorem dX8_shift_191 : decode cX8_shift 191 = .ok (.aload_n 0, 1) := by decide +kernel
theorem dX8_shift_192 : decode cX8_shift 192 = .ok (.getfield 94, 3) := by decide +kernel
theorem dX8_shift_195 : decode cX8_shift 195 = .ok (.bipush 60, 2) := by decide +kernel
theorem dX8_shift_197 : decode cX8_shift 197 = .ok (.iload_n 1, 1) := by decide +kernel
theorem dX8_shift_198 : decode cX8_shift 198 = .ok (.imul, 1) := by decide +kernel
theorem dX8_shift_199 : decode cX8_shift 199 = .ok (.iload_n 2, 1) := by decide +kernel
theorem dX8_shift_200 : decode cX8_shift 200 = .ok (.iadd, 1) := by decide +kernel
theorem dX8_shift_201 : decode cX8_shift 201 = .ok (.iload 6, 2) := by decide +kernel
theorem dX8_shift_203 : decode cX8_shift 203 = .ok (.iadd, 1) := by decide +kernel
theorem dX8_shift_204 : decode cX8_shift 204 = .ok (.laload, 1) := by decide +kernel
theorem dX8_shift_205 : decode cX8_shift 205 = .ok (.lastore, 1) := by decide +kernel
theorem dX8_shift_206 : decode cX8_shift 206 = .ok (.iinc 6 1, 3) := by decide +kernel
theorem dX8_shift_209 : decode cX8_shift 209 = .ok (.goto (-39), 3) := by decide +kernel
theorem dX8_shift_212 : decode cX8_shift 212 = .ok (.iload 5, 2) := by decide +kernel
theorem dX8_shift_214 : decode cX8_shift 214 = .ok (.ireturn, 1) := by decide +kernel
