theorem dX10_init_0 : decode cX10_init 0 = .ok (.aload_n 0, 1) := by decide +kernel
theorem dX10_init_1 : decode cX10_init 1 = .ok (.invokespecial 1, 3) := by decide +kernel
theorem dX10_init_4 : decode cX10_init 4 = .ok (.aload_n 0, 1) := by decide +kernel
theorem dX10_init_5 : decode cX10_init 5 = .ok (.sipush 1452, 3) := by decide +kernel
theorem dX10_init_8 : decode cX10_init 8 = .ok (.newarray .int, 2) := by decide +kernel
theorem dX10_init_10 : decode cX10_init 10 = .ok (.putfield 9, 3) := by decide +kernel
theorem dX10_init_13 : decode cX10_init 13 = .ok (.aload_n 0, 1) := by decide +kernel
theorem dX10_init_14 : decode cX10_init 14 = .ok (.sipush 1452, 3) := by decide +kernel
theorem dX10_init_17 : decode cX10_init 17 = .ok (.newarray .int, 2) := by decide +kernel
theorem dX10_init_19 : decode cX10_init 19 = .ok (.putfield 13, 3) := by decide +kernel
theorem dX10_init_22 : decode cX10_init 22 = .ok (.aload_n 0, 1) := by decide +kernel
theorem dX10_init_23 : decode cX10_init 23 = .ok (.sipush 1452, 3) := by decide +kernel
theorem dX10_init_26 : decode cX10_init 26 = .ok (.newarray .int, 2) := by decide +kernel
theorem dX10_init_28 : decode cX10_init 28 = .ok (.putfield 16, 3) := by decide +kernel
theorem dX10_init_31 : decode cX10_init 31 = .ok (.aload_n 0, 1) := by decide +kernel
theorem dX10_init_32 : decode cX10_init 32 = .ok (.bipush 80, 2) := by decide +kernel
theorem dX10_init_34 : decode cX10_init 34 = .ok (.newarray .int, 2) := by decide +kernel
theorem dX10_init_36 : decode cX10_init 36 = .ok (.putfield 19, 3) := by decide +kernel
theorem dX10_init_39 : decode cX10_init 39 = .ok (.aload_n 0, 1) := by decide +kernel
theorem dX10_init_40 : decode cX10_init 40 = .ok (.bipush 6, 2) := by decide +kernel
theorem dX10_init_42 : decode cX10_init 42 = .ok (.newarray .long, 2) := by decide +kernel
theorem dX10_init_44 : decode cX10_init 44 = .ok (.putfield 22, 3) := by decide +kernel
theorem dX10_init_47 : decode cX10_init 47 = .ok (.aload_n 0, 1) := by decide +kernel
theorem dX10_init_48 : decode cX10_init 48 = .ok (.bipush 96, 2) := by decide +kernel
theorem dX10_init_50 : decode cX10_init 50 = .ok (.newarray .int, 2) := by decide +kernel
theorem dX10_init_52 : decode cX10_init 52 = .ok (.putfield 26, 3) := by decide +kernel
theorem dX10_init_55 : decode cX10_init 55 = .ok (.aload_n 0, 1) := by decide +kernel
theorem dX10_init_56 : decode cX10_init 56 = .ok (.bipush 11, 2) := by decide +kernel
theorem dX10_init_58 : decode cX10_init 58 = .ok (.newarray .char, 2) := by decide +kernel
theorem dX10_init_60 : decode cX10_init 60 = .ok (.dup, 1) := by decide +kernel
theorem dX10_init_61 : decode cX10_init 61 = .ok (.iconst 0, 1) := by decide +kernel
theorem dX10_init_62 : decode cX10_init 62 = .ok (.bipush 99, 2) := by decide +kernel
theorem dX10_init_64 : decode cX10_init 64 = .ok (.castore, 1) := by decide +kernel
theorem dX10_init_65 : decode cX10_init 65 = .ok (.dup, 1) := by decide +kernel
theorem dX10_init_66 : decode cX10_init 66 = .ok (.iconst 1, 1) := by decide +kernel
theorem dX10_init_67 : decode cX10_init 67 = .ok (.bipush 111, 2) := by decide +kernel
theorem dX10_init_69 : decode cX10_init 69 = .ok (.castore, 1) := by decide +kernel
theorem dX10_init_70 : decode cX10_init 70 = .ok (.dup, 1) := by decide +kernel
theorem dX10_init_71 : decode cX10_init 71 = .ok (.iconst 2, 1) := by decide +kernel
theorem dX10_init_72 : decode cX10_init 72 = .ok (.bipush 115, 2) := by decide +kernel
theorem dX10_init_74 : decode cX10_init 74 = .ok (.castore, 1) := by decide +kernel
theorem dX10_init_75 : decode cX10_init 75 = .ok (.dup, 1) := by decide +kernel
theorem dX10_init_76 : decode cX10_init 76 = .ok (.iconst 3, 1) := by decide +kernel
theorem dX10_init_77 : decode cX10_init 77 = .ok (.bipush 116, 2) := by decide +kernel
theorem dX10_init_79 : decode cX10_init 79 = .ok (.castore, 1) := by decide +kernel
theorem dX10_init_80 : decode cX10_init 80 = .ok (.dup, 1) := by decide +kernel
theorem dX10_init_81 : decode cX10_init 81 = .ok (.iconst 4, 1) := by decide +kernel
theorem dX10_init_82 : decode cX10_init 82 = .ok (.bipush 102, 2) := by decide +kernel
theorem dX10_init_84 : decode cX10_init 84 = .ok (.castore, 1) := by decide +kernel
theorem dX10_init_85 : decode cX10_init 85 = .ok (.dup, 1) := by decide +kernel
theorem dX10_init_86 : decode cX10_init 86 = .ok (.iconst 5, 1) := by decide +kernel
theorem dX10_init_87 : decode cX10_init 87 = .ok (.bipush 101, 2) := by decide +kernel
theorem dX10_init_89 : decode cX10_init 89 = .ok (.castore, 1) := by decide +kernel
theorem dX10_init_90 : decode cX10_init 90 = .ok (.dup, 1) := by decide +kernel
theorem dX10_init_91 : decode cX10_init 91 = .ok (.bipush 6, 2) := by decide +kernel
theorem dX10_init_93 : decode cX10_init 93 = .ok (.bipush 101, 2) := by decide +kernel
theorem dX10_init_95 : decode cX10_init 95 = .ok (.castore, 1) := by decide +kernel
theorem dX10_init_96 : decode cX10_init 96 = .ok (.dup, 1) := by decide +kernel
theorem dX10_init_97 : decode cX10_init 97 = .ok (.bipush 7, 2) := by decide +kernel
theorem dX10_init_99 : decode cX10_init 99 = .ok (.bipush 102, 2) := by decide +kernel
theorem dX10_init_101 : decode cX10_init 101 = .ok (.castore, 1) := by decide +kernel
theorem dX10_init_102 : decode cX10_init 102 = .ok (.dup, 1) := by decide +kernel
theorem dX10_init_103 : decode cX10_init 103 = .ok (.bipush 8, 2) := by decide +kernel
theorem dX10_init_105 : decode cX10_init 105 = .ok (.bipush 105, 2) := by decide +kernel
theorem dX10_init_107 : decode cX10_init 107 = .ok (.castore, 1) := by decide +kernel
theorem dX10_init_108 : decode cX10_init 108 = .ok (.dup, 1) := by decide +kernel
theorem dX10_init_109 : decode cX10_init 109 = .ok (.bipush 9, 2) := by decide +kernel
theorem dX10_init_111 : decode cX10_init 111 = .ok (.bipush 110, 2) := by decide +kernel
theorem dX10_init_113 : decode cX10_init 113 = .ok (.castore, 1) := by decide +kernel
theorem dX10_init_114 : decode cX10_init 114 = .ok (.dup, 1) := by decide +kernel
theorem dX10_init_115 : decode cX10_init 115 = .ok (.bipush 10, 2) := by decide +kernel
theorem dX10_init_117 : decode cX10_init 117 = .ok (.bipush 101, 2) := by decide +kernel
theorem dX10_init_119 : decode cX10_init 119 = .ok (.castore, 1) := by decide +kernel
theorem dX10_init_120 : decode cX10_init 120 = .ok (.putfield 29, 3) := by decide +kernel
theorem dX10_init_123 : decode cX10_init 123 = .ok (.aload_n 0, 1) := by decide +kernel
theorem dX10_init_124 : decode cX10_init 124 = .ok (.iconst 4, 1) := by decide +kernel
theorem dX10_init_125 : decode cX10_init 125 = .ok (.newarray .int, 2) := by decide +kernel
theorem dX10_init_127 : decode cX10_init 127 = .ok (.dup, 1) := by decide +kernel
theorem dX10_init_128 : decode cX10_init 128 = .ok (.iconst 0, 1) := by decide +kernel
theorem dX10_init_129 : decode cX10_init 129 = .ok (.iconst 0, 1) := by decide +kernel
theorem dX10_init_130 : decode cX10_init 130 = .ok (.iastore, 1) := by decide +kernel
theorem dX10_init_131 : decode cX10_init 131 = .ok (.dup, 1) := by decide +kernel
theorem dX10_init_132 : decode cX10_init 132 = .ok (.iconst 1, 1) := by decide +kernel
theorem dX10_init_133 : decode cX10_init 133 = .ok (.iconst 4, 1) := by decide +kernel
theorem dX10_init_134 : decode cX10_init 134 = .ok (.iastore, 1) := by decide +kernel
theorem dX10_init_135 : decode cX10_init 135 = .ok (.dup, 1) := by decide +kernel
theorem dX10_init_136 : decode cX10_init 136 = .ok (.iconst 2, 1) := by decide +kernel
theorem dX10_init_137 : decode cX10_init 137 = .ok (.bipush 7, 2) := by decide +kernel
theorem dX10_init_139 : decode cX10_init 139 = .ok (.iastore, 1) := by decide +kernel
theorem dX10_init_140 : decode cX10_init 140 = .ok (.dup, 1) := by decide +kernel
theorem dX10_init_141 : decode cX10_init 141 = .ok (.iconst 3, 1) := by decide +kernel
theorem dX10_init_142 : decode cX10_init 142 = .ok (.bipush 11, 2) := by decide +kernel
theorem dX10_init_144 : decode cX10_init 144 = .ok (.iastore, 1) := by decide +kernel
theorem dX10_init_145 : decode cX10_init 145 = .ok (.putfield 33, 3) := by decide +kernel
theorem dX10_init_148 : decode cX10_init 148 = .ok (.aload_n 0, 1) := by decide +kernel
theorem dX10_init_149 : decode cX10_init 149 = .ok (.bipush 96, 2) := by decide +kernel
theorem dX10_init_151 : decode cX10_init 151 = .ok (.newarray .int, 2) := by decide +kernel
theorem dX10_init_153 : decode cX10_init 153 = .ok (.putfield 36, 3) := by decide +kernel
theorem dX10_init_156 : decode cX10_init 156 = .ok (.aload_n 0, 1) := by decide +kernel
theorem dX10_init_157 : decode cX10_init 157 = .ok (.bipush 96, 2) := by decide +kernel
theorem dX10_init_159 : decode cX10_init 159 = .ok (.newarray .int, 2) := by decide +kernel
theorem dX10_init_161 : decode cX10_init 161 = .ok (.putfield 39, 3) := by decide +kernel
theorem dX10_init_164 : decode cX10_init 164 = .ok (.aload_n 0, 1) := by decide +kernel
theorem dX10_init_165 : decode cX10_init 165 = .ok (.bipush 10, 2) := by decide +kernel
theorem dX10_init_167 : decode cX10_init 167 = .ok (.newarray .boolean, 2) := by decide +kernel
theorem dX10_init_169 : decode cX10_init 169 = .ok (.putfield 42, 3) := by decide +kernel
theorem dX10_init_172 : decode cX10_init 172 = .ok (.aload_n 0, 1) := by decide +kernel
theorem dX10_init_173 : decode cX10_init 173 = .ok (.bipush 96, 2) := by decide +kernel
theorem dX10_init_175 : decode cX10_init 175 = .ok (.newarray .int, 2) := by decide +kernel
theorem dX10_init_177 : decode cX10_init 177 = .ok (.putfield 46, 3) := by decide +kernel
theorem dX10_init_180 : decode cX10_init 180 = .ok (.aload_n 0, 1) := by decide +kernel
theorem dX10_init_181 : decode cX10_init 181 = .ok (.iconst 4, 1) := by decide +kernel
theorem dX10_init_182 : decode cX10_init 182 = .ok (.newarray .int, 2) := by decide +kernel
theorem dX10_init_184 : decode cX10_init 184 = .ok (.putfield 49, 3) := by decide +kernel
theorem dX10_init_187 : decode cX10_init 187 = .ok (.aload_n 0, 1) := by decide +kernel
theorem dX10_init_188 : decode cX10_init 188 = .ok (.iconst 4, 1) := by decide +kernel
theorem dX10_init_189 : decode cX10_init 189 = .ok (.newarray .int, 2) := by decide +kernel
theorem dX10_init_191 : decode cX10_init 191 = .ok (.dup, 1) := by decide +kernel
theorem dX10_init_192 : decode cX10_init 192 = .ok (.iconst 0, 1) := by decide +kernel
theorem dX10_init_193 : decode cX10_init 193 = .ok (.iconst (-1), 1) := by decide +kernel
theorem dX10_init_194 : decode cX10_init 194 = .ok (.iastore, 1) := by decide +kernel
theorem dX10_init_195 : decode cX10_init 195 = .ok (.dup, 1) := by decide +kernel
theorem dX10_init_196 : decode cX10_init 196 = .ok (.iconst 1, 1) := by decide +kernel
theorem dX10_init_197 : decode cX10_init 197 = .ok (.iconst (-1), 1) := by decide +kernel
theorem dX10_init_198 : decode cX10_init 198 = .ok (.iastore, 1) := by decide +kernel
theorem dX10_init_199 : decode cX10_init 199 = .ok (.dup, 1) := by decide +kernel
theorem dX10_init_200 : decode cX10_init 200 = .ok (.iconst 2, 1) := by decide +kernel
theorem dX10_init_201 : decode cX10_init 201 = .ok (.iconst (-1), 1) := by decide +kernel
theorem dX10_init_202 : decode cX10_init 202 = .ok (.iastore, 1) := by decide +kernel
theorem dX10_init_203 : decode cX10_init 203 = .ok (.dup, 1) := by decide +kernel
theorem dX10_init_204 : decode cX10_init 204 = .ok (.iconst 3, 1) := by decide +kernel
theorem dX10_init_205 : decode cX10_init 205 = .ok (.iconst (-1), 1) := by decide +kernel
theorem dX10_init_206 : decode cX10_init 206 = .ok (.iastore, 1) := by decide +kernel
theorem dX10_init_207 : decode cX10_init 207 = .ok (.putfield 52, 3) := by decide +kernel
theorem dX10_init_210 : decode cX10_init 210 = .ok (.aload_n 0, 1) := by decide +kernel
theorem dX10_init_211 : decode cX10_init 211 = .ok (.iconst 4, 1) := by decide +kernel
theorem dX10_init_212 : decode cX10_init 212 = .ok (.newarray .int, 2) := by decide +kernel
theorem dX10_init_214 : decode cX10_init 214 = .ok (.putfield 55, 3) := by decide +kernel
theorem dX10_init_217 : decode cX10_init 217 = .ok (.aload_n 0, 1) := by decide +kernel
theorem dX10_init_218 : decode cX10_init 218 = .ok (.bipush 96, 2) := by decide +kernel
theorem dX10_init_220 : decode cX10_init 220 = .ok (.newarray .int, 2) := by decide +kernel
theorem dX10_init_222 : decode cX10_init 222 = .ok (.putfield 58, 3) := by decide +kernel
theorem dX10_init_225 : decode cX10_init 225 = .ok (.aload_n 0, 1) := by decide +kernel
theorem dX10_init_226 : decode cX10_init 226 = .ok (.iconst 5, 1) := by decide +kernel
theorem dX10_init_227 : decode cX10_init 227 = .ok (.newarray .int, 2) := by decide +kernel
theorem dX10_init_229 : decode cX10_init 229 = .ok (.putfield 61, 3) := by decide +kernel
theorem dX10_init_232 : decode cX10_init 232 = .ok (.aload_n 0, 1) := by decide +kernel
theorem dX10_init_233 : decode cX10_init 233 = .ok (.iconst 5, 1) := by decide +kernel
theorem dX10_init_234 : decode cX10_init 234 = .ok (.newarray .int, 2) := by decide +kernel
theorem dX10_init_236 : decode cX10_init 236 = .ok (.putfield 64, 3) := by decide +kernel
theorem dX10_init_239 : decode cX10_init 239 = .ok (.aload_n 0, 1) := by decide +kernel
theorem dX10_init_240 : decode cX10_init 240 = .ok (.iconst 5, 1) := by decide +kernel
theorem dX10_init_241 : decode cX10_init 241 = .ok (.newarray .int, 2) := by decide +kernel
theorem dX10_init_243 : decode cX10_init 243 = .ok (.putfield 67, 3) := by decide +kernel
theorem dX10_init_246 : decode cX10_init 246 = .ok (.aload_n 0, 1) := by decide +kernel
theorem dX10_init_247 : decode cX10_init 247 = .ok (.bipush 120, 2) := by decide +kernel
theorem dX10_init_249 : decode cX10_init 249 = .ok (.newarray .int, 2) := by decide +kernel
theorem dX10_init_251 : decode cX10_init 251 = .ok (.putfield 70, 3) := by decide +kernel
theorem dX10_init_254 : decode cX10_init 254 = .ok (.aload_n 0, 1) := by decide +kernel
theorem dX10_init_255 : decode cX10_init 255 = .ok (.bipush 24, 2) := by decide +kernel
theorem dX10_init_257 : decode cX10_init 257 = .ok (.newarray .int, 2) := by decide +kernel
theorem dX10_init_259 : decode cX10_init 259 = .ok (.putfield 73, 3) := by decide +kernel
theorem dX10_init_262 : decode cX10_init 262 = .ok (.aload_n 0, 1) := by decide +kernel
theorem dX10_init_263 : decode cX10_init 263 = .ok (.bipush 60, 2) := by decide +kernel
theorem dX10_init_265 : decode cX10_init 265 = .ok (.newarray .int, 2) := by decide +kernel
theorem dX10_init_267 : decode cX10_init 267 = .ok (.putfield 76, 3) := by decide +kernel
theorem dX10_init_270 : decode cX10_init 270 = .ok (.aload_n 0, 1) := by decide +kernel
theorem dX10_init_271 : decode cX10_init 271 = .ok (.getfield 9, 3) := by decide +kernel
theorem dX10_init_274 : decode cX10_init 274 = .ok (.iconst 0, 1) := by decide +kernel
theorem dX10_init_275 : decode cX10_init 275 = .ok (.iconst 1, 1) := by decide +kernel
theorem dX10_init_276 : decode cX10_init 276 = .ok (.iastore, 1) := by decide +kernel
theorem dX10_init_277 : decode cX10_init 277 = .ok (.aload_n 0, 1) := by decide +kernel
theorem dX10_init_278 : decode cX10_init 278 = .ok (.getfield 9, 3) := by decide +kernel
theorem dX10_init_281 : decode cX10_init 281 = .ok (.iconst 3, 1) := by decide +kernel
theorem dX10_init_282 : decode cX10_init 282 = .ok (.bipush 60, 2) := by decide +kernel
theorem dX10_init_284 : decode cX10_init 284 = .ok (.iastore, 1) := by decide +kernel
theorem dX10_init_285 : decode cX10_init 285 = .ok (.aload_n 0, 1) := by decide +kernel
theorem dX10_init_286 : decode cX10_init 286 = .ok (.getfield 9, 3) := by decide +kernel
theorem dX10_init_289 : decode cX10_init 289 = .ok (.iconst 4, 1) := by decide +kernel
theorem dX10_init_290 : decode cX10_init 290 = .ok (.bipush 40, 2) := by decide +kernel
theorem dX10_init_292 : decode cX10_init 292 = .ok (.iastore, 1) := by decide +kernel
theorem dX10_init_293 : decode cX10_init 293 = .ok (.return_, 1) := by decide +kernel
abbrev x_X10_init (E : mh_E) (d mc ms : Nat) (Post : Option Value → mh_H → Prop) : mh_X := (E, yX10_init, cX10_init, 1, none, d, mc, ms, Post)
def q_X10_init_0 (X : mh_X) : mh_PR := s_al 0 (s_oi X (s_al 0 (s_push (.int (1452)) (s_newa X 0 (s_pr 10 0 (s_al 0 (s_push (.int (1452)) (s_newa X 0 (s_pr 10 1 (s_al 0 (s_push (.int (1452)) (s_newa X 0 (s_pr 10 2 (s_al 0 (s_push (.int (80)) (s_newa X 0 (s_pr 10 4 (s_al 0 (s_push (.int (6)) (s_newl X (s_pr 10 5 (s_al 0 (s_push (.int (96)) (s_newa X 0 (s_pr 10 6 (s_al 0 (s_push (.int (11)) (s_newa X 1 (s_dup (s_push (.int (0)) (s_push (.int (99)) (s_ast 1 (vp_nar .char) (s_dup (s_push (.int (1)) (s_push (.int (111)) (s_ast 1 (vp_nar .char) (s_dup (s_push (.int (2)) (s_push (.int (115)) (s_ast 1 (vp_nar .char) (s_dup (s_push (.int (3)) (s_push (.int (116)) (s_ast 1 (vp_nar .char) (s_dup (s_push (.int (4)) (s_push (.int (102)) (s_ast 1 (vp_nar .char) (s_dup (s_push (.int (5)) (s_push (.int (101)) (s_ast 1 (vp_nar .char) (s_dup (s_push (.int (6)) (s_push (.int (101)) (s_ast 1 (vp_nar .char) (s_dup (s_push (.int (7)) (s_push (.int (102)) (s_ast 1 (vp_nar .char) (s_dup (s_push (.int (8)) (s_push (.int (105)) (s_ast 1 (vp_nar .char) (s_dup (s_push (.int (9)) (s_push (.int (110)) (s_ast 1 (vp_nar .char) (s_dup (s_push (.int (10)) (s_push (.int (101)) (s_ast 1 (vp_nar .char) (s_pr 10 14 (s_al 0 (s_push (.int (4)) (s_newa X 0 (s_dup (s_push (.int (0)) (s_push (.int (0)) (s_ast 0 (fun x => x) (s_dup (s_push (.int (1)) (s_push (.int (4)) (s_ast 0 (fun x => x) (s_dup (s_push (.int (2)) (s_push (.int (7)) (s_ast 0 (fun x => x) (s_dup (s_push (.int (3)) (s_push (.int (11)) (s_ast 0 (fun x => x) (s_pr 10 15 (s_al 0 (s_push (.int (96)) (s_newa X 0 (s_pr 10 16 (s_al 0 (s_push (.int (96)) (s_newa X 0 (s_pr 10 19 (s_al 0 (s_push (.int (10)) (s_newa X 2 (s_pr 10 21 (s_al 0 (s_push (.int (96)) (s_newa X 0 (s_pr 10 22 (s_al 0 (s_push (.int (4)) (s_newa X 0 (s_pr 10 23 (s_al 0 (s_push (.int (4)) (s_newa X 0 (s_dup (s_push (.int (0)) (s_push (.int (-1)) (s_ast 0 (fun x => x) (s_dup (s_push (.int (1)) (s_push (.int (-1)) (s_ast 0 (fun x => x) (s_dup (s_push (.int (2)) (s_push (.int (-1)) (s_ast 0 (fun x => x) (s_dup (s_push (.int (3)) (s_push (.int (-1)) (s_ast 0 (fun x => x) (s_pr 10 24 (s_al 0 (s_push (.int (4)) (s_newa X 0 (s_pr 10 25 (s_al 0 (s_push (.int (96)) (s_newa X 0 (s_pr 10 26 (s_al 0 (s_push (.int (5)) (s_newa X 0 (s_pr 10 27 (s_al 0 (s_push (.int (5)) (s_newa X 0 (s_pr 10 28 (s_al 0 (s_push (.int (5)) (s_newa X 0 (s_pr 10 29 (s_al 0 (s_push (.int (120)) (s_newa X 0 (s_pr 10 30 (s_al 0 (s_push (.int (24)) (s_newa X 0 (s_pr 10 31 (s_al 0 (s_push (.int (60)) (s_newa X 0 (s_pr 10 32 (s_al 0 (s_gr 10 0 (s_push (.int (0)) (s_push (.int (1)) (s_ast 0 (fun x => x) (s_al 0 (s_gr 10 0 (s_push (.int (3)) (s_push (.int (60)) (s_ast 0 (fun x => x) (s_al 0 (s_gr 10 0 (s_push (.int (4)) (s_push (.int (40)) (s_ast 0 (fun x => x) (s_vret X)))))))))))))))))))))))))))))))))))))))))))))))))))))))))))))))))))))))))))))))))))))))))))))))))))))))))))))))))))))))))))))))))))))))))))))))))))))))))))))))))))))))))))))))))))))
theorem b_X10_init_0 {E : mh_E} {d mc ms : Nat} {Post : Option Value → mh_H → Prop} : mh_S (x_X10_init E d mc ms Post) 0 (q_X10_init_0 (x_X10_init E d mc ms Post)) := sn_aload_n dX10_init_0 rfl (sn_oi w_1099 w_82 w_oi dX10_init_1 (sn_aload_n dX10_init_4 rfl (sn_sipush dX10_init_5 (by decide) (sn_newint w_109 dX10_init_8 (sn_putrF clX10 (by decide) w_1100 rfl rfl rfl (Or.inr ⟨_, rfl⟩) dX10_init_10 (sn_aload_n dX10_init_13 rfl (sn_sipush dX10_init_14 (by decide) (sn_newint w_109 dX10_init_17 (sn_putrF clX10 (by decide) w_1101 rfl rfl rfl (Or.inr ⟨_, rfl⟩) dX10_init_19 (sn_aload_n dX10_init_22 rfl (sn_sipush dX10_init_23 (by decide) (sn_newint w_109 dX10_init_26 (sn_putrF clX10 (by decide) w_1102 rfl rfl rfl (Or.inr ⟨_, rfl⟩) dX10_init_28 (sn_aload_n dX10_init_31 rfl (sn_bipush dX10_init_32 (by decide) (sn_newint w_109 dX10_init_34 (sn_putrF clX10 (by decide) w_1104 rfl rfl rfl (Or.inr ⟨_, rfl⟩) dX10_init_36 (sn_aload_n dX10_init_39 rfl (sn_bipush dX10_init_40 (by decide) (sn_newlong w_1203 dX10_init_42 (sn_putrF clX10 (by decide) w_1105 rfl rfl rfl (Or.inr ⟨_, rfl⟩) dX10_init_44 (sn_aload_n dX10_init_47 rfl (sn_bipush dX10_init_48 (by decide) (sn_newint w_109 dX10_init_50 (sn_putrF clX10 (by decide) w_1106 rfl rfl rfl (Or.inr ⟨_, rfl⟩) dX10_init_52 (sn_aload_n dX10_init_55 rfl (sn_bipush dX10_init_56 (by decide) (sn_newchar w_1204 dX10_init_58 (sn_dup dX10_init_60 (sn_iconst dX10_init_61 (by decide) (sn_bipush dX10_init_62 (by decide) (sn_castore dX10_init_64 (sn_dup dX10_init_65 (sn_iconst dX10_init_66 (by decide) (sn_bipush dX10_init_67 (by decide) (sn_castore dX10_init_69 (sn_dup dX10_init_70 (sn_iconst dX10_init_71 (by decide) (sn_bipush dX10_init_72 (by decide) (sn_castore dX10_init_74 (sn_dup dX10_init_75 (sn_iconst dX10_init_76 (by decide) (sn_bipush dX10_init_77 (by decide) (sn_castore dX10_init_79 (sn_dup dX10_init_80 (sn_iconst dX10_init_81 (by decide) (sn_bipush dX10_init_82 (by decide) (sn_castore dX10_init_84 (sn_dup dX10_init_85 (sn_iconst dX10_init_86 (by decide) (sn_bipush dX10_init_87 (by decide) (sn_castore dX10_init_89 (sn_dup dX10_init_90 (sn_bipush dX10_init_91 (by decide) (sn_bipush dX10_init_93 (by decide) (sn_castore dX10_init_95 (sn_dup dX10_init_96 (sn_bipush dX10_init_97 (by decide) (sn_bipush dX10_init_99 (by decide) (sn_castore dX10_init_101 (sn_dup dX10_init_102 (sn_bipush dX10_init_103 (by decide) (sn_bipush dX10_init_105 (by decide) (sn_castore dX10_init_107 (sn_dup dX10_init_108 (sn_bipush dX10_init_109 (by decide) (sn_bipush dX10_init_111 (by decide) (sn_castore dX10_init_113 (sn_dup dX10_init_114 (sn_bipush dX10_init_115 (by decide) (sn_bipush dX10_init_117 (by decide) (sn_castore dX10_init_119 (sn_putrF clX10 (by decide) w_1114 rfl rfl rfl (Or.inr ⟨_, rfl⟩) dX10_init_120 (sn_aload_n dX10_init_123 rfl (sn_iconst dX10_init_124 (by decide) (sn_newint w_109 dX10_init_125 (sn_dup dX10_init_127 (sn_iconst dX10_init_128 (by decide) (sn_iconst dX10_init_129 (by decide) (sn_iastore dX10_init_130 (sn_dup dX10_init_131 (sn_iconst dX10_init_132 (by decide) (sn_iconst dX10_init_133 (by decide) (sn_iastore dX10_init_134 (sn_dup dX10_init_135 (sn_iconst dX10_init_136 (by decide) (sn_bipush dX10_init_137 (by decide) (sn_iastore dX10_init_139 (sn_dup dX10_init_140 (sn_iconst dX10_init_141 (by decide) (sn_bipush dX10_init_142 (by decide) (sn_iastore dX10_init_144 (sn_putrF clX10 (by decide) w_1115 rfl rfl rfl (Or.inr ⟨_, rfl⟩) dX10_init_145 (sn_aload_n dX10_init_148 rfl (sn_bipush dX10_init_149 (by decide) (sn_newint w_109 dX10_init_151 (sn_putrF clX10 (by decide) w_1116 rfl rfl rfl (Or.inr ⟨_, rfl⟩) dX10_init_153 (sn_aload_n dX10_init_156 rfl (sn_bipush dX10_init_157 (by decide) (sn_newint w_109 dX10_init_159 (sn_putrF clX10 (by decide) w_1119 rfl rfl rfl (Or.inr ⟨_, rfl⟩) dX10_init_161 (sn_aload_n dX10_init_164 rfl (sn_bipush dX10_init_165 (by decide) (sn_newbool w_1205 dX10_init_167 (sn_putrF clX10 (by decide) w_1121 rfl rfl rfl (Or.inr ⟨_, rfl⟩) dX10_init_169 (sn_aload_n dX10_init_172 rfl (sn_bipush dX10_init_173 (by decide) (sn_newint w_109 dX10_init_175 (sn_putrF clX10 (by decide) w_1122 rfl rfl rfl (Or.inr ⟨_, rfl⟩) dX10_init_177 (sn_aload_n dX10_init_180 rfl (sn_iconst dX10_init_181 (by decide) (sn_newint w_109 dX10_init_182 (sn_putrF clX10 (by decide) w_1123 rfl rfl rfl (Or.inr ⟨_, rfl⟩) dX10_init_184 (sn_aload_n dX10_init_187 rfl (sn_iconst dX10_init_188 (by decide) (sn_newint w_109 dX10_init_189 (sn_dup dX10_init_191 (sn_iconst dX10_init_192 (by decide) (sn_iconst dX10_init_193 (by decide) (sn_iastore dX10_init_194 (sn_dup dX10_init_195 (sn_iconst dX10_init_196 (by decide) (sn_iconst dX10_init_197 (by decide) (sn_iastore dX10_init_198 (sn_dup dX10_init_199 (sn_iconst dX10_init_200 (by decide) (sn_iconst dX10_init_201 (by decide) (sn_iastore dX10_init_202 (sn_dup dX10_init_203 (sn_iconst dX10_init_204 (by decide) (sn_iconst dX10_init_205 (by decide) (sn_iastore dX10_init_206 (sn_putrF clX10 (by decide) w_1124 rfl rfl rfl (Or.inr ⟨_, rfl⟩) dX10_init_207 (sn_aload_n dX10_init_210 rfl (sn_iconst dX10_init_211 (by decide) (sn_newint w_109 dX10_init_212 (sn_putrF clX10 (by decide) w_1125 rfl rfl rfl (Or.inr ⟨_, rfl⟩) dX10_init_214 (sn_aload_n dX10_init_217 rfl (sn_bipush dX10_init_218 (by decide) (sn_newint w_109 dX10_init_220 (sn_putrF clX10 (by decide) w_1126 rfl rfl rfl (Or.inr ⟨_, rfl⟩) dX10_init_222 (sn_aload_n dX10_init_225 rfl (sn_iconst dX10_init_226 (by decide) (sn_newint w_109 dX10_init_227 (sn_putrF clX10 (by decide) w_1127 rfl rfl rfl (Or.inr ⟨_, rfl⟩) dX10_init_229 (sn_aload_n dX10_init_232 rfl (sn_iconst dX10_init_233 (by decide) (sn_newint w_109 dX10_init_234 (sn_putrF clX10 (by decide) w_1128 rfl rfl rfl (Or.inr ⟨_, rfl⟩) dX10_init_236 (sn_aload_n dX10_init_239 rfl (sn_iconst dX10_init_240 (by decide) (sn_newint w_109 dX10_init_241 (sn_putrF clX10 (by decide) w_1129 rfl rfl rfl (Or.inr ⟨_, rfl⟩) dX10_init_243 (sn_aload_n dX10_init_246 rfl (sn_bipush dX10_init_247 (by decide) (sn_newint w_109 dX10_init_249 (sn_putrF clX10 (by decide) w_1130 rfl rfl rfl (Or.inr ⟨_, rfl⟩) dX10_init_251 (sn_aload_n dX10_init_254 rfl (sn_bipush dX10_init_255 (by decide) (sn_newint w_109 dX10_init_257 (sn_putrF clX10 (by decide) w_1131 rfl rfl rfl (Or.inr ⟨_, rfl⟩) dX10_init_259 (sn_aload_n dX10_init_262 rfl (sn_bipush dX10_init_263 (by decide) (sn_newint w_109 dX10_init_265 (sn_putrF clX10 (by decide) w_1132 rfl rfl rfl (Or.inr ⟨_, rfl⟩) dX10_init_267 (sn_aload_n dX10_init_270 rfl (sn_getr clX10 (by decide) w_1100 dX10_init_271 (sn_iconst dX10_init_274 (by decide) (sn_iconst dX10_init_275 (by decide) (sn_iastore dX10_init_276 (sn_aload_n dX10_init_277 rfl (sn_getr clX10 (by decide) w_1100 dX10_init_278 (sn_iconst dX10_init_281 (by decide) (sn_bipush dX10_init_282 (by decide) (sn_iastore dX10_init_284 (sn_aload_n dX10_init_285 rfl (sn_getr clX10 (by decide) w_1100 dX10_init_286 (sn_iconst dX10_init_289 (by decide) (sn_bipush dX10_init_290 (by decide) (sn_iastore dX10_init_292 (sn_vret rfl dX10_init_293)))))))))))))))))))))))))))))))))))))))))))))))))))))))))))))))))))))))))))))))))))))))))))))))))))))))))))))))))))))))))))))))))))))))))))))))))))))))))))))))))))))))))))))))))))))
theorem m_X10_init {E : mh_E} {d mc ms : Nat} {args : List Value} {h : mh_H} {Post : Option Value → mh_H → Prop} (lv : List (Option Value)) (hl : lv_args 0 args = mh_al 0 lv) (hs : (lg_sl args).length ≤ 1) (hG : q_X10_init_0 (x_X10_init E d mc ms Post) lv [] h 0 0) : mh_M E d mc ms yX10_init args h Post := mh_M.of w_1098 (by decide) (by decide) hl hs (b_X10_init_0 _ _ _ _ _ hG)
theorem dX10_in_0 : decode cX10_in 0 = .ok (.iload_n 0, 1) := by decide +kernel
theorem dX10_in_1 : decode cX10_in 1 = .ok (.iload_n 1, 1) := by decide +kernel
theorem dX10_in_2 : decode cX10_in 2 = .ok (.if_icmp .lt 12, 3) := by decide +kernel
theorem dX10_in_5 : decode cX10_in 5 = .ok (.iload_n 0, 1) := by decide +kernel
theorem dX10_in_6 : decode cX10_in 6 = .ok (.iload_n 2, 1) := by decide +kernel
theorem dX10_in_7 : decode cX10_in 7 = .ok (.if_icmp .gt 7, 3) := by decide +kernel
theorem dX10_in_10 : decode cX10_in 10 = .ok (.iconst 1, 1) := by decide +kernel
theorem dX10_in_11 : decode cX10_in 11 = .ok (.goto 4, 3) := by decide +kernel
theorem dX10_in_14 : decode cX10_in 14 = .ok (.iconst 0, 1) := by decide +kernel
theorem dX10_in_15 : decode cX10_in 15 = .ok (.ireturn, 1) := by decide +kernel
abbrev x_X10_in (E : mh_E) (d mc ms : Nat) (Post : Option Value → mh_H → Prop) : mh_X := (E, yX10_in, cX10_in, 3, (some .boolean), d, mc, ms, Post)
def q_X10_in_15 (X : mh_X) : mh_PR := s_zret X
theorem b_X10_in_15 {E : mh_E} {d mc ms : Nat} {Post : Option Value → mh_H → Prop} : mh_S (x_X10_in E d mc ms Post) 15 (q_X10_in_15 (x_X10_in E d mc ms Post)) := sn_zret rfl dX10_in_15
def q_X10_in_14 (X : mh_X) : mh_PR := s_push (.int (0)) (q_X10_in_15 X)
theorem b_X10_in_14 {E : mh_E} {d mc ms : Nat} {Post : Option Value → mh_H → Prop} : mh_S (x_X10_in E d mc ms Post) 14 (q_X10_in_14 (x_X10_in E d mc ms Post)) := sn_iconst dX10_in_14 (by decide) b_X10_in_15
def q_X10_in_0 (X : mh_X) : mh_PR := s_il 0 (s_il 1 (s_if2 (fun x y => x < y) (q_X10_in_14 X) (s_il 0 (s_il 2 (s_if2 (fun x y => y < x) (q_X10_in_14 X) (s_push (.int (1)) (q_X10_in_15 X)))))))
theorem b_X10_in_0 {E : mh_E} {d mc ms : Nat} {Post : Option Value → mh_H → Prop} : mh_S (x_X10_in E d mc ms Post) 0 (q_X10_in_0 (x_X10_in E d mc ms Post)) := sn_iload_n dX10_in_0 rfl (sn_iload_n dX10_in_1 rfl (sn_icmp_lt (tgt := 14) dX10_in_2 (by decide) (b_X10_in_14) (sn_iload_n dX10_in_5 rfl (sn_iload_n dX10_in_6 rfl (sn_icmp_gt (tgt := 14) dX10_in_7 (by decide) (b_X10_in_14) (sn_iconst dX10_in_10 (by decide) (sn_goto (tgt := 15) dX10_in_11 (by decide) (b_X10_in_15))))))))
theorem m_X10_in {E : mh_E} {d mc ms : Nat} {args : List Value} {h : mh_H} {Post : Option Value → mh_H → Prop} (lv : List (Option Value)) (hl : lv_args 0 args = mh_al 0 lv) (hs : (lg_sl args).length ≤ 3) (hG : q_X10_in_0 (x_X10_in E d mc ms Post) lv [] h 0 0) : mh_M E d mc ms yX10_in args h Post := mh_M.of w_1212 (by decide) (by decide) hl hs (b_X10_in_0 _ _ _ _ _ hG)
theorem dX10_copyAll_0 : decode cX10_copyAll 0 = .ok (.iconst 0, 1) := by decide +kernel
theorem dX10_copyAll_1 : decode cX10_copyAll 1 = .ok (.istore_n 2, 1) := by decide +kernel
theorem dX10_copyAll_2 : decode cX10_copyAll 2 = .ok (.iload_n 2, 1) := by decide +kernel
theorem dX10_copyAll_3 : decode cX10_copyAll 3 = .ok (.sipush 1452, 3) := by decide +kernel
theorem dX10_copyAll_6 : decode cX10_copyAll 6 = .ok (.if_icmp .ge 15, 3) := by decide +kernel
theorem dX10_copyAll_9 : decode cX10_copyAll 9 = .ok (.aload_n 1, 1) := by decide +kernel
theorem dX10_copyAll_10 : decode cX10_copyAll 10 = .ok (.iload_n 2, 1) := by decide +kernel
theorem dX10_copyAll_11 : decode cX10_copyAll 11 = .ok (.aload_n 0, 1) := by decide +kernel
theorem dX10_copyAll_12 : decode cX10_copyAll 12 = .ok (.iload_n 2, 1) := by decide +kernel
theorem dX10_copyAll_13 : decode cX10_copyAll 13 = .ok (.iaload, 1) := by decide +kernel
theorem dX10_copyAll_14 : decode cX10_copyAll 14 = .ok (.iastore, 1) := by decide +kernel
theorem dX10_copyAll_15 : decode cX10_copyAll 15 = .ok (.iinc 2 1, 3) := by decide +kernel
theorem dX10_copyAll_18 : decode cX10_copyAll 18 = .ok (.goto (-16), 3) := by decide +kernel
theorem dX10_copyAll_21 : decode cX10_copyAll 21 = .ok (.return_, 1) := by decide +kernel
abbrev x_X10_copyAll (E : mh_E) (d mc ms : Nat) (Post : Option Value → mh_H → Prop) : mh_X := (E, yX10_copyAll, cX10_copyAll, 3, none, d, mc, ms, Post)
def q_X10_copyAll_2 (X : mh_X) : mh_PR := s_il 2 (s_push (.int (1452)) (s_if2 (fun x y => y ≤ x) (s_vret X) (s_al 1 (s_il 2 (s_al 0 (s_il 2 (s_ald 0 (s_ast 0 (fun x => x) (s_inc 2 (1) (mh_G X 2))))))))))
theorem b_X10_copyAll_2 {E : mh_E} {d mc ms : Nat} {Post : Option Value → mh_H → Prop} : mh_S (x_X10_copyAll E d mc ms Post) 2 (q_X10_copyAll_2 (x_X10_copyAll E d mc ms Post)) := sn_iload_n dX10_copyAll_2 rfl (sn_sipush dX10_copyAll_3 (by decide) (sn_icmp_ge (tgt := 21) dX10_copyAll_6 (by decide) (sn_vret rfl dX10_copyAll_21) (sn_aload_n dX10_copyAll_9 rfl (sn_iload_n dX10_copyAll_10 rfl (sn_aload_n dX10_copyAll_11 rfl (sn_iload_n dX10_copyAll_12 rfl (sn_iaload dX10_copyAll_13 (sn_iastore dX10_copyAll_14 (sn_iinc dX10_copyAll_15 (by decide) (Nat.le_of_ble_eq_true rfl) (sn_goto (tgt := 2) dX10_copyAll_18 (by decide) (mh_S.G)))))))))))
def q_X10_copyAll_0 (X : mh_X) : mh_PR := s_push (.int (0)) (s_is 2 (mh_G X 2))
theorem b_X10_copyAll_0 {E : mh_E} {d mc ms : Nat} {Post : Option Value → mh_H → Prop} : mh_S (x_X10_copyAll E d mc ms Post) 0 (q_X10_copyAll_0 (x_X10_copyAll E d mc ms Post)) := sn_iconst dX10_copyAll_0 (by decide) (sn_istore_n dX10_copyAll_1 rfl (Nat.le_of_ble_eq_true rfl) mh_S.G)
theorem m_X10_copyAll {E : mh_E} {d mc ms : Nat} {args : List Value} {h : mh_H} {Post : Option Value → mh_H → Prop} (lv : List (Option Value)) (hl : lv_args 0 args = mh_al 0 lv) (hs : (lg_sl args).length ≤ 3) (hG : q_X10_copyAll_0 (x_X10_copyAll E d mc ms Post) lv [] h 0 0) : mh_M E d mc ms yX10_copyAll args h Post := mh_M.of w_1553 (by decide) (by decide) hl hs (b_X10_copyAll_0 _ _ _ _ _ hG)
theorem dX10_isStone_0 : decode cX10_isStone 0 = .ok (.iload_n 1, 1) := by decide +kernel
theorem dX10_isStone_1 : decode cX10_isStone 1 = .ok (.iconst 0, 1) := by decide +kernel
theorem dX10_isStone_2 : decode cX10_isStone 2 = .ok (.aload_n 0, 1) := by decide +kernel
theorem dX10_isStone_3 : decode cX10_isStone 3 = .ok (.getfield 9, 3) := by decide +kernel
theorem dX10_isStone_6 : decode cX10_isStone 6 = .ok (.iconst 1, 1) := by decide +kernel
theorem dX10_isStone_7 : decode cX10_isStone 7 = .ok (.iaload, 1) := by decide +kernel
theorem dX10_isStone_8 : decode cX10_isStone 8 = .ok (.iconst 1, 1) := by decide +kernel
theorem dX10_isStone_9 : decode cX10_isStone 9 = .ok (.isub, 1) := by decide +kernel
theorem dX10_isStone_10 : decode cX10_isStone 10 = .ok (.invokestatic 79, 3) := by decide +kernel
theorem dX10_isStone_13 : decode cX10_isStone 13 = .ok (.ireturn, 1) := by decide +kernel
abbrev x_X10_isStone (E : mh_E) (d mc ms : Nat) (Post : Option Value → mh_H → Prop) : mh_X := (E, yX10_isStone, cX10_isStone, 2, (some .boolean), d, mc, ms, Post)
def q_X10_isStone_0 (X : mh_X) : mh_PR := s_il 1 (s_push (.int (0)) (s_al 0 (s_gr 10 0 (s_push (.int (1)) (s_ald 0 (s_push (.int (1)) (s_bin (fun x y => x - y) (s_cs X yX10_in 3 (s_zret X)))))))))
theorem b_X10_isStone_0 {E : mh_E} {d mc ms : Nat} {Post : Option Value → mh_H → Prop} : mh_S (x_X10_isStone E d mc ms Post) 0 (q_X10_isStone_0 (x_X10_isStone E d mc ms Post)) := sn_iload_n dX10_isStone_0 rfl (sn_iconst dX10_isStone_1 (by decide) (sn_aload_n dX10_isStone_2 rfl (sn_getr clX10 (by decide) w_1100 dX10_isStone_3 (sn_iconst dX10_isStone_6 (by decide) (sn_iaload dX10_isStone_7 (sn_iconst dX10_isStone_8 (by decide) (sn_isub dX10_isStone_9 (sn_cs w_1210 w_1211 w_66 nm_X10_in dX10_isStone_10 (sn_zret rfl dX10_isStone_13)))))))))
theorem m_X10_isStone {E : mh_E} {d mc ms : Nat} {args : List Value} {h : mh_H} {Post : Option Value → mh_H → Prop} (lv : List (Option Value)) (hl : lv_args 0 args = mh_al 0 lv) (hs : (lg_sl args).length ≤ 2) (hG : q_X10_isStone_0 (x_X10_isStone E d mc ms Post) lv [] h 0 0) : mh_M E d mc ms yX10_isStone args h Post := mh_M.of w_1233 (by decide) (by decide) hl hs (b_X10_isStone_0 _ _ _ _ _ hG)
theorem dX10_isPerson_0 : decode cX10_isPerson 0 = .ok (.iload_n 0, 1) := by decide +kernel
theorem dX10_isPerson_1 : decode cX10_isPerson 1 = .ok (.iconst 0, 1) := by decide +kernel
theorem dX10_isPerson_2 : decode cX10_isPerson 2 = .ok (.iconst 5, 1) := by decide +kernel
theorem dX10_isPerson_3 : decode cX10_isPerson 3 = .ok (.invokestatic 79, 3) := by decide +kernel
theorem dX10_isPerson_6 : decode cX10_isPerson 6 = .ok (.ireturn, 1) := by decide +kernel
abbrev x_X10_isPerson (E : mh_E) (d mc ms : Nat) (Post : Option Value → mh_H → Prop) : mh_X := (E, yX10_isPerson, cX10_isPerson, 1, (some .boolean), d, mc, ms, Post)
def q_X10_isPerson_0 (X : mh_X) : mh_PR := s_il 0 (s_push (.int (0)) (s_push (.int (5)) (s_cs X yX10_in 3 (s_zret X))))
theorem b_X10_isPerson_0 {E : mh_E} {d mc ms : Nat} {Post : Option Value → mh_H → Prop} : mh_S (x_X10_isPerson E d mc ms Post) 0 (q_X10_isPerson_0 (x_X10_isPerson E d mc ms Post)) := sn_iload_n dX10_isPerson_0 rfl (sn_iconst dX10_isPerson_1 (by decide) (sn_iconst dX10_isPerson_2 (by decide) (sn_cs w_1210 w_1211 w_66 nm_X10_in dX10_isPerson_3 (sn_zret rfl dX10_isPerson_6))))
theorem m_X10_isPerson {E : mh_E} {d mc ms : Nat} {args : List Value} {h : mh_H} {Post : Option Value → mh_H → Prop} (lv : List (Option Value)) (hl : lv_args 0 args = mh_al 0 lv) (hs : (lg_sl args).length ≤ 1) (hG : q_X10_isPerson_0 (x_X10_isPerson E d mc ms Post) lv [] h 0 0) : mh_M E d mc ms yX10_isPerson args h Post := mh_M.of w_1309 (by decide) (by decide) hl hs (b_X10_isPerson_0 _ _ _ _ _ hG)
theorem dX10_comes_0 : decode cX10_comes 0 = .ok (.aload_n 0, 1) := by decide +kernel
theorem dX10_comes_1 : decode cX10_comes 1 = .ok (.getfield 9, 3) := by decide +kernel
theorem dX10_comes_4 : decode cX10_comes 4 = .ok (.iconst 1, 1) := by decide +kernel
theorem dX10_comes_5 : decode cX10_comes 5 = .ok (.iaload, 1) := by decide +kernel
theorem dX10_comes_6 : decode cX10_comes 6 = .ok (.istore 6, 2) := by decide +kernel
theorem dX10_comes_8 : decode cX10_comes 8 = .ok (.aload_n 0, 1) := by decide +kernel
theorem dX10_comes_9 : decode cX10_comes 9 = .ok (.getfield 9, 3) := by decide +kernel
theorem dX10_comes_12 : decode cX10_comes 12 = .ok (.iconst 1, 1) := by decide +kernel
theorem dX10_comes_13 : decode cX10_comes 13 = .ok (.dup2, 1) := by decide +kernel
theorem dX10_comes_14 : decode cX10_comes 14 = .ok (.iaload, 1) := by decide +kernel
theorem dX10_comes_15 : decode cX10_comes 15 = .ok (.iconst 1, 1) := by decide +kernel
theorem dX10_comes_16 : decode cX10_comes 16 = .ok (.iadd, 1) := by decide +kernel
theorem dX10_comes_17 : decode cX10_comes 17 = .ok (.iastore, 1) := by decide +kernel
theorem dX10_comes_18 : decode cX10_comes 18 = .ok (.aload_n 0, 1) := by decide +kernel
theorem dX10_comes_19 : decode cX10_comes 19 = .ok (.iload 6, 2) := by decide +kernel
theorem dX10_comes_21 : decode cX10_comes 21 = .ok (.iconst 0, 1) := by decide +kernel
theorem dX10_comes_22 : decode cX10_comes 22 = .ok (.iload_n 1, 1) := by decide +kernel
theorem dX10_comes_23 : decode cX10_comes 23 = .ok (.invokevirtual 83, 3) := by decide +kernel
theorem dX10_comes_26 : decode cX10_comes 26 = .ok (.aload_n 0, 1) := by decide +kernel
theorem dX10_comes_27 : decode cX10_comes 27 = .ok (.iload 6, 2) := by decide +kernel
theorem dX10_comes_29 : decode cX10_comes 29 = .ok (.iconst 1, 1) := by decide +kernel
theorem dX10_comes_30 : decode cX10_comes 30 = .ok (.iload_n 2, 1) := by decide +kernel
theorem dX10_comes_31 : decode cX10_comes 31 = .ok (.invokevirtual 83, 3) := by decide +kernel
theorem dX10_comes_34 : decode cX10_comes 34 = .ok (.aload_n 0, 1) := by decide +kernel
theorem dX10_comes_35 : decode cX10_comes 35 = .ok (.iload 6, 2) := by decide +kernel
theorem dX10_comes_37 : decode cX10_comes 37 = .ok (.iconst 2, 1) := by decide +kernel
theorem dX10_comes_38 : decode cX10_comes 38 = .ok (.iload_n 3, 1) := by decide +kernel
theorem dX10_comes_39 : decode cX10_comes 39 = .ok (.invokevirtual 83, 3) := by decide +kernel
theorem dX10_comes_42 : decode cX10_comes 42 = .ok (.aload_n 0, 1) := by decide +kernel
theorem dX10_comes_43 : decode cX10_comes 43 = .ok (.iload 6, 2) := by decide +kernel
theorem dX10_comes_45 : decode cX10_comes 45 = .ok (.iconst 3, 1) := by decide +kernel
theorem dX10_comes_46 : decode cX10_comes 46 = .ok (.iload 4, 2) := by decide +kernel
theorem dX10_comes_48 : decode cX10_comes 48 = .ok (.invokevirtual 83, 3) := by decide +kernel
theorem dX10_comes_51 : decode cX10_comes 51 = .ok (.aload_n 0, 1) := by decide +kernel
theorem dX10_comes_52 : decode cX10_comes 52 = .ok (.iload 6, 2) := by decide +kernel
theorem dX10_comes_54 : decode cX10_comes 54 = .ok (.iconst 4, 1) := by decide +kernel
theorem dX10_comes_55 : decode cX10_comes 55 = .ok (.iload 5, 2) := by decide +kernel
theorem dX10_comes_57 : decode cX10_comes 57 = .ok (.invokevirtual 83, 3) := by decide +kernel
theorem dX10_comes_60 : decode cX10_comes 60 = .ok (.aload_n 0, 1) := by decide +kernel
theorem dX10_comes_61 : decode cX10_comes 61 = .ok (.iload 6, 2) := by decide +kernel
theorem dX10_comes_63 : decode cX10_comes 63 = .ok (.iconst 5, 1) := by decide +kernel
theorem dX10_comes_64 : decode cX10_comes 64 = .ok (.iconst (-1), 1) := by decide +kernel
theorem dX10_comes_65 : decode cX10_comes 65 = .ok (.invokevirtual 83, 3) := by decide +kernel
theorem dX10_comes_68 : decode cX10_comes 68 = .ok (.iload 6, 2) := by decide +kernel
theorem dX10_comes_70 : decode cX10_comes 70 = .ok (.ireturn, 1) := by decide +kernel
abbrev x_X10_comes (E : mh_E) (d mc ms : Nat) (Post : Option Value → mh_H → Prop) : mh_X := (E, yX10_comes, cX10_comes, 7, (some .int), d, mc, ms, Post)
def q_X10_comes_0 (X : mh_X) : mh_PR := s_al 0 (s_gr 10 0 (s_push (.int (1)) (s_ald 0 (s_is 6 (s_al 0 (s_gr 10 0 (s_push (.int (1)) (s_dup2 (s_ald 0 (s_push (.int (1)) (s_bin (fun x y => x + y) (s_ast 0 (fun x => x) (s_al 0 (s_il 6 (s_push (.int (0)) (s_il 1 (s_cv X yX10_put 10 3 (s_al 0 (s_il 6 (s_push (.int (1)) (s_il 2 (s_cv X yX10_put 10 3 (s_al 0 (s_il 6 (s_push (.int (2)) (s_il 3 (s_cv X yX10_put 10 3 (s_al 0 (s_il 6 (s_push (.int (3)) (s_il 4 (s_cv X yX10_put 10 3 (s_al 0 (s_il 6 (s_push (.int (4)) (s_il 5 (s_cv X yX10_put 10 3 (s_al 0 (s_il 6 (s_push (.int (5)) (s_push (.int (-1)) (s_cv X yX10_put 10 3 (s_il 6 (s_iret X))))))))))))))))))))))))))))))))))))))))))))
theorem b_X10_comes_0 {E : mh_E} {d mc ms : Nat} {Post : Option Value → mh_H → Prop} : mh_S (x_X10_comes E d mc ms Post) 0 (q_X10_comes_0 (x_X10_comes E d mc ms Post)) := sn_aload_n dX10_comes_0 rfl (sn_getr clX10 (by decide) w_1100 dX10_comes_1 (sn_iconst dX10_comes_4 (by decide) (sn_iaload dX10_comes_5 (sn_istore dX10_comes_6 (Nat.le_of_ble_eq_true rfl) (sn_aload_n dX10_comes_8 rfl (sn_getr clX10 (by decide) w_1100 dX10_comes_9 (sn_iconst dX10_comes_12 (by decide) (sn_dup2 dX10_comes_13 (sn_iaload dX10_comes_14 (sn_iconst dX10_comes_15 (by decide) (sn_iadd dX10_comes_16 (sn_iastore dX10_comes_17 (sn_aload_n dX10_comes_18 rfl (sn_iload dX10_comes_19 (sn_iconst dX10_comes_21 (by decide) (sn_iload_n dX10_comes_22 rfl (sn_cv w_1222 w_1224 w_22 w_66 rfl nm_X10_put dX10_comes_23 (sn_aload_n dX10_comes_26 rfl (sn_iload dX10_comes_27 (sn_iconst dX10_comes_29 (by decide) (sn_iload_n dX10_comes_30 rfl (sn_cv w_1222 w_1224 w_22 w_66 rfl nm_X10_put dX10_comes_31 (sn_aload_n dX10_comes_34 rfl (sn_iload dX10_comes_35 (sn_iconst dX10_comes_37 (by decide) (sn_iload_n dX10_comes_38 rfl (sn_cv w_1222 w_1224 w_22 w_66 rfl nm_X10_put dX10_comes_39 (sn_aload_n dX10_comes_42 rfl (sn_iload dX10_comes_43 (sn_iconst dX10_comes_45 (by decide) (sn_iload dX10_comes_46 (sn_cv w_1222 w_1224 w_22 w_66 rfl nm_X10_put dX10_comes_48 (sn_aload_n dX10_comes_51 rfl (sn_iload dX10_comes_52 (sn_iconst dX10_comes_54 (by decide) (sn_iload dX10_comes_55 (sn_cv w_1222 w_1224 w_22 w_66 rfl nm_X10_put dX10_comes_57 (sn_aload_n dX10_comes_60 rfl (sn_iload dX10_comes_61 (sn_iconst dX10_comes_63 (by decide) (sn_iconst dX10_comes_64 (by decide) (sn_cv w_1222 w_1224 w_22 w_66 rfl nm_X10_put dX10_comes_65 (sn_iload dX10_comes_68 (sn_iret rfl dX10_comes_70))))))))))))))))))))))))))))))))))))))))))))
theorem m_X10_comes {E : mh_E} {d mc ms : Nat} {args : List Value} {h : mh_H} {Post : Option Value → mh_H → Prop} (lv : List (Option Value)) (hl : lv_args 0 args = mh_al 0 lv) (hs : (lg_sl args).length ≤ 7) (hG : q_X10_comes_0 (x_X10_comes E d mc ms Post) lv [] h 0 0) : mh_M E d mc ms yX10_comes args h Post := mh_M.of w_1221 (by decide) (by decide) hl hs (b_X10_comes_0 _ _ _ _ _ hG)
theorem dX10_isOf_0 : decode cX10_isOf 0 = .ok (.iload_n 1, 1) := by decide +kernel
theorem dX10_isOf_1 : decode cX10_isOf 1 = .ok (.iconst 0, 1) := by decide +kernel
theorem dX10_isOf_2 : decode cX10_isOf 2 = .ok (.iload_n 0, 1) := by decide +kernel
theorem dX10_isOf_3 : decode cX10_isOf 3 = .ok (.iconst 1, 1) := by decide +kernel
theorem dX10_isOf_4 : decode cX10_isOf 4 = .ok (.if_icmp .ne 7, 3) := by decide +kernel
theorem dX10_isOf_7 : decode cX10_isOf 7 = .ok (.iconst 5, 1) := by decide +kernel
theorem dX10_isOf_8 : decode cX10_isOf 8 = .ok (.goto 25, 3) := by decide +kernel
theorem dX10_isOf_11 : decode cX10_isOf 11 = .ok (.iload_n 0, 1) := by decide +kernel
theorem dX10_isOf_12 : decode cX10_isOf 12 = .ok (.iconst 2, 1) := by decide +kernel
theorem dX10_isOf_13 : decode cX10_isOf 13 = .ok (.if_icmp .ne 7, 3) := by decide +kernel
theorem dX10_isOf_16 : decode cX10_isOf 16 = .ok (.iconst 3, 1) := by decide +kernel
theorem dX10_isOf_17 : decode cX10_isOf 17 = .ok (.goto 16, 3) := by decide +kernel
theorem dX10_isOf_20 : decode cX10_isOf 20 = .ok (.iload_n 0, 1) := by decide +kernel
theorem dX10_isOf_21 : decode cX10_isOf 21 = .ok (.iconst 3, 1) := by decide +kernel
theorem dX10_isOf_22 : decode cX10_isOf 22 = .ok (.if_icmp .ne 8, 3) := by decide +kernel
theorem dX10_isOf_25 : decode cX10_isOf 25 = .ok (.bipush 9, 2) := by decide +kernel
theorem dX10_isOf_27 : decode cX10_isOf 27 = .ok (.goto 6, 3) := by decide +kernel
theorem dX10_isOf_30 : decode cX10_isOf 30 = .ok (.sipush 9999, 3) := by decide +kernel
theorem dX10_isOf_33 : decode cX10_isOf 33 = .ok (.invokestatic 79, 3) := by decide +kernel
theorem dX10_isOf_36 : decode cX10_isOf 36 = .ok (.ireturn, 1) := by decide +kernel
abbrev x_X10_isOf (E : mh_E) (d mc ms : Nat) (Post : Option Value → mh_H → Prop) : mh_X := (E, yX10_isOf, cX10_isOf, 2, (some .boolean), d, mc, ms, Post)
def q_X10_isOf_33 (X : mh_X) : mh_PR := s_cs X yX10_in 3 (s_zret X)
theorem b_X10_isOf_33 {E : mh_E} {d mc ms : Nat} {Post : Option Value → mh_H → Prop} : mh_S (x_X10_isOf E d mc ms Post) 33 (q_X10_isOf_33 (x_X10_isOf E d mc ms Post)) := sn_cs w_1210 w_1211 w_66 nm_X10_in dX10_isOf_33 (sn_zret rfl dX10_isOf_36)
def q_X10_isOf_0 (X : mh_X) : mh_PR := s_il 1 (s_push (.int (0)) (s_il 0 (s_push (.int (1)) (s_if2 (fun x y => ¬ x = y) (s_il 0 (s_push (.int (2)) (s_if2 (fun x y => ¬ x = y) (s_il 0 (s_push (.int (3)) (s_if2 (fun x y => ¬ x = y) (s_push (.int (9999)) (q_X10_isOf_33 X)) (s_push (.int (9)) (q_X10_isOf_33 X))))) (s_push (.int (3)) (q_X10_isOf_33 X))))) (s_push (.int (5)) (q_X10_isOf_33 X))))))
theorem b_X10_isOf_0 {E : mh_E} {d mc ms : Nat} {Post : Option Value → mh_H → Prop} : mh_S (x_X10_isOf E d mc ms Post) 0 (q_X10_isOf_0 (x_X10_isOf E d mc ms Post)) := sn_iload_n dX10_isOf_0 rfl (sn_iconst dX10_isOf_1 (by decide) (sn_iload_n dX10_isOf_2 rfl (sn_iconst dX10_isOf_3 (by decide) (sn_icmp_ne (tgt := 11) dX10_isOf_4 (by decide) (sn_iload_n dX10_isOf_11 rfl (sn_iconst dX10_isOf_12 (by decide) (sn_icmp_ne (tgt := 20) dX10_isOf_13 (by decide) (sn_iload_n dX10_isOf_20 rfl (sn_iconst dX10_isOf_21 (by decide) (sn_icmp_ne (tgt := 30) dX10_isOf_22 (by decide) (sn_sipush dX10_isOf_30 (by decide) b_X10_isOf_33) (sn_bipush dX10_isOf_25 (by decide) (sn_goto (tgt := 33) dX10_isOf_27 (by decide) (b_X10_isOf_33)))))) (sn_iconst dX10_isOf_16 (by decide) (sn_goto (tgt := 33) dX10_isOf_17 (by decide) (b_X10_isOf_33)))))) (sn_iconst dX10_isOf_7 (by decide) (sn_goto (tgt := 33) dX10_isOf_8 (by decide) (b_X10_isOf_33)))))))
theorem m_X10_isOf {E : mh_E} {d mc ms : Nat} {args : List Value} {h : mh_H} {Post : Option Value → mh_H → Prop} (lv : List (Option Value)) (hl : lv_args 0 args = mh_al 0 lv) (hs : (lg_sl args).length ≤ 2) (hG : q_X10_isOf_0 (x_X10_isOf E d mc ms Post) lv [] h 0 0) : mh_M E d mc ms yX10_isOf args h Post := mh_M.of w_1215 (by decide) (by decide) hl hs (b_X10_isOf_0 _ _ _ _ _ hG)
theorem dX10_doesHold_0 : decode cX10_doesHold 0 = .ok (.aload_n 0, 1) := by decide +kernel
theorem dX10_doesHold_1 : decode cX10_doesHold 1 = .ok (.iload_n 1, 1) := by decide +kernel
theorem dX10_doesHold_2 : decode cX10_doesHold 2 = .ok (.iconst 1, 1) := by decide +kernel
theorem dX10_doesHold_3 : decode cX10_doesHold 3 = .ok (.invokevirtual 104, 3) := by decide +kernel
theorem dX10_doesHold_6 : decode cX10_doesHold 6 = .ok (.istore_n 2, 1) := by decide +kernel
theorem dX10_doesHold_7 : decode cX10_doesHold 7 = .ok (.aload_n 0, 1) := by decide +kernel
theorem dX10_doesHold_8 : decode cX10_doesHold 8 = .ok (.iload_n 1, 1) := by decide +kernel
theorem dX10_doesHold_9 : decode cX10_doesHold 9 = .ok (.iconst 2, 1) := by decide +kernel
theorem dX10_doesHold_10 : decode cX10_doesHold 10 = .ok (.invokevirtual 104, 3) := by decide +kernel
theorem dX10_doesHold_13 : decode cX10_doesHold 13 = .ok (.istore_n 3, 1) := by decide +kernel
theorem dX10_doesHold_14 : decode cX10_doesHold 14 = .ok (.aload_n 0, 1) := by decide +kernel
theorem dX10_doesHold_15 : decode cX10_doesHold 15 = .ok (.iload_n 2, 1) := by decide +kernel
theorem dX10_doesHold_16 : decode cX10_doesHold 16 = .ok (.invokevirtual 97, 3) := by decide +kernel
theorem dX10_doesHold_19 : decode cX10_doesHold 19 = .ok (.iload_n 3, 1) := by decide +kernel
theorem dX10_doesHold_20 : decode cX10_doesHold 20 = .ok (.if_icmp .ne 7, 3) := by decide +kernel
theorem dX10_doesHold_23 : decode cX10_doesHold 23 = .ok (.iconst 1, 1) := by decide +kernel
theorem dX10_doesHold_24 : decode cX10_doesHold 24 = .ok (.goto 4, 3) := by decide +kernel
theorem dX10_doesHold_27 : decode cX10_doesHold 27 = .ok (.iconst 0, 1) := by decide +kernel
theorem dX10_doesHold_28 : decode cX10_doesHold 28 = .ok (.istore 4, 2) := by decide +kernel
theorem dX10_doesHold_30 : decode cX10_doesHold 30 = .ok (.aload_n 0, 1) := by decide +kernel
theorem dX10_doesHold_31 : decode cX10_doesHold 31 = .ok (.iload_n 2, 1) := by decide +kernel
theorem dX10_doesHold_32 : decode cX10_doesHold 32 = .ok (.invokevirtual 101, 3) := by decide +kernel
theorem dX10_doesHold_35 : decode cX10_doesHold 35 = .ok (.aload_n 0, 1) := by decide +kernel
theorem dX10_doesHold_36 : decode cX10_doesHold 36 = .ok (.iload_n 1, 1) := by decide +kernel
theorem dX10_doesHold_37 : decode cX10_doesHold 37 = .ok (.iconst 3, 1) := by decide +kernel
theorem dX10_doesHold_38 : decode cX10_doesHold 38 = .ok (.invokevirtual 104, 3) := by decide +kernel
theorem dX10_doesHold_41 : decode cX10_doesHold 41 = .ok (.if_icmp .lt 7, 3) := by decide +kernel
theorem dX10_doesHold_44 : decode cX10_doesHold 44 = .ok (.iconst 1, 1) := by decide +kernel
theorem dX10_doesHold_45 : decode cX10_doesHold 45 = .ok (.goto 4, 3) := by decide +kernel
theorem dX10_doesHold_48 : decode cX10_doesHold 48 = .ok (.iconst 0, 1) := by decide +kernel
theorem dX10_doesHold_49 : decode cX10_doesHold 49 = .ok (.istore 5, 2) := by decide +kernel
theorem dX10_doesHold_51 : decode cX10_doesHold 51 = .ok (.aload_n 0, 1) := by decide +kernel
theorem dX10_doesHold_52 : decode cX10_doesHold 52 = .ok (.iload_n 1, 1) := by decide +kernel
theorem dX10_doesHold_53 : decode cX10_doesHold 53 = .ok (.iconst 0, 1) := by decide +kernel
theorem dX10_doesHold_54 : decode cX10_doesHold 54 = .ok (.invokevirtual 104, 3) := by decide +kernel
theorem dX10_doesHold_57 : decode cX10_doesHold 57 = .ok (.tableswitch 99 1 5 #[35, 38, 41, 62, 83], 35) := by decide +kernel
theorem dX10_doesHold_92 : decode cX10_doesHold 92 = .ok (.iload 4, 2) := by decide +kernel
theorem dX10_doesHold_94 : decode cX10_doesHold 94 = .ok (.ireturn, 1) := by decide +kernel
theorem dX10_doesHold_95 : decode cX10_doesHold 95 = .ok (.iload 5, 2) := by decide +kernel
theorem dX10_doesHold_97 : decode cX10_doesHold 97 = .ok (.ireturn, 1) := by decide +kernel
theorem dX10_doesHold_98 : decode cX10_doesHold 98 = .ok (.iload 4, 2) := by decide +kernel
theorem dX10_doesHold_100 : decode cX10_doesHold 100 = .ok (.ifCond .eq 17, 3) := by decide +kernel
theorem dX10_doesHold_103 : decode cX10_doesHold 103 = .ok (.aload_n 0, 1) := by decide +kernel
theorem dX10_doesHold_104 : decode cX10_doesHold 104 = .ok (.iload_n 3, 1) := by decide +kernel
theorem dX10_doesHold_105 : decode cX10_doesHold 105 = .ok (.iconst 0, 1) := by decide +kernel
theorem dX10_doesHold_106 : decode cX10_doesHold 106 = .ok (.iload_n 2, 1) := by decide +kernel
theorem dX10_doesHold_107 : decode cX10_doesHold 107 = .ok (.invokevirtual 108, 3) := by decide +kernel
theorem dX10_doesHold_110 : decode cX10_doesHold 110 = .ok (.ifCond .le 7, 3) := by decide +kernel
theorem dX10_doesHold_113 : decode cX10_doesHold 113 = .ok (.iconst 1, 1) := by decide +kernel
theorem dX10_doesHold_114 : decode cX10_doesHold 114 = .ok (.goto 4, 3) := by decide +kernel
theorem dX10_doesHold_117 : decode cX10_doesHold 117 = .ok (.iconst 0, 1) := by decide +kernel
theorem dX10_doesHold_118 : decode cX10_doesHold 118 = .ok (.ireturn, 1) := by decide +kernel
theorem dX10_doesHold_119 : decode cX10_doesHold 119 = .ok (.aload_n 0, 1) := by decide +kernel
theorem dX10_doesHold_120 : decode cX10_doesHold 120 = .ok (.iload_n 3, 1) := by decide +kernel
theorem dX10_doesHold_121 : decode cX10_doesHold 121 = .ok (.aload_n 0, 1) := by decide +kernel
theorem dX10_doesHold_122 : decode cX10_doesHold 122 = .ok (.iload_n 1, 1) := by decide +kernel
theorem dX10_doesHold_123 : decode cX10_doesHold 123 = .ok (.iconst 3, 1) := by decide +kernel
theorem dX10_doesHold_124 : decode cX10_doesHold 124 = .ok (.invokevirtual 104, 3) := by decide +kernel
theorem dX10_doesHold_127 : decode cX10_doesHold 127 = .ok (.iconst (-1), 1) := by decide +kernel
theorem dX10_doesHold_128 : decode cX10_doesHold 128 = .ok (.invokevirtual 108, 3) := by decide +kernel
theorem dX10_doesHold_131 : decode cX10_doesHold 131 = .ok (.ifCond .le 7, 3) := by decide +kernel
theorem dX10_doesHold_134 : decode cX10_doesHold 134 = .ok (.iconst 1, 1) := by decide +kernel
theorem dX10_doesHold_135 : decode cX10_doesHold 135 = .ok (.goto 4, 3) := by decide +kernel
theorem dX10_doesHold_138 : decode cX10_doesHold 138 = .ok (.iconst 0, 1) := by decide +kernel
theorem dX10_doesHold_139 : decode cX10_doesHold 139 = .ok (.ireturn, 1) := by decide +kernel
theorem dX10_doesHold_140 : decode cX10_doesHold 140 = .ok (.aload_n 0, 1) := by decide +kernel
theorem dX10_doesHold_141 : decode cX10_doesHold 141 = .ok (.iload_n 3, 1) := by decide +kernel
theorem dX10_doesHold_142 : decode cX10_doesHold 142 = .ok (.iconst 0, 1) := by decide +kernel
theorem dX10_doesHold_143 : decode cX10_doesHold 143 = .ok (.iconst (-1), 1) := by decide +kernel
theorem dX10_doesHold_144 : decode cX10_doesHold 144 = .ok (.invokevirtual 108, 3) := by decide +kernel
theorem dX10_doesHold_147 : decode cX10_doesHold 147 = .ok (.ifCond .ne 7, 3) := by decide +kernel
theorem dX10_doesHold_150 : decode cX10_doesHold 150 = .ok (.iconst 1, 1) := by decide +kernel
theorem dX10_doesHold_151 : decode cX10_doesHold 151 = .ok (.goto 4, 3) := by decide +kernel
theorem dX10_doesHold_154 : decode cX10_doesHold 154 = .ok (.iconst 0, 1) := by decide +kernel
theorem dX10_doesHold_155 : decode cX10_doesHold 155 = .ok (.ireturn, 1) := by decide +kernel
theorem dX10_doesHold_156 : decode cX10_doesHold 156 = .ok (.iload 4, 2) := by decide +kernel
theorem dX10_doesHold_158 : decode cX10_doesHold 158 = .ok (.ifCond .eq 12, 3) := by decide +kernel
theorem dX10_doesHold_161 : decode cX10_doesHold 161 = .ok (.iload 5, 2) := by decide +kernel
theorem dX10_doesHold_163 : decode cX10_doesHold 163 = .ok (.ifCond .eq 7, 3) := by decide +kernel
theorem dX10_doesHold_166 : decode cX10_doesHold 166 = .ok (.iconst 1, 1) := by decide +kernel
theorem dX10_doesHold_167 : decode cX10_doesHold 167 = .ok (.goto 4, 3) := by decide +kernel
theorem dX10_doesHold_170 : decode cX10_doesHold 170 = .ok (.iconst 0, 1) := by decide +kernel
theorem dX10_doesHold_171 : decode cX10_doesHold 171 = .ok (.ireturn, 1) := by decide +kernel
abbrev x_X10_doesHold (E : mh_E) (d mc ms : Nat) (Post : Option Value → mh_H → Prop) : mh_X := (E, yX10_doesHold, cX10_doesHold, 6, (some .boolean), d, mc, ms, Post)
def q_X10_doesHold_171 (X : mh_X) : mh_PR := s_zret X
theorem b_X10_doesHold_171 {E : mh_E} {d mc ms : Nat} {Post : Option Value → mh_H → Prop} : mh_S (x_X10_doesHold E d mc ms Post) 171 (q_X10_doesHold_171 (x_X10_doesHold E d mc ms Post)) := sn_zret rfl dX10_doesHold_171
def q_X10_doesHold_170 (X : mh_X) : mh_PR := s_push (.int (0)) (q_X10_doesHold_171 X)
theorem b_X10_doesHold_170 {E : mh_E} {d mc ms : Nat} {Post : Option Value → mh_H → Prop} : mh_S (x_X10_doesHold E d mc ms Post) 170 (q_X10_doesHold_170 (x_X10_doesHold E d mc ms Post)) := sn_iconst dX10_doesHold_170 (by decide) b_X10_doesHold_171
def q_X10_doesHold_155 (X : mh_X) : mh_PR := s_zret X
theorem b_X10_doesHold_155 {E : mh_E} {d mc ms : Nat} {Post : Option Value → mh_H → Prop} : mh_S (x_X10_doesHold E d mc ms Post) 155 (q_X10_doesHold_155 (x_X10_doesHold E d mc ms Post)) := sn_zret rfl dX10_doesHold_155
def q_X10_doesHold_139 (X : mh_X) : mh_PR := s_zret X
theorem b_X10_doesHold_139 {E : mh_E} {d mc ms : Nat} {Post : Option Value → mh_H → Prop} : mh_S (x_X10_doesHold E d mc ms Post) 139 (q_X10_doesHold_139 (x_X10_doesHold E d mc ms Post)) := sn_zret rfl dX10_doesHold_139
def q_X10_doesHold_118 (X : mh_X) : mh_PR := s_zret X
theorem b_X10_doesHold_118 {E : mh_E} {d mc ms : Nat} {Post : Option Value → mh_H → Prop} : mh_S (x_X10_doesHold E d mc ms Post) 118 (q_X10_doesHold_118 (x_X10_doesHold E d mc ms Post)) := sn_zret rfl dX10_doesHold_118
def q_X10_doesHold_117 (X : mh_X) : mh_PR := s_push (.int (0)) (q_X10_doesHold_118 X)
theorem b_X10_doesHold_117 {E : mh_E} {d mc ms : Nat} {Post : Option Value → mh_H → Prop} : mh_S (x_X10_doesHold E d mc ms Post) 117 (q_X10_doesHold_117 (x_X10_doesHold E d mc ms Post)) := sn_iconst dX10_doesHold_117 (by decide) b_X10_doesHold_118
def q_X10_doesHold_49 (X : mh_X) : mh_PR := s_is 5 (s_al 0 (s_il 1 (s_push (.int (0)) (s_cv X yX10_of 10 2 (s_sw [((1 : Int32), s_il 4 (s_zret X)), ((2 : Int32), s_il 5 (s_zret X)), ((3 : Int32), s_il 4 (s_if1 (fun x => x = 0) (q_X10_doesHold_117 X) (s_al 0 (s_il 3 (s_push (.int (0)) (s_il 2 (s_cv X yX10_manyAt 10 3 (s_if1 (fun x => x ≤ 0) (q_X10_doesHold_117 X) (s_push (.int (1)) (q_X10_doesHold_118 X)))))))))), ((4 : Int32), s_al 0 (s_il 3 (s_al 0 (s_il 1 (s_push (.int (3)) (s_cv X yX10_of 10 2 (s_push (.int (-1)) (s_cv X yX10_manyAt 10 3 (s_if1 (fun x => x ≤ 0) (s_push (.int (0)) (q_X10_doesHold_139 X)) (s_push (.int (1)) (q_X10_doesHold_139 X))))))))))), ((5 : Int32), s_al 0 (s_il 3 (s_push (.int (0)) (s_push (.int (-1)) (s_cv X yX10_manyAt 10 3 (s_if1 (fun x => ¬ x = 0) (s_push (.int (0)) (q_X10_doesHold_155 X)) (s_push (.int (1)) (q_X10_doesHold_155 X))))))))] (s_il 4 (s_if1 (fun x => x = 0) (q_X10_doesHold_170 X) (s_il 5 (s_if1 (fun x => x = 0) (q_X10_doesHold_170 X) (s_push (.int (1)) (q_X10_doesHold_171 X)))))))))))
theorem b_X10_doesHold_49 {E : mh_E} {d mc ms : Nat} {Post : Option Value → mh_H → Prop} : mh_S (x_X10_doesHold E d mc ms Post) 49 (q_X10_doesHold_49 (x_X10_doesHold E d mc ms Post)) := sn_istore dX10_doesHold_49 (Nat.le_of_ble_eq_true rfl) (sn_aload_n dX10_doesHold_51 rfl (sn_iload_n dX10_doesHold_52 rfl (sn_iconst dX10_doesHold_53 (by decide) (sn_cv w_1234 w_1236 w_24 w_66 rfl nm_X10_of dX10_doesHold_54 (sn_table (tgt := 156) (ts := [(1, 35, 92), (2, 38, 95), (3, 41, 98), (4, 62, 119), (5, 83, 140)]) dX10_doesHold_57 (by decide +kernel) (by decide +kernel) (sw_cons (sn_iload dX10_doesHold_92 (sn_zret rfl dX10_doesHold_94)) (sw_cons (sn_iload dX10_doesHold_95 (sn_zret rfl dX10_doesHold_97)) (sw_cons (sn_iload dX10_doesHold_98 (sn_if_eq (tgt := 117) dX10_doesHold_100 (by decide) (b_X10_doesHold_117) (sn_aload_n dX10_doesHold_103 rfl (sn_iload_n dX10_doesHold_104 rfl (sn_iconst dX10_doesHold_105 (by decide) (sn_iload_n dX10_doesHold_106 rfl (sn_cv w_1251 w_1253 w_28 w_66 rfl nm_X10_manyAt dX10_doesHold_107 (sn_if_le (tgt := 117) dX10_doesHold_110 (by decide) (b_X10_doesHold_117) (sn_iconst dX10_doesHold_113 (by decide) (sn_goto (tgt := 118) dX10_doesHold_114 (by decide) (b_X10_doesHold_118))))))))))) (sw_cons (sn_aload_n dX10_doesHold_119 rfl (sn_iload_n dX10_doesHold_120 rfl (sn_aload_n dX10_doesHold_121 rfl (sn_iload_n dX10_doesHold_122 rfl (sn_iconst dX10_doesHold_123 (by decide) (sn_cv w_1234 w_1236 w_24 w_66 rfl nm_X10_of dX10_doesHold_124 (sn_iconst dX10_doesHold_127 (by decide) (sn_cv w_1251 w_1253 w_28 w_66 rfl nm_X10_manyAt dX10_doesHold_128 (sn_if_le (tgt := 138) dX10_doesHold_131 (by decide) (sn_iconst dX10_doesHold_138 (by decide) b_X10_doesHold_139) (sn_iconst dX10_doesHold_134 (by decide) (sn_goto (tgt := 139) dX10_doesHold_135 (by decide) (b_X10_doesHold_139)))))))))))) (sw_cons (sn_aload_n dX10_doesHold_140 rfl (sn_iload_n dX10_doesHold_141 rfl (sn_iconst dX10_doesHold_142 (by decide) (sn_iconst dX10_doesHold_143 (by decide) (sn_cv w_1251 w_1253 w_28 w_66 rfl nm_X10_manyAt dX10_doesHold_144 (sn_if_ne (tgt := 154) dX10_doesHold_147 (by decide) (sn_iconst dX10_doesHold_154 (by decide) b_X10_doesHold_155) (sn_iconst dX10_doesHold_150 (by decide) (sn_goto (tgt := 155) dX10_doesHold_151 (by decide) (b_X10_doesHold_155))))))))) sw_nil))))) (by decide) (sn_iload dX10_doesHold_156 (sn_if_eq (tgt := 170) dX10_doesHold_158 (by decide) (b_X10_doesHold_170) (sn_iload dX10_doesHold_161 (sn_if_eq (tgt := 170) dX10_doesHold_163 (by decide) (b_X10_doesHold_170) (sn_iconst dX10_doesHold_166 (by decide) (sn_goto (tgt := 171) dX10_doesHold_167 (by decide) (b_X10_doesHold_171))))))))))))
def q_X10_doesHold_28 (X : mh_X) : mh_PR := s_is 4 (s_al 0 (s_il 2 (s_cv X yX10_rankOf 10 1 (s_al 0 (s_il 1 (s_push (.int (3)) (s_cv X yX10_of 10 2 (s_if2 (fun x y => x < y) (s_push (.int (0)) (q_X10_doesHold_49 X)) (s_push (.int (1)) (q_X10_doesHold_49 X))))))))))
theorem b_X10_doesHold_28 {E : mh_E} {d mc ms : Nat} {Post : Option Value → mh_H → Prop} : mh_S (x_X10_doesHold E d mc ms Post) 28 (q_X10_doesHold_28 (x_X10_doesHold E d mc ms Post)) := sn_istore dX10_doesHold_28 (Nat.le_of_ble_eq_true rfl) (sn_aload_n dX10_doesHold_30 rfl (sn_iload_n dX10_doesHold_31 rfl (sn_cv w_1247 w_1249 w_27 w_66 rfl nm_X10_rankOf dX10_doesHold_32 (sn_aload_n dX10_doesHold_35 rfl (sn_iload_n dX10_doesHold_36 rfl (sn_iconst dX10_doesHold_37 (by decide) (sn_cv w_1234 w_1236 w_24 w_66 rfl nm_X10_of dX10_doesHold_38 (sn_icmp_lt (tgt := 48) dX10_doesHold_41 (by decide) (sn_iconst dX10_doesHold_48 (by decide) b_X10_doesHold_49) (sn_iconst dX10_doesHold_44 (by decide) (sn_goto (tgt := 49) dX10_doesHold_45 (by decide) (b_X10_doesHold_49)))))))))))
def q_X10_doesHold_0 (X : mh_X) : mh_PR := s_al 0 (s_il 1 (s_push (.int (1)) (s_cv X yX10_of 10 2 (s_is 2 (s_al 0 (s_il 1 (s_push (.int (2)) (s_cv X yX10_of 10 2 (s_is 3 (s_al 0 (s_il 2 (s_cv X yX10_squareOf 10 1 (s_il 3 (s_if2 (fun x y => ¬ x = y) (s_push (.int (0)) (q_X10_doesHold_28 X)) (s_push (.int (1)) (q_X10_doesHold_28 X))))))))))))))))
theorem b_X10_doesHold_0 {E : mh_E} {d mc ms : Nat} {Post : Option Value → mh_H → Prop} : mh_S (x_X10_doesHold E d mc ms Post) 0 (q_X10_doesHold_0 (x_X10_doesHold E d mc ms Post)) := sn_aload_n dX10_doesHold_0 rfl (sn_iload_n dX10_doesHold_1 rfl (sn_iconst dX10_doesHold_2 (by decide) (sn_cv w_1234 w_1236 w_24 w_66 rfl nm_X10_of dX10_doesHold_3 (sn_istore_n dX10_doesHold_6 rfl (Nat.le_of_ble_eq_true rfl) (sn_aload_n dX10_doesHold_7 rfl (sn_iload_n dX10_doesHold_8 rfl (sn_iconst dX10_doesHold_9 (by decide) (sn_cv w_1234 w_1236 w_24 w_66 rfl nm_X10_of dX10_doesHold_10 (sn_istore_n dX10_doesHold_13 rfl (Nat.le_of_ble_eq_true rfl) (sn_aload_n dX10_doesHold_14 rfl (sn_iload_n dX10_doesHold_15 rfl (sn_cv w_1243 w_1245 w_26 w_66 rfl nm_X10_squareOf dX10_doesHold_16 (sn_iload_n dX10_doesHold_19 rfl (sn_icmp_ne (tgt := 27) dX10_doesHold_20 (by decide) (sn_iconst dX10_doesHold_27 (by decide) b_X10_doesHold_28) (sn_iconst dX10_doesHold_23 (by decide) (sn_goto (tgt := 28) dX10_doesHold_24 (by decide) (b_X10_doesHold_28)))))))))))))))))
theorem m_X10_doesHold {E : mh_E} {d mc ms : Nat} {args : List Value} {h : mh_H} {Post : Option Value → mh_H → Prop} (lv : List (Option Value)) (hl : lv_args 0 args = mh_al 0 lv) (hs : (lg_sl args).length ≤ 6) (hG : q_X10_doesHold_0 (x_X10_doesHold E d mc ms Post) lv [] h 0 0) : mh_M E d mc ms yX10_doesHold args h Post := mh_M.of w_1242 (by decide) (by decide) hl hs (b_X10_doesHold_0 _ _ _ _ _ hG)
theorem dX10_keepsOf_0 : decode cX10_keepsOf 0 = .ok (.aload_n 0, 1) := by decide +kernel
theorem dX10_keepsOf_1 : decode cX10_keepsOf 1 = .ok (.iconst 0, 1) := by decide +kernel
theorem dX10_keepsOf_2 : decode cX10_keepsOf 2 = .ok (.invokevirtual 112, 3) := by decide +kernel
theorem dX10_keepsOf_5 : decode cX10_keepsOf 5 = .ok (.istore_n 2, 1) := by decide +kernel
theorem dX10_keepsOf_6 : decode cX10_keepsOf 6 = .ok (.aload_n 0, 1) := by decide +kernel
theorem dX10_keepsOf_7 : decode cX10_keepsOf 7 = .ok (.getfield 49, 3) := by decide +kernel
theorem dX10_keepsOf_10 : decode cX10_keepsOf 10 = .ok (.iconst 0, 1) := by decide +kernel
theorem dX10_keepsOf_11 : decode cX10_keepsOf 11 = .ok (.aload_n 0, 1) := by decide +kernel
theorem dX10_keepsOf_12 : decode cX10_keepsOf 12 = .ok (.iload_n 1, 1) := by decide +kernel
theorem dX10_keepsOf_13 : decode cX10_keepsOf 13 = .ok (.iconst 3, 1) := by decide +kernel
theorem dX10_keepsOf_14 : decode cX10_keepsOf 14 = .ok (.invokevirtual 104, 3) := by decide +kernel
theorem dX10_keepsOf_17 : decode cX10_keepsOf 17 = .ok (.iastore, 1) := by decide +kernel
theorem dX10_keepsOf_18 : decode cX10_keepsOf 18 = .ok (.aload_n 0, 1) := by decide +kernel
theorem dX10_keepsOf_19 : decode cX10_keepsOf 19 = .ok (.getfield 49, 3) := by decide +kernel
theorem dX10_keepsOf_22 : decode cX10_keepsOf 22 = .ok (.iconst 1, 1) := by decide +kernel
theorem dX10_keepsOf_23 : decode cX10_keepsOf 23 = .ok (.aload_n 0, 1) := by decide +kernel
theorem dX10_keepsOf_24 : decode cX10_keepsOf 24 = .ok (.getfield 9, 3) := by decide +kernel
theorem dX10_keepsOf_27 : decode cX10_keepsOf 27 = .ok (.iconst 2, 1) := by decide +kernel
theorem dX10_keepsOf_28 : decode cX10_keepsOf 28 = .ok (.iaload, 1) := by decide +kernel
theorem dX10_keepsOf_29 : decode cX10_keepsOf 29 = .ok (.iastore, 1) := by decide +kernel
theorem dX10_keepsOf_30 : decode cX10_keepsOf 30 = .ok (.aload_n 0, 1) := by decide +kernel
theorem dX10_keepsOf_31 : decode cX10_keepsOf 31 = .ok (.getfield 49, 3) := by decide +kernel
theorem dX10_keepsOf_34 : decode cX10_keepsOf 34 = .ok (.iconst 2, 1) := by decide +kernel
theorem dX10_keepsOf_35 : decode cX10_keepsOf 35 = .ok (.aload_n 0, 1) := by decide +kernel
theorem dX10_keepsOf_36 : decode cX10_keepsOf 36 = .ok (.iload_n 1, 1) := by decide +kernel
theorem dX10_keepsOf_37 : decode cX10_keepsOf 37 = .ok (.iconst 4, 1) := by decide +kernel
theorem dX10_keepsOf_38 : decode cX10_keepsOf 38 = .ok (.invokevirtual 104, 3) := by decide +kernel
theorem dX10_keepsOf_41 : decode cX10_keepsOf 41 = .ok (.aload_n 0, 1) := by decide +kernel
theorem dX10_keepsOf_42 : decode cX10_keepsOf 42 = .ok (.getfield 9, 3) := by decide +kernel
theorem dX10_keepsOf_45 : decode cX10_keepsOf 45 = .ok (.iconst 2, 1) := by decide +kernel
theorem dX10_keepsOf_46 : decode cX10_keepsOf 46 = .ok (.iaload, 1) := by decide +kernel
theorem dX10_keepsOf_47 : decode cX10_keepsOf 47 = .ok (.isub, 1) := by decide +kernel
theorem dX10_keepsOf_48 : decode cX10_keepsOf 48 = .ok (.iconst 0, 1) := by decide +kernel
theorem dX10_keepsOf_49 : decode cX10_keepsOf 49 = .ok (.ldc 115, 2) := by decide +kernel
theorem dX10_keepsOf_51 : decode cX10_keepsOf 51 = .ok (.invokestatic 116, 3) := by decide +kernel
theorem dX10_keepsOf_54 : decode cX10_keepsOf 54 = .ok (.iastore, 1) := by decide +kernel
theorem dX10_keepsOf_55 : decode cX10_keepsOf 55 = .ok (.iload_n 2, 1) := by decide +kernel
theorem dX10_keepsOf_56 : decode cX10_keepsOf 56 = .ok (.ifCond .ge 7, 3) := by decide +kernel
theorem dX10_keepsOf_59 : decode cX10_keepsOf 59 = .ok (.iconst 1, 1) := by decide +kernel
theorem dX10_keepsOf_60 : decode cX10_keepsOf 60 = .ok (.goto 14, 3) := by decide +kernel
theorem dX10_keepsOf_63 : decode cX10_keepsOf 63 = .ok (.aload_n 0, 1) := by decide +kernel
theorem dX10_keepsOf_64 : decode cX10_keepsOf 64 = .ok (.iload_n 2, 1) := by decide +kernel
theorem dX10_keepsOf_65 : decode cX10_keepsOf 65 = .ok (.invokevirtual 119, 3) := by decide +kernel
theorem dX10_keepsOf_68 : decode cX10_keepsOf 68 = .ok (.iconst 0, 1) := by decide +kernel
theorem dX10_keepsOf_69 : decode cX10_keepsOf 69 = .ok (.bipush 99, 2) := by decide +kernel
theorem dX10_keepsOf_71 : decode cX10_keepsOf 71 = .ok (.invokestatic 116, 3) := by decide +kernel
theorem dX10_keepsOf_74 : decode cX10_keepsOf 74 = .ok (.istore_n 3, 1) := by decide +kernel
theorem dX10_keepsOf_75 : decode cX10_keepsOf 75 = .ok (.aload_n 0, 1) := by decide +kernel
theorem dX10_keepsOf_76 : decode cX10_keepsOf 76 = .ok (.iload_n 1, 1) := by decide +kernel
theorem dX10_keepsOf_77 : decode cX10_keepsOf 77 = .ok (.iconst 0, 1) := by decide +kernel
theorem dX10_keepsOf_78 : decode cX10_keepsOf 78 = .ok (.invokevirtual 104, 3) := by decide +kernel
theorem dX10_keepsOf_81 : decode cX10_keepsOf 81 = .ok (.tableswitch 57 1 5 #[35, 39, 43, 49, 55], 35) := by decide +kernel
theorem dX10_keepsOf_116 : decode cX10_keepsOf 116 = .ok (.iload_n 3, 1) := by decide +kernel
theorem dX10_keepsOf_117 : decode cX10_keepsOf 117 = .ok (.iconst 2, 1) := by decide +kernel
theorem dX10_keepsOf_118 : decode cX10_keepsOf 118 = .ok (.idiv, 1) := by decide +kernel
theorem dX10_keepsOf_119 : decode cX10_keepsOf 119 = .ok (.ireturn, 1) := by decide +kernel
theorem dX10_keepsOf_120 : decode cX10_keepsOf 120 = .ok (.iconst 2, 1) := by decide +kernel
theorem dX10_keepsOf_121 : decode cX10_keepsOf 121 = .ok (.iload_n 3, 1) := by decide +kernel
theorem dX10_keepsOf_122 : decode cX10_keepsOf 122 = .ok (.imul, 1) := by decide +kernel
theorem dX10_keepsOf_123 : decode cX10_keepsOf 123 = .ok (.ireturn, 1) := by decide +kernel
theorem dX10_keepsOf_124 : decode cX10_keepsOf 124 = .ok (.iload_n 3, 1) := by decide +kernel
theorem dX10_keepsOf_125 : decode cX10_keepsOf 125 = .ok (.iconst 2, 1) := by decide +kernel
theorem dX10_keepsOf_126 : decode cX10_keepsOf 126 = .ok (.idiv, 1) := by decide +kernel
theorem dX10_keepsOf_127 : decode cX10_keepsOf 127 = .ok (.iconst 1, 1) := by decide +kernel
theorem dX10_keepsOf_128 : decode cX10_keepsOf 128 = .ok (.iadd, 1) := by decide +kernel
theorem dX10_keepsOf_129 : decode cX10_keepsOf 129 = .ok (.ireturn, 1) := by decide +kernel
theorem dX10_keepsOf_130 : decode cX10_keepsOf 130 = .ok (.iconst 2, 1) := by decide +kernel
theorem dX10_keepsOf_131 : decode cX10_keepsOf 131 = .ok (.iload_n 3, 1) := by decide +kernel
theorem dX10_keepsOf_132 : decode cX10_keepsOf 132 = .ok (.imul, 1) := by decide +kernel
theorem dX10_keepsOf_133 : decode cX10_keepsOf 133 = .ok (.iconst 3, 1) := by decide +kernel
theorem dX10_keepsOf_134 : decode cX10_keepsOf 134 = .ok (.iadd, 1) := by decide +kernel
theorem dX10_keepsOf_135 : decode cX10_keepsOf 135 = .ok (.ireturn, 1) := by decide +kernel
theorem dX10_keepsOf_136 : decode cX10_keepsOf 136 = .ok (.iconst 0, 1) := by decide +kernel
theorem dX10_keepsOf_137 : decode cX10_keepsOf 137 = .ok (.ireturn, 1) := by decide +kernel
theorem dX10_keepsOf_138 : decode cX10_keepsOf 138 = .ok (.iload_n 3, 1) := by decide +kernel
theorem dX10_keepsOf_139 : decode cX10_keepsOf 139 = .ok (.ireturn, 1) := by decide +kernel
abbrev x_X10_keepsOf (E : mh_E) (d mc ms : Nat) (Post : Option Value → mh_H → Prop) : mh_X := (E, yX10_keepsOf, cX10_keepsOf, 4, (some .int), d, mc, ms, Post)
def q_X10_keepsOf_74 (X : mh_X) : mh_PR := s_is 3 (s_al 0 (s_il 1 (s_push (.int (0)) (s_cv X yX10_of 10 2 (s_sw [((1 : Int32), s_il 3 (s_push (.int (2)) (s_div (fun x y => x / y) (s_iret X)))), ((2 : Int32), s_push (.int (2)) (s_il 3 (s_bin (fun x y => x * y) (s_iret X)))), ((3 : Int32), s_il 3 (s_push (.int (2)) (s_div (fun x y => x / y) (s_push (.int (1)) (s_bin (fun x y => x + y) (s_iret X)))))), ((4 : Int32), s_push (.int (2)) (s_il 3 (s_bin (fun x y => x * y) (s_push (.int (3)) (s_bin (fun x y => x + y) (s_iret X)))))), ((5 : Int32), s_push (.int (0)) (s_iret X))] (s_il 3 (s_iret X)))))))
theorem b_X10_keepsOf_74 {E : mh_E} {d mc ms : Nat} {Post : Option Value → mh_H → Prop} : mh_S (x_X10_keepsOf E d mc ms Post) 74 (q_X10_keepsOf_74 (x_X10_keepsOf E d mc ms Post)) := sn_istore_n dX10_keepsOf_74 rfl (Nat.le_of_ble_eq_true rfl) (sn_aload_n dX10_keepsOf_75 rfl (sn_iload_n dX10_keepsOf_76 rfl (sn_iconst dX10_keepsOf_77 (by decide) (sn_cv w_1234 w_1236 w_24 w_66 rfl nm_X10_of dX10_keepsOf_78 (sn_table (tgt := 138) (ts := [(1, 35, 116), (2, 39, 120), (3, 43, 124), (4, 49, 130), (5, 55, 136)]) dX10_keepsOf_81 (by decide +kernel) (by decide +kernel) (sw_cons (sn_iload_n dX10_keepsOf_116 rfl (sn_iconst dX10_keepsOf_117 (by decide) (sn_idiv dX10_keepsOf_118 (sn_iret rfl dX10_keepsOf_119)))) (sw_cons (sn_iconst dX10_keepsOf_120 (by decide) (sn_iload_n dX10_keepsOf_121 rfl (sn_imul dX10_keepsOf_122 (sn_iret rfl dX10_keepsOf_123)))) (sw_cons (sn_iload_n dX10_keepsOf_124 rfl (sn_iconst dX10_keepsOf_125 (by decide) (sn_idiv dX10_keepsOf_126 (sn_iconst dX10_keepsOf_127 (by decide) (sn_iadd dX10_keepsOf_128 (sn_iret rfl dX10_keepsOf_129)))))) (sw_cons (sn_iconst dX10_keepsOf_130 (by decide) (sn_iload_n dX10_keepsOf_131 rfl (sn_imul dX10_keepsOf_132 (sn_iconst dX10_keepsOf_133 (by decide) (sn_iadd dX10_keepsOf_134 (sn_iret rfl dX10_keepsOf_135)))))) (sw_cons (sn_iconst dX10_keepsOf_136 (by decide) (sn_iret rfl dX10_keepsOf_137)) sw_nil))))) (by decide) (sn_iload_n dX10_keepsOf_138 rfl (sn_iret rfl dX10_keepsOf_139)))))))
def q_X10_keepsOf_0 (X : mh_X) : mh_PR := s_al 0 (s_push (.int (0)) (s_cv X yX10_counts 10 1 (s_is 2 (s_al 0 (s_gr 10 23 (s_push (.int (0)) (s_al 0 (s_il 1 (s_push (.int (3)) (s_cv X yX10_of 10 2 (s_ast 0 (fun x => x) (s_al 0 (s_gr 10 23 (s_push (.int (1)) (s_al 0 (s_gr 10 0 (s_push (.int (2)) (s_ald 0 (s_ast 0 (fun x => x) (s_al 0 (s_gr 10 23 (s_push (.int (2)) (s_al 0 (s_il 1 (s_push (.int (4)) (s_cv X yX10_of 10 2 (s_al 0 (s_gr 10 0 (s_push (.int (2)) (s_ald 0 (s_bin (fun x y => x - y) (s_push (.int (0)) (s_push (.int (99999)) (s_cs X yX10_within 3 (s_ast 0 (fun x => x) (s_il 2 (s_if1 (fun x => 0 ≤ x) (s_al 0 (s_il 2 (s_cv X yX10_worksOut 10 1 (s_push (.int (0)) (s_push (.int (99)) (s_cs X yX10_within 3 (q_X10_keepsOf_74 X))))))) (s_push (.int (1)) (q_X10_keepsOf_74 X)))))))))))))))))))))))))))))))))))))))
theorem b_X10_keepsOf_0 {E : mh_E} {d mc ms : Nat} {Post : Option Value → mh_H → Prop} : mh_S (x_X10_keepsOf E d mc ms Post) 0 (q_X10_keepsOf_0 (x_X10_keepsOf E d mc ms Post)) := sn_aload_n dX10_keepsOf_0 rfl (sn_iconst dX10_keepsOf_1 (by decide) (sn_cv w_1259 w_1261 w_30 w_66 rfl nm_X10_counts dX10_keepsOf_2 (sn_istore_n dX10_keepsOf_5 rfl (Nat.le_of_ble_eq_true rfl) (sn_aload_n dX10_keepsOf_6 rfl (sn_getr clX10 (by decide) w_1123 dX10_keepsOf_7 (sn_iconst dX10_keepsOf_10 (by decide) (sn_aload_n dX10_keepsOf_11 rfl (sn_iload_n dX10_keepsOf_12 rfl (sn_iconst dX10_keepsOf_13 (by decide) (sn_cv w_1234 w_1236 w_24 w_66 rfl nm_X10_of dX10_keepsOf_14 (sn_iastore dX10_keepsOf_17 (sn_aload_n dX10_keepsOf_18 rfl (sn_getr clX10 (by decide) w_1123 dX10_keepsOf_19 (sn_iconst dX10_keepsOf_22 (by decide) (sn_aload_n dX10_keepsOf_23 rfl (sn_getr clX10 (by decide) w_1100 dX10_keepsOf_24 (sn_iconst dX10_keepsOf_27 (by decide) (sn_iaload dX10_keepsOf_28 (sn_iastore dX10_keepsOf_29 (sn_aload_n dX10_keepsOf_30 rfl (sn_getr clX10 (by decide) w_1123 dX10_keepsOf_31 (sn_iconst dX10_keepsOf_34 (by decide) (sn_aload_n dX10_keepsOf_35 rfl (sn_iload_n dX10_keepsOf_36 rfl (sn_iconst dX10_keepsOf_37 (by decide) (sn_cv w_1234 w_1236 w_24 w_66 rfl nm_X10_of dX10_keepsOf_38 (sn_aload_n dX10_keepsOf_41 rfl (sn_getr clX10 (by decide) w_1100 dX10_keepsOf_42 (sn_iconst dX10_keepsOf_45 (by decide) (sn_iaload dX10_keepsOf_46 (sn_isub dX10_keepsOf_47 (sn_iconst dX10_keepsOf_48 (by decide) (sn_ldc dX10_keepsOf_49 w_1263 (sn_cs w_1264 w_1265 w_66 nm_X10_within dX10_keepsOf_51 (sn_iastore dX10_keepsOf_54 (sn_iload_n dX10_keepsOf_55 rfl (sn_if_ge (tgt := 63) dX10_keepsOf_56 (by decide) (sn_aload_n dX10_keepsOf_63 rfl (sn_iload_n dX10_keepsOf_64 rfl (sn_cv w_1267 w_1269 w_31 w_66 rfl nm_X10_worksOut dX10_keepsOf_65 (sn_iconst dX10_keepsOf_68 (by decide) (sn_bipush dX10_keepsOf_69 (by decide) (sn_cs w_1264 w_1265 w_66 nm_X10_within dX10_keepsOf_71 b_X10_keepsOf_74)))))) (sn_iconst dX10_keepsOf_59 (by decide) (sn_goto (tgt := 74) dX10_keepsOf_60 (by decide) (b_X10_keepsOf_74))))))))))))))))))))))))))))))))))))))))
theorem m_X10_keepsOf {E : mh_E} {d mc ms : Nat} {args : List Value} {h : mh_H} {Post : Option Value → mh_H → Prop} (lv : List (Option Value)) (hl : lv_args 0 args = mh_al 0 lv) (hs : (lg_sl args).length ≤ 4) (hG : q_X10_keepsOf_0 (x_X10_keepsOf E d mc ms Post) lv [] h 0 0) : mh_M E d mc ms yX10_keepsOf args h Post := mh_M.of w_1258 (by decide) (by decide) hl hs (b_X10_keepsOf_0 _ _ _ _ _ hG)
theorem dX10_isUnder_0 : decode cX10_isUnder 0 = .ok (.iload_n 1, 1) := by decide +kernel
theorem dX10_isUnder_1 : decode cX10_isUnder 1 = .ok (.ifCond .eq 28, 3) := by decide +kernel
theorem dX10_isUnder_4 : decode cX10_isUnder 4 = .ok (.iload_n 0, 1) := by decide +kernel
theorem dX10_isUnder_5 : decode cX10_isUnder 5 = .ok (.iload_n 1, 1) := by decide +kernel
theorem dX10_isUnder_6 : decode cX10_isUnder 6 = .ok (.if_icmp .eq 23, 3) := by decide +kernel
theorem dX10_isUnder_9 : decode cX10_isUnder 9 = .ok (.iload_n 1, 1) := by decide +kernel
theorem dX10_isUnder_10 : decode cX10_isUnder 10 = .ok (.iconst 1, 1) := by decide +kernel
theorem dX10_isUnder_11 : decode cX10_isUnder 11 = .ok (.if_icmp .ne 8, 3) := by decide +kernel
theorem dX10_isUnder_14 : decode cX10_isUnder 14 = .ok (.iload_n 0, 1) := by decide +kernel
theorem dX10_isUnder_15 : decode cX10_isUnder 15 = .ok (.iconst 3, 1) := by decide +kernel
theorem dX10_isUnder_16 : decode cX10_isUnder 16 = .ok (.if_icmp .eq 13, 3) := by decide +kernel
theorem dX10_isUnder_19 : decode cX10_isUnder 19 = .ok (.iload_n 1, 1) := by decide +kernel
theorem dX10_isUnder_20 : decode cX10_isUnder 20 = .ok (.iconst 2, 1) := by decide +kernel
theorem dX10_isUnder_21 : decode cX10_isUnder 21 = .ok (.if_icmp .ne 12, 3) := by decide +kernel
theorem dX10_isUnder_24 : decode cX10_isUnder 24 = .ok (.iload_n 0, 1) := by decide +kernel
theorem dX10_isUnder_25 : decode cX10_isUnder 25 = .ok (.iconst 4, 1) := by decide +kernel
theorem dX10_isUnder_26 : decode cX10_isUnder 26 = .ok (.if_icmp .ne 7, 3) := by decide +kernel
theorem dX10_isUnder_29 : decode cX10_isUnder 29 = .ok (.iconst 1, 1) := by decide +kernel
theorem dX10_isUnder_30 : decode cX10_isUnder 30 = .ok (.goto 4, 3) := by decide +kernel
theorem dX10_isUnder_33 : decode cX10_isUnder 33 = .ok (.iconst 0, 1) := by decide +kernel
theorem dX10_isUnder_34 : decode cX10_isUnder 34 = .ok (.ireturn, 1) := by decide +kernel
abbrev x_X10_isUnder (E : mh_E) (d mc ms : Nat) (Post : Option Value → mh_H → Prop) : mh_X := (E, yX10_isUnder, cX10_isUnder, 2, (some .boolean), d, mc, ms, Post)
def q_X10_isUnder_34 (X : mh_X) : mh_PR := s_zret X
theorem b_X10_isUnder_34 {E : mh_E} {d mc ms : Nat} {Post : Option Value → mh_H → Prop} : mh_S (x_X10_isUnder E d mc ms Post) 34 (q_X10_isUnder_34 (x_X10_isUnder E d mc ms Post)) := sn_zret rfl dX10_isUnder_34
def q_X10_isUnder_33 (X : mh_X) : mh_PR := s_push (.int (0)) (q_X10_isUnder_34 X)
theorem b_X10_isUnder_33 {E : mh_E} {d mc ms : Nat} {Post : Option Value → mh_H → Prop} : mh_S (x_X10_isUnder E d mc ms Post) 33 (q_X10_isUnder_33 (x_X10_isUnder E d mc ms Post)) := sn_iconst dX10_isUnder_33 (by decide) b_X10_isUnder_34
def q_X10_isUnder_29 (X : mh_X) : mh_PR := s_push (.int (1)) (q_X10_isUnder_34 X)
theorem b_X10_isUnder_29 {E : mh_E} {d mc ms : Nat} {Post : Option Value → mh_H → Prop} : mh_S (x_X10_isUnder E d mc ms Post) 29 (q_X10_isUnder_29 (x_X10_isUnder E d mc ms Post)) := sn_iconst dX10_isUnder_29 (by decide) (sn_goto (tgt := 34) dX10_isUnder_30 (by decide) (b_X10_isUnder_34))
def q_X10_isUnder_19 (X : mh_X) : mh_PR := s_il 1 (s_push (.int (2)) (s_if2 (fun x y => ¬ x = y) (q_X10_isUnder_33 X) (s_il 0 (s_push (.int (4)) (s_if2 (fun x y => ¬ x = y) (q_X10_isUnder_33 X) (q_X10_isUnder_29 X))))))
theorem b_X10_isUnder_19 {E : mh_E} {d mc ms : Nat} {Post : Option Value → mh_H → Prop} : mh_S (x_X10_isUnder E d mc ms Post) 19 (q_X10_isUnder_19 (x_X10_isUnder E d mc ms Post)) := sn_iload_n dX10_isUnder_19 rfl (sn_iconst dX10_isUnder_20 (by decide) (sn_icmp_ne (tgt := 33) dX10_isUnder_21 (by decide) (b_X10_isUnder_33) (sn_iload_n dX10_isUnder_24 rfl (sn_iconst dX10_isUnder_25 (by decide) (sn_icmp_ne (tgt := 33) dX10_isUnder_26 (by decide) (b_X10_isUnder_33) (b_X10_isUnder_29))))))
def q_X10_isUnder_0 (X : mh_X) : mh_PR := s_il 1 (s_if1 (fun x => x = 0) (q_X10_isUnder_29 X) (s_il 0 (s_il 1 (s_if2 (fun x y => x = y) (q_X10_isUnder_29 X) (s_il 1 (s_push (.int (1)) (s_if2 (fun x y => ¬ x = y) (q_X10_isUnder_19 X) (s_il 0 (s_push (.int (3)) (s_if2 (fun x y => x = y) (q_X10_isUnder_29 X) (q_X10_isUnder_19 X)))))))))))
theorem b_X10_isUnder_0 {E : mh_E} {d mc ms : Nat} {Post : Option Value → mh_H → Prop} : mh_S (x_X10_isUnder E d mc ms Post) 0 (q_X10_isUnder_0 (x_X10_isUnder E d mc ms Post)) := sn_iload_n dX10_isUnder_0 rfl (sn_if_eq (tgt := 29) dX10_isUnder_1 (by decide) (b_X10_isUnder_29) (sn_iload_n dX10_isUnder_4 rfl (sn_iload_n dX10_isUnder_5 rfl (sn_icmp_eq (tgt := 29) dX10_isUnder_6 (by decide) (b_X10_isUnder_29) (sn_iload_n dX10_isUnder_9 rfl (sn_iconst dX10_isUnder_10 (by decide) (sn_icmp_ne (tgt := 19) dX10_isUnder_11 (by decide) (b_X10_isUnder_19) (sn_iload_n dX10_isUnder_14 rfl (sn_iconst dX10_isUnder_15 (by decide) (sn_icmp_eq (tgt := 29) dX10_isUnder_16 (by decide) (b_X10_isUnder_29) (b_X10_isUnder_19)))))))))))
theorem m_X10_isUnder {E : mh_E} {d mc ms : Nat} {args : List Value} {h : mh_H} {Post : Option Value → mh_H → Prop} (lv : List (Option Value)) (hl : lv_args 0 args = mh_al 0 lv) (hs : (lg_sl args).length ≤ 2) (hG : q_X10_isUnder_0 (x_X10_isUnder E d mc ms Post) lv [] h 0 0) : mh_M E d mc ms yX10_isUnder args h Post := mh_M.of w_1284 (by decide) (by decide) hl hs (b_X10_isUnder_0 _ _ _ _ _ hG)
theorem dX10_as_0 : decode cX10_as 0 = .ok (.aload_n 0, 1) := by decide +kernel
theorem dX10_as_1 : decode cX10_as 1 = .ok (.iload_n 1, 1) := by decide +kernel
theorem dX10_as_2 : decode cX10_as 2 = .ok (.invokevirtual 122, 3) := by decide +kernel
theorem dX10_as_5 : decode cX10_as 5 = .ok (.ifCond .eq 12, 3) := by decide +kernel
theorem dX10_as_8 : decode cX10_as 8 = .ok (.iload_n 2, 1) := by decide +kernel
theorem dX10_as_9 : decode cX10_as 9 = .ok (.iconst 0, 1) := by decide +kernel
theorem dX10_as_10 : decode cX10_as 10 = .ok (.iconst 5, 1) := by decide +kernel
theorem dX10_as_11 : decode cX10_as 11 = .ok (.invokestatic 79, 3) := by decide +kernel
theorem dX10_as_14 : decode cX10_as 14 = .ok (.ifCond .ne 6, 3) := by decide +kernel
theorem dX10_as_17 : decode cX10_as 17 = .ok (.ldc 91, 2) := by decide +kernel
theorem dX10_as_19 : decode cX10_as 19 = .ok (.ireturn, 1) := by decide +kernel
theorem dX10_as_20 : decode cX10_as 20 = .ok (.aload_n 0, 1) := by decide +kernel
theorem dX10_as_21 : decode cX10_as 21 = .ok (.iload_n 1, 1) := by decide +kernel
theorem dX10_as_22 : decode cX10_as 22 = .ok (.iconst 0, 1) := by decide +kernel
theorem dX10_as_23 : decode cX10_as 23 = .ok (.invokevirtual 104, 3) := by decide +kernel
theorem dX10_as_26 : decode cX10_as 26 = .ok (.iload_n 2, 1) := by decide +kernel
theorem dX10_as_27 : decode cX10_as 27 = .ok (.invokestatic 136, 3) := by decide +kernel
theorem dX10_as_30 : decode cX10_as 30 = .ok (.ifCond .eq 12, 3) := by decide +kernel
theorem dX10_as_33 : decode cX10_as 33 = .ok (.aload_n 0, 1) := by decide +kernel
theorem dX10_as_34 : decode cX10_as 34 = .ok (.iload_n 1, 1) := by decide +kernel
theorem dX10_as_35 : decode cX10_as 35 = .ok (.iconst 3, 1) := by decide +kernel
theorem dX10_as_36 : decode cX10_as 36 = .ok (.invokevirtual 104, 3) := by decide +kernel
theorem dX10_as_39 : decode cX10_as 39 = .ok (.goto 5, 3) := by decide +kernel
theorem dX10_as_42 : decode cX10_as 42 = .ok (.ldc 139, 2) := by decide +kernel
theorem dX10_as_44 : decode cX10_as 44 = .ok (.ireturn, 1) := by decide +kernel
abbrev x_X10_as (E : mh_E) (d mc ms : Nat) (Post : Option Value → mh_H → Prop) : mh_X := (E, yX10_as, cX10_as, 3, (some .int), d, mc, ms, Post)
def q_X10_as_44 (X : mh_X) : mh_PR := s_iret X
theorem b_X10_as_44 {E : mh_E} {d mc ms : Nat} {Post : Option Value → mh_H → Prop} : mh_S (x_X10_as E d mc ms Post) 44 (q_X10_as_44 (x_X10_as E d mc ms Post)) := sn_iret rfl dX10_as_44
def q_X10_as_17 (X : mh_X) : mh_PR := s_push (.int (-1000000001)) (s_iret X)
theorem b_X10_as_17 {E : mh_E} {d mc ms : Nat} {Post : Option Value → mh_H → Prop} : mh_S (x_X10_as E d mc ms Post) 17 (q_X10_as_17 (x_X10_as E d mc ms Post)) := sn_ldc dX10_as_17 w_1216 (sn_iret rfl dX10_as_19)
def q_X10_as_0 (X : mh_X) : mh_PR := s_al 0 (s_il 1 (s_cv X yX10_isStone 10 1 (s_if1 (fun x => x = 0) (q_X10_as_17 X) (s_il 2 (s_push (.int (0)) (s_push (.int (5)) (s_cs X yX10_in 3 (s_if1 (fun x => ¬ x = 0) (s_al 0 (s_il 1 (s_push (.int (0)) (s_cv X yX10_of 10 2 (s_il 2 (s_cs X yX10_isUnder 2 (s_if1 (fun x => x = 0) (s_push (.int (-1000000012)) (q_X10_as_44 X)) (s_al 0 (s_il 1 (s_push (.int (3)) (s_cv X yX10_of 10 2 (q_X10_as_44 X)))))))))))) (q_X10_as_17 X)))))))))
theorem b_X10_as_0 {E : mh_E} {d mc ms : Nat} {Post : Option Value → mh_H → Prop} : mh_S (x_X10_as E d mc ms Post) 0 (q_X10_as_0 (x_X10_as E d mc ms Post)) := sn_aload_n dX10_as_0 rfl (sn_iload_n dX10_as_1 rfl (sn_cv w_1230 w_1232 w_23 w_66 rfl nm_X10_isStone dX10_as_2 (sn_if_eq (tgt := 17) dX10_as_5 (by decide) (b_X10_as_17) (sn_iload_n dX10_as_8 rfl (sn_iconst dX10_as_9 (by decide) (sn_iconst dX10_as_10 (by decide) (sn_cs w_1210 w_1211 w_66 nm_X10_in dX10_as_11 (sn_if_ne (tgt := 20) dX10_as_14 (by decide) (sn_aload_n dX10_as_20 rfl (sn_iload_n dX10_as_21 rfl (sn_iconst dX10_as_22 (by decide) (sn_cv w_1234 w_1236 w_24 w_66 rfl nm_X10_of dX10_as_23 (sn_iload_n dX10_as_26 rfl (sn_cs w_1282 w_1283 w_66 nm_X10_isUnder dX10_as_27 (sn_if_eq (tgt := 42) dX10_as_30 (by decide) (sn_ldc dX10_as_42 w_1285 b_X10_as_44) (sn_aload_n dX10_as_33 rfl (sn_iload_n dX10_as_34 rfl (sn_iconst dX10_as_35 (by decide) (sn_cv w_1234 w_1236 w_24 w_66 rfl nm_X10_of dX10_as_36 (sn_goto (tgt := 44) dX10_as_39 (by decide) (b_X10_as_44))))))))))))) (b_X10_as_17)))))))))
theorem m_X10_as {E : mh_E} {d mc ms : Nat} {args : List Value} {h : mh_H} {Post : Option Value → mh_H → Prop} (lv : List (Option Value)) (hl : lv_args 0 args = mh_al 0 lv) (hs : (lg_sl args).length ≤ 3) (hG : q_X10_as_0 (x_X10_as E d mc ms Post) lv [] h 0 0) : mh_M E d mc ms yX10_as args h Post := mh_M.of w_1281 (by decide) (by decide) hl hs (b_X10_as_0 _ _ _ _ _ hG)
theorem dX10_at_0 : decode cX10_at 0 = .ok (.iload_n 1, 1) := by decide +kernel
theorem dX10_at_1 : decode cX10_at 1 = .ok (.iconst 0, 1) := by decide +kernel
theorem dX10_at_2 : decode cX10_at 2 = .ok (.iconst 3, 1) := by decide +kernel
theorem dX10_at_3 : decode cX10_at 3 = .ok (.invokestatic 79, 3) := by decide +kernel
theorem dX10_at_6 : decode cX10_at 6 = .ok (.ifCond .ne 6, 3) := by decide +kernel
theorem dX10_at_9 : decode cX10_at 9 = .ok (.ldc 91, 2) := by decide +kernel
theorem dX10_at_11 : decode cX10_at 11 = .ok (.ireturn, 1) := by decide +kernel
theorem dX10_at_12 : decode cX10_at 12 = .ok (.iconst 0, 1) := by decide +kernel
theorem dX10_at_13 : decode cX10_at 13 = .ok (.istore_n 2, 1) := by decide +kernel
theorem dX10_at_14 : decode cX10_at 14 = .ok (.iconst 0, 1) := by decide +kernel
theorem dX10_at_15 : decode cX10_at 15 = .ok (.istore_n 3, 1) := by decide +kernel
theorem dX10_at_16 : decode cX10_at 16 = .ok (.iload_n 3, 1) := by decide +kernel
theorem dX10_at_17 : decode cX10_at 17 = .ok (.bipush 6, 2) := by decide +kernel
theorem dX10_at_19 : decode cX10_at 19 = .ok (.if_icmp .ge 28, 3) := by decide +kernel
theorem dX10_at_22 : decode cX10_at 22 = .ok (.iload_n 2, 1) := by decide +kernel
theorem dX10_at_23 : decode cX10_at 23 = .ok (.aload_n 0, 1) := by decide +kernel
theorem dX10_at_24 : decode cX10_at 24 = .ok (.iload_n 3, 1) := by decide +kernel
theorem dX10_at_25 : decode cX10_at 25 = .ok (.invokevirtual 97, 3) := by decide +kernel
theorem dX10_at_28 : decode cX10_at 28 = .ok (.iload_n 1, 1) := by decide +kernel
theorem dX10_at_29 : decode cX10_at 29 = .ok (.if_icmp .ne 9, 3) := by decide +kernel
theorem dX10_at_32 : decode cX10_at 32 = .ok (.iconst 1, 1) := by decide +kernel
theorem dX10_at_33 : decode cX10_at 33 = .ok (.iload_n 3, 1) := by decide +kernel
theorem dX10_at_34 : decode cX10_at 34 = .ok (.ishl, 1) := by decide +kernel
theorem dX10_at_35 : decode cX10_at 35 = .ok (.goto 4, 3) := by decide +kernel
theorem dX10_at_38 : decode cX10_at 38 = .ok (.iconst 0, 1) := by decide +kernel
theorem dX10_at_39 : decode cX10_at 39 = .ok (.ior, 1) := by decide +kernel
theorem dX10_at_40 : decode cX10_at 40 = .ok (.istore_n 2, 1) := by decide +kernel
theorem dX10_at_41 : decode cX10_at 41 = .ok (.iinc 3 1, 3) := by decide +kernel
theorem dX10_at_44 : decode cX10_at 44 = .ok (.goto (-28), 3) := by decide +kernel
theorem dX10_at_47 : decode cX10_at 47 = .ok (.iload_n 2, 1) := by decide +kernel
theorem dX10_at_48 : decode cX10_at 48 = .ok (.ireturn, 1) := by decide +kernel
abbrev x_X10_at (E : mh_E) (d mc ms : Nat) (Post : Option Value → mh_H → Prop) : mh_X := (E, yX10_at, cX10_at, 4, (some .int), d, mc, ms, Post)
def q_X10_at_39 (X : mh_X) : mh_PR := s_bin (fun x y => x ||| y) (s_is 2 (s_inc 3 (1) (mh_G X 16)))
theorem b_X10_at_39 {E : mh_E} {d mc ms : Nat} {Post : Option Value → mh_H → Prop} : mh_S (x_X10_at E d mc ms Post) 39 (q_X10_at_39 (x_X10_at E d mc ms Post)) := sn_ior dX10_at_39 (sn_istore_n dX10_at_40 rfl (Nat.le_of_ble_eq_true rfl) (sn_iinc dX10_at_41 (by decide) (Nat.le_of_ble_eq_true rfl) (sn_goto (tgt := 16) dX10_at_44 (by decide) (mh_S.G))))
def q_X10_at_16 (X : mh_X) : mh_PR := s_il 3 (s_push (.int (6)) (s_if2 (fun x y => y ≤ x) (s_il 2 (s_iret X)) (s_il 2 (s_al 0 (s_il 3 (s_cv X yX10_squareOf 10 1 (s_il 1 (s_if2 (fun x y => ¬ x = y) (s_push (.int (0)) (q_X10_at_39 X)) (s_push (.int (1)) (s_il 3 (s_bin mh_shl (q_X10_at_39 X))))))))))))
theorem b_X10_at_16 {E : mh_E} {d mc ms : Nat} {Post : Option Value → mh_H → Prop} : mh_S (x_X10_at E d mc ms Post) 16 (q_X10_at_16 (x_X10_at E d mc ms Post)) := sn_iload_n dX10_at_16 rfl (sn_bipush dX10_at_17 (by decide) (sn_icmp_ge (tgt := 47) dX10_at_19 (by decide) (sn_iload_n dX10_at_47 rfl (sn_iret rfl dX10_at_48)) (sn_iload_n dX10_at_22 rfl (sn_aload_n dX10_at_23 rfl (sn_iload_n dX10_at_24 rfl (sn_cv w_1243 w_1245 w_26 w_66 rfl nm_X10_squareOf dX10_at_25 (sn_iload_n dX10_at_28 rfl (sn_icmp_ne (tgt := 38) dX10_at_29 (by decide) (sn_iconst dX10_at_38 (by decide) b_X10_at_39) (sn_iconst dX10_at_32 (by decide) (sn_iload_n dX10_at_33 rfl (sn_ishl dX10_at_34 (sn_goto (tgt := 39) dX10_at_35 (by decide) (b_X10_at_39)))))))))))))
def q_X10_at_0 (X : mh_X) : mh_PR := s_il 1 (s_push (.int (0)) (s_push (.int (3)) (s_cs X yX10_in 3 (s_if1 (fun x => ¬ x = 0) (s_push (.int (0)) (s_is 2 (s_push (.int (0)) (s_is 3 (mh_G X 16))))) (s_push (.int (-1000000001)) (s_iret X))))))
theorem b_X10_at_0 {E : mh_E} {d mc ms : Nat} {Post : Option Value → mh_H → Prop} : mh_S (x_X10_at E d mc ms Post) 0 (q_X10_at_0 (x_X10_at E d mc ms Post)) := sn_iload_n dX10_at_0 rfl (sn_iconst dX10_at_1 (by decide) (sn_iconst dX10_at_2 (by decide) (sn_cs w_1210 w_1211 w_66 nm_X10_in dX10_at_3 (sn_if_ne (tgt := 12) dX10_at_6 (by decide) (sn_iconst dX10_at_12 (by decide) (sn_istore_n dX10_at_13 rfl (Nat.le_of_ble_eq_true rfl) (sn_iconst dX10_at_14 (by decide) (sn_istore_n dX10_at_15 rfl (Nat.le_of_ble_eq_true rfl) mh_S.G)))) (sn_ldc dX10_at_9 w_1216 (sn_iret rfl dX10_at_11))))))
theorem m_X10_at {E : mh_E} {d mc ms : Nat} {args : List Value} {h : mh_H} {Post : Option Value → mh_H → Prop} (lv : List (Option Value)) (hl : lv_args 0 args = mh_al 0 lv) (hs : (lg_sl args).length ≤ 4) (hG : q_X10_at_0 (x_X10_at E d mc ms Post) lv [] h 0 0) : mh_M E d mc ms yX10_at args h Post := mh_M.of w_1317 (by decide) (by decide) hl hs (b_X10_at_0 _ _ _ _ _ hG)
theorem dX10_draw_0 : decode cX10_draw 0 = .ok (.aload_n 0, 1) := by decide +kernel
theorem dX10_draw_1 : decode cX10_draw 1 = .ok (.getfield 9, 3) := by decide +kernel
theorem dX10_draw_4 : decode cX10_draw 4 = .ok (.iconst 0, 1) := by decide +kernel
theorem dX10_draw_5 : decode cX10_draw 5 = .ok (.aload_n 0, 1) := by decide +kernel
theorem dX10_draw_6 : decode cX10_draw 6 = .ok (.getfield 9, 3) := by decide +kernel
theorem dX10_draw_9 : decode cX10_draw 9 = .ok (.iconst 0, 1) := by decide +kernel
theorem dX10_draw_10 : decode cX10_draw 10 = .ok (.iaload, 1) := by decide +kernel
theorem dX10_draw_11 : decode cX10_draw 11 = .ok (.ldc 147, 2) := by decide +kernel
theorem dX10_draw_13 : decode cX10_draw 13 = .ok (.imul, 1) := by decide +kernel
theorem dX10_draw_14 : decode cX10_draw 14 = .ok (.sipush 12345, 3) := by decide +kernel
theorem dX10_draw_17 : decode cX10_draw 17 = .ok (.iadd, 1) := by decide +kernel
theorem dX10_draw_18 : decode cX10_draw 18 = .ok (.iastore, 1) := by decide +kernel
theorem dX10_draw_19 : decode cX10_draw 19 = .ok (.aload_n 0, 1) := by decide +kernel
theorem dX10_draw_20 : decode cX10_draw 20 = .ok (.getfield 9, 3) := by decide +kernel
theorem dX10_draw_23 : decode cX10_draw 23 = .ok (.iconst 0, 1) := by decide +kernel
theorem dX10_draw_24 : decode cX10_draw 24 = .ok (.iaload, 1) := by decide +kernel
theorem dX10_draw_25 : decode cX10_draw 25 = .ok (.bipush 8, 2) := by decide +kernel
theorem dX10_draw_27 : decode cX10_draw 27 = .ok (.iushr, 1) := by decide +kernel
theorem dX10_draw_28 : decode cX10_draw 28 = .ok (.ireturn, 1) := by decide +kernel
abbrev x_X10_draw (E : mh_E) (d mc ms : Nat) (Post : Option Value → mh_H → Prop) : mh_X := (E, yX10_draw, cX10_draw, 1, (some .int), d, mc, ms, Post)
def q_X10_draw_0 (X : mh_X) : mh_PR := s_al 0 (s_gr 10 0 (s_push (.int (0)) (s_al 0 (s_gr 10 0 (s_push (.int (0)) (s_ald 0 (s_push (.int (1103515245)) (s_bin (fun x y => x * y) (s_push (.int (12345)) (s_bin (fun x y => x + y) (s_ast 0 (fun x => x) (s_al 0 (s_gr 10 0 (s_push (.int (0)) (s_ald 0 (s_push (.int (8)) (s_bin mh_ush (s_iret X))))))))))))))))))
theorem b_X10_draw_0 {E : mh_E} {d mc ms : Nat} {Post : Option Value → mh_H → Prop} : mh_S (x_X10_draw E d mc ms Post) 0 (q_X10_draw_0 (x_X10_draw E d mc ms Post)) := sn_aload_n dX10_draw_0 rfl (sn_getr clX10 (by decide) w_1100 dX10_draw_1 (sn_iconst dX10_draw_4 (by decide) (sn_aload_n dX10_draw_5 rfl (sn_getr clX10 (by decide) w_1100 dX10_draw_6 (sn_iconst dX10_draw_9 (by decide) (sn_iaload dX10_draw_10 (sn_ldc dX10_draw_11 w_1330 (sn_imul dX10_draw_13 (sn_sipush dX10_draw_14 (by decide) (sn_iadd dX10_draw_17 (sn_iastore dX10_draw_18 (sn_aload_n dX10_draw_19 rfl (sn_getr clX10 (by decide) w_1100 dX10_draw_20 (sn_iconst dX10_draw_23 (by decide) (sn_iaload dX10_draw_24 (sn_bipush dX10_draw_25 (by decide) (sn_iushr dX10_draw_27 (sn_iret rfl dX10_draw_28))))))))))))))))))
theorem m_X10_draw {E : mh_E} {d mc ms : Nat} {args : List Value} {h : mh_H} {Post : Option Value → mh_H → Prop} (lv : List (Option Value)) (hl : lv_args 0 args = mh_al 0 lv) (hs : (lg_sl args).length ≤ 1) (hG : q_X10_draw_0 (x_X10_draw E d mc ms Post) lv [] h 0 0) : mh_M E d mc ms yX10_draw args h Post := mh_M.of w_1329 (by decide) (by decide) hl hs (b_X10_draw_0 _ _ _ _ _ hG)
theorem dX10_deal_0 : decode cX10_deal 0 = .ok (.iload_n 1, 1) := by decide +kernel
theorem dX10_deal_1 : decode cX10_deal 1 = .ok (.iconst 1, 1) := by decide +kernel
theorem dX10_deal_2 : decode cX10_deal 2 = .ok (.bipush 10, 2) := by decide +kernel
theorem dX10_deal_4 : decode cX10_deal 4 = .ok (.invokestatic 79, 3) := by decide +kernel
theorem dX10_deal_7 : decode cX10_deal 7 = .ok (.ifCond .ne 6, 3) := by decide +kernel
theorem dX10_deal_10 : decode cX10_deal 10 = .ok (.ldc 91, 2) := by decide +kernel
theorem dX10_deal_12 : decode cX10_deal 12 = .ok (.ireturn, 1) := by decide +kernel
theorem dX10_deal_13 : decode cX10_deal 13 = .ok (.iconst 0, 1) := by decide +kernel
theorem dX10_deal_14 : decode cX10_deal 14 = .ok (.istore_n 2, 1) := by decide +kernel
theorem dX10_deal_15 : decode cX10_deal 15 = .ok (.iload_n 2, 1) := by decide +kernel
theorem dX10_deal_16 : decode cX10_deal 16 = .ok (.iload_n 1, 1) := by decide +kernel
theorem dX10_deal_17 : decode cX10_deal 17 = .ok (.if_icmp .ge 88, 3) := by decide +kernel
theorem dX10_deal_20 : decode cX10_deal 20 = .ok (.aload_n 0, 1) := by decide +kernel
theorem dX10_deal_21 : decode cX10_deal 21 = .ok (.getfield 9, 3) := by decide +kernel
theorem dX10_deal_24 : decode cX10_deal 24 = .ok (.iconst 1, 1) := by decide +kernel
theorem dX10_deal_25 : decode cX10_deal 25 = .ok (.iaload, 1) := by decide +kernel
theorem dX10_deal_26 : decode cX10_deal 26 = .ok (.bipush 10, 2) := by decide +kernel
theorem dX10_deal_28 : decode cX10_deal 28 = .ok (.if_icmp .ge 77, 3) := by decide +kernel
theorem dX10_deal_31 : decode cX10_deal 31 = .ok (.aload_n 0, 1) := by decide +kernel
theorem dX10_deal_32 : decode cX10_deal 32 = .ok (.invokevirtual 148, 3) := by decide +kernel
theorem dX10_deal_35 : decode cX10_deal 35 = .ok (.bipush 6, 2) := by decide +kernel
theorem dX10_deal_37 : decode cX10_deal 37 = .ok (.irem, 1) := by decide +kernel
theorem dX10_deal_38 : decode cX10_deal 38 = .ok (.istore_n 3, 1) := by decide +kernel
theorem dX10_deal_39 : decode cX10_deal 39 = .ok (.aload_n 0, 1) := by decide +kernel
theorem dX10_deal_40 : decode cX10_deal 40 = .ok (.invokevirtual 148, 3) := by decide +kernel
theorem dX10_deal_43 : decode cX10_deal 43 = .ok (.bipush 6, 2) := by decide +kernel
theorem dX10_deal_45 : decode cX10_deal 45 = .ok (.irem, 1) := by decide +kernel
theorem dX10_deal_46 : decode cX10_deal 46 = .ok (.istore 4, 2) := by decide +kernel
theorem dX10_deal_48 : decode cX10_deal 48 = .ok (.aload_n 0, 1) := by decide +kernel
theorem dX10_deal_49 : decode cX10_deal 49 = .ok (.invokevirtual 148, 3) := by decide +kernel
theorem dX10_deal_52 : decode cX10_deal 52 = .ok (.iconst 4, 1) := by decide +kernel
theorem dX10_deal_53 : decode cX10_deal 53 = .ok (.irem, 1) := by decide +kernel
theorem dX10_deal_54 : decode cX10_deal 54 = .ok (.istore 5, 2) := by decide +kernel
theorem dX10_deal_56 : decode cX10_deal 56 = .ok (.aload_n 0, 1) := by decide +kernel
theorem dX10_deal_57 : decode cX10_deal 57 = .ok (.invokevirtual 148, 3) := by decide +kernel
theorem dX10_deal_60 : decode cX10_deal 60 = .ok (.bipush 10, 2) := by decide +kernel
theorem dX10_deal_62 : decode cX10_deal 62 = .ok (.irem, 1) := by decide +kernel
theorem dX10_deal_63 : decode cX10_deal 63 = .ok (.istore 6, 2) := by decide +kernel
theorem dX10_deal_65 : decode cX10_deal 65 = .ok (.aload_n 0, 1) := by decide +kernel
theorem dX10_deal_66 : decode cX10_deal 66 = .ok (.iload_n 3, 1) := by decide +kernel
theorem dX10_deal_67 : decode cX10_deal 67 = .ok (.iload 4, 2) := by decide +kernel
theorem dX10_deal_69 : decode cX10_deal 69 = .ok (.iload 5, 2) := by decide +kernel
theorem dX10_deal_71 : decode cX10_deal 71 = .ok (.iload 6, 2) := by decide +kernel
theorem dX10_deal_73 : decode cX10_deal 73 = .ok (.aload_n 0, 1) := by decide +kernel
theorem dX10_deal_74 : decode cX10_deal 74 = .ok (.getfield 9, 3) := by decide +kernel
theorem dX10_deal_77 : decode cX10_deal 77 = .ok (.iconst 2, 1) := by decide +kernel
theorem dX10_deal_78 : decode cX10_deal 78 = .ok (.iaload, 1) := by decide +kernel
theorem dX10_deal_79 : decode cX10_deal 79 = .ok (.aload_n 0, 1) := by decide +kernel
theorem dX10_deal_80 : decode cX10_deal 80 = .ok (.invokevirtual 148, 3) := by decide +kernel
theorem dX10_deal_83 : decode cX10_deal 83 = .ok (.bipush 60, 2) := by decide +kernel
theorem dX10_deal_85 : decode cX10_deal 85 = .ok (.irem, 1) := by decide +kernel
theorem dX10_deal_86 : decode cX10_deal 86 = .ok (.iadd, 1) := by decide +kernel
theorem dX10_deal_87 : decode cX10_deal 87 = .ok (.iconst 0, 1) := by decide +kernel
theorem dX10_deal_88 : decode cX10_deal 88 = .ok (.sipush 9999, 3) := by decide +kernel
theorem dX10_deal_91 : decode cX10_deal 91 = .ok (.invokestatic 116, 3) := by decide +kernel
theorem dX10_deal_94 : decode cX10_deal 94 = .ok (.invokevirtual 93, 3) := by decide +kernel
theorem dX10_deal_97 : decode cX10_deal 97 = .ok (.istore 7, 2) := by decide +kernel
theorem dX10_deal_99 : decode cX10_deal 99 = .ok (.iinc 2 1, 3) := by decide +kernel
theorem dX10_deal_102 : decode cX10_deal 102 = .ok (.goto (-87), 3) := by decide +kernel
theorem dX10_deal_105 : decode cX10_deal 105 = .ok (.iload_n 2, 1) := by decide +kernel
theorem dX10_deal_106 : decode cX10_deal 106 = .ok (.ireturn, 1) := by decide +kernel
abbrev x_X10_deal (E : mh_E) (d mc ms : Nat) (Post : Option Value → mh_H → Prop) : mh_X := (E, yX10_deal, cX10_deal, 8, (some .int), d, mc, ms, Post)
def q_X10_deal_105 (X : mh_X) : mh_PR := s_il 2 (s_iret X)
theorem b_X10_deal_105 {E : mh_E} {d mc ms : Nat} {Post : Option Value → mh_H → Prop} : mh_S (x_X10_deal E d mc ms Post) 105 (q_X10_deal_105 (x_X10_deal E d mc ms Post)) := sn_iload_n dX10_deal_105 rfl (sn_iret rfl dX10_deal_106)
def q_X10_deal_15 (X : mh_X) : mh_PR := s_il 2 (s_il 1 (s_if2 (fun x y => y ≤ x) (q_X10_deal_105 X) (s_al 0 (s_gr 10 0 (s_push (.int (1)) (s_ald 0 (s_push (.int (10)) (s_if2 (fun x y => y ≤ x) (q_X10_deal_105 X) (s_al 0 (s_cv X yX10_draw 10 0 (s_push (.int (6)) (s_div mh_rem (s_is 3 (s_al 0 (s_cv X yX10_draw 10 0 (s_push (.int (6)) (s_div mh_rem (s_is 4 (s_al 0 (s_cv X yX10_draw 10 0 (s_push (.int (4)) (s_div mh_rem (s_is 5 (s_al 0 (s_cv X yX10_draw 10 0 (s_push (.int (10)) (s_div mh_rem (s_is 6 (s_al 0 (s_il 3 (s_il 4 (s_il 5 (s_il 6 (s_al 0 (s_gr 10 0 (s_push (.int (2)) (s_ald 0 (s_al 0 (s_cv X yX10_draw 10 0 (s_push (.int (60)) (s_div mh_rem (s_bin (fun x y => x + y) (s_push (.int (0)) (s_push (.int (9999)) (s_cs X yX10_within 3 (s_cv X yX10_comes 10 5 (s_is 7 (s_inc 2 (1) (mh_G X 15)))))))))))))))))))))))))))))))))))))))))))))))))
theorem b_X10_deal_15 {E : mh_E} {d mc ms : Nat} {Post : Option Value → mh_H → Prop} : mh_S (x_X10_deal E d mc ms Post) 15 (q_X10_deal_15 (x_X10_deal E d mc ms Post)) := sn_iload_n dX10_deal_15 rfl (sn_iload_n dX10_deal_16 rfl (sn_icmp_ge (tgt := 105) dX10_deal_17 (by decide) (b_X10_deal_105) (sn_aload_n dX10_deal_20 rfl (sn_getr clX10 (by decide) w_1100 dX10_deal_21 (sn_iconst dX10_deal_24 (by decide) (sn_iaload dX10_deal_25 (sn_bipush dX10_deal_26 (by decide) (sn_icmp_ge (tgt := 105) dX10_deal_28 (by decide) (b_X10_deal_105) (sn_aload_n dX10_deal_31 rfl (sn_cv w_1326 w_1328 w_34 w_66 rfl nm_X10_draw dX10_deal_32 (sn_bipush dX10_deal_35 (by decide) (sn_irem dX10_deal_37 (sn_istore_n dX10_deal_38 rfl (Nat.le_of_ble_eq_true rfl) (sn_aload_n dX10_deal_39 rfl (sn_cv w_1326 w_1328 w_34 w_66 rfl nm_X10_draw dX10_deal_40 (sn_bipush dX10_deal_43 (by decide) (sn_irem dX10_deal_45 (sn_istore dX10_deal_46 (Nat.le_of_ble_eq_true rfl) (sn_aload_n dX10_deal_48 rfl (sn_cv w_1326 w_1328 w_34 w_66 rfl nm_X10_draw dX10_deal_49 (sn_iconst dX10_deal_52 (by decide) (sn_irem dX10_deal_53 (sn_istore dX10_deal_54 (Nat.le_of_ble_eq_true rfl) (sn_aload_n dX10_deal_56 rfl (sn_cv w_1326 w_1328 w_34 w_66 rfl nm_X10_draw dX10_deal_57 (sn_bipush dX10_deal_60 (by decide) (sn_irem dX10_deal_62 (sn_istore dX10_deal_63 (Nat.le_of_ble_eq_true rfl) (sn_aload_n dX10_deal_65 rfl (sn_iload_n dX10_deal_66 rfl (sn_iload dX10_deal_67 (sn_iload dX10_deal_69 (sn_iload dX10_deal_71 (sn_aload_n dX10_deal_73 rfl (sn_getr clX10 (by decide) w_1100 dX10_deal_74 (sn_iconst dX10_deal_77 (by decide) (sn_iaload dX10_deal_78 (sn_aload_n dX10_deal_79 rfl (sn_cv w_1326 w_1328 w_34 w_66 rfl nm_X10_draw dX10_deal_80 (sn_bipush dX10_deal_83 (by decide) (sn_irem dX10_deal_85 (sn_iadd dX10_deal_86 (sn_iconst dX10_deal_87 (by decide) (sn_sipush dX10_deal_88 (by decide) (sn_cs w_1264 w_1265 w_66 nm_X10_within dX10_deal_91 (sn_cv w_1218 w_1220 w_21 w_66 rfl nm_X10_comes dX10_deal_94 (sn_istore dX10_deal_97 (Nat.le_of_ble_eq_true rfl) (sn_iinc dX10_deal_99 (by decide) (Nat.le_of_ble_eq_true rfl) (sn_goto (tgt := 15) dX10_deal_102 (by decide) (mh_S.G))))))))))))))))))))))))))))))))))))))))))))))))))
def q_X10_deal_0 (X : mh_X) : mh_PR := s_il 1 (s_push (.int (1)) (s_push (.int (10)) (s_cs X yX10_in 3 (s_if1 (fun x => ¬ x = 0) (s_push (.int (0)) (s_is 2 (mh_G X 15))) (s_push (.int (-1000000001)) (s_iret X))))))
theorem b_X10_deal_0 {E : mh_E} {d mc ms : Nat} {Post : Option Value → mh_H → Prop} : mh_S (x_X10_deal E d mc ms Post) 0 (q_X10_deal_0 (x_X10_deal E d mc ms Post)) := sn_iload_n dX10_deal_0 rfl (sn_iconst dX10_deal_1 (by decide) (sn_bipush dX10_deal_2 (by decide) (sn_cs w_1210 w_1211 w_66 nm_X10_in dX10_deal_4 (sn_if_ne (tgt := 13) dX10_deal_7 (by decide) (sn_iconst dX10_deal_13 (by decide) (sn_istore_n dX10_deal_14 rfl (Nat.le_of_ble_eq_true rfl) mh_S.G)) (sn_ldc dX10_deal_10 w_1216 (sn_iret rfl dX10_deal_12))))))
theorem m_X10_deal {E : mh_E} {d mc ms : Nat} {args : List Value} {h : mh_H} {Post : Option Value → mh_H → Prop} (lv : List (Option Value)) (hl : lv_args 0 args = mh_al 0 lv) (hs : (lg_sl args).length ≤ 8) (hG : q_X10_deal_0 (x_X10_deal E d mc ms Post) lv [] h 0 0) : mh_M E d mc ms yX10_deal args h Post := mh_M.of w_1325 (by decide) (by decide) hl hs (b_X10_deal_0 _ _ _ _ _ hG)
theorem dX10_goesOn_0 : decode cX10_goesOn 0 = .ok (.iconst 0, 1) := by decide +kernel
theorem dX10_goesOn_1 : decode cX10_goesOn 1 = .ok (.istore_n 2, 1) := by decide +kernel
theorem dX10_goesOn_2 : decode cX10_goesOn 2 = .ok (.iload_n 2, 1) := by decide +kernel
theorem dX10_goesOn_3 : decode cX10_goesOn 3 = .ok (.iload_n 1, 1) := by decide +kernel
theorem dX10_goesOn_4 : decode cX10_goesOn 4 = .ok (.if_icmp .ge 13, 3) := by decide +kernel
theorem dX10_goesOn_7 : decode cX10_goesOn 7 = .ok (.aload_n 0, 1) := by decide +kernel
theorem dX10_goesOn_8 : decode cX10_goesOn 8 = .ok (.invokevirtual 156, 3) := by decide +kernel
theorem dX10_goesOn_11 : decode cX10_goesOn 11 = .ok (.iinc 2 1, 3) := by decide +kernel
theorem dX10_goesOn_14 : decode cX10_goesOn 14 = .ok (.goto (-12), 3) := by decide +kernel
theorem dX10_goesOn_17 : decode cX10_goesOn 17 = .ok (.return_, 1) := by decide +kernel
abbrev x_X10_goesOn (E : mh_E) (d mc ms : Nat) (Post : Option Value → mh_H → Prop) : mh_X := (E, yX10_goesOn, cX10_goesOn, 3, none, d, mc, ms, Post)
def q_X10_goesOn_2 (X : mh_X) : mh_PR := s_il 2 (s_il 1 (s_if2 (fun x y => y ≤ x) (s_vret X) (s_al 0 (s_cv X yX10_year 10 0 (s_inc 2 (1) (mh_G X 2))))))
theorem b_X10_goesOn_2 {E : mh_E} {d mc ms : Nat} {Post : Option Value → mh_H → Prop} : mh_S (x_X10_goesOn E d mc ms Post) 2 (q_X10_goesOn_2 (x_X10_goesOn E d mc ms Post)) := sn_iload_n dX10_goesOn_2 rfl (sn_iload_n dX10_goesOn_3 rfl (sn_icmp_ge (tgt := 17) dX10_goesOn_4 (by decide) (sn_vret rfl dX10_goesOn_17) (sn_aload_n dX10_goesOn_7 rfl (sn_cv w_1350 w_1352 w_37 w_66 rfl nm_X10_year dX10_goesOn_8 (sn_iinc dX10_goesOn_11 (by decide) (Nat.le_of_ble_eq_true rfl) (sn_goto (tgt := 2) dX10_goesOn_14 (by decide) (mh_S.G)))))))
def q_X10_goesOn_0 (X : mh_X) : mh_PR := s_push (.int (0)) (s_is 2 (mh_G X 2))
theorem b_X10_goesOn_0 {E : mh_E} {d mc ms : Nat} {Post : Option Value → mh_H → Prop} : mh_S (x_X10_goesOn E d mc ms Post) 0 (q_X10_goesOn_0 (x_X10_goesOn E d mc ms Post)) := sn_iconst dX10_goesOn_0 (by decide) (sn_istore_n dX10_goesOn_1 rfl (Nat.le_of_ble_eq_true rfl) mh_S.G)
theorem m_X10_goesOn {E : mh_E} {d mc ms : Nat} {args : List Value} {h : mh_H} {Post : Option Value → mh_H → Prop} (lv : List (Option Value)) (hl : lv_args 0 args = mh_al 0 lv) (hs : (lg_sl args).length ≤ 3) (hG : q_X10_goesOn_0 (x_X10_goesOn E d mc ms Post) lv [] h 0 0) : mh_M E d mc ms yX10_goesOn args h Post := mh_M.of w_1349 (by decide) (by decide) hl hs (b_X10_goesOn_0 _ _ _ _ _ hG)
theorem dX10_fulfilled_0 : decode cX10_fulfilled 0 = .ok (.iconst 0, 1) := by decide +kernel
theorem dX10_fulfilled_1 : decode cX10_fulfilled 1 = .ok (.istore_n 1, 1) := by decide +kernel
theorem dX10_fulfilled_2 : decode cX10_fulfilled 2 = .ok (.iconst 0, 1) := by decide +kernel
theorem dX10_fulfilled_3 : decode cX10_fulfilled 3 = .ok (.istore_n 2, 1) := by decide +kernel
theorem dX10_fulfilled_4 : decode cX10_fulfilled 4 = .ok (.iload_n 2, 1) := by decide +kernel
theorem dX10_fulfilled_5 : decode cX10_fulfilled 5 = .ok (.aload_n 0, 1) := by decide +kernel
theorem dX10_fulfilled_6 : decode cX10_fulfilled 6 = .ok (.getfield 9, 3) := by decide +kernel
theorem dX10_fulfilled_9 : decode cX10_fulfilled 9 = .ok (.iconst 1, 1) := by decide +kernel
theorem dX10_fulfilled_10 : decode cX10_fulfilled 10 = .ok (.iaload, 1) := by decide +kernel
theorem dX10_fulfilled_11 : decode cX10_fulfilled 11 = .ok (.if_icmp .ge 28, 3) := by decide +kernel
theorem dX10_fulfilled_14 : decode cX10_fulfilled 14 = .ok (.iload_n 1, 1) := by decide +kernel
theorem dX10_fulfilled_15 : decode cX10_fulfilled 15 = .ok (.aload_n 0, 1) := by decide +kernel
theorem dX10_fulfilled_16 : decode cX10_fulfilled 16 = .ok (.iload_n 2, 1) := by decide +kernel
theorem dX10_fulfilled_17 : decode cX10_fulfilled 17 = .ok (.iconst 5, 1) := by decide +kernel
theorem dX10_fulfilled_18 : decode cX10_fulfilled 18 = .ok (.invokevirtual 104, 3) := by decide +kernel
theorem dX10_fulfilled_21 : decode cX10_fulfilled 21 = .ok (.ifCond .ge 7, 3) := by decide +kernel
theorem dX10_fulfilled_24 : decode cX10_fulfilled 24 = .ok (.iconst 0, 1) := by decide +kernel
theorem dX10_fulfilled_25 : decode cX10_fulfilled 25 = .ok (.goto 6, 3) := by decide +kernel
theorem dX10_fulfilled_28 : decode cX10_fulfilled 28 = .ok (.iconst 1, 1) := by decide +kernel
theorem dX10_fulfilled_29 : decode cX10_fulfilled 29 = .ok (.iload_n 2, 1) := by decide +kernel
theorem dX10_fulfilled_30 : decode cX10_fulfilled 30 = .ok (.ishl, 1) := by decide +kernel
theorem dX10_fulfilled_31 : decode cX10_fulfilled 31 = .ok (.ior, 1) := by decide +kernel
theorem dX10_fulfilled_32 : decode cX10_fulfilled 32 = .ok (.istore_n 1, 1) := by decide +kernel
theorem dX10_fulfilled_33 : decode cX10_fulfilled 33 = .ok (.iinc 2 1, 3) := by decide +kernel
theorem dX10_fulfilled_36 : decode cX10_fulfilled 36 = .ok (.goto (-32), 3) := by decide +kernel
theorem dX10_fulfilled_39 : decode cX10_fulfilled 39 = .ok (.iload_n 1, 1) := by decide +kernel
theorem dX10_fulfilled_40 : decode cX10_fulfilled 40 = .ok (.ireturn, 1) := by decide +kernel
abbrev x_X10_fulfilled (E : mh_E) (d mc ms : Nat) (Post : Option Value → mh_H → Prop) : mh_X := (E, yX10_fulfilled, cX10_fulfilled, 3, (some .int), d, mc, ms, Post)
def q_X10_fulfilled_31 (X : mh_X) : mh_PR := s_bin (fun x y => x ||| y) (s_is 1 (s_inc 2 (1) (mh_G X 4)))
theorem b_X10_fulfilled_31 {E : mh_E} {d mc ms : Nat} {Post : Option Value → mh_H → Prop} : mh_S (x_X10_fulfilled E d mc ms Post) 31 (q_X10_fulfilled_31 (x_X10_fulfilled E d mc ms Post)) := sn_ior dX10_fulfilled_31 (sn_istore_n dX10_fulfilled_32 rfl (Nat.le_of_ble_eq_true rfl) (sn_iinc dX10_fulfilled_33 (by decide) (Nat.le_of_ble_eq_true rfl) (sn_goto (tgt := 4) dX10_fulfilled_36 (by decide) (mh_S.G))))
def q_X10_fulfilled_4 (X : mh_X) : mh_PR := s_il 2 (s_al 0 (s_gr 10 0 (s_push (.int (1)) (s_ald 0 (s_if2 (fun x y => y ≤ x) (s_il 1 (s_iret X)) (s_il 1 (s_al 0 (s_il 2 (s_push (.int (5)) (s_cv X yX10_of 10 2 (s_if1 (fun x => 0 ≤ x) (s_push (.int (1)) (s_il 2 (s_bin mh_shl (q_X10_fulfilled_31 X)))) (s_push (.int (0)) (q_X10_fulfilled_31 X)))))))))))))
theorem b_X10_fulfilled_4 {E : mh_E} {d mc ms : Nat} {Post : Option Value → mh_H → Prop} : mh_S (x_X10_fulfilled E d mc ms Post) 4 (q_X10_fulfilled_4 (x_X10_fulfilled E d mc ms Post)) := sn_iload_n dX10_fulfilled_4 rfl (sn_aload_n dX10_fulfilled_5 rfl (sn_getr clX10 (by decide) w_1100 dX10_fulfilled_6 (sn_iconst dX10_fulfilled_9 (by decide) (sn_iaload dX10_fulfilled_10 (sn_icmp_ge (tgt := 39) dX10_fulfilled_11 (by decide) (sn_iload_n dX10_fulfilled_39 rfl (sn_iret rfl dX10_fulfilled_40)) (sn_iload_n dX10_fulfilled_14 rfl (sn_aload_n dX10_fulfilled_15 rfl (sn_iload_n dX10_fulfilled_16 rfl (sn_iconst dX10_fulfilled_17 (by decide) (sn_cv w_1234 w_1236 w_24 w_66 rfl nm_X10_of dX10_fulfilled_18 (sn_if_ge (tgt := 28) dX10_fulfilled_21 (by decide) (sn_iconst dX10_fulfilled_28 (by decide) (sn_iload_n dX10_fulfilled_29 rfl (sn_ishl dX10_fulfilled_30 b_X10_fulfilled_31))) (sn_iconst dX10_fulfilled_24 (by decide) (sn_goto (tgt := 31) dX10_fulfilled_25 (by decide) (b_X10_fulfilled_31))))))))))))))
def q_X10_fulfilled_0 (X : mh_X) : mh_PR := s_push (.int (0)) (s_is 1 (s_push (.int (0)) (s_is 2 (mh_G X 4))))
theorem b_X10_fulfilled_0 {E : mh_E} {d mc ms : Nat} {Post : Option Value → mh_H → Prop} : mh_S (x_X10_fulfilled E d mc ms Post) 0 (q_X10_fulfilled_0 (x_X10_fulfilled E d mc ms Post)) := sn_iconst dX10_fulfilled_0 (by decide) (sn_istore_n dX10_fulfilled_1 rfl (Nat.le_of_ble_eq_true rfl) (sn_iconst dX10_fulfilled_2 (by decide) (sn_istore_n dX10_fulfilled_3 rfl (Nat.le_of_ble_eq_true rfl) mh_S.G)))
theorem m_X10_fulfilled {E : mh_E} {d mc ms : Nat} {args : List Value} {h : mh_H} {Post : Option Value → mh_H → Prop} (lv : List (Option Value)) (hl : lv_args 0 args = mh_al 0 lv) (hs : (lg_sl args).length ≤ 3) (hG : q_X10_fulfilled_0 (x_X10_fulfilled E d mc ms Post) lv [] h 0 0) : mh_M E d mc ms yX10_fulfilled args h Post := mh_M.of w_1342 (by decide) (by decide) hl hs (b_X10_fulfilled_0 _ _ _ _ _ hG)
theorem dX10_isOpen_0 : decode cX10_isOpen 0 = .ok (.aload_n 0, 1) := by decide +kernel
theorem dX10_isOpen_1 : decode cX10_isOpen 1 = .ok (.iload_n 1, 1) := by decide +kernel
theorem dX10_isOpen_2 : decode cX10_isOpen 2 = .ok (.iconst 5, 1) := by decide +kernel
theorem dX10_isOpen_3 : decode cX10_isOpen 3 = .ok (.invokevirtual 104, 3) := by decide +kernel
theorem dX10_isOpen_6 : decode cX10_isOpen 6 = .ok (.ifCond .ge 22, 3) := by decide +kernel
theorem dX10_isOpen_9 : decode cX10_isOpen 9 = .ok (.aload_n 0, 1) := by decide +kernel
theorem dX10_isOpen_10 : decode cX10_isOpen 10 = .ok (.iload_n 1, 1) := by decide +kernel
theorem dX10_isOpen_11 : decode cX10_isOpen 11 = .ok (.iconst 4, 1) := by decide +kernel
theorem dX10_isOpen_12 : decode cX10_isOpen 12 = .ok (.invokevirtual 104, 3) := by decide +kernel
theorem dX10_isOpen_15 : decode cX10_isOpen 15 = .ok (.aload_n 0, 1) := by decide +kernel
theorem dX10_isOpen_16 : decode cX10_isOpen 16 = .ok (.getfield 9, 3) := by decide +kernel
theorem dX10_isOpen_19 : decode cX10_isOpen 19 = .ok (.iconst 2, 1) := by decide +kernel
theorem dX10_isOpen_20 : decode cX10_isOpen 20 = .ok (.iaload, 1) := by decide +kernel
theorem dX10_isOpen_21 : decode cX10_isOpen 21 = .ok (.if_icmp .lt 7, 3) := by decide +kernel
theorem dX10_isOpen_24 : decode cX10_isOpen 24 = .ok (.iconst 1, 1) := by decide +kernel
theorem dX10_isOpen_25 : decode cX10_isOpen 25 = .ok (.goto 4, 3) := by decide +kernel
theorem dX10_isOpen_28 : decode cX10_isOpen 28 = .ok (.iconst 0, 1) := by decide +kernel
theorem dX10_isOpen_29 : decode cX10_isOpen 29 = .ok (.ireturn, 1) := by decide +kernel
abbrev x_X10_isOpen (E : mh_E) (d mc ms : Nat) (Post : Option Value → mh_H → Prop) : mh_X := (E, yX10_isOpen, cX10_isOpen, 2, (some .boolean), d, mc, ms, Post)
def q_X10_isOpen_29 (X : mh_X) : mh_PR := s_zret X
theorem b_X10_isOpen_29 {E : mh_E} {d mc ms : Nat} {Post : Option Value → mh_H → Prop} : mh_S (x_X10_isOpen E d mc ms Post) 29 (q_X10_isOpen_29 (x_X10_isOpen E d mc ms Post)) := sn_zret rfl dX10_isOpen_29
def q_X10_isOpen_28 (X : mh_X) : mh_PR := s_push (.int (0)) (q_X10_isOpen_29 X)
theorem b_X10_isOpen_28 {E : mh_E} {d mc ms : Nat} {Post : Option Value → mh_H → Prop} : mh_S (x_X10_isOpen E d mc ms Post) 28 (q_X10_isOpen_28 (x_X10_isOpen E d mc ms Post)) := sn_iconst dX10_isOpen_28 (by decide) b_X10_isOpen_29
def q_X10_isOpen_0 (X : mh_X) : mh_PR := s_al 0 (s_il 1 (s_push (.int (5)) (s_cv X yX10_of 10 2 (s_if1 (fun x => 0 ≤ x) (q_X10_isOpen_28 X) (s_al 0 (s_il 1 (s_push (.int (4)) (s_cv X yX10_of 10 2 (s_al 0 (s_gr 10 0 (s_push (.int (2)) (s_ald 0 (s_if2 (fun x y => x < y) (q_X10_isOpen_28 X) (s_push (.int (1)) (q_X10_isOpen_29 X)))))))))))))))
theorem b_X10_isOpen_0 {E : mh_E} {d mc ms : Nat} {Post : Option Value → mh_H → Prop} : mh_S (x_X10_isOpen E d mc ms Post) 0 (q_X10_isOpen_0 (x_X10_isOpen E d mc ms Post)) := sn_aload_n dX10_isOpen_0 rfl (sn_iload_n dX10_isOpen_1 rfl (sn_iconst dX10_isOpen_2 (by decide) (sn_cv w_1234 w_1236 w_24 w_66 rfl nm_X10_of dX10_isOpen_3 (sn_if_ge (tgt := 28) dX10_isOpen_6 (by decide) (b_X10_isOpen_28) (sn_aload_n dX10_isOpen_9 rfl (sn_iload_n dX10_isOpen_10 rfl (sn_iconst dX10_isOpen_11 (by decide) (sn_cv w_1234 w_1236 w_24 w_66 rfl nm_X10_of dX10_isOpen_12 (sn_aload_n dX10_isOpen_15 rfl (sn_getr clX10 (by decide) w_1100 dX10_isOpen_16 (sn_iconst dX10_isOpen_19 (by decide) (sn_iaload dX10_isOpen_20 (sn_icmp_lt (tgt := 28) dX10_isOpen_21 (by decide) (b_X10_isOpen_28) (sn_iconst dX10_isOpen_24 (by decide) (sn_goto (tgt := 29) dX10_isOpen_25 (by decide) (b_X10_isOpen_29))))))))))))))))
theorem m_X10_isOpen {E : mh_E} {d mc ms : Nat} {args : List Value} {h : mh_H} {Post : Option Value → mh_H → Prop} (lv : List (Option Value)) (hl : lv_args 0 args = mh_al 0 lv) (hs : (lg_sl args).length ≤ 2) (hG : q_X10_isOpen_0 (x_X10_isOpen E d mc ms Post) lv [] h 0 0) : mh_M E d mc ms yX10_isOpen args h Post := mh_M.of w_1365 (by decide) (by decide) hl hs (b_X10_isOpen_0 _ _ _ _ _ hG)
theorem dX10_city_0 : decode cX10_city 0 = .ok (.iconst 0, 1) := by decide +kernel
theorem dX10_city_1 : decode cX10_city 1 = .ok (.istore_n 2, 1) := by decide +kernel
theorem dX10_city_2 : decode cX10_city 2 = .ok (.iload_n 1, 1) := by decide +kernel
theorem dX10_city_3 : decode cX10_city 3 = .ok (.tableswitch 132 0 5 #[37, 37, 46, 51, 89, 127], 37) := by decide +kernel
theorem dX10_city_40 : decode cX10_city 40 = .ok (.aload_n 0, 1) := by decide +kernel
theorem dX10_city_41 : decode cX10_city 41 = .ok (.getfield 9, 3) := by decide +kernel
theorem dX10_city_44 : decode cX10_city 44 = .ok (.iconst 5, 1) := by decide +kernel
theorem dX10_city_45 : decode cX10_city 45 = .ok (.iload_n 1, 1) := by decide +kernel
theorem dX10_city_46 : decode cX10_city 46 = .ok (.iadd, 1) := by decide +kernel
theorem dX10_city_47 : decode cX10_city 47 = .ok (.iaload, 1) := by decide +kernel
theorem dX10_city_48 : decode cX10_city 48 = .ok (.ireturn, 1) := by decide +kernel
theorem dX10_city_49 : decode cX10_city 49 = .ok (.aload_n 0, 1) := by decide +kernel
theorem dX10_city_50 : decode cX10_city 50 = .ok (.invokevirtual 159, 3) := by decide +kernel
theorem dX10_city_53 : decode cX10_city 53 = .ok (.ireturn, 1) := by decide +kernel
theorem dX10_city_54 : decode cX10_city 54 = .ok (.iconst 0, 1) := by decide +kernel
theorem dX10_city_55 : decode cX10_city 55 = .ok (.istore_n 3, 1) := by decide +kernel
theorem dX10_city_56 : decode cX10_city 56 = .ok (.iload_n 3, 1) := by decide +kernel
theorem dX10_city_57 : decode cX10_city 57 = .ok (.aload_n 0, 1) := by decide +kernel
theorem dX10_city_58 : decode cX10_city 58 = .ok (.getfield 9, 3) := by decide +kernel
theorem dX10_city_61 : decode cX10_city 61 = .ok (.iconst 1, 1) := by decide +kernel
theorem dX10_city_62 : decode cX10_city 62 = .ok (.iaload, 1) := by decide +kernel
theorem dX10_city_63 : decode cX10_city 63 = .ok (.if_icmp .ge 27, 3) := by decide +kernel
theorem dX10_city_66 : decode cX10_city 66 = .ok (.iload_n 2, 1) := by decide +kernel
theorem dX10_city_67 : decode cX10_city 67 = .ok (.aload_n 0, 1) := by decide +kernel
theorem dX10_city_68 : decode cX10_city 68 = .ok (.iload_n 3, 1) := by decide +kernel
theorem dX10_city_69 : decode cX10_city 69 = .ok (.invokevirtual 168, 3) := by decide +kernel
theorem dX10_city_72 : decode cX10_city 72 = .ok (.ifCond .eq 9, 3) := by decide +kernel
theorem dX10_city_75 : decode cX10_city 75 = .ok (.iconst 1, 1) := by decide +kernel
theorem dX10_city_76 : decode cX10_city 76 = .ok (.iload_n 3, 1) := by decide +kernel
theorem dX10_city_77 : decode cX10_city 77 = .ok (.ishl, 1) := by decide +kernel
theorem dX10_city_78 : decode cX10_city 78 = .ok (.goto 4, 3) := by decide +kernel
theorem dX10_city_81 : decode cX10_city 81 = .ok (.iconst 0, 1) := by decide +kernel
theorem dX10_city_82 : decode cX10_city 82 = .ok (.ior, 1) := by decide +kernel
theorem dX10_city_83 : decode cX10_city 83 = .ok (.istore_n 2, 1) := by decide +kernel
theorem dX10_city_84 : decode cX10_city 84 = .ok (.iinc 3 1, 3) := by decide +kernel
theorem dX10_city_87 : decode cX10_city 87 = .ok (.goto (-31), 3) := by decide +kernel
theorem dX10_city_90 : decode cX10_city 90 = .ok (.iload_n 2, 1) := by decide +kernel
theorem dX10_city_91 : decode cX10_city 91 = .ok (.ireturn, 1) := by decide +kernel
theorem dX10_city_92 : decode cX10_city 92 = .ok (.iconst 0, 1) := by decide +kernel
theorem dX10_city_93 : decode cX10_city 93 = .ok (.istore_n 3, 1) := by decide +kernel
theorem dX10_city_94 : decode cX10_city 94 = .ok (.iload_n 3, 1) := by decide +kernel
theorem dX10_city_95 : decode cX10_city 95 = .ok (.aload_n 0, 1) := by decide +kernel
theorem dX10_city_96 : decode cX10_city 96 = .ok (.getfield 9, 3) := by decide +kernel
theorem dX10_city_99 : decode cX10_city 99 = .ok (.iconst 1, 1) := by decide +kernel
theorem dX10_city_100 : decode cX10_city 100 = .ok (.iaload, 1) := by decide +kernel
theorem dX10_city_101 : decode cX10_city 101 = .ok (.if_icmp .ge 27, 3) := by decide +kernel
theorem dX10_city_104 : decode cX10_city 104 = .ok (.iload_n 2, 1) := by decide +kernel
theorem dX10_city_105 : decode cX10_city 105 = .ok (.aload_n 0, 1) := by decide +kernel
theorem dX10_city_106 : decode cX10_city 106 = .ok (.iload_n 3, 1) := by decide +kernel
theorem dX10_city_107 : decode cX10_city 107 = .ok (.invokevirtual 127, 3) := by decide +kernel
theorem dX10_city_110 : decode cX10_city 110 = .ok (.ifCond .eq 9, 3) := by decide +kernel
theorem dX10_city_113 : decode cX10_city 113 = .ok (.iconst 1, 1) := by decide +kernel
theorem dX10_city_114 : decode cX10_city 114 = .ok (.iload_n 3, 1) := by decide +kernel
theorem dX10_city_115 : decode cX10_city 115 = .ok (.ishl, 1) := by decide +kernel
theorem dX10_city_116 : decode cX10_city 116 = .ok (.goto 4, 3) := by decide +kernel
theorem dX10_city_119 : decode cX10_city 119 = .ok (.iconst 0, 1) := by decide +kernel
theorem dX10_city_120 : decode cX10_city 120 = .ok (.ior, 1) := by decide +kernel
theorem dX10_city_121 : decode cX10_city 121 = .ok (.istore_n 2, 1) := by decide +kernel
theorem dX10_city_122 : decode cX10_city 122 = .ok (.iinc 3 1, 3) := by decide +kernel
theorem dX10_city_125 : decode cX10_city 125 = .ok (.goto (-31), 3) := by decide +kernel
theorem dX10_city_128 : decode cX10_city 128 = .ok (.iload_n 2, 1) := by decide +kernel
theorem dX10_city_129 : decode cX10_city 129 = .ok (.ireturn, 1) := by decide +kernel
theorem dX10_city_130 : decode cX10_city 130 = .ok (.aload_n 0, 1) := by decide +kernel
theorem dX10_city_131 : decode cX10_city 131 = .ok (.invokevirtual 171, 3) := by decide +kernel
theorem dX10_city_134 : decode cX10_city 134 = .ok (.ireturn, 1) := by decide +kernel
theorem dX10_city_135 : decode cX10_city 135 = .ok (.ldc 91, 2) := by decide +kernel
theorem dX10_city_137 : decode cX10_city 137 = .ok (.ireturn, 1) := by decide +kernel
abbrev x_X10_city (E : mh_E) (d mc ms : Nat) (Post : Option Value → mh_H → Prop) : mh_X := (E, yX10_city, cX10_city, 4, (some .int), d, mc, ms, Post)
def q_X10_city_120 (X : mh_X) : mh_PR := s_bin (fun x y => x ||| y) (s_is 2 (s_inc 3 (1) (mh_G X 94)))
theorem b_X10_city_120 {E : mh_E} {d mc ms : Nat} {Post : Option Value → mh_H → Prop} : mh_S (x_X10_city E d mc ms Post) 120 (q_X10_city_120 (x_X10_city E d mc ms Post)) := sn_ior dX10_city_120 (sn_istore_n dX10_city_121 rfl (Nat.le_of_ble_eq_true rfl) (sn_iinc dX10_city_122 (by decide) (Nat.le_of_ble_eq_true rfl) (sn_goto (tgt := 94) dX10_city_125 (by decide) (mh_S.G))))
def q_X10_city_94 (X : mh_X) : mh_PR := s_il 3 (s_al 0 (s_gr 10 0 (s_push (.int (1)) (s_ald 0 (s_if2 (fun x y => y ≤ x) (s_il 2 (s_iret X)) (s_il 2 (s_al 0 (s_il 3 (s_cv X yX10_doesHold 10 1 (s_if1 (fun x => x = 0) (s_push (.int (0)) (q_X10_city_120 X)) (s_push (.int (1)) (s_il 3 (s_bin mh_shl (q_X10_city_120 X))))))))))))))
theorem b_X10_city_94 {E : mh_E} {d mc ms : Nat} {Post : Option Value → mh_H → Prop} : mh_S (x_X10_city E d mc ms Post) 94 (q_X10_city_94 (x_X10_city E d mc ms Post)) := sn_iload_n dX10_city_94 rfl (sn_aload_n dX10_city_95 rfl (sn_getr clX10 (by decide) w_1100 dX10_city_96 (sn_iconst dX10_city_99 (by decide) (sn_iaload dX10_city_100 (sn_icmp_ge (tgt := 128) dX10_city_101 (by decide) (sn_iload_n dX10_city_128 rfl (sn_iret rfl dX10_city_129)) (sn_iload_n dX10_city_104 rfl (sn_aload_n dX10_city_105 rfl (sn_iload_n dX10_city_106 rfl (sn_cv w_1239 w_1241 w_25 w_66 rfl nm_X10_doesHold dX10_city_107 (sn_if_eq (tgt := 119) dX10_city_110 (by decide) (sn_iconst dX10_city_119 (by decide) b_X10_city_120) (sn_iconst dX10_city_113 (by decide) (sn_iload_n dX10_city_114 rfl (sn_ishl dX10_city_115 (sn_goto (tgt := 120) dX10_city_116 (by decide) (b_X10_city_120)))))))))))))))
def q_X10_city_82 (X : mh_X) : mh_PR := s_bin (fun x y => x ||| y) (s_is 2 (s_inc 3 (1) (mh_G X 56)))
theorem b_X10_city_82 {E : mh_E} {d mc ms : Nat} {Post : Option Value → mh_H → Prop} : mh_S (x_X10_city E d mc ms Post) 82 (q_X10_city_82 (x_X10_city E d mc ms Post)) := sn_ior dX10_city_82 (sn_istore_n dX10_city_83 rfl (Nat.le_of_ble_eq_true rfl) (sn_iinc dX10_city_84 (by decide) (Nat.le_of_ble_eq_true rfl) (sn_goto (tgt := 56) dX10_city_87 (by decide) (mh_S.G))))
def q_X10_city_56 (X : mh_X) : mh_PR := s_il 3 (s_al 0 (s_gr 10 0 (s_push (.int (1)) (s_ald 0 (s_if2 (fun x y => y ≤ x) (s_il 2 (s_iret X)) (s_il 2 (s_al 0 (s_il 3 (s_cv X yX10_isOpen 10 1 (s_if1 (fun x => x = 0) (s_push (.int (0)) (q_X10_city_82 X)) (s_push (.int (1)) (s_il 3 (s_bin mh_shl (q_X10_city_82 X))))))))))))))
theorem b_X10_city_56 {E : mh_E} {d mc ms : Nat} {Post : Option Value → mh_H → Prop} : mh_S (x_X10_city E d mc ms Post) 56 (q_X10_city_56 (x_X10_city E d mc ms Post)) := sn_iload_n dX10_city_56 rfl (sn_aload_n dX10_city_57 rfl (sn_getr clX10 (by decide) w_1100 dX10_city_58 (sn_iconst dX10_city_61 (by decide) (sn_iaload dX10_city_62 (sn_icmp_ge (tgt := 90) dX10_city_63 (by decide) (sn_iload_n dX10_city_90 rfl (sn_iret rfl dX10_city_91)) (sn_iload_n dX10_city_66 rfl (sn_aload_n dX10_city_67 rfl (sn_iload_n dX10_city_68 rfl (sn_cv w_1362 w_1364 w_39 w_66 rfl nm_X10_isOpen dX10_city_69 (sn_if_eq (tgt := 81) dX10_city_72 (by decide) (sn_iconst dX10_city_81 (by decide) b_X10_city_82) (sn_iconst dX10_city_75 (by decide) (sn_iload_n dX10_city_76 rfl (sn_ishl dX10_city_77 (sn_goto (tgt := 82) dX10_city_78 (by decide) (b_X10_city_82)))))))))))))))
def q_X10_city_40 (X : mh_X) : mh_PR := s_al 0 (s_gr 10 0 (s_push (.int (5)) (s_il 1 (s_bin (fun x y => x + y) (s_ald 0 (s_iret X))))))
theorem b_X10_city_40 {E : mh_E} {d mc ms : Nat} {Post : Option Value → mh_H → Prop} : mh_S (x_X10_city E d mc ms Post) 40 (q_X10_city_40 (x_X10_city E d mc ms Post)) := sn_aload_n dX10_city_40 rfl (sn_getr clX10 (by decide) w_1100 dX10_city_41 (sn_iconst dX10_city_44 (by decide) (sn_iload_n dX10_city_45 rfl (sn_iadd dX10_city_46 (sn_iaload dX10_city_47 (sn_iret rfl dX10_city_48))))))
def q_X10_city_0 (X : mh_X) : mh_PR := s_push (.int (0)) (s_is 2 (s_il 1 (s_sw [((0 : Int32), q_X10_city_40 X), ((1 : Int32), q_X10_city_40 X), ((2 : Int32), s_al 0 (s_cv X yX10_fulfilled 10 0 (s_iret X))), ((3 : Int32), s_push (.int (0)) (s_is 3 (mh_G X 56))), ((4 : Int32), s_push (.int (0)) (s_is 3 (mh_G X 94))), ((5 : Int32), s_al 0 (s_cv X yX10_ranks 10 0 (s_iret X)))] (s_push (.int (-1000000001)) (s_iret X)))))
theorem b_X10_city_0 {E : mh_E} {d mc ms : Nat} {Post : Option Value → mh_H → Prop} : mh_S (x_X10_city E d mc ms Post) 0 (q_X10_city_0 (x_X10_city E d mc ms Post)) := sn_iconst dX10_city_0 (by decide) (sn_istore_n dX10_city_1 rfl (Nat.le_of_ble_eq_true rfl) (sn_iload_n dX10_city_2 rfl (sn_table (tgt := 135) (ts := [(0, 37, 40), (1, 37, 40), (2, 46, 49), (3, 51, 54), (4, 89, 92), (5, 127, 130)]) dX10_city_3 (by decide +kernel) (by decide +kernel) (sw_cons (b_X10_city_40) (sw_cons (b_X10_city_40) (sw_cons (sn_aload_n dX10_city_49 rfl (sn_cv w_1339 w_1341 w_35 w_66 rfl nm_X10_fulfilled dX10_city_50 (sn_iret rfl dX10_city_53))) (sw_cons (sn_iconst dX10_city_54 (by decide) (sn_istore_n dX10_city_55 rfl (Nat.le_of_ble_eq_true rfl) mh_S.G)) (sw_cons (sn_iconst dX10_city_92 (by decide) (sn_istore_n dX10_city_93 rfl (Nat.le_of_ble_eq_true rfl) mh_S.G)) (sw_cons (sn_aload_n dX10_city_130 rfl (sn_cv w_1366 w_1368 w_40 w_66 rfl nm_X10_ranks dX10_city_131 (sn_iret rfl dX10_city_134))) sw_nil)))))) (by decide) (sn_ldc dX10_city_135 w_1216 (sn_iret rfl dX10_city_137)))))
theorem m_X10_city {E : mh_E} {d mc ms : Nat} {args : List Value} {h : mh_H} {Post : Option Value → mh_H → Prop} (lv : List (Option Value)) (hl : lv_args 0 args = mh_al 0 lv) (hs : (lg_sl args).length ≤ 4) (hG : q_X10_city_0 (x_X10_city E d mc ms Post) lv [] h 0 0) : mh_M E d mc ms yX10_city args h Post := mh_M.of w_1361 (by decide) (by decide) hl hs (b_X10_city_0 _ _ _ _ _ hG)
theorem dX10_clash_0 : decode cX10_clash 0 = .ok (.aload_n 0, 1) := by decide +kernel
theorem dX10_clash_1 : decode cX10_clash 1 = .ok (.iload_n 1, 1) := by decide +kernel
theorem dX10_clash_2 : decode cX10_clash 2 = .ok (.invokevirtual 122, 3) := by decide +kernel
theorem dX10_clash_5 : decode cX10_clash 5 = .ok (.ifCond .eq 16, 3) := by decide +kernel
theorem dX10_clash_8 : decode cX10_clash 8 = .ok (.aload_n 0, 1) := by decide +kernel
theorem dX10_clash_9 : decode cX10_clash 9 = .ok (.iload_n 2, 1) := by decide +kernel
theorem dX10_clash_10 : decode cX10_clash 10 = .ok (.invokevirtual 122, 3) := by decide +kernel
theorem dX10_clash_13 : decode cX10_clash 13 = .ok (.ifCond .eq 8, 3) := by decide +kernel
theorem dX10_clash_16 : decode cX10_clash 16 = .ok (.iload_n 1, 1) := by decide +kernel
theorem dX10_clash_17 : decode cX10_clash 17 = .ok (.iload_n 2, 1) := by decide +kernel
theorem dX10_clash_18 : decode cX10_clash 18 = .ok (.if_icmp .ne 6, 3) := by decide +kernel
theorem dX10_clash_21 : decode cX10_clash 21 = .ok (.ldc 91, 2) := by decide +kernel
theorem dX10_clash_23 : decode cX10_clash 23 = .ok (.ireturn, 1) := by decide +kernel
theorem dX10_clash_24 : decode cX10_clash 24 = .ok (.aload_n 0, 1) := by decide +kernel
theorem dX10_clash_25 : decode cX10_clash 25 = .ok (.invokevirtual 174, 3) := by decide +kernel
theorem dX10_clash_28 : decode cX10_clash 28 = .ok (.iconst 0, 1) := by decide +kernel
theorem dX10_clash_29 : decode cX10_clash 29 = .ok (.istore_n 3, 1) := by decide +kernel
theorem dX10_clash_30 : decode cX10_clash 30 = .ok (.iconst 0, 1) := by decide +kernel
theorem dX10_clash_31 : decode cX10_clash 31 = .ok (.istore 4, 2) := by decide +kernel
theorem dX10_clash_33 : decode cX10_clash 33 = .ok (.iload 4, 2) := by decide +kernel
theorem dX10_clash_35 : decode cX10_clash 35 = .ok (.sipush 4096, 3) := by decide +kernel
theorem dX10_clash_38 : decode cX10_clash 38 = .ok (.if_icmp .ge 41, 3) := by decide +kernel
theorem dX10_clash_41 : decode cX10_clash 41 = .ok (.iload_n 3, 1) := by decide +kernel
theorem dX10_clash_42 : decode cX10_clash 42 = .ok (.ifCond .ne 37, 3) := by decide +kernel
theorem dX10_clash_45 : decode cX10_clash 45 = .ok (.aload_n 0, 1) := by decide +kernel
theorem dX10_clash_46 : decode cX10_clash 46 = .ok (.iload 4, 2) := by decide +kernel
theorem dX10_clash_48 : decode cX10_clash 48 = .ok (.invokevirtual 177, 3) := by decide +kernel
theorem dX10_clash_51 : decode cX10_clash 51 = .ok (.aload_n 0, 1) := by decide +kernel
theorem dX10_clash_52 : decode cX10_clash 52 = .ok (.iload_n 1, 1) := by decide +kernel
theorem dX10_clash_53 : decode cX10_clash 53 = .ok (.invokevirtual 127, 3) := by decide +kernel
theorem dX10_clash_56 : decode cX10_clash 56 = .ok (.ifCond .eq 15, 3) := by decide +kernel
theorem dX10_clash_59 : decode cX10_clash 59 = .ok (.aload_n 0, 1) := by decide +kernel
theorem dX10_clash_60 : decode cX10_clash 60 = .ok (.iload_n 2, 1) := by decide +kernel
theorem dX10_clash_61 : decode cX10_clash 61 = .ok (.invokevirtual 127, 3) := by decide +kernel
theorem dX10_clash_64 : decode cX10_clash 64 = .ok (.ifCond .eq 7, 3) := by decide +kernel
theorem dX10_clash_67 : decode cX10_clash 67 = .ok (.iconst 1, 1) := by decide +kernel
theorem dX10_clash_68 : decode cX10_clash 68 = .ok (.goto 4, 3) := by decide +kernel
theorem dX10_clash_71 : decode cX10_clash 71 = .ok (.iconst 0, 1) := by decide +kernel
theorem dX10_clash_72 : decode cX10_clash 72 = .ok (.istore_n 3, 1) := by decide +kernel
theorem dX10_clash_73 : decode cX10_clash 73 = .ok (.iinc 4 1, 3) := by decide +kernel
theorem dX10_clash_76 : decode cX10_clash 76 = .ok (.goto (-43), 3) := by decide +kernel
theorem dX10_clash_79 : decode cX10_clash 79 = .ok (.aload_n 0, 1) := by decide +kernel
theorem dX10_clash_80 : decode cX10_clash 80 = .ok (.invokevirtual 180, 3) := by decide +kernel
theorem dX10_clash_83 : decode cX10_clash 83 = .ok (.iload_n 3, 1) := by decide +kernel
theorem dX10_clash_84 : decode cX10_clash 84 = .ok (.ifCond .eq 7, 3) := by decide +kernel
theorem dX10_clash_87 : decode cX10_clash 87 = .ok (.iconst 0, 1) := by decide +kernel
theorem dX10_clash_88 : decode cX10_clash 88 = .ok (.goto 4, 3) := by decide +kernel
theorem dX10_clash_91 : decode cX10_clash 91 = .ok (.iconst 1, 1) := by decide +kernel
theorem dX10_clash_92 : decode cX10_clash 92 = .ok (.ireturn, 1) := by decide +kernel
abbrev x_X10_clash (E : mh_E) (d mc ms : Nat) (Post : Option Value → mh_H → Prop) : mh_X := (E, yX10_clash, cX10_clash, 5, (some .int), d, mc, ms, Post)
def q_X10_clash_92 (X : mh_X) : mh_PR := s_iret X
theorem b_X10_clash_92 {E : mh_E} {d mc ms : Nat} {Post : Option Value → mh_H → Prop} : mh_S (x_X10_clash E d mc ms Post) 92 (q_X10_clash_92 (x_X10_clash E d mc ms Post)) := sn_iret rfl dX10_clash_92
def q_X10_clash_79 (X : mh_X) : mh_PR := s_al 0 (s_cv X yX10_putsBack 10 0 (s_il 3 (s_if1 (fun x => x = 0) (s_push (.int (1)) (q_X10_clash_92 X)) (s_push (.int (0)) (q_X10_clash_92 X)))))
theorem b_X10_clash_79 {E : mh_E} {d mc ms : Nat} {Post : Option Value → mh_H → Prop} : mh_S (x_X10_clash E d mc ms Post) 79 (q_X10_clash_79 (x_X10_clash E d mc ms Post)) := sn_aload_n dX10_clash_79 rfl (sn_cv w_1382 w_1384 w_43 w_66 rfl nm_X10_putsBack dX10_clash_80 (sn_iload_n dX10_clash_83 rfl (sn_if_eq (tgt := 91) dX10_clash_84 (by decide) (sn_iconst dX10_clash_91 (by decide) b_X10_clash_92) (sn_iconst dX10_clash_87 (by decide) (sn_goto (tgt := 92) dX10_clash_88 (by decide) (b_X10_clash_92))))))
def q_X10_clash_72 (X : mh_X) : mh_PR := s_is 3 (s_inc 4 (1) (mh_G X 33))
theorem b_X10_clash_72 {E : mh_E} {d mc ms : Nat} {Post : Option Value → mh_H → Prop} : mh_S (x_X10_clash E d mc ms Post) 72 (q_X10_clash_72 (x_X10_clash E d mc ms Post)) := sn_istore_n dX10_clash_72 rfl (Nat.le_of_ble_eq_true rfl) (sn_iinc dX10_clash_73 (by decide) (Nat.le_of_ble_eq_true rfl) (sn_goto (tgt := 33) dX10_clash_76 (by decide) (mh_S.G)))
def q_X10_clash_71 (X : mh_X) : mh_PR := s_push (.int (0)) (q_X10_clash_72 X)
theorem b_X10_clash_71 {E : mh_E} {d mc ms : Nat} {Post : Option Value → mh_H → Prop} : mh_S (x_X10_clash E d mc ms Post) 71 (q_X10_clash_71 (x_X10_clash E d mc ms Post)) := sn_iconst dX10_clash_71 (by decide) b_X10_clash_72
def q_X10_clash_33 (X : mh_X) : mh_PR := s_il 4 (s_push (.int (4096)) (s_if2 (fun x y => y ≤ x) (q_X10_clash_79 X) (s_il 3 (s_if1 (fun x => ¬ x = 0) (q_X10_clash_79 X) (s_al 0 (s_il 4 (s_cv X yX10_sendsAll 10 1 (s_al 0 (s_il 1 (s_cv X yX10_doesHold 10 1 (s_if1 (fun x => x = 0) (q_X10_clash_71 X) (s_al 0 (s_il 2 (s_cv X yX10_doesHold 10 1 (s_if1 (fun x => x = 0) (q_X10_clash_71 X) (s_push (.int (1)) (q_X10_clash_72 X)))))))))))))))))
theorem b_X10_clash_33 {E : mh_E} {d mc ms : Nat} {Post : Option Value → mh_H → Prop} : mh_S (x_X10_clash E d mc ms Post) 33 (q_X10_clash_33 (x_X10_clash E d mc ms Post)) := sn_iload dX10_clash_33 (sn_sipush dX10_clash_35 (by decide) (sn_icmp_ge (tgt := 79) dX10_clash_38 (by decide) (b_X10_clash_79) (sn_iload_n dX10_clash_41 rfl (sn_if_ne (tgt := 79) dX10_clash_42 (by decide) (b_X10_clash_79) (sn_aload_n dX10_clash_45 rfl (sn_iload dX10_clash_46 (sn_cv w_1378 w_1380 w_42 w_66 rfl nm_X10_sendsAll dX10_clash_48 (sn_aload_n dX10_clash_51 rfl (sn_iload_n dX10_clash_52 rfl (sn_cv w_1239 w_1241 w_25 w_66 rfl nm_X10_doesHold dX10_clash_53 (sn_if_eq (tgt := 71) dX10_clash_56 (by decide) (b_X10_clash_71) (sn_aload_n dX10_clash_59 rfl (sn_iload_n dX10_clash_60 rfl (sn_cv w_1239 w_1241 w_25 w_66 rfl nm_X10_doesHold dX10_clash_61 (sn_if_eq (tgt := 71) dX10_clash_64 (by decide) (b_X10_clash_71) (sn_iconst dX10_clash_67 (by decide) (sn_goto (tgt := 72) dX10_clash_68 (by decide) (b_X10_clash_72))))))))))))))))))
def q_X10_clash_21 (X : mh_X) : mh_PR := s_push (.int (-1000000001)) (s_iret X)
theorem b_X10_clash_21 {E : mh_E} {d mc ms : Nat} {Post : Option Value → mh_H → Prop} : mh_S (x_X10_clash E d mc ms Post) 21 (q_X10_clash_21 (x_X10_clash E d mc ms Post)) := sn_ldc dX10_clash_21 w_1216 (sn_iret rfl dX10_clash_23)
def q_X10_clash_0 (X : mh_X) : mh_PR := s_al 0 (s_il 1 (s_cv X yX10_isStone 10 1 (s_if1 (fun x => x = 0) (q_X10_clash_21 X) (s_al 0 (s_il 2 (s_cv X yX10_isStone 10 1 (s_if1 (fun x => x = 0) (q_X10_clash_21 X) (s_il 1 (s_il 2 (s_if2 (fun x y => ¬ x = y) (s_al 0 (s_cv X yX10_thinks 10 0 (s_push (.int (0)) (s_is 3 (s_push (.int (0)) (s_is 4 (mh_G X 33))))))) (q_X10_clash_21 X)))))))))))
theorem b_X10_clash_0 {E : mh_E} {d mc ms : Nat} {Post : Option Value → mh_H → Prop} : mh_S (x_X10_clash E d mc ms Post) 0 (q_X10_clash_0 (x_X10_clash E d mc ms Post)) := sn_aload_n dX10_clash_0 rfl (sn_iload_n dX10_clash_1 rfl (sn_cv w_1230 w_1232 w_23 w_66 rfl nm_X10_isStone dX10_clash_2 (sn_if_eq (tgt := 21) dX10_clash_5 (by decide) (b_X10_clash_21) (sn_aload_n dX10_clash_8 rfl (sn_iload_n dX10_clash_9 rfl (sn_cv w_1230 w_1232 w_23 w_66 rfl nm_X10_isStone dX10_clash_10 (sn_if_eq (tgt := 21) dX10_clash_13 (by decide) (b_X10_clash_21) (sn_iload_n dX10_clash_16 rfl (sn_iload_n dX10_clash_17 rfl (sn_icmp_ne (tgt := 24) dX10_clash_18 (by decide) (sn_aload_n dX10_clash_24 rfl (sn_cv w_1374 w_1376 w_41 w_66 rfl nm_X10_thinks dX10_clash_25 (sn_iconst dX10_clash_28 (by decide) (sn_istore_n dX10_clash_29 rfl (Nat.le_of_ble_eq_true rfl) (sn_iconst dX10_clash_30 (by decide) (sn_istore dX10_clash_31 (Nat.le_of_ble_eq_true rfl) mh_S.G)))))) (b_X10_clash_21)))))))))))
theorem m_X10_clash {E : mh_E} {d mc ms : Nat} {args : List Value} {h : mh_H} {Post : Option Value → mh_H → Prop} (lv : List (Option Value)) (hl : lv_args 0 args = mh_al 0 lv) (hs : (lg_sl args).length ≤ 5) (hG : q_X10_clash_0 (x_X10_clash E d mc ms Post) lv [] h 0 0) : mh_M E d mc ms yX10_clash args h Post := mh_M.of w_1389 (by decide) (by decide) hl hs (b_X10_clash_0 _ _ _ _ _ hG)
theorem dX10_behind_0 : decode cX10_behind 0 = .ok (.iload_n 1, 1) := by decide +kernel
theorem dX10_behind_1 : decode cX10_behind 1 = .ok (.iconst 0, 1) := by decide +kernel
theorem dX10_behind_2 : decode cX10_behind 2 = .ok (.bipush 100, 2) := by decide +kernel
theorem dX10_behind_4 : decode cX10_behind 4 = .ok (.invokestatic 79, 3) := by decide +kernel
theorem dX10_behind_7 : decode cX10_behind 7 = .ok (.ifCond .eq 21, 3) := by decide +kernel
theorem dX10_behind_10 : decode cX10_behind 10 = .ok (.iload_n 2, 1) := by decide +kernel
theorem dX10_behind_11 : decode cX10_behind 11 = .ok (.ifCond .lt 17, 3) := by decide +kernel
theorem dX10_behind_14 : decode cX10_behind 14 = .ok (.iload_n 2, 1) := by decide +kernel
theorem dX10_behind_15 : decode cX10_behind 15 = .ok (.iconst 2, 1) := by decide +kernel
theorem dX10_behind_16 : decode cX10_behind 16 = .ok (.if_icmp .le 15, 3) := by decide +kernel
theorem dX10_behind_19 : decode cX10_behind 19 = .ok (.iload_n 2, 1) := by decide +kernel
theorem dX10_behind_20 : decode cX10_behind 20 = .ok (.iconst 3, 1) := by decide +kernel
theorem dX10_behind_21 : decode cX10_behind 21 = .ok (.isub, 1) := by decide +kernel
theorem dX10_behind_22 : decode cX10_behind 22 = .ok (.invokestatic 144, 3) := by decide +kernel
theorem dX10_behind_25 : decode cX10_behind 25 = .ok (.ifCond .ne 6, 3) := by decide +kernel
theorem dX10_behind_28 : decode cX10_behind 28 = .ok (.ldc 91, 2) := by decide +kernel
theorem dX10_behind_30 : decode cX10_behind 30 = .ok (.ireturn, 1) := by decide +kernel
theorem dX10_behind_31 : decode cX10_behind 31 = .ok (.aload_n 0, 1) := by decide +kernel
theorem dX10_behind_32 : decode cX10_behind 32 = .ok (.invokevirtual 174, 3) := by decide +kernel
theorem dX10_behind_35 : decode cX10_behind 35 = .ok (.aload_n 0, 1) := by decide +kernel
theorem dX10_behind_36 : decode cX10_behind 36 = .ok (.iload_n 1, 1) := by decide +kernel
theorem dX10_behind_37 : decode cX10_behind 37 = .ok (.invokevirtual 165, 3) := by decide +kernel
theorem dX10_behind_40 : decode cX10_behind 40 = .ok (.iload_n 2, 1) := by decide +kernel
theorem dX10_behind_41 : decode cX10_behind 41 = .ok (.ifCond .ne 13, 3) := by decide +kernel
theorem dX10_behind_44 : decode cX10_behind 44 = .ok (.aload_n 0, 1) := by decide +kernel
theorem dX10_behind_45 : decode cX10_behind 45 = .ok (.invokevirtual 159, 3) := by decide +kernel
theorem dX10_behind_48 : decode cX10_behind 48 = .ok (.invokestatic 162, 3) := by decide +kernel
theorem dX10_behind_51 : decode cX10_behind 51 = .ok (.goto 39, 3) := by decide +kernel
theorem dX10_behind_54 : decode cX10_behind 54 = .ok (.iload_n 2, 1) := by decide +kernel
theorem dX10_behind_55 : decode cX10_behind 55 = .ok (.iconst 1, 1) := by decide +kernel
theorem dX10_behind_56 : decode cX10_behind 56 = .ok (.if_icmp .ne 13, 3) := by decide +kernel
theorem dX10_behind_59 : decode cX10_behind 59 = .ok (.aload_n 0, 1) := by decide +kernel
theorem dX10_behind_60 : decode cX10_behind 60 = .ok (.getfield 9, 3) := by decide +kernel
theorem dX10_behind_63 : decode cX10_behind 63 = .ok (.bipush 6, 2) := by decide +kernel
theorem dX10_behind_65 : decode cX10_behind 65 = .ok (.iaload, 1) := by decide +kernel
theorem dX10_behind_66 : decode cX10_behind 66 = .ok (.goto 24, 3) := by decide +kernel
theorem dX10_behind_69 : decode cX10_behind 69 = .ok (.iload_n 2, 1) := by decide +kernel
theorem dX10_behind_70 : decode cX10_behind 70 = .ok (.iconst 2, 1) := by decide +kernel
theorem dX10_behind_71 : decode cX10_behind 71 = .ok (.if_icmp .ne 12, 3) := by decide +kernel
theorem dX10_behind_74 : decode cX10_behind 74 = .ok (.aload_n 0, 1) := by decide +kernel
theorem dX10_behind_75 : decode cX10_behind 75 = .ok (.getfield 9, 3) := by decide +kernel
theorem dX10_behind_78 : decode cX10_behind 78 = .ok (.iconst 5, 1) := by decide +kernel
theorem dX10_behind_79 : decode cX10_behind 79 = .ok (.iaload, 1) := by decide +kernel
theorem dX10_behind_80 : decode cX10_behind 80 = .ok (.goto 10, 3) := by decide +kernel
theorem dX10_behind_83 : decode cX10_behind 83 = .ok (.aload_n 0, 1) := by decide +kernel
theorem dX10_behind_84 : decode cX10_behind 84 = .ok (.iload_n 2, 1) := by decide +kernel
theorem dX10_behind_85 : decode cX10_behind 85 = .ok (.iconst 3, 1) := by decide +kernel
theorem dX10_behind_86 : decode cX10_behind 86 = .ok (.isub, 1) := by decide +kernel
theorem dX10_behind_87 : decode cX10_behind 87 = .ok (.invokevirtual 101, 3) := by decide +kernel
theorem dX10_behind_90 : decode cX10_behind 90 = .ok (.istore_n 3, 1) := by decide +kernel
theorem dX10_behind_91 : decode cX10_behind 91 = .ok (.aload_n 0, 1) := by decide +kernel
theorem dX10_behind_92 : decode cX10_behind 92 = .ok (.invokevirtual 180, 3) := by decide +kernel
theorem dX10_behind_95 : decode cX10_behind 95 = .ok (.iload_n 3, 1) := by decide +kernel
theorem dX10_behind_96 : decode cX10_behind 96 = .ok (.ireturn, 1) := by decide +kernel
abbrev x_X10_behind (E : mh_E) (d mc ms : Nat) (Post : Option Value → mh_H → Prop) : mh_X := (E, yX10_behind, cX10_behind, 4, (some .int), d, mc, ms, Post)
def q_X10_behind_90 (X : mh_X) : mh_PR := s_is 3 (s_al 0 (s_cv X yX10_putsBack 10 0 (s_il 3 (s_iret X))))
theorem b_X10_behind_90 {E : mh_E} {d mc ms : Nat} {Post : Option Value → mh_H → Prop} : mh_S (x_X10_behind E d mc ms Post) 90 (q_X10_behind_90 (x_X10_behind E d mc ms Post)) := sn_istore_n dX10_behind_90 rfl (Nat.le_of_ble_eq_true rfl) (sn_aload_n dX10_behind_91 rfl (sn_cv w_1382 w_1384 w_43 w_66 rfl nm_X10_putsBack dX10_behind_92 (sn_iload_n dX10_behind_95 rfl (sn_iret rfl dX10_behind_96))))
def q_X10_behind_31 (X : mh_X) : mh_PR := s_al 0 (s_cv X yX10_thinks 10 0 (s_al 0 (s_il 1 (s_cv X yX10_goesOn 10 1 (s_il 2 (s_if1 (fun x => ¬ x = 0) (s_il 2 (s_push (.int (1)) (s_if2 (fun x y => ¬ x = y) (s_il 2 (s_push (.int (2)) (s_if2 (fun x y => ¬ x = y) (s_al 0 (s_il 2 (s_push (.int (3)) (s_bin (fun x y => x - y) (s_cv X yX10_rankOf 10 1 (q_X10_behind_90 X)))))) (s_al 0 (s_gr 10 0 (s_push (.int (5)) (s_ald 0 (q_X10_behind_90 X)))))))) (s_al 0 (s_gr 10 0 (s_push (.int (6)) (s_ald 0 (q_X10_behind_90 X)))))))) (s_al 0 (s_cv X yX10_fulfilled 10 0 (s_cs X yX10_manyOf 1 (q_X10_behind_90 X))))))))))
theorem b_X10_behind_31 {E : mh_E} {d mc ms : Nat} {Post : Option Value → mh_H → Prop} : mh_S (x_X10_behind E d mc ms Post) 31 (q_X10_behind_31 (x_X10_behind E d mc ms Post)) := sn_aload_n dX10_behind_31 rfl (sn_cv w_1374 w_1376 w_41 w_66 rfl nm_X10_thinks dX10_behind_32 (sn_aload_n dX10_behind_35 rfl (sn_iload_n dX10_behind_36 rfl (sn_cv w_1346 w_1348 w_36 w_66 rfl nm_X10_goesOn dX10_behind_37 (sn_iload_n dX10_behind_40 rfl (sn_if_ne (tgt := 54) dX10_behind_41 (by decide) (sn_iload_n dX10_behind_54 rfl (sn_iconst dX10_behind_55 (by decide) (sn_icmp_ne (tgt := 69) dX10_behind_56 (by decide) (sn_iload_n dX10_behind_69 rfl (sn_iconst dX10_behind_70 (by decide) (sn_icmp_ne (tgt := 83) dX10_behind_71 (by decide) (sn_aload_n dX10_behind_83 rfl (sn_iload_n dX10_behind_84 rfl (sn_iconst dX10_behind_85 (by decide) (sn_isub dX10_behind_86 (sn_cv w_1247 w_1249 w_27 w_66 rfl nm_X10_rankOf dX10_behind_87 b_X10_behind_90))))) (sn_aload_n dX10_behind_74 rfl (sn_getr clX10 (by decide) w_1100 dX10_behind_75 (sn_iconst dX10_behind_78 (by decide) (sn_iaload dX10_behind_79 (sn_goto (tgt := 90) dX10_behind_80 (by decide) (b_X10_behind_90))))))))) (sn_aload_n dX10_behind_59 rfl (sn_getr clX10 (by decide) w_1100 dX10_behind_60 (sn_bipush dX10_behind_63 (by decide) (sn_iaload dX10_behind_65 (sn_goto (tgt := 90) dX10_behind_66 (by decide) (b_X10_behind_90))))))))) (sn_aload_n dX10_behind_44 rfl (sn_cv w_1339 w_1341 w_35 w_66 rfl nm_X10_fulfilled dX10_behind_45 (sn_cs w_1343 w_1344 w_66 nm_X10_manyOf dX10_behind_48 (sn_goto (tgt := 90) dX10_behind_51 (by decide) (b_X10_behind_90)))))))))))
def q_X10_behind_28 (X : mh_X) : mh_PR := s_push (.int (-1000000001)) (s_iret X)
theorem b_X10_behind_28 {E : mh_E} {d mc ms : Nat} {Post : Option Value → mh_H → Prop} : mh_S (x_X10_behind E d mc ms Post) 28 (q_X10_behind_28 (x_X10_behind E d mc ms Post)) := sn_ldc dX10_behind_28 w_1216 (sn_iret rfl dX10_behind_30)
def q_X10_behind_0 (X : mh_X) : mh_PR := s_il 1 (s_push (.int (0)) (s_push (.int (100)) (s_cs X yX10_in 3 (s_if1 (fun x => x = 0) (q_X10_behind_28 X) (s_il 2 (s_if1 (fun x => x < 0) (q_X10_behind_28 X) (s_il 2 (s_push (.int (2)) (s_if2 (fun x y => x ≤ y) (q_X10_behind_31 X) (s_il 2 (s_push (.int (3)) (s_bin (fun x y => x - y) (s_cs X yX10_isPerson 1 (s_if1 (fun x => ¬ x = 0) (q_X10_behind_31 X) (q_X10_behind_28 X)))))))))))))))
theorem b_X10_behind_0 {E : mh_E} {d mc ms : Nat} {Post : Option Value → mh_H → Prop} : mh_S (x_X10_behind E d mc ms Post) 0 (q_X10_behind_0 (x_X10_behind E d mc ms Post)) := sn_iload_n dX10_behind_0 rfl (sn_iconst dX10_behind_1 (by decide) (sn_bipush dX10_behind_2 (by decide) (sn_cs w_1210 w_1211 w_66 nm_X10_in dX10_behind_4 (sn_if_eq (tgt := 28) dX10_behind_7 (by decide) (b_X10_behind_28) (sn_iload_n dX10_behind_10 rfl (sn_if_lt (tgt := 28) dX10_behind_11 (by decide) (b_X10_behind_28) (sn_iload_n dX10_behind_14 rfl (sn_iconst dX10_behind_15 (by decide) (sn_icmp_le (tgt := 31) dX10_behind_16 (by decide) (b_X10_behind_31) (sn_iload_n dX10_behind_19 rfl (sn_iconst dX10_behind_20 (by decide) (sn_isub dX10_behind_21 (sn_cs w_1307 w_1308 w_66 nm_X10_isPerson dX10_behind_22 (sn_if_ne (tgt := 31) dX10_behind_25 (by decide) (b_X10_behind_31) (b_X10_behind_28)))))))))))))))
theorem m_X10_behind {E : mh_E} {d mc ms : Nat} {args : List Value} {h : mh_H} {Post : Option Value → mh_H → Prop} (lv : List (Option Value)) (hl : lv_args 0 args = mh_al 0 lv) (hs : (lg_sl args).length ≤ 4) (hG : q_X10_behind_0 (x_X10_behind E d mc ms Post) lv [] h 0 0) : mh_M E d mc ms yX10_behind args h Post := mh_M.of w_1393 (by decide) (by decide) hl hs (b_X10_behind_0 _ _ _ _ _ hG)
theorem dX10_fulfils_0 : decode cX10_fulfils 0 = .ok (.aload_n 0, 1) := by decide +kernel
theorem dX10_fulfils_1 : decode cX10_fulfils 1 = .ok (.iload_n 1, 1) := by decide +kernel
theorem dX10_fulfils_2 : decode cX10_fulfils 2 = .ok (.invokevirtual 122, 3) := by decide +kernel
theorem dX10_fulfils_5 : decode cX10_fulfils 5 = .ok (.ifCond .ne 6, 3) := by decide +kernel
theorem dX10_fulfils_8 : decode cX10_fulfils 8 = .ok (.ldc 91, 2) := by decide +kernel
theorem dX10_fulfils_10 : decode cX10_fulfils 10 = .ok (.ireturn, 1) := by decide +kernel
theorem dX10_fulfils_11 : decode cX10_fulfils 11 = .ok (.aload_n 0, 1) := by decide +kernel
theorem dX10_fulfils_12 : decode cX10_fulfils 12 = .ok (.invokevirtual 174, 3) := by decide +kernel
theorem dX10_fulfils_15 : decode cX10_fulfils 15 = .ok (.iconst 0, 1) := by decide +kernel
theorem dX10_fulfils_16 : decode cX10_fulfils 16 = .ok (.istore_n 2, 1) := by decide +kernel
theorem dX10_fulfils_17 : decode cX10_fulfils 17 = .ok (.iload_n 2, 1) := by decide +kernel
theorem dX10_fulfils_18 : decode cX10_fulfils 18 = .ok (.sipush 200, 3) := by decide +kernel
theorem dX10_fulfils_21 : decode cX10_fulfils 21 = .ok (.if_icmp .gt 22, 3) := by decide +kernel
theorem dX10_fulfils_24 : decode cX10_fulfils 24 = .ok (.aload_n 0, 1) := by decide +kernel
theorem dX10_fulfils_25 : decode cX10_fulfils 25 = .ok (.iload_n 1, 1) := by decide +kernel
theorem dX10_fulfils_26 : decode cX10_fulfils 26 = .ok (.iconst 5, 1) := by decide +kernel
theorem dX10_fulfils_27 : decode cX10_fulfils 27 = .ok (.invokevirtual 104, 3) := by decide +kernel
theorem dX10_fulfils_30 : decode cX10_fulfils 30 = .ok (.ifCond .ge 13, 3) := by decide +kernel
theorem dX10_fulfils_33 : decode cX10_fulfils 33 = .ok (.aload_n 0, 1) := by decide +kernel
theorem dX10_fulfils_34 : decode cX10_fulfils 34 = .ok (.invokevirtual 156, 3) := by decide +kernel
theorem dX10_fulfils_37 : decode cX10_fulfils 37 = .ok (.iinc 2 1, 3) := by decide +kernel
theorem dX10_fulfils_40 : decode cX10_fulfils 40 = .ok (.goto (-23), 3) := by decide +kernel
theorem dX10_fulfils_43 : decode cX10_fulfils 43 = .ok (.aload_n 0, 1) := by decide +kernel
theorem dX10_fulfils_44 : decode cX10_fulfils 44 = .ok (.invokevirtual 180, 3) := by decide +kernel
theorem dX10_fulfils_47 : decode cX10_fulfils 47 = .ok (.iload_n 2, 1) := by decide +kernel
theorem dX10_fulfils_48 : decode cX10_fulfils 48 = .ok (.sipush 200, 3) := by decide +kernel
theorem dX10_fulfils_51 : decode cX10_fulfils 51 = .ok (.if_icmp .le 8, 3) := by decide +kernel
theorem dX10_fulfils_54 : decode cX10_fulfils 54 = .ok (.ldc 126, 2) := by decide +kernel
theorem dX10_fulfils_56 : decode cX10_fulfils 56 = .ok (.goto 4, 3) := by decide +kernel
theorem dX10_fulfils_59 : decode cX10_fulfils 59 = .ok (.iload_n 2, 1) := by decide +kernel
theorem dX10_fulfils_60 : decode cX10_fulfils 60 = .ok (.ireturn, 1) := by decide +kernel
abbrev x_X10_fulfils (E : mh_E) (d mc ms : Nat) (Post : Option Value → mh_H → Prop) : mh_X := (E, yX10_fulfils, cX10_fulfils, 3, (some .int), d, mc, ms, Post)
def q_X10_fulfils_60 (X : mh_X) : mh_PR := s_iret X
theorem b_X10_fulfils_60 {E : mh_E} {d mc ms : Nat} {Post : Option Value → mh_H → Prop} : mh_S (x_X10_fulfils E d mc ms Post) 60 (q_X10_fulfils_60 (x_X10_fulfils E d mc ms Post)) := sn_iret rfl dX10_fulfils_60
def q_X10_fulfils_43 (X : mh_X) : mh_PR := s_al 0 (s_cv X yX10_putsBack 10 0 (s_il 2 (s_push (.int (200)) (s_if2 (fun x y => x ≤ y) (s_il 2 (q_X10_fulfils_60 X)) (s_push (.int (-1000000005)) (q_X10_fulfils_60 X))))))
theorem b_X10_fulfils_43 {E : mh_E} {d mc ms : Nat} {Post : Option Value → mh_H → Prop} : mh_S (x_X10_fulfils E d mc ms Post) 43 (q_X10_fulfils_43 (x_X10_fulfils E d mc ms Post)) := sn_aload_n dX10_fulfils_43 rfl (sn_cv w_1382 w_1384 w_43 w_66 rfl nm_X10_putsBack dX10_fulfils_44 (sn_iload_n dX10_fulfils_47 rfl (sn_sipush dX10_fulfils_48 (by decide) (sn_icmp_le (tgt := 59) dX10_fulfils_51 (by decide) (sn_iload_n dX10_fulfils_59 rfl b_X10_fulfils_60) (sn_ldc dX10_fulfils_54 w_1238 (sn_goto (tgt := 60) dX10_fulfils_56 (by decide) (b_X10_fulfils_60)))))))
def q_X10_fulfils_17 (X : mh_X) : mh_PR := s_il 2 (s_push (.int (200)) (s_if2 (fun x y => y < x) (q_X10_fulfils_43 X) (s_al 0 (s_il 1 (s_push (.int (5)) (s_cv X yX10_of 10 2 (s_if1 (fun x => 0 ≤ x) (q_X10_fulfils_43 X) (s_al 0 (s_cv X yX10_year 10 0 (s_inc 2 (1) (mh_G X 17)))))))))))
theorem b_X10_fulfils_17 {E : mh_E} {d mc ms : Nat} {Post : Option Value → mh_H → Prop} : mh_S (x_X10_fulfils E d mc ms Post) 17 (q_X10_fulfils_17 (x_X10_fulfils E d mc ms Post)) := sn_iload_n dX10_fulfils_17 rfl (sn_sipush dX10_fulfils_18 (by decide) (sn_icmp_gt (tgt := 43) dX10_fulfils_21 (by decide) (b_X10_fulfils_43) (sn_aload_n dX10_fulfils_24 rfl (sn_iload_n dX10_fulfils_25 rfl (sn_iconst dX10_fulfils_26 (by decide) (sn_cv w_1234 w_1236 w_24 w_66 rfl nm_X10_of dX10_fulfils_27 (sn_if_ge (tgt := 43) dX10_fulfils_30 (by decide) (b_X10_fulfils_43) (sn_aload_n dX10_fulfils_33 rfl (sn_cv w_1350 w_1352 w_37 w_66 rfl nm_X10_year dX10_fulfils_34 (sn_iinc dX10_fulfils_37 (by decide) (Nat.le_of_ble_eq_true rfl) (sn_goto (tgt := 17) dX10_fulfils_40 (by decide) (mh_S.G))))))))))))
def q_X10_fulfils_0 (X : mh_X) : mh_PR := s_al 0 (s_il 1 (s_cv X yX10_isStone 10 1 (s_if1 (fun x => ¬ x = 0) (s_al 0 (s_cv X yX10_thinks 10 0 (s_push (.int (0)) (s_is 2 (mh_G X 17))))) (s_push (.int (-1000000001)) (s_iret X)))))
theorem b_X10_fulfils_0 {E : mh_E} {d mc ms : Nat} {Post : Option Value → mh_H → Prop} : mh_S (x_X10_fulfils E d mc ms Post) 0 (q_X10_fulfils_0 (x_X10_fulfils E d mc ms Post)) := sn_aload_n dX10_fulfils_0 rfl (sn_iload_n dX10_fulfils_1 rfl (sn_cv w_1230 w_1232 w_23 w_66 rfl nm_X10_isStone dX10_fulfils_2 (sn_if_ne (tgt := 11) dX10_fulfils_5 (by decide) (sn_aload_n dX10_fulfils_11 rfl (sn_cv w_1374 w_1376 w_41 w_66 rfl nm_X10_thinks dX10_fulfils_12 (sn_iconst dX10_fulfils_15 (by decide) (sn_istore_n dX10_fulfils_16 rfl (Nat.le_of_ble_eq_true rfl) mh_S.G)))) (sn_ldc dX10_fulfils_8 w_1216 (sn_iret rfl dX10_fulfils_10)))))
theorem m_X10_fulfils {E : mh_E} {d mc ms : Nat} {args : List Value} {h : mh_H} {Post : Option Value → mh_H → Prop} (lv : List (Option Value)) (hl : lv_args 0 args = mh_al 0 lv) (hs : (lg_sl args).length ≤ 3) (hG : q_X10_fulfils_0 (x_X10_fulfils E d mc ms Post) lv [] h 0 0) : mh_M E d mc ms yX10_fulfils args h Post := mh_M.of w_1397 (by decide) (by decide) hl hs (b_X10_fulfils_0 _ _ _ _ _ hG)
theorem dX10_fulfilledBehind_0 : decode cX10_fulfilledBehind 0 = .ok (.aload_n 0, 1) := by decide +kernel
theorem dX10_fulfilledBehind_1 : decode cX10_fulfilledBehind 1 = .ok (.iload_n 1, 1) := by decide +kernel
theorem dX10_fulfilledBehind_2 : decode cX10_fulfilledBehind 2 = .ok (.invokevirtual 165, 3) := by decide +kernel
theorem dX10_fulfilledBehind_5 : decode cX10_fulfilledBehind 5 = .ok (.aload_n 0, 1) := by decide +kernel
theorem dX10_fulfilledBehind_6 : decode cX10_fulfilledBehind 6 = .ok (.invokevirtual 159, 3) := by decide +kernel
theorem dX10_fulfilledBehind_9 : decode cX10_fulfilledBehind 9 = .ok (.invokestatic 162, 3) := by decide +kernel
theorem dX10_fulfilledBehind_12 : decode cX10_fulfilledBehind 12 = .ok (.istore_n 2, 1) := by decide +kernel
theorem dX10_fulfilledBehind_13 : decode cX10_fulfilledBehind 13 = .ok (.aload_n 0, 1) := by decide +kernel
theorem dX10_fulfilledBehind_14 : decode cX10_fulfilledBehind 14 = .ok (.invokevirtual 180, 3) := by decide +kernel
theorem dX10_fulfilledBehind_17 : decode cX10_fulfilledBehind 17 = .ok (.iload_n 2, 1) := by decide +kernel
theorem dX10_fulfilledBehind_18 : decode cX10_fulfilledBehind 18 = .ok (.ireturn, 1) := by decide +kernel
abbrev x_X10_fulfilledBehind (E : mh_E) (d mc ms : Nat) (Post : Option Value → mh_H → Prop) : mh_X := (E, yX10_fulfilledBehind, cX10_fulfilledBehind, 3, (some .int), d, mc, ms, Post)
def q_X10_fulfilledBehind_0 (X : mh_X) : mh_PR := s_al 0 (s_il 1 (s_cv X yX10_goesOn 10 1 (s_al 0 (s_cv X yX10_fulfilled 10 0 (s_cs X yX10_manyOf 1 (s_is 2 (s_al 0 (s_cv X yX10_putsBack 10 0 (s_il 2 (s_iret X))))))))))
theorem b_X10_fulfilledBehind_0 {E : mh_E} {d mc ms : Nat} {Post : Option Value → mh_H → Prop} : mh_S (x_X10_fulfilledBehind E d mc ms Post) 0 (q_X10_fulfilledBehind_0 (x_X10_fulfilledBehind E d mc ms Post)) := sn_aload_n dX10_fulfilledBehind_0 rfl (sn_iload_n dX10_fulfilledBehind_1 rfl (sn_cv w_1346 w_1348 w_36 w_66 rfl nm_X10_goesOn dX10_fulfilledBehind_2 (sn_aload_n dX10_fulfilledBehind_5 rfl (sn_cv w_1339 w_1341 w_35 w_66 rfl nm_X10_fulfilled dX10_fulfilledBehind_6 (sn_cs w_1343 w_1344 w_66 nm_X10_manyOf dX10_fulfilledBehind_9 (sn_istore_n dX10_fulfilledBehind_12 rfl (Nat.le_of_ble_eq_true rfl) (sn_aload_n dX10_fulfilledBehind_13 rfl (sn_cv w_1382 w_1384 w_43 w_66 rfl nm_X10_putsBack dX10_fulfilledBehind_14 (sn_iload_n dX10_fulfilledBehind_17 rfl (sn_iret rfl dX10_fulfilledBehind_18))))))))))
theorem m_X10_fulfilledBehind {E : mh_E} {d mc ms : Nat} {args : List Value} {h : mh_H} {Post : Option Value → mh_H → Prop} (lv : List (Option Value)) (hl : lv_args 0 args = mh_al 0 lv) (hs : (lg_sl args).length ≤ 3) (hG : q_X10_fulfilledBehind_0 (x_X10_fulfilledBehind E d mc ms Post) lv [] h 0 0) : mh_M E d mc ms yX10_fulfilledBehind args h Post := mh_M.of w_1405 (by decide) (by decide) hl hs (b_X10_fulfilledBehind_0 _ _ _ _ _ hG)
theorem dX10_becomes_0 : decode cX10_becomes 0 = .ok (.aload_n 0, 1) := by decide +kernel
theorem dX10_becomes_1 : decode cX10_becomes 1 = .ok (.iload_n 1, 1) := by decide +kernel
theorem dX10_becomes_2 : decode cX10_becomes 2 = .ok (.invokevirtual 122, 3) := by decide +kernel
theorem dX10_becomes_5 : decode cX10_becomes 5 = .ok (.ifCond .eq 22, 3) := by decide +kernel
theorem dX10_becomes_8 : decode cX10_becomes 8 = .ok (.iload_n 2, 1) := by decide +kernel
theorem dX10_becomes_9 : decode cX10_becomes 9 = .ok (.iconst 1, 1) := by decide +kernel
theorem dX10_becomes_10 : decode cX10_becomes 10 = .ok (.bipush 60, 2) := by decide +kernel
theorem dX10_becomes_12 : decode cX10_becomes 12 = .ok (.invokestatic 79, 3) := by decide +kernel
theorem dX10_becomes_15 : decode cX10_becomes 15 = .ok (.ifCond .eq 12, 3) := by decide +kernel
theorem dX10_becomes_18 : decode cX10_becomes 18 = .ok (.iload_n 3, 1) := by decide +kernel
theorem dX10_becomes_19 : decode cX10_becomes 19 = .ok (.iconst 0, 1) := by decide +kernel
theorem dX10_becomes_20 : decode cX10_becomes 20 = .ok (.iconst 1, 1) := by decide +kernel
theorem dX10_becomes_21 : decode cX10_becomes 21 = .ok (.invokestatic 79, 3) := by decide +kernel
theorem dX10_becomes_24 : decode cX10_becomes 24 = .ok (.ifCond .ne 6, 3) := by decide +kernel
theorem dX10_becomes_27 : decode cX10_becomes 27 = .ok (.ldc 91, 2) := by decide +kernel
theorem dX10_becomes_29 : decode cX10_becomes 29 = .ok (.ireturn, 1) := by decide +kernel
theorem dX10_becomes_30 : decode cX10_becomes 30 = .ok (.aload_n 0, 1) := by decide +kernel
theorem dX10_becomes_31 : decode cX10_becomes 31 = .ok (.invokevirtual 174, 3) := by decide +kernel
theorem dX10_becomes_34 : decode cX10_becomes 34 = .ok (.iconst 0, 1) := by decide +kernel
theorem dX10_becomes_35 : decode cX10_becomes 35 = .ok (.istore 4, 2) := by decide +kernel
theorem dX10_becomes_37 : decode cX10_becomes 37 = .ok (.iconst (-1), 1) := by decide +kernel
theorem dX10_becomes_38 : decode cX10_becomes 38 = .ok (.istore 5, 2) := by decide +kernel
theorem dX10_becomes_40 : decode cX10_becomes 40 = .ok (.iconst 0, 1) := by decide +kernel
theorem dX10_becomes_41 : decode cX10_becomes 41 = .ok (.istore 6, 2) := by decide +kernel
theorem dX10_becomes_43 : decode cX10_becomes 43 = .ok (.iload 6, 2) := by decide +kernel
theorem dX10_becomes_45 : decode cX10_becomes 45 = .ok (.bipush 6, 2) := by decide +kernel
theorem dX10_becomes_47 : decode cX10_becomes 47 = .ok (.if_icmp .ge 56, 3) := by decide +kernel
theorem dX10_becomes_50 : decode cX10_becomes 50 = .ok (.aload_n 0, 1) := by decide +kernel
theorem dX10_becomes_51 : decode cX10_becomes 51 = .ok (.iload_n 1, 1) := by decide +kernel
theorem dX10_becomes_52 : decode cX10_becomes 52 = .ok (.iconst 0, 1) := by decide +kernel
theorem dX10_becomes_53 : decode cX10_becomes 53 = .ok (.iload 6, 2) := by decide +kernel
theorem dX10_becomes_55 : decode cX10_becomes 55 = .ok (.invokevirtual 83, 3) := by decide +kernel
theorem dX10_becomes_58 : decode cX10_becomes 58 = .ok (.aload_n 0, 1) := by decide +kernel
theorem dX10_becomes_59 : decode cX10_becomes 59 = .ok (.iload_n 2, 1) := by decide +kernel
theorem dX10_becomes_60 : decode cX10_becomes 60 = .ok (.invokevirtual 183, 3) := by decide +kernel
theorem dX10_becomes_63 : decode cX10_becomes 63 = .ok (.istore 7, 2) := by decide +kernel
theorem dX10_becomes_65 : decode cX10_becomes 65 = .ok (.iload 7, 2) := by decide +kernel
theorem dX10_becomes_67 : decode cX10_becomes 67 = .ok (.iload 5, 2) := by decide +kernel
theorem dX10_becomes_69 : decode cX10_becomes 69 = .ok (.if_icmp .le 8, 3) := by decide +kernel
theorem dX10_becomes_72 : decode cX10_becomes 72 = .ok (.iload 6, 2) := by decide +kernel
theorem dX10_becomes_74 : decode cX10_becomes 74 = .ok (.goto 5, 3) := by decide +kernel
theorem dX10_becomes_77 : decode cX10_becomes 77 = .ok (.iload 4, 2) := by decide +kernel
theorem dX10_becomes_79 : decode cX10_becomes 79 = .ok (.istore 4, 2) := by decide +kernel
theorem dX10_becomes_81 : decode cX10_becomes 81 = .ok (.iload 7, 2) := by decide +kernel
theorem dX10_becomes_83 : decode cX10_becomes 83 = .ok (.iload 5, 2) := by decide +kernel
theorem dX10_becomes_85 : decode cX10_becomes 85 = .ok (.if_icmp .le 8, 3) := by decide +kernel
theorem dX10_becomes_88 : decode cX10_becomes 88 = .ok (.iload 7, 2) := by decide +kernel
theorem dX10_becomes_90 : decode cX10_becomes 90 = .ok (.goto 5, 3) := by decide +kernel
theorem dX10_becomes_93 : decode cX10_becomes 93 = .ok (.iload 5, 2) := by decide +kernel
theorem dX10_becomes_95 : decode cX10_becomes 95 = .ok (.istore 5, 2) := by decide +kernel
theorem dX10_becomes_97 : decode cX10_becomes 97 = .ok (.iinc 6 1, 3) := by decide +kernel
theorem dX10_becomes_100 : decode cX10_becomes 100 = .ok (.goto (-57), 3) := by decide +kernel
theorem dX10_becomes_103 : decode cX10_becomes 103 = .ok (.iload_n 3, 1) := by decide +kernel
theorem dX10_becomes_104 : decode cX10_becomes 104 = .ok (.ifCond .ne 8, 3) := by decide +kernel
theorem dX10_becomes_107 : decode cX10_becomes 107 = .ok (.iload 4, 2) := by decide +kernel
theorem dX10_becomes_109 : decode cX10_becomes 109 = .ok (.goto 5, 3) := by decide +kernel
theorem dX10_becomes_112 : decode cX10_becomes 112 = .ok (.iload 5, 2) := by decide +kernel
theorem dX10_becomes_114 : decode cX10_becomes 114 = .ok (.ireturn, 1) := by decide +kernel
abbrev x_X10_becomes (E : mh_E) (d mc ms : Nat) (Post : Option Value → mh_H → Prop) : mh_X := (E, yX10_becomes, cX10_becomes, 8, (some .int), d, mc, ms, Post)
def q_X10_becomes_114 (X : mh_X) : mh_PR := s_iret X
theorem b_X10_becomes_114 {E : mh_E} {d mc ms : Nat} {Post : Option Value → mh_H → Prop} : mh_S (x_X10_becomes E d mc ms Post) 114 (q_X10_becomes_114 (x_X10_becomes E d mc ms Post)) := sn_iret rfl dX10_becomes_114
def q_X10_becomes_95 (X : mh_X) : mh_PR := s_is 5 (s_inc 6 (1) (mh_G X 43))
theorem b_X10_becomes_95 {E : mh_E} {d mc ms : Nat} {Post : Option Value → mh_H → Prop} : mh_S (x_X10_becomes E d mc ms Post) 95 (q_X10_becomes_95 (x_X10_becomes E d mc ms Post)) := sn_istore dX10_becomes_95 (Nat.le_of_ble_eq_true rfl) (sn_iinc dX10_becomes_97 (by decide) (Nat.le_of_ble_eq_true rfl) (sn_goto (tgt := 43) dX10_becomes_100 (by decide) (mh_S.G)))
def q_X10_becomes_79 (X : mh_X) : mh_PR := s_is 4 (s_il 7 (s_il 5 (s_if2 (fun x y => x ≤ y) (s_il 5 (q_X10_becomes_95 X)) (s_il 7 (q_X10_becomes_95 X)))))
theorem b_X10_becomes_79 {E : mh_E} {d mc ms : Nat} {Post : Option Value → mh_H → Prop} : mh_S (x_X10_becomes E d mc ms Post) 79 (q_X10_becomes_79 (x_X10_becomes E d mc ms Post)) := sn_istore dX10_becomes_79 (Nat.le_of_ble_eq_true rfl) (sn_iload dX10_becomes_81 (sn_iload dX10_becomes_83 (sn_icmp_le (tgt := 93) dX10_becomes_85 (by decide) (sn_iload dX10_becomes_93 b_X10_becomes_95) (sn_iload dX10_becomes_88 (sn_goto (tgt := 95) dX10_becomes_90 (by decide) (b_X10_becomes_95))))))
def q_X10_becomes_43 (X : mh_X) : mh_PR := s_il 6 (s_push (.int (6)) (s_if2 (fun x y => y ≤ x) (s_il 3 (s_if1 (fun x => ¬ x = 0) (s_il 5 (q_X10_becomes_114 X)) (s_il 4 (q_X10_becomes_114 X)))) (s_al 0 (s_il 1 (s_push (.int (0)) (s_il 6 (s_cv X yX10_put 10 3 (s_al 0 (s_il 2 (s_cv X yX10_fulfilledBehind 10 1 (s_is 7 (s_il 7 (s_il 5 (s_if2 (fun x y => x ≤ y) (s_il 4 (q_X10_becomes_79 X)) (s_il 6 (q_X10_becomes_79 X))))))))))))))))
theorem b_X10_becomes_43 {E : mh_E} {d mc ms : Nat} {Post : Option Value → mh_H → Prop} : mh_S (x_X10_becomes E d mc ms Post) 43 (q_X10_becomes_43 (x_X10_becomes E d mc ms Post)) := sn_iload dX10_becomes_43 (sn_bipush dX10_becomes_45 (by decide) (sn_icmp_ge (tgt := 103) dX10_becomes_47 (by decide) (sn_iload_n dX10_becomes_103 rfl (sn_if_ne (tgt := 112) dX10_becomes_104 (by decide) (sn_iload dX10_becomes_112 b_X10_becomes_114) (sn_iload dX10_becomes_107 (sn_goto (tgt := 114) dX10_becomes_109 (by decide) (b_X10_becomes_114))))) (sn_aload_n dX10_becomes_50 rfl (sn_iload_n dX10_becomes_51 rfl (sn_iconst dX10_becomes_52 (by decide) (sn_iload dX10_becomes_53 (sn_cv w_1222 w_1224 w_22 w_66 rfl nm_X10_put dX10_becomes_55 (sn_aload_n dX10_becomes_58 rfl (sn_iload_n dX10_becomes_59 rfl (sn_cv w_1402 w_1404 w_44 w_66 rfl nm_X10_fulfilledBehind dX10_becomes_60 (sn_istore dX10_becomes_63 (Nat.le_of_ble_eq_true rfl) (sn_iload dX10_becomes_65 (sn_iload dX10_becomes_67 (sn_icmp_le (tgt := 77) dX10_becomes_69 (by decide) (sn_iload dX10_becomes_77 b_X10_becomes_79) (sn_iload dX10_becomes_72 (sn_goto (tgt := 79) dX10_becomes_74 (by decide) (b_X10_becomes_79)))))))))))))))))
def q_X10_becomes_27 (X : mh_X) : mh_PR := s_push (.int (-1000000001)) (s_iret X)
theorem b_X10_becomes_27 {E : mh_E} {d mc ms : Nat} {Post : Option Value → mh_H → Prop} : mh_S (x_X10_becomes E d mc ms Post) 27 (q_X10_becomes_27 (x_X10_becomes E d mc ms Post)) := sn_ldc dX10_becomes_27 w_1216 (sn_iret rfl dX10_becomes_29)
def q_X10_becomes_0 (X : mh_X) : mh_PR := s_al 0 (s_il 1 (s_cv X yX10_isStone 10 1 (s_if1 (fun x => x = 0) (q_X10_becomes_27 X) (s_il 2 (s_push (.int (1)) (s_push (.int (60)) (s_cs X yX10_in 3 (s_if1 (fun x => x = 0) (q_X10_becomes_27 X) (s_il 3 (s_push (.int (0)) (s_push (.int (1)) (s_cs X yX10_in 3 (s_if1 (fun x => ¬ x = 0) (s_al 0 (s_cv X yX10_thinks 10 0 (s_push (.int (0)) (s_is 4 (s_push (.int (-1)) (s_is 5 (s_push (.int (0)) (s_is 6 (mh_G X 43))))))))) (q_X10_becomes_27 X))))))))))))))
theorem b_X10_becomes_0 {E : mh_E} {d mc ms : Nat} {Post : Option Value → mh_H → Prop} : mh_S (x_X10_becomes E d mc ms Post) 0 (q_X10_becomes_0 (x_X10_becomes E d mc ms Post)) := sn_aload_n dX10_becomes_0 rfl (sn_iload_n dX10_becomes_1 rfl (sn_cv w_1230 w_1232 w_23 w_66 rfl nm_X10_isStone dX10_becomes_2 (sn_if_eq (tgt := 27) dX10_becomes_5 (by decide) (b_X10_becomes_27) (sn_iload_n dX10_becomes_8 rfl (sn_iconst dX10_becomes_9 (by decide) (sn_bipush dX10_becomes_10 (by decide) (sn_cs w_1210 w_1211 w_66 nm_X10_in dX10_becomes_12 (sn_if_eq (tgt := 27) dX10_becomes_15 (by decide) (b_X10_becomes_27) (sn_iload_n dX10_becomes_18 rfl (sn_iconst dX10_becomes_19 (by decide) (sn_iconst dX10_becomes_20 (by decide) (sn_cs w_1210 w_1211 w_66 nm_X10_in dX10_becomes_21 (sn_if_ne (tgt := 30) dX10_becomes_24 (by decide) (sn_aload_n dX10_becomes_30 rfl (sn_cv w_1374 w_1376 w_41 w_66 rfl nm_X10_thinks dX10_becomes_31 (sn_iconst dX10_becomes_34 (by decide) (sn_istore dX10_becomes_35 (Nat.le_of_ble_eq_true rfl) (sn_iconst dX10_becomes_37 (by decide) (sn_istore dX10_becomes_38 (Nat.le_of_ble_eq_true rfl) (sn_iconst dX10_becomes_40 (by decide) (sn_istore dX10_becomes_41 (Nat.le_of_ble_eq_true rfl) mh_S.G)))))))) (b_X10_becomes_27))))))))))))))
theorem m_X10_becomes {E : mh_E} {d mc ms : Nat} {args : List Value} {h : mh_H} {Post : Option Value → mh_H → Prop} (lv : List (Option Value)) (hl : lv_args 0 args = mh_al 0 lv) (hs : (lg_sl args).length ≤ 8) (hG : q_X10_becomes_0 (x_X10_becomes E d mc ms Post) lv [] h 0 0) : mh_M E d mc ms yX10_becomes args h Post := mh_M.of w_1417 (by decide) (by decide) hl hs (b_X10_becomes_0 _ _ _ _ _ hG)
theorem dX10_fee_0 : decode cX10_fee 0 = .ok (.aload_n 0, 1) := by decide +kernel
theorem dX10_fee_1 : decode cX10_fee 1 = .ok (.iconst 1, 1) := by decide +kernel
theorem dX10_fee_2 : decode cX10_fee 2 = .ok (.invokevirtual 112, 3) := by decide +kernel
theorem dX10_fee_5 : decode cX10_fee 5 = .ok (.istore_n 1, 1) := by decide +kernel
theorem dX10_fee_6 : decode cX10_fee 6 = .ok (.aload_n 0, 1) := by decide +kernel
theorem dX10_fee_7 : decode cX10_fee 7 = .ok (.getfield 49, 3) := by decide +kernel
theorem dX10_fee_10 : decode cX10_fee 10 = .ok (.iconst 0, 1) := by decide +kernel
theorem dX10_fee_11 : decode cX10_fee 11 = .ok (.aload_n 0, 1) := by decide +kernel
theorem dX10_fee_12 : decode cX10_fee 12 = .ok (.getfield 9, 3) := by decide +kernel
theorem dX10_fee_15 : decode cX10_fee 15 = .ok (.iconst 5, 1) := by decide +kernel
theorem dX10_fee_16 : decode cX10_fee 16 = .ok (.iaload, 1) := by decide +kernel
theorem dX10_fee_17 : decode cX10_fee 17 = .ok (.iastore, 1) := by decide +kernel
theorem dX10_fee_18 : decode cX10_fee 18 = .ok (.aload_n 0, 1) := by decide +kernel
theorem dX10_fee_19 : decode cX10_fee 19 = .ok (.getfield 49, 3) := by decide +kernel
theorem dX10_fee_22 : decode cX10_fee 22 = .ok (.iconst 1, 1) := by decide +kernel
theorem dX10_fee_23 : decode cX10_fee 23 = .ok (.aload_n 0, 1) := by decide +kernel
theorem dX10_fee_24 : decode cX10_fee 24 = .ok (.getfield 9, 3) := by decide +kernel
theorem dX10_fee_27 : decode cX10_fee 27 = .ok (.bipush 6, 2) := by decide +kernel
theorem dX10_fee_29 : decode cX10_fee 29 = .ok (.iaload, 1) := by decide +kernel
theorem dX10_fee_30 : decode cX10_fee 30 = .ok (.iastore, 1) := by decide +kernel
theorem dX10_fee_31 : decode cX10_fee 31 = .ok (.iload_n 1, 1) := by decide +kernel
theorem dX10_fee_32 : decode cX10_fee 32 = .ok (.ifCond .ge 12, 3) := by decide +kernel
theorem dX10_fee_35 : decode cX10_fee 35 = .ok (.aload_n 0, 1) := by decide +kernel
theorem dX10_fee_36 : decode cX10_fee 36 = .ok (.getfield 9, 3) := by decide +kernel
theorem dX10_fee_39 : decode cX10_fee 39 = .ok (.iconst 5, 1) := by decide +kernel
theorem dX10_fee_40 : decode cX10_fee 40 = .ok (.iaload, 1) := by decide +kernel
theorem dX10_fee_41 : decode cX10_fee 41 = .ok (.goto 8, 3) := by decide +kernel
theorem dX10_fee_44 : decode cX10_fee 44 = .ok (.aload_n 0, 1) := by decide +kernel
theorem dX10_fee_45 : decode cX10_fee 45 = .ok (.iload_n 1, 1) := by decide +kernel
theorem dX10_fee_46 : decode cX10_fee 46 = .ok (.invokevirtual 119, 3) := by decide +kernel
theorem dX10_fee_49 : decode cX10_fee 49 = .ok (.ireturn, 1) := by decide +kernel
abbrev x_X10_fee (E : mh_E) (d mc ms : Nat) (Post : Option Value → mh_H → Prop) : mh_X := (E, yX10_fee, cX10_fee, 2, (some .int), d, mc, ms, Post)
def q_X10_fee_49 (X : mh_X) : mh_PR := s_iret X
theorem b_X10_fee_49 {E : mh_E} {d mc ms : Nat} {Post : Option Value → mh_H → Prop} : mh_S (x_X10_fee E d mc ms Post) 49 (q_X10_fee_49 (x_X10_fee E d mc ms Post)) := sn_iret rfl dX10_fee_49
def q_X10_fee_0 (X : mh_X) : mh_PR := s_al 0 (s_push (.int (1)) (s_cv X yX10_counts 10 1 (s_is 1 (s_al 0 (s_gr 10 23 (s_push (.int (0)) (s_al 0 (s_gr 10 0 (s_push (.int (5)) (s_ald 0 (s_ast 0 (fun x => x) (s_al 0 (s_gr 10 23 (s_push (.int (1)) (s_al 0 (s_gr 10 0 (s_push (.int (6)) (s_ald 0 (s_ast 0 (fun x => x) (s_il 1 (s_if1 (fun x => 0 ≤ x) (s_al 0 (s_il 1 (s_cv X yX10_worksOut 10 1 (q_X10_fee_49 X)))) (s_al 0 (s_gr 10 0 (s_push (.int (5)) (s_ald 0 (q_X10_fee_49 X))))))))))))))))))))))))))
theorem b_X10_fee_0 {E : mh_E} {d mc ms : Nat} {Post : Option Value → mh_H → Prop} : mh_S (x_X10_fee E d mc ms Post) 0 (q_X10_fee_0 (x_X10_fee E d mc ms Post)) := sn_aload_n dX10_fee_0 rfl (sn_iconst dX10_fee_1 (by decide) (sn_cv w_1259 w_1261 w_30 w_66 rfl nm_X10_counts dX10_fee_2 (sn_istore_n dX10_fee_5 rfl (Nat.le_of_ble_eq_true rfl) (sn_aload_n dX10_fee_6 rfl (sn_getr clX10 (by decide) w_1123 dX10_fee_7 (sn_iconst dX10_fee_10 (by decide) (sn_aload_n dX10_fee_11 rfl (sn_getr clX10 (by decide) w_1100 dX10_fee_12 (sn_iconst dX10_fee_15 (by decide) (sn_iaload dX10_fee_16 (sn_iastore dX10_fee_17 (sn_aload_n dX10_fee_18 rfl (sn_getr clX10 (by decide) w_1123 dX10_fee_19 (sn_iconst dX10_fee_22 (by decide) (sn_aload_n dX10_fee_23 rfl (sn_getr clX10 (by decide) w_1100 dX10_fee_24 (sn_bipush dX10_fee_27 (by decide) (sn_iaload dX10_fee_29 (sn_iastore dX10_fee_30 (sn_iload_n dX10_fee_31 rfl (sn_if_ge (tgt := 44) dX10_fee_32 (by decide) (sn_aload_n dX10_fee_44 rfl (sn_iload_n dX10_fee_45 rfl (sn_cv w_1267 w_1269 w_31 w_66 rfl nm_X10_worksOut dX10_fee_46 b_X10_fee_49))) (sn_aload_n dX10_fee_35 rfl (sn_getr clX10 (by decide) w_1100 dX10_fee_36 (sn_iconst dX10_fee_39 (by decide) (sn_iaload dX10_fee_40 (sn_goto (tgt := 49) dX10_fee_41 (by decide) (b_X10_fee_49)))))))))))))))))))))))))))
theorem m_X10_fee {E : mh_E} {d mc ms : Nat} {args : List Value} {h : mh_H} {Post : Option Value → mh_H → Prop} (lv : List (Option Value)) (hl : lv_args 0 args = mh_al 0 lv) (hs : (lg_sl args).length ≤ 2) (hG : q_X10_fee_0 (x_X10_fee E d mc ms Post) lv [] h 0 0) : mh_M E d mc ms yX10_fee args h Post := mh_M.of w_1433 (by decide) (by decide) hl hs (b_X10_fee_0 _ _ _ _ _ hG)
theorem dX10_fine_0 : decode cX10_fine 0 = .ok (.aload_n 0, 1) := by decide +kernel
theorem dX10_fine_1 : decode cX10_fine 1 = .ok (.iload_n 1, 1) := by decide +kernel
theorem dX10_fine_2 : decode cX10_fine 2 = .ok (.invokevirtual 122, 3) := by decide +kernel
theorem dX10_fine_5 : decode cX10_fine 5 = .ok (.ifCond .ne 6, 3) := by decide +kernel
theorem dX10_fine_8 : decode cX10_fine 8 = .ok (.ldc 91, 2) := by decide +kernel
theorem dX10_fine_10 : decode cX10_fine 10 = .ok (.ireturn, 1) := by decide +kernel
theorem dX10_fine_11 : decode cX10_fine 11 = .ok (.aload_n 0, 1) := by decide +kernel
theorem dX10_fine_12 : decode cX10_fine 12 = .ok (.iconst 2, 1) := by decide +kernel
theorem dX10_fine_13 : decode cX10_fine 13 = .ok (.invokevirtual 112, 3) := by decide +kernel
theorem dX10_fine_16 : decode cX10_fine 16 = .ok (.istore_n 2, 1) := by decide +kernel
theorem dX10_fine_17 : decode cX10_fine 17 = .ok (.aload_n 0, 1) := by decide +kernel
theorem dX10_fine_18 : decode cX10_fine 18 = .ok (.getfield 49, 3) := by decide +kernel
theorem dX10_fine_21 : decode cX10_fine 21 = .ok (.iconst 0, 1) := by decide +kernel
theorem dX10_fine_22 : decode cX10_fine 22 = .ok (.aload_n 0, 1) := by decide +kernel
theorem dX10_fine_23 : decode cX10_fine 23 = .ok (.iload_n 1, 1) := by decide +kernel
theorem dX10_fine_24 : decode cX10_fine 24 = .ok (.iconst 4, 1) := by decide +kernel
theorem dX10_fine_25 : decode cX10_fine 25 = .ok (.invokevirtual 104, 3) := by decide +kernel
theorem dX10_fine_28 : decode cX10_fine 28 = .ok (.iastore, 1) := by decide +kernel
theorem dX10_fine_29 : decode cX10_fine 29 = .ok (.aload_n 0, 1) := by decide +kernel
theorem dX10_fine_30 : decode cX10_fine 30 = .ok (.getfield 49, 3) := by decide +kernel
theorem dX10_fine_33 : decode cX10_fine 33 = .ok (.iconst 1, 1) := by decide +kernel
theorem dX10_fine_34 : decode cX10_fine 34 = .ok (.aload_n 0, 1) := by decide +kernel
theorem dX10_fine_35 : decode cX10_fine 35 = .ok (.aload_n 0, 1) := by decide +kernel
theorem dX10_fine_36 : decode cX10_fine 36 = .ok (.iload_n 1, 1) := by decide +kernel
theorem dX10_fine_37 : decode cX10_fine 37 = .ok (.iconst 1, 1) := by decide +kernel
theorem dX10_fine_38 : decode cX10_fine 38 = .ok (.invokevirtual 104, 3) := by decide +kernel
theorem dX10_fine_41 : decode cX10_fine 41 = .ok (.invokevirtual 101, 3) := by decide +kernel
theorem dX10_fine_44 : decode cX10_fine 44 = .ok (.iastore, 1) := by decide +kernel
theorem dX10_fine_45 : decode cX10_fine 45 = .ok (.iload_n 2, 1) := by decide +kernel
theorem dX10_fine_46 : decode cX10_fine 46 = .ok (.ifCond .ge 12, 3) := by decide +kernel
theorem dX10_fine_49 : decode cX10_fine 49 = .ok (.aload_n 0, 1) := by decide +kernel
theorem dX10_fine_50 : decode cX10_fine 50 = .ok (.iload_n 1, 1) := by decide +kernel
theorem dX10_fine_51 : decode cX10_fine 51 = .ok (.iconst 4, 1) := by decide +kernel
theorem dX10_fine_52 : decode cX10_fine 52 = .ok (.invokevirtual 104, 3) := by decide +kernel
theorem dX10_fine_55 : decode cX10_fine 55 = .ok (.goto 8, 3) := by decide +kernel
theorem dX10_fine_58 : decode cX10_fine 58 = .ok (.aload_n 0, 1) := by decide +kernel
theorem dX10_fine_59 : decode cX10_fine 59 = .ok (.iload_n 2, 1) := by decide +kernel
theorem dX10_fine_60 : decode cX10_fine 60 = .ok (.invokevirtual 119, 3) := by decide +kernel
theorem dX10_fine_63 : decode cX10_fine 63 = .ok (.ireturn, 1) := by decide +kernel
abbrev x_X10_fine (E : mh_E) (d mc ms : Nat) (Post : Option Value → mh_H → Prop) : mh_X := (E, yX10_fine, cX10_fine, 3, (some .int), d, mc, ms, Post)
def q_X10_fine_63 (X : mh_X) : mh_PR := s_iret X
theorem b_X10_fine_63 {E : mh_E} {d mc ms : Nat} {Post : Option Value → mh_H → Prop} : mh_S (x_X10_fine E d mc ms Post) 63 (q_X10_fine_63 (x_X10_fine E d mc ms Post)) := sn_iret rfl dX10_fine_63
def q_X10_fine_0 (X : mh_X) : mh_PR := s_al 0 (s_il 1 (s_cv X yX10_isStone 10 1 (s_if1 (fun x => ¬ x = 0) (s_al 0 (s_push (.int (2)) (s_cv X yX10_counts 10 1 (s_is 2 (s_al 0 (s_gr 10 23 (s_push (.int (0)) (s_al 0 (s_il 1 (s_push (.int (4)) (s_cv X yX10_of 10 2 (s_ast 0 (fun x => x) (s_al 0 (s_gr 10 23 (s_push (.int (1)) (s_al 0 (s_al 0 (s_il 1 (s_push (.int (1)) (s_cv X yX10_of 10 2 (s_cv X yX10_rankOf 10 1 (s_ast 0 (fun x => x) (s_il 2 (s_if1 (fun x => 0 ≤ x) (s_al 0 (s_il 2 (s_cv X yX10_worksOut 10 1 (q_X10_fine_63 X)))) (s_al 0 (s_il 1 (s_push (.int (4)) (s_cv X yX10_of 10 2 (q_X10_fine_63 X))))))))))))))))))))))))))))) (s_push (.int (-1000000001)) (s_iret X)))))
theorem b_X10_fine_0 {E : mh_E} {d mc ms : Nat} {Post : Option Value → mh_H → Prop} : mh_S (x_X10_fine E d mc ms Post) 0 (q_X10_fine_0 (x_X10_fine E d mc ms Post)) := sn_aload_n dX10_fine_0 rfl (sn_iload_n dX10_fine_1 rfl (sn_cv w_1230 w_1232 w_23 w_66 rfl nm_X10_isStone dX10_fine_2 (sn_if_ne (tgt := 11) dX10_fine_5 (by decide) (sn_aload_n dX10_fine_11 rfl (sn_iconst dX10_fine_12 (by decide) (sn_cv w_1259 w_1261 w_30 w_66 rfl nm_X10_counts dX10_fine_13 (sn_istore_n dX10_fine_16 rfl (Nat.le_of_ble_eq_true rfl) (sn_aload_n dX10_fine_17 rfl (sn_getr clX10 (by decide) w_1123 dX10_fine_18 (sn_iconst dX10_fine_21 (by decide) (sn_aload_n dX10_fine_22 rfl (sn_iload_n dX10_fine_23 rfl (sn_iconst dX10_fine_24 (by decide) (sn_cv w_1234 w_1236 w_24 w_66 rfl nm_X10_of dX10_fine_25 (sn_iastore dX10_fine_28 (sn_aload_n dX10_fine_29 rfl (sn_getr clX10 (by decide) w_1123 dX10_fine_30 (sn_iconst dX10_fine_33 (by decide) (sn_aload_n dX10_fine_34 rfl (sn_aload_n dX10_fine_35 rfl (sn_iload_n dX10_fine_36 rfl (sn_iconst dX10_fine_37 (by decide) (sn_cv w_1234 w_1236 w_24 w_66 rfl nm_X10_of dX10_fine_38 (sn_cv w_1247 w_1249 w_27 w_66 rfl nm_X10_rankOf dX10_fine_41 (sn_iastore dX10_fine_44 (sn_iload_n dX10_fine_45 rfl (sn_if_ge (tgt := 58) dX10_fine_46 (by decide) (sn_aload_n dX10_fine_58 rfl (sn_iload_n dX10_fine_59 rfl (sn_cv w_1267 w_1269 w_31 w_66 rfl nm_X10_worksOut dX10_fine_60 b_X10_fine_63))) (sn_aload_n dX10_fine_49 rfl (sn_iload_n dX10_fine_50 rfl (sn_iconst dX10_fine_51 (by decide) (sn_cv w_1234 w_1236 w_24 w_66 rfl nm_X10_of dX10_fine_52 (sn_goto (tgt := 63) dX10_fine_55 (by decide) (b_X10_fine_63)))))))))))))))))))))))))))))) (sn_ldc dX10_fine_8 w_1216 (sn_iret rfl dX10_fine_10)))))
theorem m_X10_fine {E : mh_E} {d mc ms : Nat} {args : List Value} {h : mh_H} {Post : Option Value → mh_H → Prop} (lv : List (Option Value)) (hl : lv_args 0 args = mh_al 0 lv) (hs : (lg_sl args).length ≤ 3) (hG : q_X10_fine_0 (x_X10_fine E d mc ms Post) lv [] h 0 0) : mh_M E d mc ms yX10_fine args h Post := mh_M.of w_1437 (by decide) (by decide) hl hs (b_X10_fine_0 _ _ _ _ _ hG)
theorem dX10_feed_0 : decode cX10_feed 0 = .ok (.aload_n 0, 1) := by decide +kernel
theorem dX10_feed_1 : decode cX10_feed 1 = .ok (.getfield 190, 3) := by decide +kernel
theorem dX10_feed_4 : decode cX10_feed 4 = .ok (.bipush 12, 2) := by decide +kernel
theorem dX10_feed_6 : decode cX10_feed 6 = .ok (.iadd, 1) := by decide +kernel
theorem dX10_feed_7 : decode cX10_feed 7 = .ok (.bipush 96, 2) := by decide +kernel
theorem dX10_feed_9 : decode cX10_feed 9 = .ok (.if_icmp .le 6, 3) := by decide +kernel
theorem dX10_feed_12 : decode cX10_feed 12 = .ok (.ldc 92, 2) := by decide +kernel
theorem dX10_feed_14 : decode cX10_feed 14 = .ok (.ireturn, 1) := by decide +kernel
theorem dX10_feed_15 : decode cX10_feed 15 = .ok (.iconst 0, 1) := by decide +kernel
theorem dX10_feed_16 : decode cX10_feed 16 = .ok (.istore 4, 2) := by decide +kernel
theorem dX10_feed_18 : decode cX10_feed 18 = .ok (.iload 4, 2) := by decide +kernel
theorem dX10_feed_20 : decode cX10_feed 20 = .ok (.bipush 12, 2) := by decide +kernel
theorem dX10_feed_22 : decode cX10_feed 22 = .ok (.if_icmp .ge 62, 3) := by decide +kernel
theorem dX10_feed_25 : decode cX10_feed 25 = .ok (.iload 4, 2) := by decide +kernel
theorem dX10_feed_27 : decode cX10_feed 27 = .ok (.iconst 4, 1) := by decide +kernel
theorem dX10_feed_28 : decode cX10_feed 28 = .ok (.if_icmp .ge 7, 3) := by decide +kernel
theorem dX10_feed_31 : decode cX10_feed 31 = .ok (.iload_n 1, 1) := by decide +kernel
theorem dX10_feed_32 : decode cX10_feed 32 = .ok (.goto 15, 3) := by decide +kernel
theorem dX10_feed_35 : decode cX10_feed 35 = .ok (.iload 4, 2) := by decide +kernel
theorem dX10_feed_37 : decode cX10_feed 37 = .ok (.bipush 8, 2) := by decide +kernel
theorem dX10_feed_39 : decode cX10_feed 39 = .ok (.if_icmp .ge 7, 3) := by decide +kernel
theorem dX10_feed_42 : decode cX10_feed 42 = .ok (.iload_n 2, 1) := by decide +kernel
theorem dX10_feed_43 : decode cX10_feed 43 = .ok (.goto 4, 3) := by decide +kernel
theorem dX10_feed_46 : decode cX10_feed 46 = .ok (.iload_n 3, 1) := by decide +kernel
theorem dX10_feed_47 : decode cX10_feed 47 = .ok (.istore 5, 2) := by decide +kernel
theorem dX10_feed_49 : decode cX10_feed 49 = .ok (.aload_n 0, 1) := by decide +kernel
theorem dX10_feed_50 : decode cX10_feed 50 = .ok (.getfield 26, 3) := by decide +kernel
theorem dX10_feed_53 : decode cX10_feed 53 = .ok (.aload_n 0, 1) := by decide +kernel
theorem dX10_feed_54 : decode cX10_feed 54 = .ok (.getfield 190, 3) := by decide +kernel
theorem dX10_feed_57 : decode cX10_feed 57 = .ok (.iload 4, 2) := by decide +kernel
theorem dX10_feed_59 : decode cX10_feed 59 = .ok (.iadd, 1) := by decide +kernel
theorem dX10_feed_60 : decode cX10_feed 60 = .ok (.iload 5, 2) := by decide +kernel
theorem dX10_feed_62 : decode cX10_feed 62 = .ok (.bipush 24, 2) := by decide +kernel
theorem dX10_feed_64 : decode cX10_feed 64 = .ok (.bipush 8, 2) := by decide +kernel
theorem dX10_feed_66 : decode cX10_feed 66 = .ok (.iload 4, 2) := by decide +kernel
theorem dX10_feed_68 : decode cX10_feed 68 = .ok (.iconst 4, 1) := by decide +kernel
theorem dX10_feed_69 : decode cX10_feed 69 = .ok (.irem, 1) := by decide +kernel
theorem dX10_feed_70 : decode cX10_feed 70 = .ok (.imul, 1) := by decide +kernel
theorem dX10_feed_71 : decode cX10_feed 71 = .ok (.isub, 1) := by decide +kernel
theorem dX10_feed_72 : decode cX10_feed 72 = .ok (.ishr, 1) := by decide +kernel
theorem dX10_feed_73 : decode cX10_feed 73 = .ok (.sipush 255, 3) := by decide +kernel
theorem dX10_feed_76 : decode cX10_feed 76 = .ok (.iand, 1) := by decide +kernel
theorem dX10_feed_77 : decode cX10_feed 77 = .ok (.iastore, 1) := by decide +kernel
theorem dX10_feed_78 : decode cX10_feed 78 = .ok (.iinc 4 1, 3) := by decide +kernel
theorem dX10_feed_81 : decode cX10_feed 81 = .ok (.goto (-63), 3) := by decide +kernel
theorem dX10_feed_84 : decode cX10_feed 84 = .ok (.aload_n 0, 1) := by decide +kernel
theorem dX10_feed_85 : decode cX10_feed 85 = .ok (.dup, 1) := by decide +kernel
theorem dX10_feed_86 : decode cX10_feed 86 = .ok (.getfield 190, 3) := by decide +kernel
theorem dX10_feed_89 : decode cX10_feed 89 = .ok (.bipush 12, 2) := by decide +kernel
theorem dX10_feed_91 : decode cX10_feed 91 = .ok (.iadd, 1) := by decide +kernel
theorem dX10_feed_92 : decode cX10_feed 92 = .ok (.putfield 190, 3) := by decide +kernel
theorem dX10_feed_95 : decode cX10_feed 95 = .ok (.aload_n 0, 1) := by decide +kernel
theorem dX10_feed_96 : decode cX10_feed 96 = .ok (.getfield 190, 3) := by decide +kernel
theorem dX10_feed_99 : decode cX10_feed 99 = .ok (.ireturn, 1) := by decide +kernel
abbrev x_X10_feed (E : mh_E) (d mc ms : Nat) (Post : Option Value → mh_H → Prop) : mh_X := (E, yX10_feed, cX10_feed, 6, (some .int), d, mc, ms, Post)
def q_X10_feed_47 (X : mh_X) : mh_PR := s_is 5 (s_al 0 (s_gr 10 6 (s_al 0 (s_gi 10 7 (s_il 4 (s_bin (fun x y => x + y) (s_il 5 (s_push (.int (24)) (s_push (.int (8)) (s_il 4 (s_push (.int (4)) (s_div mh_rem (s_bin (fun x y => x * y) (s_bin (fun x y => x - y) (s_bin mh_shr (s_push (.int (255)) (s_bin (fun x y => x &&& y) (s_ast 0 (fun x => x) (s_inc 4 (1) (mh_G X 18))))))))))))))))))))
theorem b_X10_feed_47 {E : mh_E} {d mc ms : Nat} {Post : Option Value → mh_H → Prop} : mh_S (x_X10_feed E d mc ms Post) 47 (q_X10_feed_47 (x_X10_feed E d mc ms Post)) := sn_istore dX10_feed_47 (Nat.le_of_ble_eq_true rfl) (sn_aload_n dX10_feed_49 rfl (sn_getr clX10 (by decide) w_1106 dX10_feed_50 (sn_aload_n dX10_feed_53 rfl (sn_geti clX10 (by decide) w_1107 dX10_feed_54 (sn_iload dX10_feed_57 (sn_iadd dX10_feed_59 (sn_iload dX10_feed_60 (sn_bipush dX10_feed_62 (by decide) (sn_bipush dX10_feed_64 (by decide) (sn_iload dX10_feed_66 (sn_iconst dX10_feed_68 (by decide) (sn_irem dX10_feed_69 (sn_imul dX10_feed_70 (sn_isub dX10_feed_71 (sn_ishr dX10_feed_72 (sn_sipush dX10_feed_73 (by decide) (sn_iand dX10_feed_76 (sn_iastore dX10_feed_77 (sn_iinc dX10_feed_78 (by decide) (Nat.le_of_ble_eq_true rfl) (sn_goto (tgt := 18) dX10_feed_81 (by decide) (mh_S.G)))))))))))))))))))))
def q_X10_feed_18 (X : mh_X) : mh_PR := s_il 4 (s_push (.int (12)) (s_if2 (fun x y => y ≤ x) (s_al 0 (s_dup (s_gi 10 7 (s_push (.int (12)) (s_bin (fun x y => x + y) (s_pi 10 7 (s_al 0 (s_gi 10 7 (s_iret X))))))))) (s_il 4 (s_push (.int (4)) (s_if2 (fun x y => y ≤ x) (s_il 4 (s_push (.int (8)) (s_if2 (fun x y => y ≤ x) (s_il 3 (q_X10_feed_47 X)) (s_il 2 (q_X10_feed_47 X))))) (s_il 1 (q_X10_feed_47 X)))))))
theorem b_X10_feed_18 {E : mh_E} {d mc ms : Nat} {Post : Option Value → mh_H → Prop} : mh_S (x_X10_feed E d mc ms Post) 18 (q_X10_feed_18 (x_X10_feed E d mc ms Post)) := sn_iload dX10_feed_18 (sn_bipush dX10_feed_20 (by decide) (sn_icmp_ge (tgt := 84) dX10_feed_22 (by decide) (sn_aload_n dX10_feed_84 rfl (sn_dup dX10_feed_85 (sn_geti clX10 (by decide) w_1107 dX10_feed_86 (sn_bipush dX10_feed_89 (by decide) (sn_iadd dX10_feed_91 (sn_puti clX10 (by decide) w_1107 rfl rfl dX10_feed_92 (sn_aload_n dX10_feed_95 rfl (sn_geti clX10 (by decide) w_1107 dX10_feed_96 (sn_iret rfl dX10_feed_99))))))))) (sn_iload dX10_feed_25 (sn_iconst dX10_feed_27 (by decide) (sn_icmp_ge (tgt := 35) dX10_feed_28 (by decide) (sn_iload dX10_feed_35 (sn_bipush dX10_feed_37 (by decide) (sn_icmp_ge (tgt := 46) dX10_feed_39 (by decide) (sn_iload_n dX10_feed_46 rfl b_X10_feed_47) (sn_iload_n dX10_feed_42 rfl (sn_goto (tgt := 47) dX10_feed_43 (by decide) (b_X10_feed_47)))))) (sn_iload_n dX10_feed_31 rfl (sn_goto (tgt := 47) dX10_feed_32 (by decide) (b_X10_feed_47))))))))
def q_X10_feed_0 (X : mh_X) : mh_PR := s_al 0 (s_gi 10 7 (s_push (.int (12)) (s_bin (fun x y => x + y) (s_push (.int (96)) (s_if2 (fun x y => x ≤ y) (s_push (.int (0)) (s_is 4 (mh_G X 18))) (s_push (.int (-1000000003)) (s_iret X)))))))
theorem b_X10_feed_0 {E : mh_E} {d mc ms : Nat} {Post : Option Value → mh_H → Prop} : mh_S (x_X10_feed E d mc ms Post) 0 (q_X10_feed_0 (x_X10_feed E d mc ms Post)) := sn_aload_n dX10_feed_0 rfl (sn_geti clX10 (by decide) w_1107 dX10_feed_1 (sn_bipush dX10_feed_4 (by decide) (sn_iadd dX10_feed_6 (sn_bipush dX10_feed_7 (by decide) (sn_icmp_le (tgt := 15) dX10_feed_9 (by decide) (sn_iconst dX10_feed_15 (by decide) (sn_istore dX10_feed_16 (Nat.le_of_ble_eq_true rfl) mh_S.G)) (sn_ldc dX10_feed_12 w_1217 (sn_iret rfl dX10_feed_14)))))))
theorem m_X10_feed {E : mh_E} {d mc ms : Nat} {args : List Value} {h : mh_H} {Post : Option Value → mh_H → Prop} (lv : List (Option Value)) (hl : lv_args 0 args = mh_al 0 lv) (hs : (lg_sl args).length ≤ 6) (hG : q_X10_feed_0 (x_X10_feed E d mc ms Post) lv [] h 0 0) : mh_M E d mc ms yX10_feed args h Post := mh_M.of w_1441 (by decide) (by decide) hl hs (b_X10_feed_0 _ _ _ _ _ hG)
theorem dX10_isLetter_0 : decode cX10_isLetter 0 = .ok (.iload_n 1, 1) := by decide +kernel
theorem dX10_isLetter_1 : decode cX10_isLetter 1 = .ok (.aload_n 0, 1) := by decide +kernel
theorem dX10_isLetter_2 : decode cX10_isLetter 2 = .ok (.getfield 190, 3) := by decide +kernel
theorem dX10_isLetter_5 : decode cX10_isLetter 5 = .ok (.if_icmp .ge 29, 3) := by decide +kernel
theorem dX10_isLetter_8 : decode cX10_isLetter 8 = .ok (.aload_n 0, 1) := by decide +kernel
theorem dX10_isLetter_9 : decode cX10_isLetter 9 = .ok (.getfield 26, 3) := by decide +kernel
theorem dX10_isLetter_12 : decode cX10_isLetter 12 = .ok (.iload_n 1, 1) := by decide +kernel
theorem dX10_isLetter_13 : decode cX10_isLetter 13 = .ok (.iaload, 1) := by decide +kernel
theorem dX10_isLetter_14 : decode cX10_isLetter 14 = .ok (.bipush 97, 2) := by decide +kernel
theorem dX10_isLetter_16 : decode cX10_isLetter 16 = .ok (.if_icmp .lt 18, 3) := by decide +kernel
theorem dX10_isLetter_19 : decode cX10_isLetter 19 = .ok (.aload_n 0, 1) := by decide +kernel
theorem dX10_isLetter_20 : decode cX10_isLetter 20 = .ok (.getfield 26, 3) := by decide +kernel
theorem dX10_isLetter_23 : decode cX10_isLetter 23 = .ok (.iload_n 1, 1) := by decide +kernel
theorem dX10_isLetter_24 : decode cX10_isLetter 24 = .ok (.iaload, 1) := by decide +kernel
theorem dX10_isLetter_25 : decode cX10_isLetter 25 = .ok (.bipush 122, 2) := by decide +kernel
theorem dX10_isLetter_27 : decode cX10_isLetter 27 = .ok (.if_icmp .gt 7, 3) := by decide +kernel
theorem dX10_isLetter_30 : decode cX10_isLetter 30 = .ok (.iconst 1, 1) := by decide +kernel
theorem dX10_isLetter_31 : decode cX10_isLetter 31 = .ok (.goto 4, 3) := by decide +kernel
theorem dX10_isLetter_34 : decode cX10_isLetter 34 = .ok (.iconst 0, 1) := by decide +kernel
theorem dX10_isLetter_35 : decode cX10_isLetter 35 = .ok (.ireturn, 1) := by decide +kernel
abbrev x_X10_isLetter (E : mh_E) (d mc ms : Nat) (Post : Option Value → mh_H → Prop) : mh_X := (E, yX10_isLetter, cX10_isLetter, 2, (some .boolean), d, mc, ms, Post)
def q_X10_isLetter_35 (X : mh_X) : mh_PR := s_zret X
theorem b_X10_isLetter_35 {E : mh_E} {d mc ms : Nat} {Post : Option Value → mh_H → Prop} : mh_S (x_X10_isLetter E d mc ms Post) 35 (q_X10_isLetter_35 (x_X10_isLetter E d mc ms Post)) := sn_zret rfl dX10_isLetter_35
def q_X10_isLetter_34 (X : mh_X) : mh_PR := s_push (.int (0)) (q_X10_isLetter_35 X)
theorem b_X10_isLetter_34 {E : mh_E} {d mc ms : Nat} {Post : Option Value → mh_H → Prop} : mh_S (x_X10_isLetter E d mc ms Post) 34 (q_X10_isLetter_34 (x_X10_isLetter E d mc ms Post)) := sn_iconst dX10_isLetter_34 (by decide) b_X10_isLetter_35
def q_X10_isLetter_0 (X : mh_X) : mh_PR := s_il 1 (s_al 0 (s_gi 10 7 (s_if2 (fun x y => y ≤ x) (q_X10_isLetter_34 X) (s_al 0 (s_gr 10 6 (s_il 1 (s_ald 0 (s_push (.int (97)) (s_if2 (fun x y => x < y) (q_X10_isLetter_34 X) (s_al 0 (s_gr 10 6 (s_il 1 (s_ald 0 (s_push (.int (122)) (s_if2 (fun x y => y < x) (q_X10_isLetter_34 X) (s_push (.int (1)) (q_X10_isLetter_35 X)))))))))))))))))
theorem b_X10_isLetter_0 {E : mh_E} {d mc ms : Nat} {Post : Option Value → mh_H → Prop} : mh_S (x_X10_isLetter E d mc ms Post) 0 (q_X10_isLetter_0 (x_X10_isLetter E d mc ms Post)) := sn_iload_n dX10_isLetter_0 rfl (sn_aload_n dX10_isLetter_1 rfl (sn_geti clX10 (by decide) w_1107 dX10_isLetter_2 (sn_icmp_ge (tgt := 34) dX10_isLetter_5 (by decide) (b_X10_isLetter_34) (sn_aload_n dX10_isLetter_8 rfl (sn_getr clX10 (by decide) w_1106 dX10_isLetter_9 (sn_iload_n dX10_isLetter_12 rfl (sn_iaload dX10_isLetter_13 (sn_bipush dX10_isLetter_14 (by decide) (sn_icmp_lt (tgt := 34) dX10_isLetter_16 (by decide) (b_X10_isLetter_34) (sn_aload_n dX10_isLetter_19 rfl (sn_getr clX10 (by decide) w_1106 dX10_isLetter_20 (sn_iload_n dX10_isLetter_23 rfl (sn_iaload dX10_isLetter_24 (sn_bipush dX10_isLetter_25 (by decide) (sn_icmp_gt (tgt := 34) dX10_isLetter_27 (by decide) (b_X10_isLetter_34) (sn_iconst dX10_isLetter_30 (by decide) (sn_goto (tgt := 35) dX10_isLetter_31 (by decide) (b_X10_isLetter_35))))))))))))))))))
theorem m_X10_isLetter {E : mh_E} {d mc ms : Nat} {args : List Value} {h : mh_H} {Post : Option Value → mh_H → Prop} (lv : List (Option Value)) (hl : lv_args 0 args = mh_al 0 lv) (hs : (lg_sl args).length ≤ 2) (hG : q_X10_isLetter_0 (x_X10_isLetter E d mc ms Post) lv [] h 0 0) : mh_M E d mc ms yX10_isLetter args h Post := mh_M.of w_1457 (by decide) (by decide) hl hs (b_X10_isLetter_0 _ _ _ _ _ hG)
theorem dX10_isFigure_0 : decode cX10_isFigure 0 = .ok (.iload_n 1, 1) := by decide +kernel
theorem dX10_isFigure_1 : decode cX10_isFigure 1 = .ok (.aload_n 0, 1) := by decide +kernel
theorem dX10_isFigure_2 : decode cX10_isFigure 2 = .ok (.getfield 190, 3) := by decide +kernel
theorem dX10_isFigure_5 : decode cX10_isFigure 5 = .ok (.if_icmp .ge 29, 3) := by decide +kernel
theorem dX10_isFigure_8 : decode cX10_isFigure 8 = .ok (.aload_n 0, 1) := by decide +kernel
theorem dX10_isFigure_9 : decode cX10_isFigure 9 = .ok (.getfield 26, 3) := by decide +kernel
theorem dX10_isFigure_12 : decode cX10_isFigure 12 = .ok (.iload_n 1, 1) := by decide +kernel
theorem dX10_isFigure_13 : decode cX10_isFigure 13 = .ok (.iaload, 1) := by decide +kernel
theorem dX10_isFigure_14 : decode cX10_isFigure 14 = .ok (.bipush 48, 2) := by decide +kernel
theorem dX10_isFigure_16 : decode cX10_isFigure 16 = .ok (.if_icmp .lt 18, 3) := by decide +kernel
theorem dX10_isFigure_19 : decode cX10_isFigure 19 = .ok (.aload_n 0, 1) := by decide +kernel
theorem dX10_isFigure_20 : decode cX10_isFigure 20 = .ok (.getfield 26, 3) := by decide +kernel
theorem dX10_isFigure_23 : decode cX10_isFigure 23 = .ok (.iload_n 1, 1) := by decide +kernel
theorem dX10_isFigure_24 : decode cX10_isFigure 24 = .ok (.iaload, 1) := by decide +kernel
theorem dX10_isFigure_25 : decode cX10_isFigure 25 = .ok (.bipush 57, 2) := by decide +kernel
theorem dX10_isFigure_27 : decode cX10_isFigure 27 = .ok (.if_icmp .gt 7, 3) := by decide +kernel
theorem dX10_isFigure_30 : decode cX10_isFigure 30 = .ok (.iconst 1, 1) := by decide +kernel
theorem dX10_isFigure_31 : decode cX10_isFigure 31 = .ok (.goto 4, 3) := by decide +kernel
theorem dX10_isFigure_34 : decode cX10_isFigure 34 = .ok (.iconst 0, 1) := by decide +kernel
theorem dX10_isFigure_35 : decode cX10_isFigure 35 = .ok (.ireturn, 1) := by decide +kernel
abbrev x_X10_isFigure (E : mh_E) (d mc ms : Nat) (Post : Option Value → mh_H → Prop) : mh_X := (E, yX10_isFigure, cX10_isFigure, 2, (some .boolean), d, mc, ms, Post)
def q_X10_isFigure_35 (X : mh_X) : mh_PR := s_zret X
theorem b_X10_isFigure_35 {E : mh_E} {d mc ms : Nat} {Post : Option Value → mh_H → Prop} : mh_S (x_X10_isFigure E d mc ms Post) 35 (q_X10_isFigure_35 (x_X10_isFigure E d mc ms Post)) := sn_zret rfl dX10_isFigure_35
def q_X10_isFigure_34 (X : mh_X) : mh_PR := s_push (.int (0)) (q_X10_isFigure_35 X)
theorem b_X10_isFigure_34 {E : mh_E} {d mc ms : Nat} {Post : Option Value → mh_H → Prop} : mh_S (x_X10_isFigure E d mc ms Post) 34 (q_X10_isFigure_34 (x_X10_isFigure E d mc ms Post)) := sn_iconst dX10_isFigure_34 (by decide) b_X10_isFigure_35
def q_X10_isFigure_0 (X : mh_X) : mh_PR := s_il 1 (s_al 0 (s_gi 10 7 (s_if2 (fun x y => y ≤ x) (q_X10_isFigure_34 X) (s_al 0 (s_gr 10 6 (s_il 1 (s_ald 0 (s_push (.int (48)) (s_if2 (fun x y => x < y) (q_X10_isFigure_34 X) (s_al 0 (s_gr 10 6 (s_il 1 (s_ald 0 (s_push (.int (57)) (s_if2 (fun x y => y < x) (q_X10_isFigure_34 X) (s_push (.int (1)) (q_X10_isFigure_35 X)))))))))))))))))
theorem b_X10_isFigure_0 {E : mh_E} {d mc ms : Nat} {Post : Option Value → mh_H → Prop} : mh_S (x_X10_isFigure E d mc ms Post) 0 (q_X10_isFigure_0 (x_X10_isFigure E d mc ms Post)) := sn_iload_n dX10_isFigure_0 rfl (sn_aload_n dX10_isFigure_1 rfl (sn_geti clX10 (by decide) w_1107 dX10_isFigure_2 (sn_icmp_ge (tgt := 34) dX10_isFigure_5 (by decide) (b_X10_isFigure_34) (sn_aload_n dX10_isFigure_8 rfl (sn_getr clX10 (by decide) w_1106 dX10_isFigure_9 (sn_iload_n dX10_isFigure_12 rfl (sn_iaload dX10_isFigure_13 (sn_bipush dX10_isFigure_14 (by decide) (sn_icmp_lt (tgt := 34) dX10_isFigure_16 (by decide) (b_X10_isFigure_34) (sn_aload_n dX10_isFigure_19 rfl (sn_getr clX10 (by decide) w_1106 dX10_isFigure_20 (sn_iload_n dX10_isFigure_23 rfl (sn_iaload dX10_isFigure_24 (sn_bipush dX10_isFigure_25 (by decide) (sn_icmp_gt (tgt := 34) dX10_isFigure_27 (by decide) (b_X10_isFigure_34) (sn_iconst dX10_isFigure_30 (by decide) (sn_goto (tgt := 35) dX10_isFigure_31 (by decide) (b_X10_isFigure_35))))))))))))))))))
theorem m_X10_isFigure {E : mh_E} {d mc ms : Nat} {args : List Value} {h : mh_H} {Post : Option Value → mh_H → Prop} (lv : List (Option Value)) (hl : lv_args 0 args = mh_al 0 lv) (hs : (lg_sl args).length ≤ 2) (hG : q_X10_isFigure_0 (x_X10_isFigure E d mc ms Post) lv [] h 0 0) : mh_M E d mc ms yX10_isFigure args h Post := mh_M.of w_1461 (by decide) (by decide) hl hs (b_X10_isFigure_0 _ _ _ _ _ hG)
theorem dX10_go_0 : decode cX10_go 0 = .ok (.aload_n 0, 1) := by decide +kernel
theorem dX10_go_1 : decode cX10_go 1 = .ok (.getfield 194, 3) := by decide +kernel
theorem dX10_go_4 : decode cX10_go 4 = .ok (.aload_n 0, 1) := by decide +kernel
theorem dX10_go_5 : decode cX10_go 5 = .ok (.getfield 190, 3) := by decide +kernel
theorem dX10_go_8 : decode cX10_go 8 = .ok (.if_icmp .ge 30, 3) := by decide +kernel
theorem dX10_go_11 : decode cX10_go 11 = .ok (.aload_n 0, 1) := by decide +kernel
theorem dX10_go_12 : decode cX10_go 12 = .ok (.getfield 26, 3) := by decide +kernel
theorem dX10_go_15 : decode cX10_go 15 = .ok (.aload_n 0, 1) := by decide +kernel
theorem dX10_go_16 : decode cX10_go 16 = .ok (.getfield 194, 3) := by decide +kernel
theorem dX10_go_19 : decode cX10_go 19 = .ok (.iaload, 1) := by decide +kernel
theorem dX10_go_20 : decode cX10_go 20 = .ok (.bipush 32, 2) := by decide +kernel
theorem dX10_go_22 : decode cX10_go 22 = .ok (.if_icmp .ne 16, 3) := by decide +kernel
theorem dX10_go_25 : decode cX10_go 25 = .ok (.aload_n 0, 1) := by decide +kernel
theorem dX10_go_26 : decode cX10_go 26 = .ok (.dup, 1) := by decide +kernel
theorem dX10_go_27 : decode cX10_go 27 = .ok (.getfield 194, 3) := by decide +kernel
theorem dX10_go_30 : decode cX10_go 30 = .ok (.iconst 1, 1) := by decide +kernel
theorem dX10_go_31 : decode cX10_go 31 = .ok (.iadd, 1) := by decide +kernel
theorem dX10_go_32 : decode cX10_go 32 = .ok (.putfield 194, 3) := by decide +kernel
theorem dX10_go_35 : decode cX10_go 35 = .ok (.goto (-35), 3) := by decide +kernel
theorem dX10_go_38 : decode cX10_go 38 = .ok (.aload_n 0, 1) := by decide +kernel
theorem dX10_go_39 : decode cX10_go 39 = .ok (.aload_n 0, 1) := by decide +kernel
theorem dX10_go_40 : decode cX10_go 40 = .ok (.getfield 194, 3) := by decide +kernel
theorem dX10_go_43 : decode cX10_go 43 = .ok (.putfield 197, 3) := by decide +kernel
theorem dX10_go_46 : decode cX10_go 46 = .ok (.aload_n 0, 1) := by decide +kernel
theorem dX10_go_47 : decode cX10_go 47 = .ok (.getfield 197, 3) := by decide +kernel
theorem dX10_go_50 : decode cX10_go 50 = .ok (.aload_n 0, 1) := by decide +kernel
theorem dX10_go_51 : decode cX10_go 51 = .ok (.getfield 200, 3) := by decide +kernel
theorem dX10_go_54 : decode cX10_go 54 = .ok (.if_icmp .ne 7, 3) := by decide +kernel
theorem dX10_go_57 : decode cX10_go 57 = .ok (.iconst 1, 1) := by decide +kernel
theorem dX10_go_58 : decode cX10_go 58 = .ok (.goto 4, 3) := by decide +kernel
theorem dX10_go_61 : decode cX10_go 61 = .ok (.iconst 0, 1) := by decide +kernel
theorem dX10_go_62 : decode cX10_go 62 = .ok (.istore_n 1, 1) := by decide +kernel
theorem dX10_go_63 : decode cX10_go 63 = .ok (.aload_n 0, 1) := by decide +kernel
theorem dX10_go_64 : decode cX10_go 64 = .ok (.getfield 197, 3) := by decide +kernel
theorem dX10_go_67 : decode cX10_go 67 = .ok (.aload_n 0, 1) := by decide +kernel
theorem dX10_go_68 : decode cX10_go 68 = .ok (.getfield 190, 3) := by decide +kernel
theorem dX10_go_71 : decode cX10_go 71 = .ok (.if_icmp .ne 11, 3) := by decide +kernel
theorem dX10_go_74 : decode cX10_go 74 = .ok (.aload_n 0, 1) := by decide +kernel
theorem dX10_go_75 : decode cX10_go 75 = .ok (.iconst 0, 1) := by decide +kernel
theorem dX10_go_76 : decode cX10_go 76 = .ok (.putfield 203, 3) := by decide +kernel
theorem dX10_go_79 : decode cX10_go 79 = .ok (.goto 224, 3) := by decide +kernel
theorem dX10_go_82 : decode cX10_go 82 = .ok (.aload_n 0, 1) := by decide +kernel
theorem dX10_go_83 : decode cX10_go 83 = .ok (.aload_n 0, 1) := by decide +kernel
theorem dX10_go_84 : decode cX10_go 84 = .ok (.getfield 197, 3) := by decide +kernel
theorem dX10_go_87 : decode cX10_go 87 = .ok (.invokevirtual 206, 3) := by decide +kernel
theorem dX10_go_90 : decode cX10_go 90 = .ok (.ifCond .eq 64, 3) := by decide +kernel
theorem dX10_go_93 : decode cX10_go 93 = .ok (.aload_n 0, 1) := by decide +kernel
theorem dX10_go_94 : decode cX10_go 94 = .ok (.aload_n 0, 1) := by decide +kernel
theorem dX10_go_95 : decode cX10_go 95 = .ok (.getfield 194, 3) := by decide +kernel
theorem dX10_go_98 : decode cX10_go 98 = .ok (.invokevirtual 206, 3) := by decide +kernel
theorem dX10_go_101 : decode cX10_go 101 = .ok (.ifCond .eq 16, 3) := by decide +kernel
theorem dX10_go_104 : decode cX10_go 104 = .ok (.aload_n 0, 1) := by decide +kernel
theorem dX10_go_105 : decode cX10_go 105 = .ok (.dup, 1) := by decide +kernel
theorem dX10_go_106 : decode cX10_go 106 = .ok (.getfield 194, 3) := by decide +kernel
theorem dX10_go_109 : decode cX10_go 109 = .ok (.iconst 1, 1) := by decide +kernel
theorem dX10_go_110 : decode cX10_go 110 = .ok (.iadd, 1) := by decide +kernel
theorem dX10_go_111 : decode cX10_go 111 = .ok (.putfield 194, 3) := by decide +kernel
theorem dX10_go_114 : decode cX10_go 114 = .ok (.goto (-21), 3) := by decide +kernel
theorem dX10_go_117 : decode cX10_go 117 = .ok (.aload_n 0, 1) := by decide +kernel
theorem dX10_go_118 : decode cX10_go 118 = .ok (.iload_n 1, 1) := by decide +kernel
theorem dX10_go_119 : decode cX10_go 119 = .ok (.ifCond .eq 7, 3) := by decide +kernel
theorem dX10_go_122 : decode cX10_go 122 = .ok (.iconst 4, 1) := by decide +kernel
theorem dX10_go_123 : decode cX10_go 123 = .ok (.goto 4, 3) := by decide +kernel
theorem dX10_go_126 : decode cX10_go 126 = .ok (.iconst 1, 1) := by decide +kernel
theorem dX10_go_127 : decode cX10_go 127 = .ok (.putfield 203, 3) := by decide +kernel
theorem dX10_go_130 : decode cX10_go 130 = .ok (.aload_n 0, 1) := by decide +kernel
theorem dX10_go_131 : decode cX10_go 131 = .ok (.aload_n 0, 1) := by decide +kernel
theorem dX10_go_132 : decode cX10_go 132 = .ok (.getfield 26, 3) := by decide +kernel
theorem dX10_go_135 : decode cX10_go 135 = .ok (.aload_n 0, 1) := by decide +kernel
theorem dX10_go_136 : decode cX10_go 136 = .ok (.getfield 197, 3) := by decide +kernel
theorem dX10_go_139 : decode cX10_go 139 = .ok (.iaload, 1) := by decide +kernel
theorem dX10_go_140 : decode cX10_go 140 = .ok (.putfield 209, 3) := by decide +kernel
theorem dX10_go_143 : decode cX10_go 143 = .ok (.aload_n 0, 1) := by decide +kernel
theorem dX10_go_144 : decode cX10_go 144 = .ok (.aload_n 0, 1) := by decide +kernel
theorem dX10_go_145 : decode cX10_go 145 = .ok (.getfield 194, 3) := by decide +kernel
theorem dX10_go_148 : decode cX10_go 148 = .ok (.putfield 200, 3) := by decide +kernel
theorem dX10_go_151 : decode cX10_go 151 = .ok (.goto 152, 3) := by decide +kernel
theorem dX10_go_154 : decode cX10_go 154 = .ok (.aload_n 0, 1) := by decide +kernel
theorem dX10_go_155 : decode cX10_go 155 = .ok (.aload_n 0, 1) := by decide +kernel
theorem dX10_go_156 : decode cX10_go 156 = .ok (.getfield 197, 3) := by decide +kernel
theorem dX10_go_159 : decode cX10_go 159 = .ok (.invokevirtual 212, 3) := by decide +kernel
theorem dX10_go_162 : decode cX10_go 162 = .ok (.ifCond .eq 113, 3) := by decide +kernel
theorem dX10_go_165 : decode cX10_go 165 = .ok (.aload_n 0, 1) := by decide +kernel
theorem dX10_go_166 : decode cX10_go 166 = .ok (.iconst 0, 1) := by decide +kernel
theorem dX10_go_167 : decode cX10_go 167 = .ok (.putfield 209, 3) := by decide +kernel
theorem dX10_go_170 : decode cX10_go 170 = .ok (.aload_n 0, 1) := by decide +kernel
theorem dX10_go_171 : decode cX10_go 171 = .ok (.aload_n 0, 1) := by decide +kernel
theorem dX10_go_172 : decode cX10_go 172 = .ok (.getfield 194, 3) := by decide +kernel
theorem dX10_go_175 : decode cX10_go 175 = .ok (.invokevirtual 212, 3) := by decide +kernel
theorem dX10_go_178 : decode cX10_go 178 = .ok (.ifCond .eq 60, 3) := by decide +kernel
theorem dX10_go_181 : decode cX10_go 181 = .ok (.aload_n 0, 1) := by decide +kernel
theorem dX10_go_182 : decode cX10_go 182 = .ok (.aload_n 0, 1) := by decide +kernel
theorem dX10_go_183 : decode cX10_go 183 = .ok (.getfield 194, 3) := by decide +kernel
theorem dX10_go_186 : decode cX10_go 186 = .ok (.aload_n 0, 1) := by decide +kernel
theorem dX10_go_187 : decode cX10_go 187 = .ok (.getfield 197, 3) := by decide +kernel
theorem dX10_go_190 : decode cX10_go 190 = .ok (.isub, 1) := by decide +kernel
theorem dX10_go_191 : decode cX10_go 191 = .ok (.iconst 4, 1) := by decide +kernel
theorem dX10_go_192 : decode cX10_go 192 = .ok (.if_icmp .ge 26, 3) := by decide +kernel
theorem dX10_go_195 : decode cX10_go 195 = .ok (.bipush 10, 2) := by decide +kernel
theorem dX10_go_197 : decode cX10_go 197 = .ok (.aload_n 0, 1) := by decide +kernel
theorem dX10_go_198 : decode cX10_go 198 = .ok (.getfield 209, 3) := by decide +kernel
theorem dX10_go_201 : decode cX10_go 201 = .ok (.imul, 1) := by decide +kernel
theorem dX10_go_202 : decode cX10_go 202 = .ok (.aload_n 0, 1) := by decide +kernel
theorem dX10_go_203 : decode cX10_go 203 = .ok (.getfield 26, 3) := by decide +kernel
theorem dX10_go_206 : decode cX10_go 206 = .ok (.aload_n 0, 1) := by decide +kernel
theorem dX10_go_207 : decode cX10_go 207 = .ok (.getfield 194, 3) := by decide +kernel
theorem dX10_go_210 : decode cX10_go 210 = .ok (.iaload, 1) := by decide +kernel
theorem dX10_go_211 : decode cX10_go 211 = .ok (.iadd, 1) := by decide +kernel
theorem dX10_go_212 : decode cX10_go 212 = .ok (.bipush 48, 2) := by decide +kernel
theorem dX10_go_214 : decode cX10_go 214 = .ok (.isub, 1) := by decide +kernel
theorem dX10_go_215 : decode cX10_go 215 = .ok (.goto 7, 3) := by decide +kernel
theorem dX10_go_218 : decode cX10_go 218 = .ok (.aload_n 0, 1) := by decide +kernel
theorem dX10_go_219 : decode cX10_go 219 = .ok (.getfield 209, 3) := by decide +kernel
theorem dX10_go_222 : decode cX10_go 222 = .ok (.putfield 209, 3) := by decide +kernel
theorem dX10_go_225 : decode cX10_go 225 = .ok (.aload_n 0, 1) := by decide +kernel
theorem dX10_go_226 : decode cX10_go 226 = .ok (.dup, 1) := by decide +kernel
theorem dX10_go_227 : decode cX10_go 227 = .ok (.getfield 194, 3) := by decide +kernel
theorem dX10_go_230 : decode cX10_go 230 = .ok (.iconst 1, 1) := by decide +kernel
theorem dX10_go_231 : decode cX10_go 231 = .ok (.iadd, 1) := by decide +kernel
theorem dX10_go_232 : decode cX10_go 232 = .ok (.putfield 194, 3) := by decide +kernel
theorem dX10_go_235 : decode cX10_go 235 = .ok (.goto (-65), 3) := by decide +kernel
theorem dX10_go_238 : decode cX10_go 238 = .ok (.aload_n 0, 1) := by decide +kernel
theorem dX10_go_239 : decode cX10_go 239 = .ok (.iload_n 1, 1) := by decide +kernel
theorem dX10_go_240 : decode cX10_go 240 = .ok (.ifCond .ne 16, 3) := by decide +kernel
theorem dX10_go_243 : decode cX10_go 243 = .ok (.aload_n 0, 1) := by decide +kernel
theorem dX10_go_244 : decode cX10_go 244 = .ok (.getfield 194, 3) := by decide +kernel
theorem dX10_go_247 : decode cX10_go 247 = .ok (.aload_n 0, 1) := by decide +kernel
theorem dX10_go_248 : decode cX10_go 248 = .ok (.getfield 197, 3) := by decide +kernel
theorem dX10_go_251 : decode cX10_go 251 = .ok (.isub, 1) := by decide +kernel
theorem dX10_go_252 : decode cX10_go 252 = .ok (.iconst 4, 1) := by decide +kernel
theorem dX10_go_253 : decode cX10_go 253 = .ok (.if_icmp .le 7, 3) := by decide +kernel
theorem dX10_go_256 : decode cX10_go 256 = .ok (.iconst 4, 1) := by decide +kernel
theorem dX10_go_257 : decode cX10_go 257 = .ok (.goto 4, 3) := by decide +kernel
theorem dX10_go_260 : decode cX10_go 260 = .ok (.iconst 2, 1) := by decide +kernel
theorem dX10_go_261 : decode cX10_go 261 = .ok (.putfield 203, 3) := by decide +kernel
theorem dX10_go_264 : decode cX10_go 264 = .ok (.aload_n 0, 1) := by decide +kernel
theorem dX10_go_265 : decode cX10_go 265 = .ok (.aload_n 0, 1) := by decide +kernel
theorem dX10_go_266 : decode cX10_go 266 = .ok (.getfield 194, 3) := by decide +kernel
theorem dX10_go_269 : decode cX10_go 269 = .ok (.putfield 200, 3) := by decide +kernel
theorem dX10_go_272 : decode cX10_go 272 = .ok (.goto 31, 3) := by decide +kernel
theorem dX10_go_275 : decode cX10_go 275 = .ok (.aload_n 0, 1) := by decide +kernel
theorem dX10_go_276 : decode cX10_go 276 = .ok (.iconst 3, 1) := by decide +kernel
theorem dX10_go_277 : decode cX10_go 277 = .ok (.putfield 203, 3) := by decide +kernel
theorem dX10_go_280 : decode cX10_go 280 = .ok (.aload_n 0, 1) := by decide +kernel
theorem dX10_go_281 : decode cX10_go 281 = .ok (.aload_n 0, 1) := by decide +kernel
theorem dX10_go_282 : decode cX10_go 282 = .ok (.getfield 26, 3) := by decide +kernel
theorem dX10_go_285 : decode cX10_go 285 = .ok (.aload_n 0, 1) := by decide +kernel
theorem dX10_go_286 : decode cX10_go 286 = .ok (.getfield 197, 3) := by decide +kernel
theorem dX10_go_289 : decode cX10_go 289 = .ok (.iaload, 1) := by decide +kernel
theorem dX10_go_290 : decode cX10_go 290 = .ok (.putfield 209, 3) := by decide +kernel
theorem dX10_go_293 : decode cX10_go 293 = .ok (.aload_n 0, 1) := by decide +kernel
theorem dX10_go_294 : decode cX10_go 294 = .ok (.dup, 1) := by decide +kernel
theorem dX10_go_295 : decode cX10_go 295 = .ok (.getfield 194, 3) := by decide +kernel
theorem dX10_go_298 : decode cX10_go 298 = .ok (.iconst 1, 1) := by decide +kernel
theorem dX10_go_299 : decode cX10_go 299 = .ok (.iadd, 1) := by decide +kernel
theorem dX10_go_300 : decode cX10_go 300 = .ok (.putfield 194, 3) := by decide +kernel
theorem dX10_go_303 : decode cX10_go 303 = .ok (.return_, 1) := by decide +kernel
abbrev x_X10_go (E : mh_E) (d mc ms : Nat) (Post : Option Value → mh_H → Prop) : mh_X := (E, yX10_go, cX10_go, 2, none, d, mc, ms, Post)
def q_X10_go_303 (X : mh_X) : mh_PR := s_vret X
theorem b_X10_go_303 {E : mh_E} {d mc ms : Nat} {Post : Option Value → mh_H → Prop} : mh_S (x_X10_go E d mc ms Post) 303 (q_X10_go_303 (x_X10_go E d mc ms Post)) := sn_vret rfl dX10_go_303
def q_X10_go_261 (X : mh_X) : mh_PR := s_pi 10 10 (s_al 0 (s_al 0 (s_gi 10 8 (s_pi 10 12 (q_X10_go_303 X)))))
theorem b_X10_go_261 {E : mh_E} {d mc ms : Nat} {Post : Option Value → mh_H → Prop} : mh_S (x_X10_go E d mc ms Post) 261 (q_X10_go_261 (x_X10_go E d mc ms Post)) := sn_puti clX10 (by decide) w_1110 rfl rfl dX10_go_261 (sn_aload_n dX10_go_264 rfl (sn_aload_n dX10_go_265 rfl (sn_geti clX10 (by decide) w_1108 dX10_go_266 (sn_puti clX10 (by decide) w_1112 rfl rfl dX10_go_269 (sn_goto (tgt := 303) dX10_go_272 (by decide) (b_X10_go_303))))))
def q_X10_go_256 (X : mh_X) : mh_PR := s_push (.int (4)) (q_X10_go_261 X)
theorem b_X10_go_256 {E : mh_E} {d mc ms : Nat} {Post : Option Value → mh_H → Prop} : mh_S (x_X10_go E d mc ms Post) 256 (q_X10_go_256 (x_X10_go E d mc ms Post)) := sn_iconst dX10_go_256 (by decide) (sn_goto (tgt := 261) dX10_go_257 (by decide) (b_X10_go_261))
def q_X10_go_222 (X : mh_X) : mh_PR := s_pi 10 11 (s_al 0 (s_dup (s_gi 10 8 (s_push (.int (1)) (s_bin (fun x y => x + y) (s_pi 10 8 (mh_G X 170)))))))
theorem b_X10_go_222 {E : mh_E} {d mc ms : Nat} {Post : Option Value → mh_H → Prop} : mh_S (x_X10_go E d mc ms Post) 222 (q_X10_go_222 (x_X10_go E d mc ms Post)) := sn_puti clX10 (by decide) w_1111 rfl rfl dX10_go_222 (sn_aload_n dX10_go_225 rfl (sn_dup dX10_go_226 (sn_geti clX10 (by decide) w_1108 dX10_go_227 (sn_iconst dX10_go_230 (by decide) (sn_iadd dX10_go_231 (sn_puti clX10 (by decide) w_1108 rfl rfl dX10_go_232 (sn_goto (tgt := 170) dX10_go_235 (by decide) (mh_S.G))))))))
def q_X10_go_170 (X : mh_X) : mh_PR := s_al 0 (s_al 0 (s_gi 10 8 (s_cv X yX10_isFigure 10 1 (s_if1 (fun x => x = 0) (s_al 0 (s_il 1 (s_if1 (fun x => ¬ x = 0) (q_X10_go_256 X) (s_al 0 (s_gi 10 8 (s_al 0 (s_gi 10 9 (s_bin (fun x y => x - y) (s_push (.int (4)) (s_if2 (fun x y => x ≤ y) (s_push (.int (2)) (q_X10_go_261 X)) (q_X10_go_256 X))))))))))) (s_al 0 (s_al 0 (s_gi 10 8 (s_al 0 (s_gi 10 9 (s_bin (fun x y => x - y) (s_push (.int (4)) (s_if2 (fun x y => y ≤ x) (s_al 0 (s_gi 10 11 (q_X10_go_222 X))) (s_push (.int (10)) (s_al 0 (s_gi 10 11 (s_bin (fun x y => x * y) (s_al 0 (s_gr 10 6 (s_al 0 (s_gi 10 8 (s_ald 0 (s_bin (fun x y => x + y) (s_push (.int (48)) (s_bin (fun x y => x - y) (q_X10_go_222 X)))))))))))))))))))))))))
theorem b_X10_go_170 {E : mh_E} {d mc ms : Nat} {Post : Option Value → mh_H → Prop} : mh_S (x_X10_go E d mc ms Post) 170 (q_X10_go_170 (x_X10_go E d mc ms Post)) := sn_aload_n dX10_go_170 rfl (sn_aload_n dX10_go_171 rfl (sn_geti clX10 (by decide) w_1108 dX10_go_172 (sn_cv w_1458 w_1460 w_47 w_66 rfl nm_X10_isFigure dX10_go_175 (sn_if_eq (tgt := 238) dX10_go_178 (by decide) (sn_aload_n dX10_go_238 rfl (sn_iload_n dX10_go_239 rfl (sn_if_ne (tgt := 256) dX10_go_240 (by decide) (b_X10_go_256) (sn_aload_n dX10_go_243 rfl (sn_geti clX10 (by decide) w_1108 dX10_go_244 (sn_aload_n dX10_go_247 rfl (sn_geti clX10 (by decide) w_1109 dX10_go_248 (sn_isub dX10_go_251 (sn_iconst dX10_go_252 (by decide) (sn_icmp_le (tgt := 260) dX10_go_253 (by decide) (sn_iconst dX10_go_260 (by decide) b_X10_go_261) (b_X10_go_256))))))))))) (sn_aload_n dX10_go_181 rfl (sn_aload_n dX10_go_182 rfl (sn_geti clX10 (by decide) w_1108 dX10_go_183 (sn_aload_n dX10_go_186 rfl (sn_geti clX10 (by decide) w_1109 dX10_go_187 (sn_isub dX10_go_190 (sn_iconst dX10_go_191 (by decide) (sn_icmp_ge (tgt := 218) dX10_go_192 (by decide) (sn_aload_n dX10_go_218 rfl (sn_geti clX10 (by decide) w_1111 dX10_go_219 b_X10_go_222)) (sn_bipush dX10_go_195 (by decide) (sn_aload_n dX10_go_197 rfl (sn_geti clX10 (by decide) w_1111 dX10_go_198 (sn_imul dX10_go_201 (sn_aload_n dX10_go_202 rfl (sn_getr clX10 (by decide) w_1106 dX10_go_203 (sn_aload_n dX10_go_206 rfl (sn_geti clX10 (by decide) w_1108 dX10_go_207 (sn_iaload dX10_go_210 (sn_iadd dX10_go_211 (sn_bipush dX10_go_212 (by decide) (sn_isub dX10_go_214 (sn_goto (tgt := 222) dX10_go_215 (by decide) (b_X10_go_222))))))))))))))))))))))))))
def q_X10_go_127 (X : mh_X) : mh_PR := s_pi 10 10 (s_al 0 (s_al 0 (s_gr 10 6 (s_al 0 (s_gi 10 9 (s_ald 0 (s_pi 10 11 (s_al 0 (s_al 0 (s_gi 10 8 (s_pi 10 12 (q_X10_go_303 X))))))))))))
theorem b_X10_go_127 {E : mh_E} {d mc ms : Nat} {Post : Option Value → mh_H → Prop} : mh_S (x_X10_go E d mc ms Post) 127 (q_X10_go_127 (x_X10_go E d mc ms Post)) := sn_puti clX10 (by decide) w_1110 rfl rfl dX10_go_127 (sn_aload_n dX10_go_130 rfl (sn_aload_n dX10_go_131 rfl (sn_getr clX10 (by decide) w_1106 dX10_go_132 (sn_aload_n dX10_go_135 rfl (sn_geti clX10 (by decide) w_1109 dX10_go_136 (sn_iaload dX10_go_139 (sn_puti clX10 (by decide) w_1111 rfl rfl dX10_go_140 (sn_aload_n dX10_go_143 rfl (sn_aload_n dX10_go_144 rfl (sn_geti clX10 (by decide) w_1108 dX10_go_145 (sn_puti clX10 (by decide) w_1112 rfl rfl dX10_go_148 (sn_goto (tgt := 303) dX10_go_151 (by decide) (b_X10_go_303)))))))))))))
def q_X10_go_93 (X : mh_X) : mh_PR := s_al 0 (s_al 0 (s_gi 10 8 (s_cv X yX10_isLetter 10 1 (s_if1 (fun x => x = 0) (s_al 0 (s_il 1 (s_if1 (fun x => x = 0) (s_push (.int (1)) (q_X10_go_127 X)) (s_push (.int (4)) (q_X10_go_127 X))))) (s_al 0 (s_dup (s_gi 10 8 (s_push (.int (1)) (s_bin (fun x y => x + y) (s_pi 10 8 (mh_G X 93)))))))))))
theorem b_X10_go_93 {E : mh_E} {d mc ms : Nat} {Post : Option Value → mh_H → Prop} : mh_S (x_X10_go E d mc ms Post) 93 (q_X10_go_93 (x_X10_go E d mc ms Post)) := sn_aload_n dX10_go_93 rfl (sn_aload_n dX10_go_94 rfl (sn_geti clX10 (by decide) w_1108 dX10_go_95 (sn_cv w_1454 w_1456 w_46 w_66 rfl nm_X10_isLetter dX10_go_98 (sn_if_eq (tgt := 117) dX10_go_101 (by decide) (sn_aload_n dX10_go_117 rfl (sn_iload_n dX10_go_118 rfl (sn_if_eq (tgt := 126) dX10_go_119 (by decide) (sn_iconst dX10_go_126 (by decide) b_X10_go_127) (sn_iconst dX10_go_122 (by decide) (sn_goto (tgt := 127) dX10_go_123 (by decide) (b_X10_go_127)))))) (sn_aload_n dX10_go_104 rfl (sn_dup dX10_go_105 (sn_geti clX10 (by decide) w_1108 dX10_go_106 (sn_iconst dX10_go_109 (by decide) (sn_iadd dX10_go_110 (sn_puti clX10 (by decide) w_1108 rfl rfl dX10_go_111 (sn_goto (tgt := 93) dX10_go_114 (by decide) (mh_S.G))))))))))))
def q_X10_go_62 (X : mh_X) : mh_PR := s_is 1 (s_al 0 (s_gi 10 9 (s_al 0 (s_gi 10 7 (s_if2 (fun x y => ¬ x = y) (s_al 0 (s_al 0 (s_gi 10 9 (s_cv X yX10_isLetter 10 1 (s_if1 (fun x => x = 0) (s_al 0 (s_al 0 (s_gi 10 9 (s_cv X yX10_isFigure 10 1 (s_if1 (fun x => x = 0) (s_al 0 (s_push (.int (3)) (s_pi 10 10 (s_al 0 (s_al 0 (s_gr 10 6 (s_al 0 (s_gi 10 9 (s_ald 0 (s_pi 10 11 (s_al 0 (s_dup (s_gi 10 8 (s_push (.int (1)) (s_bin (fun x y => x + y) (s_pi 10 8 (q_X10_go_303 X))))))))))))))))) (s_al 0 (s_push (.int (0)) (s_pi 10 11 (mh_G X 170))))))))) (mh_G X 93)))))) (s_al 0 (s_push (.int (0)) (s_pi 10 10 (q_X10_go_303 X)))))))))
theorem b_X10_go_62 {E : mh_E} {d mc ms : Nat} {Post : Option Value → mh_H → Prop} : mh_S (x_X10_go E d mc ms Post) 62 (q_X10_go_62 (x_X10_go E d mc ms Post)) := sn_istore_n dX10_go_62 rfl (Nat.le_of_ble_eq_true rfl) (sn_aload_n dX10_go_63 rfl (sn_geti clX10 (by decide) w_1109 dX10_go_64 (sn_aload_n dX10_go_67 rfl (sn_geti clX10 (by decide) w_1107 dX10_go_68 (sn_icmp_ne (tgt := 82) dX10_go_71 (by decide) (sn_aload_n dX10_go_82 rfl (sn_aload_n dX10_go_83 rfl (sn_geti clX10 (by decide) w_1109 dX10_go_84 (sn_cv w_1454 w_1456 w_46 w_66 rfl nm_X10_isLetter dX10_go_87 (sn_if_eq (tgt := 154) dX10_go_90 (by decide) (sn_aload_n dX10_go_154 rfl (sn_aload_n dX10_go_155 rfl (sn_geti clX10 (by decide) w_1109 dX10_go_156 (sn_cv w_1458 w_1460 w_47 w_66 rfl nm_X10_isFigure dX10_go_159 (sn_if_eq (tgt := 275) dX10_go_162 (by decide) (sn_aload_n dX10_go_275 rfl (sn_iconst dX10_go_276 (by decide) (sn_puti clX10 (by decide) w_1110 rfl rfl dX10_go_277 (sn_aload_n dX10_go_280 rfl (sn_aload_n dX10_go_281 rfl (sn_getr clX10 (by decide) w_1106 dX10_go_282 (sn_aload_n dX10_go_285 rfl (sn_geti clX10 (by decide) w_1109 dX10_go_286 (sn_iaload dX10_go_289 (sn_puti clX10 (by decide) w_1111 rfl rfl dX10_go_290 (sn_aload_n dX10_go_293 rfl (sn_dup dX10_go_294 (sn_geti clX10 (by decide) w_1108 dX10_go_295 (sn_iconst dX10_go_298 (by decide) (sn_iadd dX10_go_299 (sn_puti clX10 (by decide) w_1108 rfl rfl dX10_go_300 b_X10_go_303)))))))))))))))) (sn_aload_n dX10_go_165 rfl (sn_iconst dX10_go_166 (by decide) (sn_puti clX10 (by decide) w_1111 rfl rfl dX10_go_167 mh_S.G)))))))) (mh_S.G)))))) (sn_aload_n dX10_go_74 rfl (sn_iconst dX10_go_75 (by decide) (sn_puti clX10 (by decide) w_1110 rfl rfl dX10_go_76 (sn_goto (tgt := 303) dX10_go_79 (by decide) (b_X10_go_303))))))))))
def q_X10_go_38 (X : mh_X) : mh_PR := s_al 0 (s_al 0 (s_gi 10 8 (s_pi 10 9 (s_al 0 (s_gi 10 9 (s_al 0 (s_gi 10 12 (s_if2 (fun x y => ¬ x = y) (s_push (.int (0)) (q_X10_go_62 X)) (s_push (.int (1)) (q_X10_go_62 X))))))))))
theorem b_X10_go_38 {E : mh_E} {d mc ms : Nat} {Post : Option Value → mh_H → Prop} : mh_S (x_X10_go E d mc ms Post) 38 (q_X10_go_38 (x_X10_go E d mc ms Post)) := sn_aload_n dX10_go_38 rfl (sn_aload_n dX10_go_39 rfl (sn_geti clX10 (by decide) w_1108 dX10_go_40 (sn_puti clX10 (by decide) w_1109 rfl rfl dX10_go_43 (sn_aload_n dX10_go_46 rfl (sn_geti clX10 (by decide) w_1109 dX10_go_47 (sn_aload_n dX10_go_50 rfl (sn_geti clX10 (by decide) w_1112 dX10_go_51 (sn_icmp_ne (tgt := 61) dX10_go_54 (by decide) (sn_iconst dX10_go_61 (by decide) b_X10_go_62) (sn_iconst dX10_go_57 (by decide) (sn_goto (tgt := 62) dX10_go_58 (by decide) (b_X10_go_62)))))))))))
def q_X10_go_0 (X : mh_X) : mh_PR := s_al 0 (s_gi 10 8 (s_al 0 (s_gi 10 7 (s_if2 (fun x y => y ≤ x) (q_X10_go_38 X) (s_al 0 (s_gr 10 6 (s_al 0 (s_gi 10 8 (s_ald 0 (s_push (.int (32)) (s_if2 (fun x y => ¬ x = y) (q_X10_go_38 X) (s_al 0 (s_dup (s_gi 10 8 (s_push (.int (1)) (s_bin (fun x y => x + y) (s_pi 10 8 (mh_G X 0))))))))))))))))))
theorem b_X10_go_0 {E : mh_E} {d mc ms : Nat} {Post : Option Value → mh_H → Prop} : mh_S (x_X10_go E d mc ms Post) 0 (q_X10_go_0 (x_X10_go E d mc ms Post)) := sn_aload_n dX10_go_0 rfl (sn_geti clX10 (by decide) w_1108 dX10_go_1 (sn_aload_n dX10_go_4 rfl (sn_geti clX10 (by decide) w_1107 dX10_go_5 (sn_icmp_ge (tgt := 38) dX10_go_8 (by decide) (b_X10_go_38) (sn_aload_n dX10_go_11 rfl (sn_getr clX10 (by decide) w_1106 dX10_go_12 (sn_aload_n dX10_go_15 rfl (sn_geti clX10 (by decide) w_1108 dX10_go_16 (sn_iaload dX10_go_19 (sn_bipush dX10_go_20 (by decide) (sn_icmp_ne (tgt := 38) dX10_go_22 (by decide) (b_X10_go_38) (sn_aload_n dX10_go_25 rfl (sn_dup dX10_go_26 (sn_geti clX10 (by decide) w_1108 dX10_go_27 (sn_iconst dX10_go_30 (by decide) (sn_iadd dX10_go_31 (sn_puti clX10 (by decide) w_1108 rfl rfl dX10_go_32 (sn_goto (tgt := 0) dX10_go_35 (by decide) (mh_S.G)))))))))))))))))))
theorem m_X10_go {E : mh_E} {d mc ms : Nat} {args : List Value} {h : mh_H} {Post : Option Value → mh_H → Prop} (lv : List (Option Value)) (hl : lv_args 0 args = mh_al 0 lv) (hs : (lg_sl args).length ≤ 2) (hG : q_X10_go_0 (x_X10_go E d mc ms Post) lv [] h 0 0) : mh_M E d mc ms yX10_go args h Post := mh_M.of w_1453 (by decide) (by decide) hl hs (b_X10_go_0 _ _ _ _ _ hG)
theorem dX10_counts_0 : decode cX10_counts 0 = .ok (.aload_n 0, 1) := by decide +kernel
theorem dX10_counts_1 : decode cX10_counts 1 = .ok (.getfield 9, 3) := by decide +kernel
theorem dX10_counts_4 : decode cX10_counts 4 = .ok (.bipush 7, 2) := by decide +kernel
theorem dX10_counts_6 : decode cX10_counts 6 = .ok (.iaload, 1) := by decide +kernel
theorem dX10_counts_7 : decode cX10_counts 7 = .ok (.iconst 1, 1) := by decide +kernel
theorem dX10_counts_8 : decode cX10_counts 8 = .ok (.isub, 1) := by decide +kernel
theorem dX10_counts_9 : decode cX10_counts 9 = .ok (.istore_n 2, 1) := by decide +kernel
theorem dX10_counts_10 : decode cX10_counts 10 = .ok (.iload_n 2, 1) := by decide +kernel
theorem dX10_counts_11 : decode cX10_counts 11 = .ok (.ifCond .lt 30, 3) := by decide +kernel
theorem dX10_counts_14 : decode cX10_counts 14 = .ok (.aload_n 0, 1) := by decide +kernel
theorem dX10_counts_15 : decode cX10_counts 15 = .ok (.getfield 9, 3) := by decide +kernel
theorem dX10_counts_18 : decode cX10_counts 18 = .ok (.bipush 80, 2) := by decide +kernel
theorem dX10_counts_20 : decode cX10_counts 20 = .ok (.iconst 2, 1) := by decide +kernel
theorem dX10_counts_21 : decode cX10_counts 21 = .ok (.iload_n 2, 1) := by decide +kernel
theorem dX10_counts_22 : decode cX10_counts 22 = .ok (.imul, 1) := by decide +kernel
theorem dX10_counts_23 : decode cX10_counts 23 = .ok (.iadd, 1) := by decide +kernel
theorem dX10_counts_24 : decode cX10_counts 24 = .ok (.iaload, 1) := by decide +kernel
theorem dX10_counts_25 : decode cX10_counts 25 = .ok (.sipush 1000, 3) := by decide +kernel
theorem dX10_counts_28 : decode cX10_counts 28 = .ok (.idiv, 1) := by decide +kernel
theorem dX10_counts_29 : decode cX10_counts 29 = .ok (.iload_n 1, 1) := by decide +kernel
theorem dX10_counts_30 : decode cX10_counts 30 = .ok (.if_icmp .ne 5, 3) := by decide +kernel
theorem dX10_counts_33 : decode cX10_counts 33 = .ok (.iload_n 2, 1) := by decide +kernel
theorem dX10_counts_34 : decode cX10_counts 34 = .ok (.ireturn, 1) := by decide +kernel
theorem dX10_counts_35 : decode cX10_counts 35 = .ok (.iinc 2 (-1), 3) := by decide +kernel
theorem dX10_counts_38 : decode cX10_counts 38 = .ok (.goto (-28), 3) := by decide +kernel
theorem dX10_counts_41 : decode cX10_counts 41 = .ok (.iconst (-1), 1) := by decide +kernel
theorem dX10_counts_42 : decode cX10_counts 42 = .ok (.ireturn, 1) := by decide +kernel
abbrev x_X10_counts (E : mh_E) (d mc ms : Nat) (Post : Option Value → mh_H → Prop) : mh_X := (E, yX10_counts, cX10_counts, 3, (some .int), d, mc, ms, Post)
def q_X10_counts_10 (X : mh_X) : mh_PR := s_il 2 (s_if1 (fun x => x < 0) (s_push (.int (-1)) (s_iret X)) (s_al 0 (s_gr 10 0 (s_push (.int (80)) (s_push (.int (2)) (s_il 2 (s_bin (fun x y => x * y) (s_bin (fun x y => x + y) (s_ald 0 (s_push (.int (1000)) (s_div (fun x y => x / y) (s_il 1 (s_if2 (fun x y => ¬ x = y) (s_inc 2 (-1) (mh_G X 10)) (s_il 2 (s_iret X)))))))))))))))
theorem b_X10_counts_10 {E : mh_E} {d mc ms : Nat} {Post : Option Value → mh_H → Prop} : mh_S (x_X10_counts E d mc ms Post) 10 (q_X10_counts_10 (x_X10_counts E d mc ms Post)) := sn_iload_n dX10_counts_10 rfl (sn_if_lt (tgt := 41) dX10_counts_11 (by decide) (sn_iconst dX10_counts_41 (by decide) (sn_iret rfl dX10_counts_42)) (sn_aload_n dX10_counts_14 rfl (sn_getr clX10 (by decide) w_1100 dX10_counts_15 (sn_bipush dX10_counts_18 (by decide) (sn_iconst dX10_counts_20 (by decide) (sn_iload_n dX10_counts_21 rfl (sn_imul dX10_counts_22 (sn_iadd dX10_counts_23 (sn_iaload dX10_counts_24 (sn_sipush dX10_counts_25 (by decide) (sn_idiv dX10_counts_28 (sn_iload_n dX10_counts_29 rfl (sn_icmp_ne (tgt := 35) dX10_counts_30 (by decide) (sn_iinc dX10_counts_35 (by decide) (Nat.le_of_ble_eq_true rfl) (sn_goto (tgt := 10) dX10_counts_38 (by decide) (mh_S.G))) (sn_iload_n dX10_counts_33 rfl (sn_iret rfl dX10_counts_34)))))))))))))))
def q_X10_counts_0 (X : mh_X) : mh_PR := s_al 0 (s_gr 10 0 (s_push (.int (7)) (s_ald 0 (s_push (.int (1)) (s_bin (fun x y => x - y) (s_is 2 (mh_G X 10)))))))
theorem b_X10_counts_0 {E : mh_E} {d mc ms : Nat} {Post : Option Value → mh_H → Prop} : mh_S (x_X10_counts E d mc ms Post) 0 (q_X10_counts_0 (x_X10_counts E d mc ms Post)) := sn_aload_n dX10_counts_0 rfl (sn_getr clX10 (by decide) w_1100 dX10_counts_1 (sn_bipush dX10_counts_4 (by decide) (sn_iaload dX10_counts_6 (sn_iconst dX10_counts_7 (by decide) (sn_isub dX10_counts_8 (sn_istore_n dX10_counts_9 rfl (Nat.le_of_ble_eq_true rfl) mh_S.G))))))
theorem m_X10_counts {E : mh_E} {d mc ms : Nat} {args : List Value} {h : mh_H} {Post : Option Value → mh_H → Prop} (lv : List (Option Value)) (hl : lv_args 0 args = mh_al 0 lv) (hs : (lg_sl args).length ≤ 3) (hG : q_X10_counts_0 (x_X10_counts E d mc ms Post) lv [] h 0 0) : mh_M E d mc ms yX10_counts args h Post := mh_M.of w_1262 (by decide) (by decide) hl hs (b_X10_counts_0 _ _ _ _ _ hG)
theorem dX10_isSheet_0 : decode cX10_isSheet 0 = .ok (.iload_n 0, 1) := by decide +kernel
theorem dX10_isSheet_1 : decode cX10_isSheet 1 = .ok (.iconst 0, 1) := by decide +kernel
theorem dX10_isSheet_2 : decode cX10_isSheet 2 = .ok (.iconst 3, 1) := by decide +kernel
theorem dX10_isSheet_3 : decode cX10_isSheet 3 = .ok (.invokestatic 79, 3) := by decide +kernel
theorem dX10_isSheet_6 : decode cX10_isSheet 6 = .ok (.ireturn, 1) := by decide +kernel
abbrev x_X10_isSheet (E : mh_E) (d mc ms : Nat) (Post : Option Value → mh_H → Prop) : mh_X := (E, yX10_isSheet, cX10_isSheet, 1, (some .boolean), d, mc, ms, Post)
def q_X10_isSheet_0 (X : mh_X) : mh_PR := s_il 0 (s_push (.int (0)) (s_push (.int (3)) (s_cs X yX10_in 3 (s_zret X))))
theorem b_X10_isSheet_0 {E : mh_E} {d mc ms : Nat} {Post : Option Value → mh_H → Prop} : mh_S (x_X10_isSheet E d mc ms Post) 0 (q_X10_isSheet_0 (x_X10_isSheet E d mc ms Post)) := sn_iload_n dX10_isSheet_0 rfl (sn_iconst dX10_isSheet_1 (by decide) (sn_iconst dX10_isSheet_2 (by decide) (sn_cs w_1210 w_1211 w_66 nm_X10_in dX10_isSheet_3 (sn_zret rfl dX10_isSheet_6))))
theorem m_X10_isSheet {E : mh_E} {d mc ms : Nat} {args : List Value} {h : mh_H} {Post : Option Value → mh_H → Prop} (lv : List (Option Value)) (hl : lv_args 0 args = mh_al 0 lv) (hs : (lg_sl args).length ≤ 1) (hG : q_X10_isSheet_0 (x_X10_isSheet E d mc ms Post) lv [] h 0 0) : mh_M E d mc ms yX10_isSheet args h Post := mh_M.of w_1428 (by decide) (by decide) hl hs (b_X10_isSheet_0 _ _ _ _ _ hG)
theorem dX10_isSlot_0 : decode cX10_isSlot 0 = .ok (.iload_n 0, 1) := by decide +kernel
theorem dX10_isSlot_1 : decode cX10_isSlot 1 = .ok (.iconst 0, 1) := by decide +kernel
theorem dX10_isSlot_2 : decode cX10_isSlot 2 = .ok (.iconst 4, 1) := by decide +kernel
theorem dX10_isSlot_3 : decode cX10_isSlot 3 = .ok (.invokestatic 79, 3) := by decide +kernel
theorem dX10_isSlot_6 : decode cX10_isSlot 6 = .ok (.ireturn, 1) := by decide +kernel
abbrev x_X10_isSlot (E : mh_E) (d mc ms : Nat) (Post : Option Value → mh_H → Prop) : mh_X := (E, yX10_isSlot, cX10_isSlot, 1, (some .boolean), d, mc, ms, Post)
def q_X10_isSlot_0 (X : mh_X) : mh_PR := s_il 0 (s_push (.int (0)) (s_push (.int (4)) (s_cs X yX10_in 3 (s_zret X))))
theorem b_X10_isSlot_0 {E : mh_E} {d mc ms : Nat} {Post : Option Value → mh_H → Prop} : mh_S (x_X10_isSlot E d mc ms Post) 0 (q_X10_isSlot_0 (x_X10_isSlot E d mc ms Post)) := sn_iload_n dX10_isSlot_0 rfl (sn_iconst dX10_isSlot_1 (by decide) (sn_iconst dX10_isSlot_2 (by decide) (sn_cs w_1210 w_1211 w_66 nm_X10_in dX10_isSlot_3 (sn_zret rfl dX10_isSlot_6))))
theorem m_X10_isSlot {E : mh_E} {d mc ms : Nat} {args : List Value} {h : mh_H} {Post : Option Value → mh_H → Prop} (lv : List (Option Value)) (hl : lv_args 0 args = mh_al 0 lv) (hs : (lg_sl args).length ≤ 1) (hG : q_X10_isSlot_0 (x_X10_isSlot E d mc ms Post) lv [] h 0 0) : mh_M E d mc ms yX10_isSlot args h Post := mh_M.of w_1530 (by decide) (by decide) hl hs (b_X10_isSlot_0 _ _ _ _ _ hG)
theorem dX10_copy_0 : decode cX10_copy 0 = .ok (.iload_n 1, 1) := by decide +kernel
theorem dX10_copy_1 : decode cX10_copy 1 = .ok (.invokestatic 186, 3) := by decide +kernel
theorem dX10_copy_4 : decode cX10_copy 4 = .ok (.ifCond .eq 10, 3) := by decide +kernel
theorem dX10_copy_7 : decode cX10_copy 7 = .ok (.iload_n 3, 1) := by decide +kernel
theorem dX10_copy_8 : decode cX10_copy 8 = .ok (.invokestatic 186, 3) := by decide +kernel
theorem dX10_copy_11 : decode cX10_copy 11 = .ok (.ifCond .ne 6, 3) := by decide +kernel
theorem dX10_copy_14 : decode cX10_copy 14 = .ok (.ldc 91, 2) := by decide +kernel
theorem dX10_copy_16 : decode cX10_copy 16 = .ok (.ireturn, 1) := by decide +kernel
theorem dX10_copy_17 : decode cX10_copy 17 = .ok (.aload_n 0, 1) := by decide +kernel
theorem dX10_copy_18 : decode cX10_copy 18 = .ok (.getfield 52, 3) := by decide +kernel
theorem dX10_copy_21 : decode cX10_copy 21 = .ok (.iload_n 1, 1) := by decide +kernel
theorem dX10_copy_22 : decode cX10_copy 22 = .ok (.iaload, 1) := by decide +kernel
theorem dX10_copy_23 : decode cX10_copy 23 = .ok (.ifCond .lt 12, 3) := by decide +kernel
theorem dX10_copy_26 : decode cX10_copy 26 = .ok (.aload_n 0, 1) := by decide +kernel
theorem dX10_copy_27 : decode cX10_copy 27 = .ok (.getfield 52, 3) := by decide +kernel
theorem dX10_copy_30 : decode cX10_copy 30 = .ok (.iload_n 3, 1) := by decide +kernel
theorem dX10_copy_31 : decode cX10_copy 31 = .ok (.iaload, 1) := by decide +kernel
theorem dX10_copy_32 : decode cX10_copy 32 = .ok (.ifCond .ge 6, 3) := by decide +kernel
theorem dX10_copy_35 : decode cX10_copy 35 = .ok (.ldc 189, 2) := by decide +kernel
theorem dX10_copy_37 : decode cX10_copy 37 = .ok (.ireturn, 1) := by decide +kernel
theorem dX10_copy_38 : decode cX10_copy 38 = .ok (.aload_n 0, 1) := by decide +kernel
theorem dX10_copy_39 : decode cX10_copy 39 = .ok (.getfield 52, 3) := by decide +kernel
theorem dX10_copy_42 : decode cX10_copy 42 = .ok (.iload_n 1, 1) := by decide +kernel
theorem dX10_copy_43 : decode cX10_copy 43 = .ok (.iaload, 1) := by decide +kernel
theorem dX10_copy_44 : decode cX10_copy 44 = .ok (.aload_n 0, 1) := by decide +kernel
theorem dX10_copy_45 : decode cX10_copy 45 = .ok (.getfield 52, 3) := by decide +kernel
theorem dX10_copy_48 : decode cX10_copy 48 = .ok (.iload_n 3, 1) := by decide +kernel
theorem dX10_copy_49 : decode cX10_copy 49 = .ok (.iaload, 1) := by decide +kernel
theorem dX10_copy_50 : decode cX10_copy 50 = .ok (.if_icmp .eq 6, 3) := by decide +kernel
theorem dX10_copy_53 : decode cX10_copy 53 = .ok (.ldc 139, 2) := by decide +kernel
theorem dX10_copy_55 : decode cX10_copy 55 = .ok (.ireturn, 1) := by decide +kernel
theorem dX10_copy_56 : decode cX10_copy 56 = .ok (.iload_n 2, 1) := by decide +kernel
theorem dX10_copy_57 : decode cX10_copy 57 = .ok (.ifCond .lt 40, 3) := by decide +kernel
theorem dX10_copy_60 : decode cX10_copy 60 = .ok (.iload 4, 2) := by decide +kernel
theorem dX10_copy_62 : decode cX10_copy 62 = .ok (.ifCond .lt 35, 3) := by decide +kernel
theorem dX10_copy_65 : decode cX10_copy 65 = .ok (.iload 5, 2) := by decide +kernel
theorem dX10_copy_67 : decode cX10_copy 67 = .ok (.ifCond .lt 30, 3) := by decide +kernel
theorem dX10_copy_70 : decode cX10_copy 70 = .ok (.iload_n 2, 1) := by decide +kernel
theorem dX10_copy_71 : decode cX10_copy 71 = .ok (.aload_n 0, 1) := by decide +kernel
theorem dX10_copy_72 : decode cX10_copy 72 = .ok (.getfield 55, 3) := by decide +kernel
theorem dX10_copy_75 : decode cX10_copy 75 = .ok (.iload_n 1, 1) := by decide +kernel
theorem dX10_copy_76 : decode cX10_copy 76 = .ok (.iaload, 1) := by decide +kernel
theorem dX10_copy_77 : decode cX10_copy 77 = .ok (.iload 5, 2) := by decide +kernel
theorem dX10_copy_79 : decode cX10_copy 79 = .ok (.isub, 1) := by decide +kernel
theorem dX10_copy_80 : decode cX10_copy 80 = .ok (.if_icmp .gt 17, 3) := by decide +kernel
theorem dX10_copy_83 : decode cX10_copy 83 = .ok (.iload 4, 2) := by decide +kernel
theorem dX10_copy_85 : decode cX10_copy 85 = .ok (.aload_n 0, 1) := by decide +kernel
theorem dX10_copy_86 : decode cX10_copy 86 = .ok (.getfield 55, 3) := by decide +kernel
theorem dX10_copy_89 : decode cX10_copy 89 = .ok (.iload_n 3, 1) := by decide +kernel
theorem dX10_copy_90 : decode cX10_copy 90 = .ok (.iaload, 1) := by decide +kernel
theorem dX10_copy_91 : decode cX10_copy 91 = .ok (.iload 5, 2) := by decide +kernel
theorem dX10_copy_93 : decode cX10_copy 93 = .ok (.isub, 1) := by decide +kernel
theorem dX10_copy_94 : decode cX10_copy 94 = .ok (.if_icmp .le 7, 3) := by decide +kernel
theorem dX10_copy_97 : decode cX10_copy 97 = .ok (.ldc_w 259, 3) := by decide +kernel
theorem dX10_copy_100 : decode cX10_copy 100 = .ok (.ireturn, 1) := by decide +kernel
theorem dX10_copy_101 : decode cX10_copy 101 = .ok (.iconst 0, 1) := by decide +kernel
theorem dX10_copy_102 : decode cX10_copy 102 = .ok (.istore 6, 2) := by decide +kernel
theorem dX10_copy_104 : decode cX10_copy 104 = .ok (.iload 6, 2) := by decide +kernel
theorem dX10_copy_106 : decode cX10_copy 106 = .ok (.iload 5, 2) := by decide +kernel
theorem dX10_copy_108 : decode cX10_copy 108 = .ok (.if_icmp .ge 30, 3) := by decide +kernel
theorem dX10_copy_111 : decode cX10_copy 111 = .ok (.aload_n 0, 1) := by decide +kernel
theorem dX10_copy_112 : decode cX10_copy 112 = .ok (.getfield 73, 3) := by decide +kernel
theorem dX10_copy_115 : decode cX10_copy 115 = .ok (.iload 6, 2) := by decide +kernel
theorem dX10_copy_117 : decode cX10_copy 117 = .ok (.aload_n 0, 1) := by decide +kernel
theorem dX10_copy_118 : decode cX10_copy 118 = .ok (.getfield 58, 3) := by decide +kernel
theorem dX10_copy_121 : decode cX10_copy 121 = .ok (.bipush 24, 2) := by decide +kernel
theorem dX10_copy_123 : decode cX10_copy 123 = .ok (.iload_n 1, 1) := by decide +kernel
theorem dX10_copy_124 : decode cX10_copy 124 = .ok (.imul, 1) := by decide +kernel
theorem dX10_copy_125 : decode cX10_copy 125 = .ok (.iload_n 2, 1) := by decide +kernel
theorem dX10_copy_126 : decode cX10_copy 126 = .ok (.iadd, 1) := by decide +kernel
theorem dX10_copy_127 : decode cX10_copy 127 = .ok (.iload 6, 2) := by decide +kernel
theorem dX10_copy_129 : decode cX10_copy 129 = .ok (.iadd, 1) := by decide +kernel
theorem dX10_copy_130 : decode cX10_copy 130 = .ok (.iaload, 1) := by decide +kernel
theorem dX10_copy_131 : decode cX10_copy 131 = .ok (.iastore, 1) := by decide +kernel
theorem dX10_copy_132 : decode cX10_copy 132 = .ok (.iinc 6 1, 3) := by decide +kernel
theorem dX10_copy_135 : decode cX10_copy 135 = .ok (.goto (-31), 3) := by decide +kernel
theorem dX10_copy_138 : decode cX10_copy 138 = .ok (.iconst 0, 1) := by decide +kernel
theorem dX10_copy_139 : decode cX10_copy 139 = .ok (.istore 6, 2) := by decide +kernel
theorem dX10_copy_141 : decode cX10_copy 141 = .ok (.iload 6, 2) := by decide +kernel
theorem dX10_copy_143 : decode cX10_copy 143 = .ok (.iload 5, 2) := by decide +kernel
theorem dX10_copy_145 : decode cX10_copy 145 = .ok (.if_icmp .ge 31, 3) := by decide +kernel
theorem dX10_copy_148 : decode cX10_copy 148 = .ok (.aload_n 0, 1) := by decide +kernel
theorem dX10_copy_149 : decode cX10_copy 149 = .ok (.getfield 58, 3) := by decide +kernel
theorem dX10_copy_152 : decode cX10_copy 152 = .ok (.bipush 24, 2) := by decide +kernel
theorem dX10_copy_154 : decode cX10_copy 154 = .ok (.iload_n 3, 1) := by decide +kernel
theorem dX10_copy_155 : decode cX10_copy 155 = .ok (.imul, 1) := by decide +kernel
theorem dX10_copy_156 : decode cX10_copy 156 = .ok (.iload 4, 2) := by decide +kernel
theorem dX10_copy_158 : decode cX10_copy 158 = .ok (.iadd, 1) := by decide +kernel
theorem dX10_copy_159 : decode cX10_copy 159 = .ok (.iload 6, 2) := by decide +kernel
theorem dX10_copy_161 : decode cX10_copy 161 = .ok (.iadd, 1) := by decide +kernel
theorem dX10_copy_162 : decode cX10_copy 162 = .ok (.aload_n 0, 1) := by decide +kernel
theorem dX10_copy_163 : decode cX10_copy 163 = .ok (.getfield 73, 3) := by decide +kernel
theorem dX10_copy_166 : decode cX10_copy 166 = .ok (.iload 6, 2) := by decide +kernel
theorem dX10_copy_168 : decode cX10_copy 168 = .ok (.iaload, 1) := by decide +kernel
theorem dX10_copy_169 : decode cX10_copy 169 = .ok (.iastore, 1) := by decide +kernel
theorem dX10_copy_170 : decode cX10_copy 170 = .ok (.iinc 6 1, 3) := by decide +kernel
theorem dX10_copy_173 : decode cX10_copy 173 = .ok (.goto (-32), 3) := by decide +kernel
theorem dX10_copy_176 : decode cX10_copy 176 = .ok (.iload 5, 2) := by decide +kernel
theorem dX10_copy_178 : decode cX10_copy 178 = .ok (.ireturn, 1) := by decide +kernel
abbrev x_X10_copy (E : mh_E) (d mc ms : Nat) (Post : Option Value → mh_H → Prop) : mh_X := (E, yX10_copy, cX10_copy, 7, (some .int), d, mc, ms, Post)
def q_X10_copy_141 (X : mh_X) : mh_PR := s_il 6 (s_il 5 (s_if2 (fun x y => y ≤ x) (s_il 5 (s_iret X)) (s_al 0 (s_gr 10 26 (s_push (.int (24)) (s_il 3 (s_bin (fun x y => x * y) (s_il 4 (s_bin (fun x y => x + y) (s_il 6 (s_bin (fun x y => x + y) (s_al 0 (s_gr 10 31 (s_il 6 (s_ald 0 (s_ast 0 (fun x => x) (s_inc 6 (1) (mh_G X 141))))))))))))))))))
theorem b_X10_copy_141 {E : mh_E} {d mc ms : Nat} {Post : Option Value → mh_H → Prop} : mh_S (x_X10_copy E d mc ms Post) 141 (q_X10_copy_141 (x_X10_copy E d mc ms Post)) := sn_iload dX10_copy_141 (sn_iload dX10_copy_143 (sn_icmp_ge (tgt := 176) dX10_copy_145 (by decide) (sn_iload dX10_copy_176 (sn_iret rfl dX10_copy_178)) (sn_aload_n dX10_copy_148 rfl (sn_getr clX10 (by decide) w_1126 dX10_copy_149 (sn_bipush dX10_copy_152 (by decide) (sn_iload_n dX10_copy_154 rfl (sn_imul dX10_copy_155 (sn_iload dX10_copy_156 (sn_iadd dX10_copy_158 (sn_iload dX10_copy_159 (sn_iadd dX10_copy_161 (sn_aload_n dX10_copy_162 rfl (sn_getr clX10 (by decide) w_1131 dX10_copy_163 (sn_iload dX10_copy_166 (sn_iaload dX10_copy_168 (sn_iastore dX10_copy_169 (sn_iinc dX10_copy_170 (by decide) (Nat.le_of_ble_eq_true rfl) (sn_goto (tgt := 141) dX10_copy_173 (by decide) (mh_S.G)))))))))))))))))))
def q_X10_copy_104 (X : mh_X) : mh_PR := s_il 6 (s_il 5 (s_if2 (fun x y => y ≤ x) (s_push (.int (0)) (s_is 6 (mh_G X 141))) (s_al 0 (s_gr 10 31 (s_il 6 (s_al 0 (s_gr 10 26 (s_push (.int (24)) (s_il 1 (s_bin (fun x y => x * y) (s_il 2 (s_bin (fun x y => x + y) (s_il 6 (s_bin (fun x y => x + y) (s_ald 0 (s_ast 0 (fun x => x) (s_inc 6 (1) (mh_G X 104))))))))))))))))))
theorem b_X10_copy_104 {E : mh_E} {d mc ms : Nat} {Post : Option Value → mh_H → Prop} : mh_S (x_X10_copy E d mc ms Post) 104 (q_X10_copy_104 (x_X10_copy E d mc ms Post)) := sn_iload dX10_copy_104 (sn_iload dX10_copy_106 (sn_icmp_ge (tgt := 138) dX10_copy_108 (by decide) (sn_iconst dX10_copy_138 (by decide) (sn_istore dX10_copy_139 (Nat.le_of_ble_eq_true rfl) mh_S.G)) (sn_aload_n dX10_copy_111 rfl (sn_getr clX10 (by decide) w_1131 dX10_copy_112 (sn_iload dX10_copy_115 (sn_aload_n dX10_copy_117 rfl (sn_getr clX10 (by decide) w_1126 dX10_copy_118 (sn_bipush dX10_copy_121 (by decide) (sn_iload_n dX10_copy_123 rfl (sn_imul dX10_copy_124 (sn_iload_n dX10_copy_125 rfl (sn_iadd dX10_copy_126 (sn_iload dX10_copy_127 (sn_iadd dX10_copy_129 (sn_iaload dX10_copy_130 (sn_iastore dX10_copy_131 (sn_iinc dX10_copy_132 (by decide) (Nat.le_of_ble_eq_true rfl) (sn_goto (tgt := 104) dX10_copy_135 (by decide) (mh_S.G)))))))))))))))))))
def q_X10_copy_97 (X : mh_X) : mh_PR := s_push (.int (-1000000013)) (s_iret X)
theorem b_X10_copy_97 {E : mh_E} {d mc ms : Nat} {Post : Option Value → mh_H → Prop} : mh_S (x_X10_copy E d mc ms Post) 97 (q_X10_copy_97 (x_X10_copy E d mc ms Post)) := sn_ldcw dX10_copy_97 w_1510 (sn_iret rfl dX10_copy_100)
def q_X10_copy_35 (X : mh_X) : mh_PR := s_push (.int (-1000000011)) (s_iret X)
theorem b_X10_copy_35 {E : mh_E} {d mc ms : Nat} {Post : Option Value → mh_H → Prop} : mh_S (x_X10_copy E d mc ms Post) 35 (q_X10_copy_35 (x_X10_copy E d mc ms Post)) := sn_ldc dX10_copy_35 w_1429 (sn_iret rfl dX10_copy_37)
def q_X10_copy_14 (X : mh_X) : mh_PR := s_push (.int (-1000000001)) (s_iret X)
theorem b_X10_copy_14 {E : mh_E} {d mc ms : Nat} {Post : Option Value → mh_H → Prop} : mh_S (x_X10_copy E d mc ms Post) 14 (q_X10_copy_14 (x_X10_copy E d mc ms Post)) := sn_ldc dX10_copy_14 w_1216 (sn_iret rfl dX10_copy_16)
def q_X10_copy_0 (X : mh_X) : mh_PR := s_il 1 (s_cs X yX10_isSheet 1 (s_if1 (fun x => x = 0) (q_X10_copy_14 X) (s_il 3 (s_cs X yX10_isSheet 1 (s_if1 (fun x => ¬ x = 0) (s_al 0 (s_gr 10 24 (s_il 1 (s_ald 0 (s_if1 (fun x => x < 0) (q_X10_copy_35 X) (s_al 0 (s_gr 10 24 (s_il 3 (s_ald 0 (s_if1 (fun x => 0 ≤ x) (s_al 0 (s_gr 10 24 (s_il 1 (s_ald 0 (s_al 0 (s_gr 10 24 (s_il 3 (s_ald 0 (s_if2 (fun x y => x = y) (s_il 2 (s_if1 (fun x => x < 0) (q_X10_copy_97 X) (s_il 4 (s_if1 (fun x => x < 0) (q_X10_copy_97 X) (s_il 5 (s_if1 (fun x => x < 0) (q_X10_copy_97 X) (s_il 2 (s_al 0 (s_gr 10 25 (s_il 1 (s_ald 0 (s_il 5 (s_bin (fun x y => x - y) (s_if2 (fun x y => y < x) (q_X10_copy_97 X) (s_il 4 (s_al 0 (s_gr 10 25 (s_il 3 (s_ald 0 (s_il 5 (s_bin (fun x y => x - y) (s_if2 (fun x y => x ≤ y) (s_push (.int (0)) (s_is 6 (mh_G X 104))) (q_X10_copy_97 X))))))))))))))))))))))) (s_push (.int (-1000000012)) (s_iret X))))))))))) (q_X10_copy_35 X))))))))))) (q_X10_copy_14 X))))))
theorem b_X10_copy_0 {E : mh_E} {d mc ms : Nat} {Post : Option Value → mh_H → Prop} : mh_S (x_X10_copy E d mc ms Post) 0 (q_X10_copy_0 (x_X10_copy E d mc ms Post)) := sn_iload_n dX10_copy_0 rfl (sn_cs w_1426 w_1427 w_66 nm_X10_isSheet dX10_copy_1 (sn_if_eq (tgt := 14) dX10_copy_4 (by decide) (b_X10_copy_14) (sn_iload_n dX10_copy_7 rfl (sn_cs w_1426 w_1427 w_66 nm_X10_isSheet dX10_copy_8 (sn_if_ne (tgt := 17) dX10_copy_11 (by decide) (sn_aload_n dX10_copy_17 rfl (sn_getr clX10 (by decide) w_1124 dX10_copy_18 (sn_iload_n dX10_copy_21 rfl (sn_iaload dX10_copy_22 (sn_if_lt (tgt := 35) dX10_copy_23 (by decide) (b_X10_copy_35) (sn_aload_n dX10_copy_26 rfl (sn_getr clX10 (by decide) w_1124 dX10_copy_27 (sn_iload_n dX10_copy_30 rfl (sn_iaload dX10_copy_31 (sn_if_ge (tgt := 38) dX10_copy_32 (by decide) (sn_aload_n dX10_copy_38 rfl (sn_getr clX10 (by decide) w_1124 dX10_copy_39 (sn_iload_n dX10_copy_42 rfl (sn_iaload dX10_copy_43 (sn_aload_n dX10_copy_44 rfl (sn_getr clX10 (by decide) w_1124 dX10_copy_45 (sn_iload_n dX10_copy_48 rfl (sn_iaload dX10_copy_49 (sn_icmp_eq (tgt := 56) dX10_copy_50 (by decide) (sn_iload_n dX10_copy_56 rfl (sn_if_lt (tgt := 97) dX10_copy_57 (by decide) (b_X10_copy_97) (sn_iload dX10_copy_60 (sn_if_lt (tgt := 97) dX10_copy_62 (by decide) (b_X10_copy_97) (sn_iload dX10_copy_65 (sn_if_lt (tgt := 97) dX10_copy_67 (by decide) (b_X10_copy_97) (sn_iload_n dX10_copy_70 rfl (sn_aload_n dX10_copy_71 rfl (sn_getr clX10 (by decide) w_1125 dX10_copy_72 (sn_iload_n dX10_copy_75 rfl (sn_iaload dX10_copy_76 (sn_iload dX10_copy_77 (sn_isub dX10_copy_79 (sn_icmp_gt (tgt := 97) dX10_copy_80 (by decide) (b_X10_copy_97) (sn_iload dX10_copy_83 (sn_aload_n dX10_copy_85 rfl (sn_getr clX10 (by decide) w_1125 dX10_copy_86 (sn_iload_n dX10_copy_89 rfl (sn_iaload dX10_copy_90 (sn_iload dX10_copy_91 (sn_isub dX10_copy_93 (sn_icmp_le (tgt := 101) dX10_copy_94 (by decide) (sn_iconst dX10_copy_101 (by decide) (sn_istore dX10_copy_102 (Nat.le_of_ble_eq_true rfl) mh_S.G)) (b_X10_copy_97))))))))))))))))))))))) (sn_ldc dX10_copy_53 w_1285 (sn_iret rfl dX10_copy_55))))))))))) (b_X10_copy_35))))))))))) (b_X10_copy_14))))))
theorem m_X10_copy {E : mh_E} {d mc ms : Nat} {args : List Value} {h : mh_H} {Post : Option Value → mh_H → Prop} (lv : List (Option Value)) (hl : lv_args 0 args = mh_al 0 lv) (hs : (lg_sl args).length ≤ 7) (hG : q_X10_copy_0 (x_X10_copy E d mc ms Post) lv [] h 0 0) : mh_M E d mc ms yX10_copy args h Post := mh_M.of w_1523 (by decide) (by decide) hl hs (b_X10_copy_0 _ _ _ _ _ hG)
theorem dX10_ask_0 : decode cX10_ask 0 = .ok (.iload_n 1, 1) := by decide +kernel
theorem dX10_ask_1 : decode cX10_ask 1 = .ok (.invokestatic 261, 3) := by decide +kernel
theorem dX10_ask_4 : decode cX10_ask 4 = .ok (.ifCond .eq 12, 3) := by decide +kernel
theorem dX10_ask_7 : decode cX10_ask 7 = .ok (.iload_n 2, 1) := by decide +kernel
theorem dX10_ask_8 : decode cX10_ask 8 = .ok (.iconst 0, 1) := by decide +kernel
theorem dX10_ask_9 : decode cX10_ask 9 = .ok (.iconst 5, 1) := by decide +kernel
theorem dX10_ask_10 : decode cX10_ask 10 = .ok (.invokestatic 79, 3) := by decide +kernel
theorem dX10_ask_13 : decode cX10_ask 13 = .ok (.ifCond .ne 6, 3) := by decide +kernel
theorem dX10_ask_16 : decode cX10_ask 16 = .ok (.ldc 91, 2) := by decide +kernel
theorem dX10_ask_18 : decode cX10_ask 18 = .ok (.ireturn, 1) := by decide +kernel
theorem dX10_ask_19 : decode cX10_ask 19 = .ok (.aload_n 0, 1) := by decide +kernel
theorem dX10_ask_20 : decode cX10_ask 20 = .ok (.getfield 61, 3) := by decide +kernel
theorem dX10_ask_23 : decode cX10_ask 23 = .ok (.iload_n 1, 1) := by decide +kernel
theorem dX10_ask_24 : decode cX10_ask 24 = .ok (.iaload, 1) := by decide +kernel
theorem dX10_ask_25 : decode cX10_ask 25 = .ok (.ifCond .ne 6, 3) := by decide +kernel
theorem dX10_ask_28 : decode cX10_ask 28 = .ok (.ldc 189, 2) := by decide +kernel
theorem dX10_ask_30 : decode cX10_ask 30 = .ok (.ireturn, 1) := by decide +kernel
theorem dX10_ask_31 : decode cX10_ask 31 = .ok (.aload_n 0, 1) := by decide +kernel
theorem dX10_ask_32 : decode cX10_ask 32 = .ok (.getfield 61, 3) := by decide +kernel
theorem dX10_ask_35 : decode cX10_ask 35 = .ok (.iload_n 1, 1) := by decide +kernel
theorem dX10_ask_36 : decode cX10_ask 36 = .ok (.iaload, 1) := by decide +kernel
theorem dX10_ask_37 : decode cX10_ask 37 = .ok (.iconst 1, 1) := by decide +kernel
theorem dX10_ask_38 : decode cX10_ask 38 = .ok (.if_icmp .ne 25, 3) := by decide +kernel
theorem dX10_ask_41 : decode cX10_ask 41 = .ok (.aload_n 0, 1) := by decide +kernel
theorem dX10_ask_42 : decode cX10_ask 42 = .ok (.getfield 64, 3) := by decide +kernel
theorem dX10_ask_45 : decode cX10_ask 45 = .ok (.iload_n 1, 1) := by decide +kernel
theorem dX10_ask_46 : decode cX10_ask 46 = .ok (.iaload, 1) := by decide +kernel
theorem dX10_ask_47 : decode cX10_ask 47 = .ok (.iload_n 2, 1) := by decide +kernel
theorem dX10_ask_48 : decode cX10_ask 48 = .ok (.invokestatic 136, 3) := by decide +kernel
theorem dX10_ask_51 : decode cX10_ask 51 = .ok (.ifCond .eq 12, 3) := by decide +kernel
theorem dX10_ask_54 : decode cX10_ask 54 = .ok (.aload_n 0, 1) := by decide +kernel
theorem dX10_ask_55 : decode cX10_ask 55 = .ok (.getfield 67, 3) := by decide +kernel
theorem dX10_ask_58 : decode cX10_ask 58 = .ok (.iload_n 1, 1) := by decide +kernel
theorem dX10_ask_59 : decode cX10_ask 59 = .ok (.iaload, 1) := by decide +kernel
theorem dX10_ask_60 : decode cX10_ask 60 = .ok (.goto 5, 3) := by decide +kernel
theorem dX10_ask_63 : decode cX10_ask 63 = .ok (.ldc 139, 2) := by decide +kernel
theorem dX10_ask_65 : decode cX10_ask 65 = .ok (.ireturn, 1) := by decide +kernel
abbrev x_X10_ask (E : mh_E) (d mc ms : Nat) (Post : Option Value → mh_H → Prop) : mh_X := (E, yX10_ask, cX10_ask, 3, (some .int), d, mc, ms, Post)
def q_X10_ask_65 (X : mh_X) : mh_PR := s_iret X
theorem b_X10_ask_65 {E : mh_E} {d mc ms : Nat} {Post : Option Value → mh_H → Prop} : mh_S (x_X10_ask E d mc ms Post) 65 (q_X10_ask_65 (x_X10_ask E d mc ms Post)) := sn_iret rfl dX10_ask_65
def q_X10_ask_63 (X : mh_X) : mh_PR := s_push (.int (-1000000012)) (q_X10_ask_65 X)
theorem b_X10_ask_63 {E : mh_E} {d mc ms : Nat} {Post : Option Value → mh_H → Prop} : mh_S (x_X10_ask E d mc ms Post) 63 (q_X10_ask_63 (x_X10_ask E d mc ms Post)) := sn_ldc dX10_ask_63 w_1285 b_X10_ask_65
def q_X10_ask_16 (X : mh_X) : mh_PR := s_push (.int (-1000000001)) (s_iret X)
theorem b_X10_ask_16 {E : mh_E} {d mc ms : Nat} {Post : Option Value → mh_H → Prop} : mh_S (x_X10_ask E d mc ms Post) 16 (q_X10_ask_16 (x_X10_ask E d mc ms Post)) := sn_ldc dX10_ask_16 w_1216 (sn_iret rfl dX10_ask_18)
def q_X10_ask_0 (X : mh_X) : mh_PR := s_il 1 (s_cs X yX10_isSlot 1 (s_if1 (fun x => x = 0) (q_X10_ask_16 X) (s_il 2 (s_push (.int (0)) (s_push (.int (5)) (s_cs X yX10_in 3 (s_if1 (fun x => ¬ x = 0) (s_al 0 (s_gr 10 27 (s_il 1 (s_ald 0 (s_if1 (fun x => ¬ x = 0) (s_al 0 (s_gr 10 27 (s_il 1 (s_ald 0 (s_push (.int (1)) (s_if2 (fun x y => ¬ x = y) (q_X10_ask_63 X) (s_al 0 (s_gr 10 28 (s_il 1 (s_ald 0 (s_il 2 (s_cs X yX10_isUnder 2 (s_if1 (fun x => x = 0) (q_X10_ask_63 X) (s_al 0 (s_gr 10 29 (s_il 1 (s_ald 0 (q_X10_ask_65 X)))))))))))))))))) (s_push (.int (-1000000011)) (s_iret X))))))) (q_X10_ask_16 X))))))))
theorem b_X10_ask_0 {E : mh_E} {d mc ms : Nat} {Post : Option Value → mh_H → Prop} : mh_S (x_X10_ask E d mc ms Post) 0 (q_X10_ask_0 (x_X10_ask E d mc ms Post)) := sn_iload_n dX10_ask_0 rfl (sn_cs w_1528 w_1529 w_66 nm_X10_isSlot dX10_ask_1 (sn_if_eq (tgt := 16) dX10_ask_4 (by decide) (b_X10_ask_16) (sn_iload_n dX10_ask_7 rfl (sn_iconst dX10_ask_8 (by decide) (sn_iconst dX10_ask_9 (by decide) (sn_cs w_1210 w_1211 w_66 nm_X10_in dX10_ask_10 (sn_if_ne (tgt := 19) dX10_ask_13 (by decide) (sn_aload_n dX10_ask_19 rfl (sn_getr clX10 (by decide) w_1127 dX10_ask_20 (sn_iload_n dX10_ask_23 rfl (sn_iaload dX10_ask_24 (sn_if_ne (tgt := 31) dX10_ask_25 (by decide) (sn_aload_n dX10_ask_31 rfl (sn_getr clX10 (by decide) w_1127 dX10_ask_32 (sn_iload_n dX10_ask_35 rfl (sn_iaload dX10_ask_36 (sn_iconst dX10_ask_37 (by decide) (sn_icmp_ne (tgt := 63) dX10_ask_38 (by decide) (b_X10_ask_63) (sn_aload_n dX10_ask_41 rfl (sn_getr clX10 (by decide) w_1128 dX10_ask_42 (sn_iload_n dX10_ask_45 rfl (sn_iaload dX10_ask_46 (sn_iload_n dX10_ask_47 rfl (sn_cs w_1282 w_1283 w_66 nm_X10_isUnder dX10_ask_48 (sn_if_eq (tgt := 63) dX10_ask_51 (by decide) (b_X10_ask_63) (sn_aload_n dX10_ask_54 rfl (sn_getr clX10 (by decide) w_1129 dX10_ask_55 (sn_iload_n dX10_ask_58 rfl (sn_iaload dX10_ask_59 (sn_goto (tgt := 65) dX10_ask_60 (by decide) (b_X10_ask_65))))))))))))))))))) (sn_ldc dX10_ask_28 w_1429 (sn_iret rfl dX10_ask_30))))))) (b_X10_ask_16))))))))
theorem m_X10_ask {E : mh_E} {d mc ms : Nat} {args : List Value} {h : mh_H} {Post : Option Value → mh_H → Prop} (lv : List (Option Value)) (hl : lv_args 0 args = mh_al 0 lv) (hs : (lg_sl args).length ≤ 3) (hG : q_X10_ask_0 (x_X10_ask E d mc ms Post) lv [] h 0 0) : mh_M E d mc ms yX10_ask args h Post := mh_M.of w_1534 (by decide) (by decide) hl hs (b_X10_ask_0 _ _ _ _ _ hG)
theorem dX10_item_0 : decode cX10_item 0 = .ok (.iload_n 1, 1) := by decide +kernel
theorem dX10_item_1 : decode cX10_item 1 = .ok (.invokestatic 261, 3) := by decide +kernel
theorem dX10_item_4 : decode cX10_item 4 = .ok (.ifCond .ne 6, 3) := by decide +kernel
theorem dX10_item_7 : decode cX10_item 7 = .ok (.ldc 91, 2) := by decide +kernel
theorem dX10_item_9 : decode cX10_item 9 = .ok (.ireturn, 1) := by decide +kernel
theorem dX10_item_10 : decode cX10_item 10 = .ok (.aload_n 0, 1) := by decide +kernel
theorem dX10_item_11 : decode cX10_item 11 = .ok (.getfield 61, 3) := by decide +kernel
theorem dX10_item_14 : decode cX10_item 14 = .ok (.iload_n 1, 1) := by decide +kernel
theorem dX10_item_15 : decode cX10_item 15 = .ok (.iaload, 1) := by decide +kernel
theorem dX10_item_16 : decode cX10_item 16 = .ok (.ifCond .ne 6, 3) := by decide +kernel
theorem dX10_item_19 : decode cX10_item 19 = .ok (.ldc 189, 2) := by decide +kernel
theorem dX10_item_21 : decode cX10_item 21 = .ok (.ireturn, 1) := by decide +kernel
theorem dX10_item_22 : decode cX10_item 22 = .ok (.aload_n 0, 1) := by decide +kernel
theorem dX10_item_23 : decode cX10_item 23 = .ok (.getfield 61, 3) := by decide +kernel
theorem dX10_item_26 : decode cX10_item 26 = .ok (.iload_n 1, 1) := by decide +kernel
theorem dX10_item_27 : decode cX10_item 27 = .ok (.iaload, 1) := by decide +kernel
theorem dX10_item_28 : decode cX10_item 28 = .ok (.iconst 2, 1) := by decide +kernel
theorem dX10_item_29 : decode cX10_item 29 = .ok (.if_icmp .eq 6, 3) := by decide +kernel
theorem dX10_item_32 : decode cX10_item 32 = .ok (.ldc 139, 2) := by decide +kernel
theorem dX10_item_34 : decode cX10_item 34 = .ok (.ireturn, 1) := by decide +kernel
theorem dX10_item_35 : decode cX10_item 35 = .ok (.iload_n 2, 1) := by decide +kernel
theorem dX10_item_36 : decode cX10_item 36 = .ok (.iconst 0, 1) := by decide +kernel
theorem dX10_item_37 : decode cX10_item 37 = .ok (.aload_n 0, 1) := by decide +kernel
theorem dX10_item_38 : decode cX10_item 38 = .ok (.getfield 64, 3) := by decide +kernel
theorem dX10_item_41 : decode cX10_item 41 = .ok (.iload_n 1, 1) := by decide +kernel
theorem dX10_item_42 : decode cX10_item 42 = .ok (.iaload, 1) := by decide +kernel
theorem dX10_item_43 : decode cX10_item 43 = .ok (.iconst 1, 1) := by decide +kernel
theorem dX10_item_44 : decode cX10_item 44 = .ok (.isub, 1) := by decide +kernel
theorem dX10_item_45 : decode cX10_item 45 = .ok (.invokestatic 79, 3) := by decide +kernel
theorem dX10_item_48 : decode cX10_item 48 = .ok (.ifCond .ne 7, 3) := by decide +kernel
theorem dX10_item_51 : decode cX10_item 51 = .ok (.ldc_w 259, 3) := by decide +kernel
theorem dX10_item_54 : decode cX10_item 54 = .ok (.ireturn, 1) := by decide +kernel
theorem dX10_item_55 : decode cX10_item 55 = .ok (.aload_n 0, 1) := by decide +kernel
theorem dX10_item_56 : decode cX10_item 56 = .ok (.getfield 70, 3) := by decide +kernel
theorem dX10_item_59 : decode cX10_item 59 = .ok (.bipush 24, 2) := by decide +kernel
theorem dX10_item_61 : decode cX10_item 61 = .ok (.iload_n 1, 1) := by decide +kernel
theorem dX10_item_62 : decode cX10_item 62 = .ok (.imul, 1) := by decide +kernel
theorem dX10_item_63 : decode cX10_item 63 = .ok (.iload_n 2, 1) := by decide +kernel
theorem dX10_item_64 : decode cX10_item 64 = .ok (.iadd, 1) := by decide +kernel
theorem dX10_item_65 : decode cX10_item 65 = .ok (.iaload, 1) := by decide +kernel
theorem dX10_item_66 : decode cX10_item 66 = .ok (.istore_n 3, 1) := by decide +kernel
theorem dX10_item_67 : decode cX10_item 67 = .ok (.iload_n 3, 1) := by decide +kernel
theorem dX10_item_68 : decode cX10_item 68 = .ok (.ldc 126, 2) := by decide +kernel
theorem dX10_item_70 : decode cX10_item 70 = .ok (.if_icmp .ne 8, 3) := by decide +kernel
theorem dX10_item_73 : decode cX10_item 73 = .ok (.ldc 139, 2) := by decide +kernel
theorem dX10_item_75 : decode cX10_item 75 = .ok (.goto 4, 3) := by decide +kernel
theorem dX10_item_78 : decode cX10_item 78 = .ok (.iload_n 3, 1) := by decide +kernel
theorem dX10_item_79 : decode cX10_item 79 = .ok (.ireturn, 1) := by decide +kernel
abbrev x_X10_item (E : mh_E) (d mc ms : Nat) (Post : Option Value → mh_H → Prop) : mh_X := (E, yX10_item, cX10_item, 4, (some .int), d, mc, ms, Post)
def q_X10_item_79 (X : mh_X) : mh_PR := s_iret X
theorem b_X10_item_79 {E : mh_E} {d mc ms : Nat} {Post : Option Value → mh_H → Prop} : mh_S (x_X10_item E d mc ms Post) 79 (q_X10_item_79 (x_X10_item E d mc ms Post)) := sn_iret rfl dX10_item_79
def q_X10_item_0 (X : mh_X) : mh_PR := s_il 1 (s_cs X yX10_isSlot 1 (s_if1 (fun x => ¬ x = 0) (s_al 0 (s_gr 10 27 (s_il 1 (s_ald 0 (s_if1 (fun x => ¬ x = 0) (s_al 0 (s_gr 10 27 (s_il 1 (s_ald 0 (s_push (.int (2)) (s_if2 (fun x y => x = y) (s_il 2 (s_push (.int (0)) (s_al 0 (s_gr 10 28 (s_il 1 (s_ald 0 (s_push (.int (1)) (s_bin (fun x y => x - y) (s_cs X yX10_in 3 (s_if1 (fun x => ¬ x = 0) (s_al 0 (s_gr 10 30 (s_push (.int (24)) (s_il 1 (s_bin (fun x y => x * y) (s_il 2 (s_bin (fun x y => x + y) (s_ald 0 (s_is 3 (s_il 3 (s_push (.int (-1000000005)) (s_if2 (fun x y => ¬ x = y) (s_il 3 (q_X10_item_79 X)) (s_push (.int (-1000000012)) (q_X10_item_79 X)))))))))))))) (s_push (.int (-1000000013)) (s_iret X)))))))))))) (s_push (.int (-1000000012)) (s_iret X)))))))) (s_push (.int (-1000000011)) (s_iret X))))))) (s_push (.int (-1000000001)) (s_iret X))))
theorem b_X10_item_0 {E : mh_E} {d mc ms : Nat} {Post : Option Value → mh_H → Prop} : mh_S (x_X10_item E d mc ms Post) 0 (q_X10_item_0 (x_X10_item E d mc ms Post)) := sn_iload_n dX10_item_0 rfl (sn_cs w_1528 w_1529 w_66 nm_X10_isSlot dX10_item_1 (sn_if_ne (tgt := 10) dX10_item_4 (by decide) (sn_aload_n dX10_item_10 rfl (sn_getr clX10 (by decide) w_1127 dX10_item_11 (sn_iload_n dX10_item_14 rfl (sn_iaload dX10_item_15 (sn_if_ne (tgt := 22) dX10_item_16 (by decide) (sn_aload_n dX10_item_22 rfl (sn_getr clX10 (by decide) w_1127 dX10_item_23 (sn_iload_n dX10_item_26 rfl (sn_iaload dX10_item_27 (sn_iconst dX10_item_28 (by decide) (sn_icmp_eq (tgt := 35) dX10_item_29 (by decide) (sn_iload_n dX10_item_35 rfl (sn_iconst dX10_item_36 (by decide) (sn_aload_n dX10_item_37 rfl (sn_getr clX10 (by decide) w_1128 dX10_item_38 (sn_iload_n dX10_item_41 rfl (sn_iaload dX10_item_42 (sn_iconst dX10_item_43 (by decide) (sn_isub dX10_item_44 (sn_cs w_1210 w_1211 w_66 nm_X10_in dX10_item_45 (sn_if_ne (tgt := 55) dX10_item_48 (by decide) (sn_aload_n dX10_item_55 rfl (sn_getr clX10 (by decide) w_1130 dX10_item_56 (sn_bipush dX10_item_59 (by decide) (sn_iload_n dX10_item_61 rfl (sn_imul dX10_item_62 (sn_iload_n dX10_item_63 rfl (sn_iadd dX10_item_64 (sn_iaload dX10_item_65 (sn_istore_n dX10_item_66 rfl (Nat.le_of_ble_eq_true rfl) (sn_iload_n dX10_item_67 rfl (sn_ldc dX10_item_68 w_1238 (sn_icmp_ne (tgt := 78) dX10_item_70 (by decide) (sn_iload_n dX10_item_78 rfl b_X10_item_79) (sn_ldc dX10_item_73 w_1285 (sn_goto (tgt := 79) dX10_item_75 (by decide) (b_X10_item_79))))))))))))))) (sn_ldcw dX10_item_51 w_1510 (sn_iret rfl dX10_item_54)))))))))))) (sn_ldc dX10_item_32 w_1285 (sn_iret rfl dX10_item_34)))))))) (sn_ldc dX10_item_19 w_1429 (sn_iret rfl dX10_item_21))))))) (sn_ldc dX10_item_7 w_1216 (sn_iret rfl dX10_item_9))))
theorem m_X10_item {E : mh_E} {d mc ms : Nat} {args : List Value} {h : mh_H} {Post : Option Value → mh_H → Prop} (lv : List (Option Value)) (hl : lv_args 0 args = mh_al 0 lv) (hs : (lg_sl args).length ≤ 4) (hG : q_X10_item_0 (x_X10_item E d mc ms Post) lv [] h 0 0) : mh_M E d mc ms yX10_item args h Post := mh_M.of w_1538 (by decide) (by decide) hl hs (b_X10_item_0 _ _ _ _ _ hG)
theorem dX10_check_0 : decode cX10_check 0 = .ok (.aload_n 0, 1) := by decide +kernel
theorem dX10_check_1 : decode cX10_check 1 = .ok (.getfield 264, 3) := by decide +kernel
theorem dX10_check_4 : decode cX10_check 4 = .ok (.istore_n 2, 1) := by decide +kernel
theorem dX10_check_5 : decode cX10_check 5 = .ok (.aload_n 0, 1) := by decide +kernel
theorem dX10_check_6 : decode cX10_check 6 = .ok (.iconst 0, 1) := by decide +kernel
theorem dX10_check_7 : decode cX10_check 7 = .ok (.putfield 264, 3) := by decide +kernel
theorem dX10_check_10 : decode cX10_check 10 = .ok (.iload_n 1, 1) := by decide +kernel
theorem dX10_check_11 : decode cX10_check 11 = .ok (.iconst 1, 1) := by decide +kernel
theorem dX10_check_12 : decode cX10_check 12 = .ok (.bipush 30, 2) := by decide +kernel
theorem dX10_check_14 : decode cX10_check 14 = .ok (.invokestatic 79, 3) := by decide +kernel
theorem dX10_check_17 : decode cX10_check 17 = .ok (.ifCond .ne 6, 3) := by decide +kernel
theorem dX10_check_20 : decode cX10_check 20 = .ok (.ldc 91, 2) := by decide +kernel
theorem dX10_check_22 : decode cX10_check 22 = .ok (.ireturn, 1) := by decide +kernel
theorem dX10_check_23 : decode cX10_check 23 = .ok (.aload_n 0, 1) := by decide +kernel
theorem dX10_check_24 : decode cX10_check 24 = .ok (.getfield 267, 3) := by decide +kernel
theorem dX10_check_27 : decode cX10_check 27 = .ok (.ifCond .ne 6, 3) := by decide +kernel
theorem dX10_check_30 : decode cX10_check 30 = .ok (.ldc 143, 2) := by decide +kernel
theorem dX10_check_32 : decode cX10_check 32 = .ok (.ireturn, 1) := by decide +kernel
theorem dX10_check_33 : decode cX10_check 33 = .ok (.aload_n 0, 1) := by decide +kernel
theorem dX10_check_34 : decode cX10_check 34 = .ok (.getfield 9, 3) := by decide +kernel
theorem dX10_check_37 : decode cX10_check 37 = .ok (.aload_n 0, 1) := by decide +kernel
theorem dX10_check_38 : decode cX10_check 38 = .ok (.getfield 16, 3) := by decide +kernel
theorem dX10_check_41 : decode cX10_check 41 = .ok (.invokestatic 271, 3) := by decide +kernel
theorem dX10_check_44 : decode cX10_check 44 = .ok (.aload_n 0, 1) := by decide +kernel
theorem dX10_check_45 : decode cX10_check 45 = .ok (.getfield 13, 3) := by decide +kernel
theorem dX10_check_48 : decode cX10_check 48 = .ok (.aload_n 0, 1) := by decide +kernel
theorem dX10_check_49 : decode cX10_check 49 = .ok (.getfield 9, 3) := by decide +kernel
theorem dX10_check_52 : decode cX10_check 52 = .ok (.invokestatic 271, 3) := by decide +kernel
theorem dX10_check_55 : decode cX10_check 55 = .ok (.iconst 2, 1) := by decide +kernel
theorem dX10_check_56 : decode cX10_check 56 = .ok (.sipush 9999, 3) := by decide +kernel
theorem dX10_check_59 : decode cX10_check 59 = .ok (.aload_n 0, 1) := by decide +kernel
theorem dX10_check_60 : decode cX10_check 60 = .ok (.getfield 9, 3) := by decide +kernel
theorem dX10_check_63 : decode cX10_check 63 = .ok (.iconst 2, 1) := by decide +kernel
theorem dX10_check_64 : decode cX10_check 64 = .ok (.iaload, 1) := by decide +kernel
theorem dX10_check_65 : decode cX10_check 65 = .ok (.isub, 1) := by decide +kernel
theorem dX10_check_66 : decode cX10_check 66 = .ok (.iconst 0, 1) := by decide +kernel
theorem dX10_check_67 : decode cX10_check 67 = .ok (.iload_n 1, 1) := by decide +kernel
theorem dX10_check_68 : decode cX10_check 68 = .ok (.invokestatic 116, 3) := by decide +kernel
theorem dX10_check_71 : decode cX10_check 71 = .ok (.imul, 1) := by decide +kernel
theorem dX10_check_72 : decode cX10_check 72 = .ok (.istore_n 3, 1) := by decide +kernel
theorem dX10_check_73 : decode cX10_check 73 = .ok (.iconst 0, 1) := by decide +kernel
theorem dX10_check_74 : decode cX10_check 74 = .ok (.istore 4, 2) := by decide +kernel
theorem dX10_check_76 : decode cX10_check 76 = .ok (.iconst 0, 1) := by decide +kernel
theorem dX10_check_77 : decode cX10_check 77 = .ok (.istore 5, 2) := by decide +kernel
theorem dX10_check_79 : decode cX10_check 79 = .ok (.iconst 2, 1) := by decide +kernel
theorem dX10_check_80 : decode cX10_check 80 = .ok (.iload 5, 2) := by decide +kernel
theorem dX10_check_82 : decode cX10_check 82 = .ok (.imul, 1) := by decide +kernel
theorem dX10_check_83 : decode cX10_check 83 = .ok (.iload_n 3, 1) := by decide +kernel
theorem dX10_check_84 : decode cX10_check 84 = .ok (.if_icmp .ge 95, 3) := by decide +kernel
theorem dX10_check_87 : decode cX10_check 87 = .ok (.iload 4, 2) := by decide +kernel
theorem dX10_check_89 : decode cX10_check 89 = .ok (.iconst 2, 1) := by decide +kernel
theorem dX10_check_90 : decode cX10_check 90 = .ok (.iload 5, 2) := by decide +kernel
theorem dX10_check_92 : decode cX10_check 92 = .ok (.imul, 1) := by decide +kernel
theorem dX10_check_93 : decode cX10_check 93 = .ok (.if_icmp .ne 86, 3) := by decide +kernel
theorem dX10_check_96 : decode cX10_check 96 = .ok (.aload_n 0, 1) := by decide +kernel
theorem dX10_check_97 : decode cX10_check 97 = .ok (.invokevirtual 156, 3) := by decide +kernel
theorem dX10_check_100 : decode cX10_check 100 = .ok (.iload 4, 2) := by decide +kernel
theorem dX10_check_102 : decode cX10_check 102 = .ok (.iload 4, 2) := by decide +kernel
theorem dX10_check_104 : decode cX10_check 104 = .ok (.iload_n 2, 1) := by decide +kernel
theorem dX10_check_105 : decode cX10_check 105 = .ok (.if_icmp .ge 23, 3) := by decide +kernel
theorem dX10_check_108 : decode cX10_check 108 = .ok (.aload_n 0, 1) := by decide +kernel
theorem dX10_check_109 : decode cX10_check 109 = .ok (.getfield 76, 3) := by decide +kernel
theorem dX10_check_112 : decode cX10_check 112 = .ok (.iload 4, 2) := by decide +kernel
theorem dX10_check_114 : decode cX10_check 114 = .ok (.iaload, 1) := by decide +kernel
theorem dX10_check_115 : decode cX10_check 115 = .ok (.aload_n 0, 1) := by decide +kernel
theorem dX10_check_116 : decode cX10_check 116 = .ok (.getfield 9, 3) := by decide +kernel
theorem dX10_check_119 : decode cX10_check 119 = .ok (.iconst 5, 1) := by decide +kernel
theorem dX10_check_120 : decode cX10_check 120 = .ok (.iaload, 1) := by decide +kernel
theorem dX10_check_121 : decode cX10_check 121 = .ok (.if_icmp .ne 7, 3) := by decide +kernel
theorem dX10_check_124 : decode cX10_check 124 = .ok (.iconst 1, 1) := by decide +kernel
theorem dX10_check_125 : decode cX10_check 125 = .ok (.goto 4, 3) := by decide +kernel
theorem dX10_check_128 : decode cX10_check 128 = .ok (.iconst 0, 1) := by decide +kernel
theorem dX10_check_129 : decode cX10_check 129 = .ok (.iadd, 1) := by decide +kernel
theorem dX10_check_130 : decode cX10_check 130 = .ok (.istore 4, 2) := by decide +kernel
theorem dX10_check_132 : decode cX10_check 132 = .ok (.iload 4, 2) := by decide +kernel
theorem dX10_check_134 : decode cX10_check 134 = .ok (.iload 4, 2) := by decide +kernel
theorem dX10_check_136 : decode cX10_check 136 = .ok (.iconst 2, 1) := by decide +kernel
theorem dX10_check_137 : decode cX10_check 137 = .ok (.iload 5, 2) := by decide +kernel
theorem dX10_check_139 : decode cX10_check 139 = .ok (.imul, 1) := by decide +kernel
theorem dX10_check_140 : decode cX10_check 140 = .ok (.iconst 1, 1) := by decide +kernel
theorem dX10_check_141 : decode cX10_check 141 = .ok (.iadd, 1) := by decide +kernel
theorem dX10_check_142 : decode cX10_check 142 = .ok (.if_icmp .ne 27, 3) := by decide +kernel
theorem dX10_check_145 : decode cX10_check 145 = .ok (.iload 4, 2) := by decide +kernel
theorem dX10_check_147 : decode cX10_check 147 = .ok (.iload_n 2, 1) := by decide +kernel
theorem dX10_check_148 : decode cX10_check 148 = .ok (.if_icmp .ge 21, 3) := by decide +kernel
theorem dX10_check_151 : decode cX10_check 151 = .ok (.aload_n 0, 1) := by decide +kernel
theorem dX10_check_152 : decode cX10_check 152 = .ok (.getfield 76, 3) := by decide +kernel
theorem dX10_check_155 : decode cX10_check 155 = .ok (.iload 4, 2) := by decide +kernel
theorem dX10_check_157 : decode cX10_check 157 = .ok (.iaload, 1) := by decide +kernel
theorem dX10_check_158 : decode cX10_check 158 = .ok (.aload_n 0, 1) := by decide +kernel
theorem dX10_check_159 : decode cX10_check 159 = .ok (.invokevirtual 171, 3) := by decide +kernel
theorem dX10_check_162 : decode cX10_check 162 = .ok (.if_icmp .ne 7, 3) := by decide +kernel
theorem dX10_check_165 : decode cX10_check 165 = .ok (.iconst 1, 1) := by decide +kernel
theorem dX10_check_166 : decode cX10_check 166 = .ok (.goto 4, 3) := by decide +kernel
theorem dX10_check_169 : decode cX10_check 169 = .ok (.iconst 0, 1) := by decide +kernel
theorem dX10_check_170 : decode cX10_check 170 = .ok (.iadd, 1) := by decide +kernel
theorem dX10_check_171 : decode cX10_check 171 = .ok (.istore 4, 2) := by decide +kernel
theorem dX10_check_173 : decode cX10_check 173 = .ok (.iinc 5 1, 3) := by decide +kernel
theorem dX10_check_176 : decode cX10_check 176 = .ok (.goto (-97), 3) := by decide +kernel
theorem dX10_check_179 : decode cX10_check 179 = .ok (.aload_n 0, 1) := by decide +kernel
theorem dX10_check_180 : decode cX10_check 180 = .ok (.getfield 16, 3) := by decide +kernel
theorem dX10_check_183 : decode cX10_check 183 = .ok (.aload_n 0, 1) := by decide +kernel
theorem dX10_check_184 : decode cX10_check 184 = .ok (.getfield 9, 3) := by decide +kernel
theorem dX10_check_187 : decode cX10_check 187 = .ok (.invokestatic 271, 3) := by decide +kernel
theorem dX10_check_190 : decode cX10_check 190 = .ok (.iload 4, 2) := by decide +kernel
theorem dX10_check_192 : decode cX10_check 192 = .ok (.iload_n 2, 1) := by decide +kernel
theorem dX10_check_193 : decode cX10_check 193 = .ok (.if_icmp .ne 13, 3) := by decide +kernel
theorem dX10_check_196 : decode cX10_check 196 = .ok (.iload 4, 2) := by decide +kernel
theorem dX10_check_198 : decode cX10_check 198 = .ok (.iload_n 3, 1) := by decide +kernel
theorem dX10_check_199 : decode cX10_check 199 = .ok (.if_icmp .ne 7, 3) := by decide +kernel
theorem dX10_check_202 : decode cX10_check 202 = .ok (.iconst 0, 1) := by decide +kernel
theorem dX10_check_203 : decode cX10_check 203 = .ok (.goto 7, 3) := by decide +kernel
theorem dX10_check_206 : decode cX10_check 206 = .ok (.iconst 1, 1) := by decide +kernel
theorem dX10_check_207 : decode cX10_check 207 = .ok (.iload 4, 2) := by decide +kernel
theorem dX10_check_209 : decode cX10_check 209 = .ok (.iadd, 1) := by decide +kernel
theorem dX10_check_210 : decode cX10_check 210 = .ok (.ireturn, 1) := by decide +kernel
abbrev x_X10_check (E : mh_E) (d mc ms : Nat) (Post : Option Value → mh_H → Prop) : mh_X := (E, yX10_check, cX10_check, 6, (some .int), d, mc, ms, Post)
def q_X10_check_210 (X : mh_X) : mh_PR := s_iret X
theorem b_X10_check_210 {E : mh_E} {d mc ms : Nat} {Post : Option Value → mh_H → Prop} : mh_S (x_X10_check E d mc ms Post) 210 (q_X10_check_210 (x_X10_check E d mc ms Post)) := sn_iret rfl dX10_check_210
def q_X10_check_206 (X : mh_X) : mh_PR := s_push (.int (1)) (s_il 4 (s_bin (fun x y => x + y) (q_X10_check_210 X)))
theorem b_X10_check_206 {E : mh_E} {d mc ms : Nat} {Post : Option Value → mh_H → Prop} : mh_S (x_X10_check E d mc ms Post) 206 (q_X10_check_206 (x_X10_check E d mc ms Post)) := sn_iconst dX10_check_206 (by decide) (sn_iload dX10_check_207 (sn_iadd dX10_check_209 b_X10_check_210))
def q_X10_check_179 (X : mh_X) : mh_PR := s_al 0 (s_gr 10 2 (s_al 0 (s_gr 10 0 (s_cs X yX10_copyAll 2 (s_il 4 (s_il 2 (s_if2 (fun x y => ¬ x = y) (q_X10_check_206 X) (s_il 4 (s_il 3 (s_if2 (fun x y => ¬ x = y) (q_X10_check_206 X) (s_push (.int (0)) (q_X10_check_210 X))))))))))))
theorem b_X10_check_179 {E : mh_E} {d mc ms : Nat} {Post : Option Value → mh_H → Prop} : mh_S (x_X10_check E d mc ms Post) 179 (q_X10_check_179 (x_X10_check E d mc ms Post)) := sn_aload_n dX10_check_179 rfl (sn_getr clX10 (by decide) w_1102 dX10_check_180 (sn_aload_n dX10_check_183 rfl (sn_getr clX10 (by decide) w_1100 dX10_check_184 (sn_cs w_1551 w_1552 w_66 nm_X10_copyAll dX10_check_187 (sn_iload dX10_check_190 (sn_iload_n dX10_check_192 rfl (sn_icmp_ne (tgt := 206) dX10_check_193 (by decide) (b_X10_check_206) (sn_iload dX10_check_196 (sn_iload_n dX10_check_198 rfl (sn_icmp_ne (tgt := 206) dX10_check_199 (by decide) (b_X10_check_206) (sn_iconst dX10_check_202 (by decide) (sn_goto (tgt := 210) dX10_check_203 (by decide) (b_X10_check_210)))))))))))))
def q_X10_check_170 (X : mh_X) : mh_PR := s_bin (fun x y => x + y) (s_is 4 (s_inc 5 (1) (mh_G X 79)))
theorem b_X10_check_170 {E : mh_E} {d mc ms : Nat} {Post : Option Value → mh_H → Prop} : mh_S (x_X10_check E d mc ms Post) 170 (q_X10_check_170 (x_X10_check E d mc ms Post)) := sn_iadd dX10_check_170 (sn_istore dX10_check_171 (Nat.le_of_ble_eq_true rfl) (sn_iinc dX10_check_173 (by decide) (Nat.le_of_ble_eq_true rfl) (sn_goto (tgt := 79) dX10_check_176 (by decide) (mh_S.G))))
def q_X10_check_169 (X : mh_X) : mh_PR := s_push (.int (0)) (q_X10_check_170 X)
theorem b_X10_check_169 {E : mh_E} {d mc ms : Nat} {Post : Option Value → mh_H → Prop} : mh_S (x_X10_check E d mc ms Post) 169 (q_X10_check_169 (x_X10_check E d mc ms Post)) := sn_iconst dX10_check_169 (by decide) b_X10_check_170
def q_X10_check_129 (X : mh_X) : mh_PR := s_bin (fun x y => x + y) (s_is 4 (s_il 4 (s_il 4 (s_push (.int (2)) (s_il 5 (s_bin (fun x y => x * y) (s_push (.int (1)) (s_bin (fun x y => x + y) (s_if2 (fun x y => ¬ x = y) (q_X10_check_169 X) (s_il 4 (s_il 2 (s_if2 (fun x y => y ≤ x) (q_X10_check_169 X) (s_al 0 (s_gr 10 32 (s_il 4 (s_ald 0 (s_al 0 (s_cv X yX10_ranks 10 0 (s_if2 (fun x y => ¬ x = y) (q_X10_check_169 X) (s_push (.int (1)) (q_X10_check_170 X)))))))))))))))))))))
theorem b_X10_check_129 {E : mh_E} {d mc ms : Nat} {Post : Option Value → mh_H → Prop} : mh_S (x_X10_check E d mc ms Post) 129 (q_X10_check_129 (x_X10_check E d mc ms Post)) := sn_iadd dX10_check_129 (sn_istore dX10_check_130 (Nat.le_of_ble_eq_true rfl) (sn_iload dX10_check_132 (sn_iload dX10_check_134 (sn_iconst dX10_check_136 (by decide) (sn_iload dX10_check_137 (sn_imul dX10_check_139 (sn_iconst dX10_check_140 (by decide) (sn_iadd dX10_check_141 (sn_icmp_ne (tgt := 169) dX10_check_142 (by decide) (b_X10_check_169) (sn_iload dX10_check_145 (sn_iload_n dX10_check_147 rfl (sn_icmp_ge (tgt := 169) dX10_check_148 (by decide) (b_X10_check_169) (sn_aload_n dX10_check_151 rfl (sn_getr clX10 (by decide) w_1132 dX10_check_152 (sn_iload dX10_check_155 (sn_iaload dX10_check_157 (sn_aload_n dX10_check_158 rfl (sn_cv w_1366 w_1368 w_40 w_66 rfl nm_X10_ranks dX10_check_159 (sn_icmp_ne (tgt := 169) dX10_check_162 (by decide) (b_X10_check_169) (sn_iconst dX10_check_165 (by decide) (sn_goto (tgt := 170) dX10_check_166 (by decide) (b_X10_check_170))))))))))))))))))))))
def q_X10_check_128 (X : mh_X) : mh_PR := s_push (.int (0)) (q_X10_check_129 X)
theorem b_X10_check_128 {E : mh_E} {d mc ms : Nat} {Post : Option Value → mh_H → Prop} : mh_S (x_X10_check E d mc ms Post) 128 (q_X10_check_128 (x_X10_check E d mc ms Post)) := sn_iconst dX10_check_128 (by decide) b_X10_check_129
def q_X10_check_79 (X : mh_X) : mh_PR := s_push (.int (2)) (s_il 5 (s_bin (fun x y => x * y) (s_il 3 (s_if2 (fun x y => y ≤ x) (q_X10_check_179 X) (s_il 4 (s_push (.int (2)) (s_il 5 (s_bin (fun x y => x * y) (s_if2 (fun x y => ¬ x = y) (q_X10_check_179 X) (s_al 0 (s_cv X yX10_year 10 0 (s_il 4 (s_il 4 (s_il 2 (s_if2 (fun x y => y ≤ x) (q_X10_check_128 X) (s_al 0 (s_gr 10 32 (s_il 4 (s_ald 0 (s_al 0 (s_gr 10 0 (s_push (.int (5)) (s_ald 0 (s_if2 (fun x y => ¬ x = y) (q_X10_check_128 X) (s_push (.int (1)) (q_X10_check_129 X))))))))))))))))))))))))))
theorem b_X10_check_79 {E : mh_E} {d mc ms : Nat} {Post : Option Value → mh_H → Prop} : mh_S (x_X10_check E d mc ms Post) 79 (q_X10_check_79 (x_X10_check E d mc ms Post)) := sn_iconst dX10_check_79 (by decide) (sn_iload dX10_check_80 (sn_imul dX10_check_82 (sn_iload_n dX10_check_83 rfl (sn_icmp_ge (tgt := 179) dX10_check_84 (by decide) (b_X10_check_179) (sn_iload dX10_check_87 (sn_iconst dX10_check_89 (by decide) (sn_iload dX10_check_90 (sn_imul dX10_check_92 (sn_icmp_ne (tgt := 179) dX10_check_93 (by decide) (b_X10_check_179) (sn_aload_n dX10_check_96 rfl (sn_cv w_1350 w_1352 w_37 w_66 rfl nm_X10_year dX10_check_97 (sn_iload dX10_check_100 (sn_iload dX10_check_102 (sn_iload_n dX10_check_104 rfl (sn_icmp_ge (tgt := 128) dX10_check_105 (by decide) (b_X10_check_128) (sn_aload_n dX10_check_108 rfl (sn_getr clX10 (by decide) w_1132 dX10_check_109 (sn_iload dX10_check_112 (sn_iaload dX10_check_114 (sn_aload_n dX10_check_115 rfl (sn_getr clX10 (by decide) w_1100 dX10_check_116 (sn_iconst dX10_check_119 (by decide) (sn_iaload dX10_check_120 (sn_icmp_ne (tgt := 128) dX10_check_121 (by decide) (b_X10_check_128) (sn_iconst dX10_check_124 (by decide) (sn_goto (tgt := 129) dX10_check_125 (by decide) (b_X10_check_129)))))))))))))))))))))))))))
def q_X10_check_0 (X : mh_X) : mh_PR := s_al 0 (s_gi 10 33 (s_is 2 (s_al 0 (s_push (.int (0)) (s_pi 10 33 (s_il 1 (s_push (.int (1)) (s_push (.int (30)) (s_cs X yX10_in 3 (s_if1 (fun x => ¬ x = 0) (s_al 0 (s_gi 10 3 (s_if1 (fun x => ¬ x = 0) (s_al 0 (s_gr 10 0 (s_al 0 (s_gr 10 2 (s_cs X yX10_copyAll 2 (s_al 0 (s_gr 10 1 (s_al 0 (s_gr 10 0 (s_cs X yX10_copyAll 2 (s_push (.int (2)) (s_push (.int (9999)) (s_al 0 (s_gr 10 0 (s_push (.int (2)) (s_ald 0 (s_bin (fun x y => x - y) (s_push (.int (0)) (s_il 1 (s_cs X yX10_within 3 (s_bin (fun x y => x * y) (s_is 3 (s_push (.int (0)) (s_is 4 (s_push (.int (0)) (s_is 5 (mh_G X 79))))))))))))))))))))))))))) (s_push (.int (-1000000002)) (s_iret X))))) (s_push (.int (-1000000001)) (s_iret X))))))))))))
theorem b_X10_check_0 {E : mh_E} {d mc ms : Nat} {Post : Option Value → mh_H → Prop} : mh_S (x_X10_check E d mc ms Post) 0 (q_X10_check_0 (x_X10_check E d mc ms Post)) := sn_aload_n dX10_check_0 rfl (sn_geti clX10 (by decide) w_1133 dX10_check_1 (sn_istore_n dX10_check_4 rfl (Nat.le_of_ble_eq_true rfl) (sn_aload_n dX10_check_5 rfl (sn_iconst dX10_check_6 (by decide) (sn_puti clX10 (by decide) w_1133 rfl rfl dX10_check_7 (sn_iload_n dX10_check_10 rfl (sn_iconst dX10_check_11 (by decide) (sn_bipush dX10_check_12 (by decide) (sn_cs w_1210 w_1211 w_66 nm_X10_in dX10_check_14 (sn_if_ne (tgt := 23) dX10_check_17 (by decide) (sn_aload_n dX10_check_23 rfl (sn_geti clX10 (by decide) w_1103 dX10_check_24 (sn_if_ne (tgt := 33) dX10_check_27 (by decide) (sn_aload_n dX10_check_33 rfl (sn_getr clX10 (by decide) w_1100 dX10_check_34 (sn_aload_n dX10_check_37 rfl (sn_getr clX10 (by decide) w_1102 dX10_check_38 (sn_cs w_1551 w_1552 w_66 nm_X10_copyAll dX10_check_41 (sn_aload_n dX10_check_44 rfl (sn_getr clX10 (by decide) w_1101 dX10_check_45 (sn_aload_n dX10_check_48 rfl (sn_getr clX10 (by decide) w_1100 dX10_check_49 (sn_cs w_1551 w_1552 w_66 nm_X10_copyAll dX10_check_52 (sn_iconst dX10_check_55 (by decide) (sn_sipush dX10_check_56 (by decide) (sn_aload_n dX10_check_59 rfl (sn_getr clX10 (by decide) w_1100 dX10_check_60 (sn_iconst dX10_check_63 (by decide) (sn_iaload dX10_check_64 (sn_isub dX10_check_65 (sn_iconst dX10_check_66 (by decide) (sn_iload_n dX10_check_67 rfl (sn_cs w_1264 w_1265 w_66 nm_X10_within dX10_check_68 (sn_imul dX10_check_71 (sn_istore_n dX10_check_72 rfl (Nat.le_of_ble_eq_true rfl) (sn_iconst dX10_check_73 (by decide) (sn_istore dX10_check_74 (Nat.le_of_ble_eq_true rfl) (sn_iconst dX10_check_76 (by decide) (sn_istore dX10_check_77 (Nat.le_of_ble_eq_true rfl) mh_S.G)))))))))))))))))))))))))) (sn_ldc dX10_check_30 w_1302 (sn_iret rfl dX10_check_32))))) (sn_ldc dX10_check_20 w_1216 (sn_iret rfl dX10_check_22))))))))))))
theorem m_X10_check {E : mh_E} {d mc ms : Nat} {args : List Value} {h : mh_H} {Post : Option Value → mh_H → Prop} (lv : List (Option Value)) (hl : lv_args 0 args = mh_al 0 lv) (hs : (lg_sl args).length ≤ 6) (hG : q_X10_check_0 (x_X10_check E d mc ms Post) lv [] h 0 0) : mh_M E d mc ms yX10_check args h Post := mh_M.of w_1550 (by decide) (by decide) hl hs (b_X10_check_0 _ _ _ _ _ hG)
theorem dX10_keep_0 : decode cX10_keep 0 = .ok (.aload_n 0, 1) := by decide +kernel
theorem dX10_keep_1 : decode cX10_keep 1 = .ok (.getfield 9, 3) := by decide +kernel
theorem dX10_keep_4 : decode cX10_keep 4 = .ok (.aload_n 0, 1) := by decide +kernel
theorem dX10_keep_5 : decode cX10_keep 5 = .ok (.getfield 13, 3) := by decide +kernel
theorem dX10_keep_8 : decode cX10_keep 8 = .ok (.invokestatic 271, 3) := by decide +kernel
theorem dX10_keep_11 : decode cX10_keep 11 = .ok (.aload_n 0, 1) := by decide +kernel
theorem dX10_keep_12 : decode cX10_keep 12 = .ok (.iconst 1, 1) := by decide +kernel
theorem dX10_keep_13 : decode cX10_keep 13 = .ok (.putfield 267, 3) := by decide +kernel
theorem dX10_keep_16 : decode cX10_keep 16 = .ok (.aload_n 0, 1) := by decide +kernel
theorem dX10_keep_17 : decode cX10_keep 17 = .ok (.getfield 9, 3) := by decide +kernel
theorem dX10_keep_20 : decode cX10_keep 20 = .ok (.iconst 1, 1) := by decide +kernel
theorem dX10_keep_21 : decode cX10_keep 21 = .ok (.iaload, 1) := by decide +kernel
theorem dX10_keep_22 : decode cX10_keep 22 = .ok (.ireturn, 1) := by decide +kernel
abbrev x_X10_keep (E : mh_E) (d mc ms : Nat) (Post : Option Value → mh_H → Prop) : mh_X := (E, yX10_keep, cX10_keep, 1, (some .int), d, mc, ms, Post)
def q_X10_keep_0 (X : mh_X) : mh_PR := s_al 0 (s_gr 10 0 (s_al 0 (s_gr 10 1 (s_cs X yX10_copyAll 2 (s_al 0 (s_push (.int (1)) (s_pz 10 3 (s_al 0 (s_gr 10 0 (s_push (.int (1)) (s_ald 0 (s_iret X))))))))))))
theorem b_X10_keep_0 {E : mh_E} {d mc ms : Nat} {Post : Option Value → mh_H → Prop} : mh_S (x_X10_keep E d mc ms Post) 0 (q_X10_keep_0 (x_X10_keep E d mc ms Post)) := sn_aload_n dX10_keep_0 rfl (sn_getr clX10 (by decide) w_1100 dX10_keep_1 (sn_aload_n dX10_keep_4 rfl (sn_getr clX10 (by decide) w_1101 dX10_keep_5 (sn_cs w_1551 w_1552 w_66 nm_X10_copyAll dX10_keep_8 (sn_aload_n dX10_keep_11 rfl (sn_iconst dX10_keep_12 (by decide) (sn_putz clX10 (by decide) w_1103 rfl rfl dX10_keep_13 (sn_aload_n dX10_keep_16 rfl (sn_getr clX10 (by decide) w_1100 dX10_keep_17 (sn_iconst dX10_keep_20 (by decide) (sn_iaload dX10_keep_21 (sn_iret rfl dX10_keep_22))))))))))))
theorem m_X10_keep {E : mh_E} {d mc ms : Nat} {args : List Value} {h : mh_H} {Post : Option Value → mh_H → Prop} (lv : List (Option Value)) (hl : lv_args 0 args = mh_al 0 lv) (hs : (lg_sl args).length ≤ 1) (hG : q_X10_keep_0 (x_X10_keep E d mc ms Post) lv [] h 0 0) : mh_M E d mc ms yX10_keep args h Post := mh_M.of w_1557 (by decide) (by decide) hl hs (b_X10_keep_0 _ _ _ _ _ hG)
theorem dX10_back_0 : decode cX10_back 0 = .ok (.aload_n 0, 1) := by decide +kernel
theorem dX10_back_1 : decode cX10_back 1 = .ok (.getfield 267, 3) := by decide +kernel
theorem dX10_back_4 : decode cX10_back 4 = .ok (.ifCond .ne 6, 3) := by decide +kernel
theorem dX10_back_7 : decode cX10_back 7 = .ok (.ldc 143, 2) := by decide +kernel
theorem dX10_back_9 : decode cX10_back 9 = .ok (.ireturn, 1) := by decide +kernel
theorem dX10_back_10 : decode cX10_back 10 = .ok (.aload_n 0, 1) := by decide +kernel
theorem dX10_back_11 : decode cX10_back 11 = .ok (.getfield 13, 3) := by decide +kernel
theorem dX10_back_14 : decode cX10_back 14 = .ok (.aload_n 0, 1) := by decide +kernel
theorem dX10_back_15 : decode cX10_back 15 = .ok (.getfield 9, 3) := by decide +kernel
theorem dX10_back_18 : decode cX10_back 18 = .ok (.invokestatic 271, 3) := by decide +kernel
theorem dX10_back_21 : decode cX10_back 21 = .ok (.aload_n 0, 1) := by decide +kernel
theorem dX10_back_22 : decode cX10_back 22 = .ok (.getfield 9, 3) := by decide +kernel
theorem dX10_back_25 : decode cX10_back 25 = .ok (.iconst 1, 1) := by decide +kernel
theorem dX10_back_26 : decode cX10_back 26 = .ok (.iaload, 1) := by decide +kernel
theorem dX10_back_27 : decode cX10_back 27 = .ok (.ireturn, 1) := by decide +kernel
abbrev x_X10_back (E : mh_E) (d mc ms : Nat) (Post : Option Value → mh_H → Prop) : mh_X := (E, yX10_back, cX10_back, 1, (some .int), d, mc, ms, Post)
def q_X10_back_0 (X : mh_X) : mh_PR := s_al 0 (s_gi 10 3 (s_if1 (fun x => ¬ x = 0) (s_al 0 (s_gr 10 1 (s_al 0 (s_gr 10 0 (s_cs X yX10_copyAll 2 (s_al 0 (s_gr 10 0 (s_push (.int (1)) (s_ald 0 (s_iret X)))))))))) (s_push (.int (-1000000002)) (s_iret X))))
theorem b_X10_back_0 {E : mh_E} {d mc ms : Nat} {Post : Option Value → mh_H → Prop} : mh_S (x_X10_back E d mc ms Post) 0 (q_X10_back_0 (x_X10_back E d mc ms Post)) := sn_aload_n dX10_back_0 rfl (sn_geti clX10 (by decide) w_1103 dX10_back_1 (sn_if_ne (tgt := 10) dX10_back_4 (by decide) (sn_aload_n dX10_back_10 rfl (sn_getr clX10 (by decide) w_1101 dX10_back_11 (sn_aload_n dX10_back_14 rfl (sn_getr clX10 (by decide) w_1100 dX10_back_15 (sn_cs w_1551 w_1552 w_66 nm_X10_copyAll dX10_back_18 (sn_aload_n dX10_back_21 rfl (sn_getr clX10 (by decide) w_1100 dX10_back_22 (sn_iconst dX10_back_25 (by decide) (sn_iaload dX10_back_26 (sn_iret rfl dX10_back_27)))))))))) (sn_ldc dX10_back_7 w_1302 (sn_iret rfl dX10_back_9))))
theorem m_X10_back {E : mh_E} {d mc ms : Nat} {args : List Value} {h : mh_H} {Post : Option Value → mh_H → Prop} (lv : List (Option Value)) (hl : lv_args 0 args = mh_al 0 lv) (hs : (lg_sl args).length ≤ 1) (hG : q_X10_back_0 (x_X10_back E d mc ms Post) lv [] h 0 0) : mh_M E d mc ms yX10_back args h Post := mh_M.of w_1561 (by decide) (by decide) hl hs (b_X10_back_0 _ _ _ _ _ hG)
theorem dX10_count_0 : decode cX10_count 0 = .ok (.iload_n 1, 1) := by decide +kernel
theorem dX10_count_1 : decode cX10_count 1 = .ok (.tableswitch 100 0 7 #[47, 54, 61, 68, 75, 83, 88, 93], 47) := by decide +kernel
theorem dX10_count_48 : decode cX10_count 48 = .ok (.aload_n 0, 1) := by decide +kernel
theorem dX10_count_49 : decode cX10_count 49 = .ok (.getfield 9, 3) := by decide +kernel
theorem dX10_count_52 : decode cX10_count 52 = .ok (.iconst 1, 1) := by decide +kernel
theorem dX10_count_53 : decode cX10_count 53 = .ok (.iaload, 1) := by decide +kernel
theorem dX10_count_54 : decode cX10_count 54 = .ok (.ireturn, 1) := by decide +kernel
theorem dX10_count_55 : decode cX10_count 55 = .ok (.aload_n 0, 1) := by decide +kernel
theorem dX10_count_56 : decode cX10_count 56 = .ok (.getfield 9, 3) := by decide +kernel
theorem dX10_count_59 : decode cX10_count 59 = .ok (.iconst 2, 1) := by decide +kernel
theorem dX10_count_60 : decode cX10_count 60 = .ok (.iaload, 1) := by decide +kernel
theorem dX10_count_61 : decode cX10_count 61 = .ok (.ireturn, 1) := by decide +kernel
theorem dX10_count_62 : decode cX10_count 62 = .ok (.aload_n 0, 1) := by decide +kernel
theorem dX10_count_63 : decode cX10_count 63 = .ok (.getfield 9, 3) := by decide +kernel
theorem dX10_count_66 : decode cX10_count 66 = .ok (.iconst 3, 1) := by decide +kernel
theorem dX10_count_67 : decode cX10_count 67 = .ok (.iaload, 1) := by decide +kernel
theorem dX10_count_68 : decode cX10_count 68 = .ok (.ireturn, 1) := by decide +kernel
theorem dX10_count_69 : decode cX10_count 69 = .ok (.aload_n 0, 1) := by decide +kernel
theorem dX10_count_70 : decode cX10_count 70 = .ok (.getfield 9, 3) := by decide +kernel
theorem dX10_count_73 : decode cX10_count 73 = .ok (.iconst 4, 1) := by decide +kernel
theorem dX10_count_74 : decode cX10_count 74 = .ok (.iaload, 1) := by decide +kernel
theorem dX10_count_75 : decode cX10_count 75 = .ok (.ireturn, 1) := by decide +kernel
theorem dX10_count_76 : decode cX10_count 76 = .ok (.aload_n 0, 1) := by decide +kernel
theorem dX10_count_77 : decode cX10_count 77 = .ok (.getfield 9, 3) := by decide +kernel
theorem dX10_count_80 : decode cX10_count 80 = .ok (.bipush 7, 2) := by decide +kernel
theorem dX10_count_82 : decode cX10_count 82 = .ok (.iaload, 1) := by decide +kernel
theorem dX10_count_83 : decode cX10_count 83 = .ok (.ireturn, 1) := by decide +kernel
theorem dX10_count_84 : decode cX10_count 84 = .ok (.aload_n 0, 1) := by decide +kernel
theorem dX10_count_85 : decode cX10_count 85 = .ok (.getfield 264, 3) := by decide +kernel
theorem dX10_count_88 : decode cX10_count 88 = .ok (.ireturn, 1) := by decide +kernel
theorem dX10_count_89 : decode cX10_count 89 = .ok (.aload_n 0, 1) := by decide +kernel
theorem dX10_count_90 : decode cX10_count 90 = .ok (.getfield 190, 3) := by decide +kernel
theorem dX10_count_93 : decode cX10_count 93 = .ok (.ireturn, 1) := by decide +kernel
theorem dX10_count_94 : decode cX10_count 94 = .ok (.aload_n 0, 1) := by decide +kernel
theorem dX10_count_95 : decode cX10_count 95 = .ok (.getfield 9, 3) := by decide +kernel
theorem dX10_count_98 : decode cX10_count 98 = .ok (.iconst 0, 1) := by decide +kernel
theorem dX10_count_99 : decode cX10_count 99 = .ok (.iaload, 1) := by decide +kernel
theorem dX10_count_100 : decode cX10_count 100 = .ok (.ireturn, 1) := by decide +kernel
theorem dX10_count_101 : decode cX10_count 101 = .ok (.ldc 91, 2) := by decide +kernel
theorem dX10_count_103 : decode cX10_count 103 = .ok (.ireturn, 1) := by decide +kernel
abbrev x_X10_count (E : mh_E) (d mc ms : Nat) (Post : Option Value → mh_H → Prop) : mh_X := (E, yX10_count, cX10_count, 2, (some .int), d, mc, ms, Post)
def q_X10_count_0 (X : mh_X) : mh_PR := s_il 1 (s_sw [((0 : Int32), s_al 0 (s_gr 10 0 (s_push (.int (1)) (s_ald 0 (s_iret X))))), ((1 : Int32), s_al 0 (s_gr 10 0 (s_push (.int (2)) (s_ald 0 (s_iret X))))), ((2 : Int32), s_al 0 (s_gr 10 0 (s_push (.int (3)) (s_ald 0 (s_iret X))))), ((3 : Int32), s_al 0 (s_gr 10 0 (s_push (.int (4)) (s_ald 0 (s_iret X))))), ((4 : Int32), s_al 0 (s_gr 10 0 (s_push (.int (7)) (s_ald 0 (s_iret X))))), ((5 : Int32), s_al 0 (s_gi 10 33 (s_iret X))), ((6 : Int32), s_al 0 (s_gi 10 7 (s_iret X))), ((7 : Int32), s_al 0 (s_gr 10 0 (s_push (.int (0)) (s_ald 0 (s_iret X)))))] (s_push (.int (-1000000001)) (s_iret X)))
theorem b_X10_count_0 {E : mh_E} {d mc ms : Nat} {Post : Option Value → mh_H → Prop} : mh_S (x_X10_count E d mc ms Post) 0 (q_X10_count_0 (x_X10_count E d mc ms Post)) := sn_iload_n dX10_count_0 rfl (sn_table (tgt := 101) (ts := [(0, 47, 48), (1, 54, 55), (2, 61, 62), (3, 68, 69), (4, 75, 76), (5, 83, 84), (6, 88, 89), (7, 93, 94)]) dX10_count_1 (by decide +kernel) (by decide +kernel) (sw_cons (sn_aload_n dX10_count_48 rfl (sn_getr clX10 (by decide) w_1100 dX10_count_49 (sn_iconst dX10_count_52 (by decide) (sn_iaload dX10_count_53 (sn_iret rfl dX10_count_54))))) (sw_cons (sn_aload_n dX10_count_55 rfl (sn_getr clX10 (by decide) w_1100 dX10_count_56 (sn_iconst dX10_count_59 (by decide) (sn_iaload dX10_count_60 (sn_iret rfl dX10_count_61))))) (sw_cons (sn_aload_n dX10_count_62 rfl (sn_getr clX10 (by decide) w_1100 dX10_count_63 (sn_iconst dX10_count_66 (by decide) (sn_iaload dX10_count_67 (sn_iret rfl dX10_count_68))))) (sw_cons (sn_aload_n dX10_count_69 rfl (sn_getr clX10 (by decide) w_1100 dX10_count_70 (sn_iconst dX10_count_73 (by decide) (sn_iaload dX10_count_74 (sn_iret rfl dX10_count_75))))) (sw_cons (sn_aload_n dX10_count_76 rfl (sn_getr clX10 (by decide) w_1100 dX10_count_77 (sn_bipush dX10_count_80 (by decide) (sn_iaload dX10_count_82 (sn_iret rfl dX10_count_83))))) (sw_cons (sn_aload_n dX10_count_84 rfl (sn_geti clX10 (by decide) w_1133 dX10_count_85 (sn_iret rfl dX10_count_88))) (sw_cons (sn_aload_n dX10_count_89 rfl (sn_geti clX10 (by decide) w_1107 dX10_count_90 (sn_iret rfl dX10_count_93))) (sw_cons (sn_aload_n dX10_count_94 rfl (sn_getr clX10 (by decide) w_1100 dX10_count_95 (sn_iconst dX10_count_98 (by decide) (sn_iaload dX10_count_99 (sn_iret rfl dX10_count_100))))) sw_nil)))))))) (by decide) (sn_ldc dX10_count_101 w_1216 (sn_iret rfl dX10_count_103)))
theorem m_X10_count {E : mh_E} {d mc ms : Nat} {args : List Value} {h : mh_H} {Post : Option Value → mh_H → Prop} (lv : List (Option Value)) (hl : lv_args 0 args = mh_al 0 lv) (hs : (lg_sl args).length ≤ 2) (hG : q_X10_count_0 (x_X10_count E d mc ms Post) lv [] h 0 0) : mh_M E d mc ms yX10_count args h Post := mh_M.of w_1565 (by decide) (by decide) hl hs (b_X10_count_0 _ _ _ _ _ hG)
