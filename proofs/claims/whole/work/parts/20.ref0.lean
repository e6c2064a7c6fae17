/-! HouseholdVaultModel.<init>()V -/
theorem dX9_init_0 : decode cX9_init 0 = .ok (.aload_n 0, 1) := by decide +kernel
theorem dX9_init_1 : decode cX9_init 1 = .ok (.invokespecial 1, 3) := by decide +kernel
theorem dX9_init_4 : decode cX9_init 4 = .ok (.aload_n 0, 1) := by decide +kernel
theorem dX9_init_5 : decode cX9_init 5 = .ok (.bipush 24, 2) := by decide +kernel
theorem dX9_init_7 : decode cX9_init 7 = .ok (.newarray .int, 2) := by decide +kernel
theorem dX9_init_9 : decode cX9_init 9 = .ok (.putfield 7, 3) := by decide +kernel
theorem dX9_init_12 : decode cX9_init 12 = .ok (.aload_n 0, 1) := by decide +kernel
theorem dX9_init_13 : decode cX9_init 13 = .ok (.bipush 24, 2) := by decide +kernel
theorem dX9_init_15 : decode cX9_init 15 = .ok (.newarray .int, 2) := by decide +kernel
theorem dX9_init_17 : decode cX9_init 17 = .ok (.putfield 13, 3) := by decide +kernel
theorem dX9_init_20 : decode cX9_init 20 = .ok (.aload_n 0, 1) := by decide +kernel
theorem dX9_init_21 : decode cX9_init 21 = .ok (.bipush 24, 2) := by decide +kernel
theorem dX9_init_23 : decode cX9_init 23 = .ok (.newarray .int, 2) := by decide +kernel
theorem dX9_init_25 : decode cX9_init 25 = .ok (.putfield 16, 3) := by decide +kernel
theorem dX9_init_28 : decode cX9_init 28 = .ok (.aload_n 0, 1) := by decide +kernel
theorem dX9_init_29 : decode cX9_init 29 = .ok (.bipush 24, 2) := by decide +kernel
theorem dX9_init_31 : decode cX9_init 31 = .ok (.newarray .int, 2) := by decide +kernel
theorem dX9_init_33 : decode cX9_init 33 = .ok (.putfield 19, 3) := by decide +kernel
theorem dX9_init_36 : decode cX9_init 36 = .ok (.aload_n 0, 1) := by decide +kernel
theorem dX9_init_37 : decode cX9_init 37 = .ok (.bipush 24, 2) := by decide +kernel
theorem dX9_init_39 : decode cX9_init 39 = .ok (.newarray .int, 2) := by decide +kernel
theorem dX9_init_41 : decode cX9_init 41 = .ok (.putfield 22, 3) := by decide +kernel
theorem dX9_init_44 : decode cX9_init 44 = .ok (.aload_n 0, 1) := by decide +kernel
theorem dX9_init_45 : decode cX9_init 45 = .ok (.bipush 24, 2) := by decide +kernel
theorem dX9_init_47 : decode cX9_init 47 = .ok (.newarray .int, 2) := by decide +kernel
theorem dX9_init_49 : decode cX9_init 49 = .ok (.putfield 25, 3) := by decide +kernel
theorem dX9_init_52 : decode cX9_init 52 = .ok (.aload_n 0, 1) := by decide +kernel
theorem dX9_init_53 : decode cX9_init 53 = .ok (.bipush 24, 2) := by decide +kernel
theorem dX9_init_55 : decode cX9_init 55 = .ok (.newarray .boolean, 2) := by decide +kernel
theorem dX9_init_57 : decode cX9_init 57 = .ok (.putfield 28, 3) := by decide +kernel
theorem dX9_init_60 : decode cX9_init 60 = .ok (.aload_n 0, 1) := by decide +kernel
theorem dX9_init_61 : decode cX9_init 61 = .ok (.sipush 192, 3) := by decide +kernel
theorem dX9_init_64 : decode cX9_init 64 = .ok (.newarray .int, 2) := by decide +kernel
theorem dX9_init_66 : decode cX9_init 66 = .ok (.putfield 32, 3) := by decide +kernel
theorem dX9_init_69 : decode cX9_init 69 = .ok (.aload_n 0, 1) := by decide +kernel
theorem dX9_init_70 : decode cX9_init 70 = .ok (.bipush 24, 2) := by decide +kernel
theorem dX9_init_72 : decode cX9_init 72 = .ok (.newarray .int, 2) := by decide +kernel
theorem dX9_init_74 : decode cX9_init 74 = .ok (.putfield 35, 3) := by decide +kernel
theorem dX9_init_77 : decode cX9_init 77 = .ok (.aload_n 0, 1) := by decide +kernel
theorem dX9_init_78 : decode cX9_init 78 = .ok (.sipush 192, 3) := by decide +kernel
theorem dX9_init_81 : decode cX9_init 81 = .ok (.newarray .long, 2) := by decide +kernel
theorem dX9_init_83 : decode cX9_init 83 = .ok (.putfield 38, 3) := by decide +kernel
theorem dX9_init_86 : decode cX9_init 86 = .ok (.aload_n 0, 1) := by decide +kernel
theorem dX9_init_87 : decode cX9_init 87 = .ok (.sipush 192, 3) := by decide +kernel
theorem dX9_init_90 : decode cX9_init 90 = .ok (.newarray .long, 2) := by decide +kernel
theorem dX9_init_92 : decode cX9_init 92 = .ok (.putfield 42, 3) := by decide +kernel
theorem dX9_init_95 : decode cX9_init 95 = .ok (.aload_n 0, 1) := by decide +kernel
theorem dX9_init_96 : decode cX9_init 96 = .ok (.sipush 192, 3) := by decide +kernel
theorem dX9_init_99 : decode cX9_init 99 = .ok (.newarray .int, 2) := by decide +kernel
theorem dX9_init_101 : decode cX9_init 101 = .ok (.putfield 45, 3) := by decide +kernel
theorem dX9_init_104 : decode cX9_init 104 = .ok (.aload_n 0, 1) := by decide +kernel
theorem dX9_init_105 : decode cX9_init 105 = .ok (.bipush 24, 2) := by decide +kernel
theorem dX9_init_107 : decode cX9_init 107 = .ok (.newarray .int, 2) := by decide +kernel
theorem dX9_init_109 : decode cX9_init 109 = .ok (.putfield 48, 3) := by decide +kernel
theorem dX9_init_112 : decode cX9_init 112 = .ok (.aload_n 0, 1) := by decide +kernel
theorem dX9_init_113 : decode cX9_init 113 = .ok (.sipush 5760, 3) := by decide +kernel
theorem dX9_init_116 : decode cX9_init 116 = .ok (.newarray .long, 2) := by decide +kernel
theorem dX9_init_118 : decode cX9_init 118 = .ok (.putfield 51, 3) := by decide +kernel
theorem dX9_init_121 : decode cX9_init 121 = .ok (.aload_n 0, 1) := by decide +kernel
theorem dX9_init_122 : decode cX9_init 122 = .ok (.sipush 5760, 3) := by decide +kernel
theorem dX9_init_125 : decode cX9_init 125 = .ok (.newarray .int, 2) := by decide +kernel
theorem dX9_init_127 : decode cX9_init 127 = .ok (.putfield 54, 3) := by decide +kernel
theorem dX9_init_130 : decode cX9_init 130 = .ok (.aload_n 0, 1) := by decide +kernel
theorem dX9_init_131 : decode cX9_init 131 = .ok (.bipush 40, 2) := by decide +kernel
theorem dX9_init_133 : decode cX9_init 133 = .ok (.newarray .int, 2) := by decide +kernel
theorem dX9_init_135 : decode cX9_init 135 = .ok (.putfield 57, 3) := by decide +kernel
theorem dX9_init_138 : decode cX9_init 138 = .ok (.aload_n 0, 1) := by decide +kernel
theorem dX9_init_139 : decode cX9_init 139 = .ok (.bipush 60, 2) := by decide +kernel
theorem dX9_init_141 : decode cX9_init 141 = .ok (.newarray .int, 2) := by decide +kernel
theorem dX9_init_143 : decode cX9_init 143 = .ok (.putfield 60, 3) := by decide +kernel
theorem dX9_init_146 : decode cX9_init 146 = .ok (.aload_n 0, 1) := by decide +kernel
theorem dX9_init_147 : decode cX9_init 147 = .ok (.bipush 60, 2) := by decide +kernel
theorem dX9_init_149 : decode cX9_init 149 = .ok (.newarray .int, 2) := by decide +kernel
theorem dX9_init_151 : decode cX9_init 151 = .ok (.putfield 63, 3) := by decide +kernel
theorem dX9_init_154 : decode cX9_init 154 = .ok (.aload_n 0, 1) := by decide +kernel
theorem dX9_init_155 : decode cX9_init 155 = .ok (.bipush 60, 2) := by decide +kernel
theorem dX9_init_157 : decode cX9_init 157 = .ok (.newarray .int, 2) := by decide +kernel
theorem dX9_init_159 : decode cX9_init 159 = .ok (.putfield 66, 3) := by decide +kernel
theorem dX9_init_162 : decode cX9_init 162 = .ok (.aload_n 0, 1) := by decide +kernel
theorem dX9_init_163 : decode cX9_init 163 = .ok (.bipush 60, 2) := by decide +kernel
theorem dX9_init_165 : decode cX9_init 165 = .ok (.newarray .long, 2) := by decide +kernel
theorem dX9_init_167 : decode cX9_init 167 = .ok (.putfield 69, 3) := by decide +kernel
theorem dX9_init_170 : decode cX9_init 170 = .ok (.aload_n 0, 1) := by decide +kernel
theorem dX9_init_171 : decode cX9_init 171 = .ok (.bipush 60, 2) := by decide +kernel
theorem dX9_init_173 : decode cX9_init 173 = .ok (.newarray .int, 2) := by decide +kernel
theorem dX9_init_175 : decode cX9_init 175 = .ok (.putfield 72, 3) := by decide +kernel
theorem dX9_init_178 : decode cX9_init 178 = .ok (.aload_n 0, 1) := by decide +kernel
theorem dX9_init_179 : decode cX9_init 179 = .ok (.bipush 60, 2) := by decide +kernel
theorem dX9_init_181 : decode cX9_init 181 = .ok (.newarray .int, 2) := by decide +kernel
theorem dX9_init_183 : decode cX9_init 183 = .ok (.putfield 75, 3) := by decide +kernel
theorem dX9_init_186 : decode cX9_init 186 = .ok (.aload_n 0, 1) := by decide +kernel
theorem dX9_init_187 : decode cX9_init 187 = .ok (.bipush 60, 2) := by decide +kernel
theorem dX9_init_189 : decode cX9_init 189 = .ok (.newarray .int, 2) := by decide +kernel
theorem dX9_init_191 : decode cX9_init 191 = .ok (.putfield 78, 3) := by decide +kernel
theorem dX9_init_194 : decode cX9_init 194 = .ok (.aload_n 0, 1) := by decide +kernel
theorem dX9_init_195 : decode cX9_init 195 = .ok (.bipush 60, 2) := by decide +kernel
theorem dX9_init_197 : decode cX9_init 197 = .ok (.newarray .int, 2) := by decide +kernel
theorem dX9_init_199 : decode cX9_init 199 = .ok (.putfield 81, 3) := by decide +kernel
theorem dX9_init_202 : decode cX9_init 202 = .ok (.aload_n 0, 1) := by decide +kernel
theorem dX9_init_203 : decode cX9_init 203 = .ok (.bipush 60, 2) := by decide +kernel
theorem dX9_init_205 : decode cX9_init 205 = .ok (.newarray .int, 2) := by decide +kernel
theorem dX9_init_207 : decode cX9_init 207 = .ok (.putfield 84, 3) := by decide +kernel
theorem dX9_init_210 : decode cX9_init 210 = .ok (.aload_n 0, 1) := by decide +kernel
theorem dX9_init_211 : decode cX9_init 211 = .ok (.bipush 84, 2) := by decide +kernel
theorem dX9_init_213 : decode cX9_init 213 = .ok (.newarray .int, 2) := by decide +kernel
theorem dX9_init_215 : decode cX9_init 215 = .ok (.putfield 87, 3) := by decide +kernel
theorem dX9_init_218 : decode cX9_init 218 = .ok (.aload_n 0, 1) := by decide +kernel
theorem dX9_init_219 : decode cX9_init 219 = .ok (.bipush 6, 2) := by decide +kernel
theorem dX9_init_221 : decode cX9_init 221 = .ok (.newarray .int, 2) := by decide +kernel
theorem dX9_init_223 : decode cX9_init 223 = .ok (.putfield 90, 3) := by decide +kernel
theorem dX9_init_226 : decode cX9_init 226 = .ok (.aload_n 0, 1) := by decide +kernel
theorem dX9_init_227 : decode cX9_init 227 = .ok (.bipush 6, 2) := by decide +kernel
theorem dX9_init_229 : decode cX9_init 229 = .ok (.newarray .int, 2) := by decide +kernel
theorem dX9_init_231 : decode cX9_init 231 = .ok (.putfield 93, 3) := by decide +kernel
theorem dX9_init_234 : decode cX9_init 234 = .ok (.aload_n 0, 1) := by decide +kernel
theorem dX9_init_235 : decode cX9_init 235 = .ok (.ldc 96, 2) := by decide +kernel
theorem dX9_init_237 : decode cX9_init 237 = .ok (.newarray .long, 2) := by decide +kernel
theorem dX9_init_239 : decode cX9_init 239 = .ok (.putfield 97, 3) := by decide +kernel
theorem dX9_init_242 : decode cX9_init 242 = .ok (.aload_n 0, 1) := by decide +kernel
theorem dX9_init_243 : decode cX9_init 243 = .ok (.ldc 96, 2) := by decide +kernel
theorem dX9_init_245 : decode cX9_init 245 = .ok (.newarray .int, 2) := by decide +kernel
theorem dX9_init_247 : decode cX9_init 247 = .ok (.putfield 100, 3) := by decide +kernel
theorem dX9_init_250 : decode cX9_init 250 = .ok (.aload_n 0, 1) := by decide +kernel
theorem dX9_init_251 : decode cX9_init 251 = .ok (.bipush 81, 2) := by decide +kernel
theorem dX9_init_253 : decode cX9_init 253 = .ok (.newarray .int, 2) := by decide +kernel
theorem dX9_init_255 : decode cX9_init 255 = .ok (.putfield 103, 3) := by decide +kernel
theorem dX9_init_258 : decode cX9_init 258 = .ok (.aload_n 0, 1) := by decide +kernel
theorem dX9_init_259 : decode cX9_init 259 = .ok (.bipush 81, 2) := by decide +kernel
theorem dX9_init_261 : decode cX9_init 261 = .ok (.newarray .long, 2) := by decide +kernel
theorem dX9_init_263 : decode cX9_init 263 = .ok (.putfield 106, 3) := by decide +kernel
theorem dX9_init_266 : decode cX9_init 266 = .ok (.aload_n 0, 1) := by decide +kernel
theorem dX9_init_267 : decode cX9_init 267 = .ok (.bipush 81, 2) := by decide +kernel
theorem dX9_init_269 : decode cX9_init 269 = .ok (.newarray .int, 2) := by decide +kernel
theorem dX9_init_271 : decode cX9_init 271 = .ok (.putfield 109, 3) := by decide +kernel
theorem dX9_init_274 : decode cX9_init 274 = .ok (.aload_n 0, 1) := by decide +kernel
theorem dX9_init_275 : decode cX9_init 275 = .ok (.bipush 81, 2) := by decide +kernel
theorem dX9_init_277 : decode cX9_init 277 = .ok (.newarray .boolean, 2) := by decide +kernel
theorem dX9_init_279 : decode cX9_init 279 = .ok (.putfield 112, 3) := by decide +kernel
theorem dX9_init_282 : decode cX9_init 282 = .ok (.aload_n 0, 1) := by decide +kernel
theorem dX9_init_283 : decode cX9_init 283 = .ok (.sipush 144, 3) := by decide +kernel
theorem dX9_init_286 : decode cX9_init 286 = .ok (.newarray .long, 2) := by decide +kernel
theorem dX9_init_288 : decode cX9_init 288 = .ok (.putfield 115, 3) := by decide +kernel
theorem dX9_init_291 : decode cX9_init 291 = .ok (.aload_n 0, 1) := by decide +kernel
theorem dX9_init_292 : decode cX9_init 292 = .ok (.sipush 144, 3) := by decide +kernel
theorem dX9_init_295 : decode cX9_init 295 = .ok (.newarray .int, 2) := by decide +kernel
theorem dX9_init_297 : decode cX9_init 297 = .ok (.putfield 118, 3) := by decide +kernel
theorem dX9_init_300 : decode cX9_init 300 = .ok (.aload_n 0, 1) := by decide +kernel
theorem dX9_init_301 : decode cX9_init 301 = .ok (.sipush 360, 3) := by decide +kernel
theorem dX9_init_304 : decode cX9_init 304 = .ok (.newarray .boolean, 2) := by decide +kernel
theorem dX9_init_306 : decode cX9_init 306 = .ok (.putfield 121, 3) := by decide +kernel
theorem dX9_init_309 : decode cX9_init 309 = .ok (.aload_n 0, 1) := by decide +kernel
theorem dX9_init_310 : decode cX9_init 310 = .ok (.bipush 81, 2) := by decide +kernel
theorem dX9_init_312 : decode cX9_init 312 = .ok (.newarray .long, 2) := by decide +kernel
theorem dX9_init_314 : decode cX9_init 314 = .ok (.putfield 124, 3) := by decide +kernel
theorem dX9_init_317 : decode cX9_init 317 = .ok (.aload_n 0, 1) := by decide +kernel
theorem dX9_init_318 : decode cX9_init 318 = .ok (.bipush 18, 2) := by decide +kernel
theorem dX9_init_320 : decode cX9_init 320 = .ok (.newarray .boolean, 2) := by decide +kernel
theorem dX9_init_322 : decode cX9_init 322 = .ok (.putfield 127, 3) := by decide +kernel
theorem dX9_init_325 : decode cX9_init 325 = .ok (.aload_n 0, 1) := by decide +kernel
theorem dX9_init_326 : decode cX9_init 326 = .ok (.bipush 40, 2) := by decide +kernel
theorem dX9_init_328 : decode cX9_init 328 = .ok (.newarray .long, 2) := by decide +kernel
theorem dX9_init_330 : decode cX9_init 330 = .ok (.putfield 130, 3) := by decide +kernel
theorem dX9_init_333 : decode cX9_init 333 = .ok (.aload_n 0, 1) := by decide +kernel
theorem dX9_init_334 : decode cX9_init 334 = .ok (.bipush 40, 2) := by decide +kernel
theorem dX9_init_336 : decode cX9_init 336 = .ok (.newarray .int, 2) := by decide +kernel
theorem dX9_init_338 : decode cX9_init 338 = .ok (.putfield 133, 3) := by decide +kernel
theorem dX9_init_341 : decode cX9_init 341 = .ok (.return_, 1) := by decide +kernel
def f_X9_init (a0 : Int) (H : PH) : RO := vm 9 a0 H <|
  (newa 0 24 H).bind fun z1 => (stv 25 z1.2 a0 1 z1.1).bind fun H2 => (newa 0 24 H2).bind fun z3 => (stv 25 z3.2 a0 2 z3.1).bind fun H4 => (newa 0 24 H4).bind fun z5 => (stv 25 z5.2 a0 3 z5.1).bind fun H6 => (newa 0 24 H6).bind fun z7 => (stv 25 z7.2 a0 4 z7.1).bind fun H8 => (newa 0 24 H8).bind fun z9 => (stv 25 z9.2 a0 5 z9.1).bind fun H10 => (newa 0 24 H10).bind fun z11 => (stv 25 z11.2 a0 6 z11.1).bind fun H12 => (newa 2 24 H12).bind fun z13 => (stv 25 z13.2 a0 7 z13.1).bind fun H14 => (newa 0 192 H14).bind fun z15 => (stv 25 z15.2 a0 8 z15.1).bind fun H16 => (newa 0 24 H16).bind fun z17 => (stv 25 z17.2 a0 9 z17.1).bind fun H18 => (newa 1 192 H18).bind fun z19 => (stv 25 z19.2 a0 10 z19.1).bind fun H20 => (newa 1 192 H20).bind fun z21 => (stv 25 z21.2 a0 11 z21.1).bind fun H22 => (newa 0 192 H22).bind fun z23 => (stv 25 z23.2 a0 12 z23.1).bind fun H24 => (newa 0 24 H24).bind fun z25 => (stv 25 z25.2 a0 13 z25.1).bind fun H26 => (newa 1 5760 H26).bind fun z27 => (stv 25 z27.2 a0 15 z27.1).bind fun H28 => (newa 0 5760 H28).bind fun z29 => (stv 25 z29.2 a0 16 z29.1).bind fun H30 => (newa 0 40 H30).bind fun z31 => (stv 25 z31.2 a0 17 z31.1).bind fun H32 => (newa 0 60 H32).bind fun z33 => (stv 25 z33.2 a0 19 z33.1).bind fun H34 => (newa 0 60 H34).bind fun z35 => (stv 25 z35.2 a0 20 z35.1).bind fun H36 => (newa 0 60 H36).bind fun z37 => (stv 25 z37.2 a0 21 z37.1).bind fun H38 => (newa 1 60 H38).bind fun z39 => (stv 25 z39.2 a0 22 z39.1).bind fun H40 => (newa 0 60 H40).bind fun z41 => (stv 25 z41.2 a0 23 z41.1).bind fun H42 => (newa 0 60 H42).bind fun z43 => (stv 25 z43.2 a0 24 z43.1).bind fun H44 => (newa 0 60 H44).bind fun z45 => (stv 25 z45.2 a0 25 z45.1).bind fun H46 => (newa 0 60 H46).bind fun z47 => (stv 25 z47.2 a0 26 z47.1).bind fun H48 => (newa 0 60 H48).bind fun z49 => (stv 25 z49.2 a0 27 z49.1).bind fun H50 => (newa 0 84 H50).bind fun z51 => (stv 25 z51.2 a0 28 z51.1).bind fun H52 => (newa 0 6 H52).bind fun z53 => (stv 25 z53.2 a0 31 z53.1).bind fun H54 => (newa 0 6 H54).bind fun z55 => (stv 25 z55.2 a0 32 z55.1).bind fun H56 => (newa 1 34560 H56).bind fun z57 => (stv 25 z57.2 a0 33 z57.1).bind fun H58 => (newa 0 34560 H58).bind fun z59 => (stv 25 z59.2 a0 34 z59.1).bind fun H60 => (newa 0 81 H60).bind fun z61 => (stv 25 z61.2 a0 39 z61.1).bind fun H62 => (newa 1 81 H62).bind fun z63 => (stv 25 z63.2 a0 40 z63.1).bind fun H64 => (newa 0 81 H64).bind fun z65 => (stv 25 z65.2 a0 41 z65.1).bind fun H66 => (newa 2 81 H66).bind fun z67 => (stv 25 z67.2 a0 42 z67.1).bind fun H68 => (newa 1 144 H68).bind fun z69 => (stv 25 z69.2 a0 43 z69.1).bind fun H70 => (newa 0 144 H70).bind fun z71 => (stv 25 z71.2 a0 44 z71.1).bind fun H72 => (newa 2 360 H72).bind fun z73 => (stv 25 z73.2 a0 45 z73.1).bind fun H74 => (newa 1 81 H74).bind fun z75 => (stv 25 z75.2 a0 49 z75.1).bind fun H76 => (newa 2 18 H76).bind fun z77 => (stv 25 z77.2 a0 50 z77.1).bind fun H78 => (newa 1 40 H78).bind fun z79 => (stv 25 z79.2 a0 51 z79.1).bind fun H80 => (newa 0 40 H80).bind fun z81 => (stv 25 z81.2 a0 52 z81.1).bind fun H82 => some (0, H82)
set_option maxHeartbeats 4000000 in
theorem m_X9_init (l : Launch) (a0 : Int) (H : PH) (rr : Int) (HH : PH) (h : f_X9_init a0 H = some (rr, HH)) : CT l yX9_init cX9_init 1 none 1 12 [vr a0] H none HH := by
  refine CT.of RX9 (by decide) rfl [some (vr a0)] rfl rfl ?_
  intro E F q hn hf hl hm
  unfold f_X9_init at h
  obtain ⟨hv, h⟩ := vm_spec h
  refine pw_aload_n (pc := 0) F dX9_init_0 rfl ?_
  refine pw_objInit (pc := 1) F 1 g_dfca54492e g_93fb852fc9 g_ecc6a87410 (rm_ok hf hl (by decide) (by decide)) dX9_init_1 (vm_nn hv) ?_
  refine pw_aload_n (pc := 4) F dX9_init_4 rfl ?_
  refine pw_bipush (pc := 5) F 24 dX9_init_5 (by decide) ?_
  obtain ⟨z1, ez1, h⟩ := bnd h
  refine pw_newa (pc := 7) F 0 (by decide) g_c17bb956eb dX9_init_7 ez1 ?_
  obtain ⟨H2, eH2, h⟩ := bnd h
  refine pw_putF (pc := 9) F 9 1 7 (by decide) (by decide) g_a89464ec18 inl_9 rfl hm rfl 2 rfl dX9_init_9 trivial eH2 ?_
  refine pw_aload_n (pc := 12) F dX9_init_12 rfl ?_
  refine pw_bipush (pc := 13) F 24 dX9_init_13 (by decide) ?_
  obtain ⟨z3, ez3, h⟩ := bnd h
  refine pw_newa (pc := 15) F 0 (by decide) g_c17bb956eb dX9_init_15 ez3 ?_
  obtain ⟨H4, eH4, h⟩ := bnd h
  refine pw_putF (pc := 17) F 9 2 13 (by decide) (by decide) g_0c2899f53f inl_9 rfl hm rfl 2 rfl dX9_init_17 trivial eH4 ?_
  refine pw_aload_n (pc := 20) F dX9_init_20 rfl ?_
  refine pw_bipush (pc := 21) F 24 dX9_init_21 (by decide) ?_
  obtain ⟨z5, ez5, h⟩ := bnd h
  refine pw_newa (pc := 23) F 0 (by decide) g_c17bb956eb dX9_init_23 ez5 ?_
  obtain ⟨H6, eH6, h⟩ := bnd h
  refine pw_putF (pc := 25) F 9 3 16 (by decide) (by decide) g_bd19d270ba inl_9 rfl hm rfl 2 rfl dX9_init_25 trivial eH6 ?_
  refine pw_aload_n (pc := 28) F dX9_init_28 rfl ?_
  refine pw_bipush (pc := 29) F 24 dX9_init_29 (by decide) ?_
  obtain ⟨z7, ez7, h⟩ := bnd h
  refine pw_newa (pc := 31) F 0 (by decide) g_c17bb956eb dX9_init_31 ez7 ?_
  obtain ⟨H8, eH8, h⟩ := bnd h
  refine pw_putF (pc := 33) F 9 4 19 (by decide) (by decide) g_1b40c2a4c8 inl_9 rfl hm rfl 2 rfl dX9_init_33 trivial eH8 ?_
  refine pw_aload_n (pc := 36) F dX9_init_36 rfl ?_
  refine pw_bipush (pc := 37) F 24 dX9_init_37 (by decide) ?_
  obtain ⟨z9, ez9, h⟩ := bnd h
  refine pw_newa (pc := 39) F 0 (by decide) g_c17bb956eb dX9_init_39 ez9 ?_
  obtain ⟨H10, eH10, h⟩ := bnd h
  refine pw_putF (pc := 41) F 9 5 22 (by decide) (by decide) g_cd0b03d2d5 inl_9 rfl hm rfl 2 rfl dX9_init_41 trivial eH10 ?_
  refine pw_aload_n (pc := 44) F dX9_init_44 rfl ?_
  refine pw_bipush (pc := 45) F 24 dX9_init_45 (by decide) ?_
  obtain ⟨z11, ez11, h⟩ := bnd h
  refine pw_newa (pc := 47) F 0 (by decide) g_c17bb956eb dX9_init_47 ez11 ?_
  obtain ⟨H12, eH12, h⟩ := bnd h
  refine pw_putF (pc := 49) F 9 6 25 (by decide) (by decide) g_10019bf10f inl_9 rfl hm rfl 2 rfl dX9_init_49 trivial eH12 ?_
  refine pw_aload_n (pc := 52) F dX9_init_52 rfl ?_
  refine pw_bipush (pc := 53) F 24 dX9_init_53 (by decide) ?_
  obtain ⟨z13, ez13, h⟩ := bnd h
  refine pw_newa (pc := 55) F 2 (by decide) g_377c53ae53 dX9_init_55 ez13 ?_
  obtain ⟨H14, eH14, h⟩ := bnd h
  refine pw_putF (pc := 57) F 9 7 28 (by decide) (by decide) g_993ceefc50 inl_9 rfl hm rfl 2 rfl dX9_init_57 trivial eH14 ?_
  refine pw_aload_n (pc := 60) F dX9_init_60 rfl ?_
  refine pw_sipush (pc := 61) F 192 dX9_init_61 (by decide) ?_
  obtain ⟨z15, ez15, h⟩ := bnd h
  refine pw_newa (pc := 64) F 0 (by decide) g_c17bb956eb dX9_init_64 ez15 ?_
  obtain ⟨H16, eH16, h⟩ := bnd h
  refine pw_putF (pc := 66) F 9 8 32 (by decide) (by decide) g_8263c80882 inl_9 rfl hm rfl 2 rfl dX9_init_66 trivial eH16 ?_
  refine pw_aload_n (pc := 69) F dX9_init_69 rfl ?_
  refine pw_bipush (pc := 70) F 24 dX9_init_70 (by decide) ?_
  obtain ⟨z17, ez17, h⟩ := bnd h
  refine pw_newa (pc := 72) F 0 (by decide) g_c17bb956eb dX9_init_72 ez17 ?_
  obtain ⟨H18, eH18, h⟩ := bnd h
  refine pw_putF (pc := 74) F 9 9 35 (by decide) (by decide) g_364d877551 inl_9 rfl hm rfl 2 rfl dX9_init_74 trivial eH18 ?_
  refine pw_aload_n (pc := 77) F dX9_init_77 rfl ?_
  refine pw_sipush (pc := 78) F 192 dX9_init_78 (by decide) ?_
  obtain ⟨z19, ez19, h⟩ := bnd h
  refine pw_newa (pc := 81) F 1 (by decide) g_5bec7c7dcf dX9_init_81 ez19 ?_
  obtain ⟨H20, eH20, h⟩ := bnd h
  refine pw_putF (pc := 83) F 9 10 38 (by decide) (by decide) g_19aee9d404 inl_9 rfl hm rfl 2 rfl dX9_init_83 trivial eH20 ?_
  refine pw_aload_n (pc := 86) F dX9_init_86 rfl ?_
  refine pw_sipush (pc := 87) F 192 dX9_init_87 (by decide) ?_
  obtain ⟨z21, ez21, h⟩ := bnd h
  refine pw_newa (pc := 90) F 1 (by decide) g_5bec7c7dcf dX9_init_90 ez21 ?_
  obtain ⟨H22, eH22, h⟩ := bnd h
  refine pw_putF (pc := 92) F 9 11 42 (by decide) (by decide) g_95eb8cebe6 inl_9 rfl hm rfl 2 rfl dX9_init_92 trivial eH22 ?_
  refine pw_aload_n (pc := 95) F dX9_init_95 rfl ?_
  refine pw_sipush (pc := 96) F 192 dX9_init_96 (by decide) ?_
  obtain ⟨z23, ez23, h⟩ := bnd h
  refine pw_newa (pc := 99) F 0 (by decide) g_c17bb956eb dX9_init_99 ez23 ?_
  obtain ⟨H24, eH24, h⟩ := bnd h
  refine pw_putF (pc := 101) F 9 12 45 (by decide) (by decide) g_098a6cb5f4 inl_9 rfl hm rfl 2 rfl dX9_init_101 trivial eH24 ?_
  refine pw_aload_n (pc := 104) F dX9_init_104 rfl ?_
  refine pw_bipush (pc := 105) F 24 dX9_init_105 (by decide) ?_
  obtain ⟨z25, ez25, h⟩ := bnd h
  refine pw_newa (pc := 107) F 0 (by decide) g_c17bb956eb dX9_init_107 ez25 ?_
  obtain ⟨H26, eH26, h⟩ := bnd h
  refine pw_putF (pc := 109) F 9 13 48 (by decide) (by decide) g_02ee53a81c inl_9 rfl hm rfl 2 rfl dX9_init_109 trivial eH26 ?_
  refine pw_aload_n (pc := 112) F dX9_init_112 rfl ?_
  refine pw_sipush (pc := 113) F 5760 dX9_init_113 (by decide) ?_
  obtain ⟨z27, ez27, h⟩ := bnd h
  refine pw_newa (pc := 116) F 1 (by decide) g_5bec7c7dcf dX9_init_116 ez27 ?_
  obtain ⟨H28, eH28, h⟩ := bnd h
  refine pw_putF (pc := 118) F 9 15 51 (by decide) (by decide) g_948f79b8fe inl_9 rfl hm rfl 2 rfl dX9_init_118 trivial eH28 ?_
  refine pw_aload_n (pc := 121) F dX9_init_121 rfl ?_
  refine pw_sipush (pc := 122) F 5760 dX9_init_122 (by decide) ?_
  obtain ⟨z29, ez29, h⟩ := bnd h
  refine pw_newa (pc := 125) F 0 (by decide) g_c17bb956eb dX9_init_125 ez29 ?_
  obtain ⟨H30, eH30, h⟩ := bnd h
  refine pw_putF (pc := 127) F 9 16 54 (by decide) (by decide) g_fd9fcec31c inl_9 rfl hm rfl 2 rfl dX9_init_127 trivial eH30 ?_
  refine pw_aload_n (pc := 130) F dX9_init_130 rfl ?_
  refine pw_bipush (pc := 131) F 40 dX9_init_131 (by decide) ?_
  obtain ⟨z31, ez31, h⟩ := bnd h
  refine pw_newa (pc := 133) F 0 (by decide) g_c17bb956eb dX9_init_133 ez31 ?_
  obtain ⟨H32, eH32, h⟩ := bnd h
  refine pw_putF (pc := 135) F 9 17 57 (by decide) (by decide) g_8eca8acc62 inl_9 rfl hm rfl 2 rfl dX9_init_135 trivial eH32 ?_
  refine pw_aload_n (pc := 138) F dX9_init_138 rfl ?_
  refine pw_bipush (pc := 139) F 60 dX9_init_139 (by decide) ?_
  obtain ⟨z33, ez33, h⟩ := bnd h
  refine pw_newa (pc := 141) F 0 (by decide) g_c17bb956eb dX9_init_141 ez33 ?_
  obtain ⟨H34, eH34, h⟩ := bnd h
  refine pw_putF (pc := 143) F 9 19 60 (by decide) (by decide) g_14ea23737e inl_9 rfl hm rfl 2 rfl dX9_init_143 trivial eH34 ?_
  refine pw_aload_n (pc := 146) F dX9_init_146 rfl ?_
  refine pw_bipush (pc := 147) F 60 dX9_init_147 (by decide) ?_
  obtain ⟨z35, ez35, h⟩ := bnd h
  refine pw_newa (pc := 149) F 0 (by decide) g_c17bb956eb dX9_init_149 ez35 ?_
  obtain ⟨H36, eH36, h⟩ := bnd h
  refine pw_putF (pc := 151) F 9 20 63 (by decide) (by decide) g_ef6ee937d9 inl_9 rfl hm rfl 2 rfl dX9_init_151 trivial eH36 ?_
  refine pw_aload_n (pc := 154) F dX9_init_154 rfl ?_
  refine pw_bipush (pc := 155) F 60 dX9_init_155 (by decide) ?_
  obtain ⟨z37, ez37, h⟩ := bnd h
  refine pw_newa (pc := 157) F 0 (by decide) g_c17bb956eb dX9_init_157 ez37 ?_
  obtain ⟨H38, eH38, h⟩ := bnd h
  refine pw_putF (pc := 159) F 9 21 66 (by decide) (by decide) g_aa88bfb7db inl_9 rfl hm rfl 2 rfl dX9_init_159 trivial eH38 ?_
  refine pw_aload_n (pc := 162) F dX9_init_162 rfl ?_
  refine pw_bipush (pc := 163) F 60 dX9_init_163 (by decide) ?_
  obtain ⟨z39, ez39, h⟩ := bnd h
  refine pw_newa (pc := 165) F 1 (by decide) g_5bec7c7dcf dX9_init_165 ez39 ?_
  obtain ⟨H40, eH40, h⟩ := bnd h
  refine pw_putF (pc := 167) F 9 22 69 (by decide) (by decide) g_d4e5cb9e3b inl_9 rfl hm rfl 2 rfl dX9_init_167 trivial eH40 ?_
  refine pw_aload_n (pc := 170) F dX9_init_170 rfl ?_
  refine pw_bipush (pc := 171) F 60 dX9_init_171 (by decide) ?_
  obtain ⟨z41, ez41, h⟩ := bnd h
  refine pw_newa (pc := 173) F 0 (by decide) g_c17bb956eb dX9_init_173 ez41 ?_
  obtain ⟨H42, eH42, h⟩ := bnd h
  refine pw_putF (pc := 175) F 9 23 72 (by decide) (by decide) g_630466eb5f inl_9 rfl hm rfl 2 rfl dX9_init_175 trivial eH42 ?_
  refine pw_aload_n (pc := 178) F dX9_init_178 rfl ?_
  refine pw_bipush (pc := 179) F 60 dX9_init_179 (by decide) ?_
  obtain ⟨z43, ez43, h⟩ := bnd h
  refine pw_newa (pc := 181) F 0 (by decide) g_c17bb956eb dX9_init_181 ez43 ?_
  obtain ⟨H44, eH44, h⟩ := bnd h
  refine pw_putF (pc := 183) F 9 24 75 (by decide) (by decide) g_98c91f31c8 inl_9 rfl hm rfl 2 rfl dX9_init_183 trivial eH44 ?_
  refine pw_aload_n (pc := 186) F dX9_init_186 rfl ?_
  refine pw_bipush (pc := 187) F 60 dX9_init_187 (by decide) ?_
  obtain ⟨z45, ez45, h⟩ := bnd h
  refine pw_newa (pc := 189) F 0 (by decide) g_c17bb956eb dX9_init_189 ez45 ?_
  obtain ⟨H46, eH46, h⟩ := bnd h
  refine pw_putF (pc := 191) F 9 25 78 (by decide) (by decide) g_26e1dbdafb inl_9 rfl hm rfl 2 rfl dX9_init_191 trivial eH46 ?_
  refine pw_aload_n (pc := 194) F dX9_init_194 rfl ?_
  refine pw_bipush (pc := 195) F 60 dX9_init_195 (by decide) ?_
  obtain ⟨z47, ez47, h⟩ := bnd h
  refine pw_newa (pc := 197) F 0 (by decide) g_c17bb956eb dX9_init_197 ez47 ?_
  obtain ⟨H48, eH48, h⟩ := bnd h
  refine pw_putF (pc := 199) F 9 26 81 (by decide) (by decide) g_c6aa864b14 inl_9 rfl hm rfl 2 rfl dX9_init_199 trivial eH48 ?_
  refine pw_aload_n (pc := 202) F dX9_init_202 rfl ?_
  refine pw_bipush (pc := 203) F 60 dX9_init_203 (by decide) ?_
  obtain ⟨z49, ez49, h⟩ := bnd h
  refine pw_newa (pc := 205) F 0 (by decide) g_c17bb956eb dX9_init_205 ez49 ?_
  obtain ⟨H50, eH50, h⟩ := bnd h
  refine pw_putF (pc := 207) F 9 27 84 (by decide) (by decide) g_b1cbbee2b7 inl_9 rfl hm rfl 2 rfl dX9_init_207 trivial eH50 ?_
  refine pw_aload_n (pc := 210) F dX9_init_210 rfl ?_
  refine pw_bipush (pc := 211) F 84 dX9_init_211 (by decide) ?_
  obtain ⟨z51, ez51, h⟩ := bnd h
  refine pw_newa (pc := 213) F 0 (by decide) g_c17bb956eb dX9_init_213 ez51 ?_
  obtain ⟨H52, eH52, h⟩ := bnd h
  refine pw_putF (pc := 215) F 9 28 87 (by decide) (by decide) g_4cb92a74f5 inl_9 rfl hm rfl 2 rfl dX9_init_215 trivial eH52 ?_
  refine pw_aload_n (pc := 218) F dX9_init_218 rfl ?_
  refine pw_bipush (pc := 219) F 6 dX9_init_219 (by decide) ?_
  obtain ⟨z53, ez53, h⟩ := bnd h
  refine pw_newa (pc := 221) F 0 (by decide) g_c17bb956eb dX9_init_221 ez53 ?_
  obtain ⟨H54, eH54, h⟩ := bnd h
  refine pw_putF (pc := 223) F 9 31 90 (by decide) (by decide) g_b2cdc3fd82 inl_9 rfl hm rfl 2 rfl dX9_init_223 trivial eH54 ?_
  refine pw_aload_n (pc := 226) F dX9_init_226 rfl ?_
  refine pw_bipush (pc := 227) F 6 dX9_init_227 (by decide) ?_
  obtain ⟨z55, ez55, h⟩ := bnd h
  refine pw_newa (pc := 229) F 0 (by decide) g_c17bb956eb dX9_init_229 ez55 ?_
  obtain ⟨H56, eH56, h⟩ := bnd h
  refine pw_putF (pc := 231) F 9 32 93 (by decide) (by decide) g_f2c3c3bf67 inl_9 rfl hm rfl 2 rfl dX9_init_231 trivial eH56 ?_
  refine pw_aload_n (pc := 234) F dX9_init_234 rfl ?_
  refine pw_ldc (pc := 235) F 34560 g_6bc3d64f36 dX9_init_235 (by decide) ?_
  obtain ⟨z57, ez57, h⟩ := bnd h
  refine pw_newa (pc := 237) F 1 (by decide) g_5bec7c7dcf dX9_init_237 ez57 ?_
  obtain ⟨H58, eH58, h⟩ := bnd h
  refine pw_putF (pc := 239) F 9 33 97 (by decide) (by decide) g_e5d5e6041e inl_9 rfl hm rfl 2 rfl dX9_init_239 trivial eH58 ?_
  refine pw_aload_n (pc := 242) F dX9_init_242 rfl ?_
  refine pw_ldc (pc := 243) F 34560 g_6bc3d64f36 dX9_init_243 (by decide) ?_
  obtain ⟨z59, ez59, h⟩ := bnd h
  refine pw_newa (pc := 245) F 0 (by decide) g_c17bb956eb dX9_init_245 ez59 ?_
  obtain ⟨H60, eH60, h⟩ := bnd h
  refine pw_putF (pc := 247) F 9 34 100 (by decide) (by decide) g_41a86a255d inl_9 rfl hm rfl 2 rfl dX9_init_247 trivial eH60 ?_
  refine pw_aload_n (pc := 250) F dX9_init_250 rfl ?_
  refine pw_bipush (pc := 251) F 81 dX9_init_251 (by decide) ?_
  obtain ⟨z61, ez61, h⟩ := bnd h
  refine pw_newa (pc := 253) F 0 (by decide) g_c17bb956eb dX9_init_253 ez61 ?_
  obtain ⟨H62, eH62, h⟩ := bnd h
  refine pw_putF (pc := 255) F 9 39 103 (by decide) (by decide) g_f58399c680 inl_9 rfl hm rfl 2 rfl dX9_init_255 trivial eH62 ?_
  refine pw_aload_n (pc := 258) F dX9_init_258 rfl ?_
  refine pw_bipush (pc := 259) F 81 dX9_init_259 (by decide) ?_
  obtain ⟨z63, ez63, h⟩ := bnd h
  refine pw_newa (pc := 261) F 1 (by decide) g_5bec7c7dcf dX9_init_261 ez63 ?_
  obtain ⟨H64, eH64, h⟩ := bnd h
  refine pw_putF (pc := 263) F 9 40 106 (by decide) (by decide) g_0282b418ab inl_9 rfl hm rfl 2 rfl dX9_init_263 trivial eH64 ?_
  refine pw_aload_n (pc := 266) F dX9_init_266 rfl ?_
  refine pw_bipush (pc := 267) F 81 dX9_init_267 (by decide) ?_
  obtain ⟨z65, ez65, h⟩ := bnd h
  refine pw_newa (pc := 269) F 0 (by decide) g_c17bb956eb dX9_init_269 ez65 ?_
  obtain ⟨H66, eH66, h⟩ := bnd h
  refine pw_putF (pc := 271) F 9 41 109 (by decide) (by decide) g_06be4583fb inl_9 rfl hm rfl 2 rfl dX9_init_271 trivial eH66 ?_
  refine pw_aload_n (pc := 274) F dX9_init_274 rfl ?_
  refine pw_bipush (pc := 275) F 81 dX9_init_275 (by decide) ?_
  obtain ⟨z67, ez67, h⟩ := bnd h
  refine pw_newa (pc := 277) F 2 (by decide) g_377c53ae53 dX9_init_277 ez67 ?_
  obtain ⟨H68, eH68, h⟩ := bnd h
  refine pw_putF (pc := 279) F 9 42 112 (by decide) (by decide) g_192e92b71c inl_9 rfl hm rfl 2 rfl dX9_init_279 trivial eH68 ?_
  refine pw_aload_n (pc := 282) F dX9_init_282 rfl ?_
  refine pw_sipush (pc := 283) F 144 dX9_init_283 (by decide) ?_
  obtain ⟨z69, ez69, h⟩ := bnd h
  refine pw_newa (pc := 286) F 1 (by decide) g_5bec7c7dcf dX9_init_286 ez69 ?_
  obtain ⟨H70, eH70, h⟩ := bnd h
  refine pw_putF (pc := 288) F 9 43 115 (by decide) (by decide) g_e8763ca537 inl_9 rfl hm rfl 2 rfl dX9_init_288 trivial eH70 ?_
  refine pw_aload_n (pc := 291) F dX9_init_291 rfl ?_
  refine pw_sipush (pc := 292) F 144 dX9_init_292 (by decide) ?_
  obtain ⟨z71, ez71, h⟩ := bnd h
  refine pw_newa (pc := 295) F 0 (by decide) g_c17bb956eb dX9_init_295 ez71 ?_
  obtain ⟨H72, eH72, h⟩ := bnd h
  refine pw_putF (pc := 297) F 9 44 118 (by decide) (by decide) g_5be5e353a9 inl_9 rfl hm rfl 2 rfl dX9_init_297 trivial eH72 ?_
  refine pw_aload_n (pc := 300) F dX9_init_300 rfl ?_
  refine pw_sipush (pc := 301) F 360 dX9_init_301 (by decide) ?_
  obtain ⟨z73, ez73, h⟩ := bnd h
  refine pw_newa (pc := 304) F 2 (by decide) g_377c53ae53 dX9_init_304 ez73 ?_
  obtain ⟨H74, eH74, h⟩ := bnd h
  refine pw_putF (pc := 306) F 9 45 121 (by decide) (by decide) g_b75f1cdc97 inl_9 rfl hm rfl 2 rfl dX9_init_306 trivial eH74 ?_
  refine pw_aload_n (pc := 309) F dX9_init_309 rfl ?_
  refine pw_bipush (pc := 310) F 81 dX9_init_310 (by decide) ?_
  obtain ⟨z75, ez75, h⟩ := bnd h
  refine pw_newa (pc := 312) F 1 (by decide) g_5bec7c7dcf dX9_init_312 ez75 ?_
  obtain ⟨H76, eH76, h⟩ := bnd h
  refine pw_putF (pc := 314) F 9 49 124 (by decide) (by decide) g_2b8e0555eb inl_9 rfl hm rfl 2 rfl dX9_init_314 trivial eH76 ?_
  refine pw_aload_n (pc := 317) F dX9_init_317 rfl ?_
  refine pw_bipush (pc := 318) F 18 dX9_init_318 (by decide) ?_
  obtain ⟨z77, ez77, h⟩ := bnd h
  refine pw_newa (pc := 320) F 2 (by decide) g_377c53ae53 dX9_init_320 ez77 ?_
  obtain ⟨H78, eH78, h⟩ := bnd h
  refine pw_putF (pc := 322) F 9 50 127 (by decide) (by decide) g_f6b474c3e3 inl_9 rfl hm rfl 2 rfl dX9_init_322 trivial eH78 ?_
  refine pw_aload_n (pc := 325) F dX9_init_325 rfl ?_
  refine pw_bipush (pc := 326) F 40 dX9_init_326 (by decide) ?_
  obtain ⟨z79, ez79, h⟩ := bnd h
  refine pw_newa (pc := 328) F 1 (by decide) g_5bec7c7dcf dX9_init_328 ez79 ?_
  obtain ⟨H80, eH80, h⟩ := bnd h
  refine pw_putF (pc := 330) F 9 51 130 (by decide) (by decide) g_efe9f028c9 inl_9 rfl hm rfl 2 rfl dX9_init_330 trivial eH80 ?_
  refine pw_aload_n (pc := 333) F dX9_init_333 rfl ?_
  refine pw_bipush (pc := 334) F 40 dX9_init_334 (by decide) ?_
  obtain ⟨z81, ez81, h⟩ := bnd h
  refine pw_newa (pc := 336) F 0 (by decide) g_c17bb956eb dX9_init_336 ez81 ?_
  obtain ⟨H82, eH82, h⟩ := bnd h
  refine pw_putF (pc := 338) F 9 52 133 (by decide) (by decide) g_7893a1c5f2 inl_9 rfl hm rfl 2 rfl dX9_init_338 trivial eH82 ?_
  cases h
  exact pw_vret (pc := 341) F q dX9_init_341
/-! HouseholdVaultModel.in(JJJ)Z -/
theorem dX9_in_0 : decode cX9_in 0 = .ok (.lload_n 0, 1) := by decide +kernel
theorem dX9_in_1 : decode cX9_in 1 = .ok (.lload_n 2, 1) := by decide +kernel
theorem dX9_in_2 : decode cX9_in 2 = .ok (.lcmp, 1) := by decide +kernel
theorem dX9_in_3 : decode cX9_in 3 = .ok (.ifCond .lt 14, 3) := by decide +kernel
theorem dX9_in_6 : decode cX9_in 6 = .ok (.lload_n 0, 1) := by decide +kernel
theorem dX9_in_7 : decode cX9_in 7 = .ok (.lload 4, 2) := by decide +kernel
theorem dX9_in_9 : decode cX9_in 9 = .ok (.lcmp, 1) := by decide +kernel
theorem dX9_in_10 : decode cX9_in 10 = .ok (.ifCond .gt 7, 3) := by decide +kernel
theorem dX9_in_13 : decode cX9_in 13 = .ok (.iconst 1, 1) := by decide +kernel
theorem dX9_in_14 : decode cX9_in 14 = .ok (.goto 4, 3) := by decide +kernel
theorem dX9_in_17 : decode cX9_in 17 = .ok (.iconst 0, 1) := by decide +kernel
theorem dX9_in_18 : decode cX9_in 18 = .ok (.ireturn, 1) := by decide +kernel
def f_X9_in (a0 a1 a2 : Int) (H : PH) : RO :=
  (if (lc a0 a1) < 0 then some (0, H)
  else (if (lc a0 a2) > 0 then some (0, H)
  else some (1, H)))
set_option maxHeartbeats 4000000 in
theorem m_X9_in (l : Launch) (a0 a1 a2 : Int) (H : PH) (rr : Int) (HH : PH) (h : f_X9_in a0 a1 a2 H = some (rr, HH)) : CT l yX9_in cX9_in 6 (some .boolean) 0 0 [vl a0, vl a1, vl a2] H (some (vi rr)) HH := by
  refine CT.of RX9 (by decide) rfl [some (vl a0), none, some (vl a1), none, some (vl a2), none] rfl rfl ?_
  intro E F q hn hf hl hm
  unfold f_X9_in at h
  refine pw_lload_n (pc := 0) F dX9_in_0 rfl ?_
  refine pw_lload_n (pc := 1) F dX9_in_1 rfl ?_
  refine pw_lcmp (pc := 2) F dX9_in_2 ?_
  refine pw_if_lt (pc := 3) F 17 dX9_in_3 (by decide) (fun hc => ?_) (fun hc => ?_)
  · have h := iteT hc h
    refine pw_iconst (pc := 17) F 0 dX9_in_17 (by decide) ?_
    cases h
    exact pw_zret (pc := 18) F q (by decide) dX9_in_18
  · have h := iteF hc h
    refine pw_lload_n (pc := 6) F dX9_in_6 rfl ?_
    refine pw_lload (pc := 7) F dX9_in_7 rfl ?_
    refine pw_lcmp (pc := 9) F dX9_in_9 ?_
    refine pw_if_gt (pc := 10) F 17 dX9_in_10 (by decide) (fun hc => ?_) (fun hc => ?_)
    · have h := iteT hc h
      refine pw_iconst (pc := 17) F 0 dX9_in_17 (by decide) ?_
      cases h
      exact pw_zret (pc := 18) F q (by decide) dX9_in_18
    · have h := iteF hc h
      refine pw_iconst (pc := 13) F 1 dX9_in_13 (by decide) ?_
      refine pw_goto (pc := 14) F 18 dX9_in_14 (by decide) ?_
      cases h
      exact pw_zret (pc := 18) F q (by decide) dX9_in_18
/-! HouseholdVaultModel.isQuestion(I)Z -/
theorem dX9_isQuestion_0 : decode cX9_isQuestion 0 = .ok (.iload_n 1, 1) := by decide +kernel
theorem dX9_isQuestion_1 : decode cX9_isQuestion 1 = .ok (.i2l, 1) := by decide +kernel
theorem dX9_isQuestion_2 : decode cX9_isQuestion 2 = .ok (.lconst 0, 1) := by decide +kernel
theorem dX9_isQuestion_3 : decode cX9_isQuestion 3 = .ok (.aload_n 0, 1) := by decide +kernel
theorem dX9_isQuestion_4 : decode cX9_isQuestion 4 = .ok (.getfield 136, 3) := by decide +kernel
theorem dX9_isQuestion_7 : decode cX9_isQuestion 7 = .ok (.iconst 1, 1) := by decide +kernel
theorem dX9_isQuestion_8 : decode cX9_isQuestion 8 = .ok (.isub, 1) := by decide +kernel
theorem dX9_isQuestion_9 : decode cX9_isQuestion 9 = .ok (.i2l, 1) := by decide +kernel
theorem dX9_isQuestion_10 : decode cX9_isQuestion 10 = .ok (.invokestatic 140, 3) := by decide +kernel
theorem dX9_isQuestion_13 : decode cX9_isQuestion 13 = .ok (.ireturn, 1) := by decide +kernel
def f_X9_isQuestion (a0 a1 : Int) (H : PH) : RO := vm 9 a0 H <|
  (ld 25 H a0 0).bind fun x1 => (f_X9_in a1 0 (w32 (x1 - 1)) H).bind fun z2 => zr z2.1 z2.2
set_option maxHeartbeats 4000000 in
theorem m_X9_isQuestion (l : Launch) (a0 a1 : Int) (H : PH) (rr : Int) (HH : PH) (h : f_X9_isQuestion a0 a1 H = some (rr, HH)) : CT l yX9_isQuestion cX9_isQuestion 2 (some .boolean) 1 25 [vr a0, vi a1] H (some (vi rr)) HH := by
  refine CT.of RX9 (by decide) rfl [some (vr a0), some (vi a1)] rfl rfl ?_
  intro E F q hn hf hl hm
  unfold f_X9_isQuestion at h
  obtain ⟨hv, h⟩ := vm_spec h
  refine pw_iload_n (pc := 0) F dX9_isQuestion_0 rfl ?_
  refine pw_i2l (pc := 1) F dX9_isQuestion_1 ?_
  refine pw_lconst (pc := 2) F 0 dX9_isQuestion_2 (by decide) ?_
  refine pw_aload_n (pc := 3) F dX9_isQuestion_3 rfl ?_
  obtain ⟨x1, ex1, h⟩ := bnd h
  refine pw_get (pc := 4) F 9 0 136 (by decide) (by decide) g_eb25be88a8 inl_9 0 rfl dX9_isQuestion_4 ex1 ?_
  refine pw_iconst (pc := 7) F 1 dX9_isQuestion_7 (by decide) ?_
  refine pw_isub (pc := 8) F dX9_isQuestion_8 ?_
  refine pw_i2l (pc := 9) F dX9_isQuestion_9 ?_
  obtain ⟨z2, ez2, h⟩ := bnd h
  refine pw_callS (pc := 10) (as := [vl a1, vl 0, vl (w32 (x1 - 1))]) (st := []) (r := (some (vi z2.1))) F 140 (fun l => m_X9_in l a1 0 (w32 (x1 - 1)) H z2.1 z2.2 ez2) g_0174c906e2 g_3fadeb3198 g_2759d91faa g_c0c30bc7de hd_X9_in (rm_ok hf hl (by decide) (by decide)) rfl dX9_isQuestion_10 rfl (stk' := [vi z2.1]) rfl ?_
  obtain ⟨hz, h⟩ := zr_spec h
  cases h
  exact pw_zret (pc := 13) F q hz dX9_isQuestion_13
/-! HouseholdVaultModel.isHousehold(I)Z -/
theorem dX9_isHousehold_0 : decode cX9_isHousehold 0 = .ok (.iload_n 1, 1) := by decide +kernel
theorem dX9_isHousehold_1 : decode cX9_isHousehold 1 = .ok (.i2l, 1) := by decide +kernel
theorem dX9_isHousehold_2 : decode cX9_isHousehold 2 = .ok (.lconst 0, 1) := by decide +kernel
theorem dX9_isHousehold_3 : decode cX9_isHousehold 3 = .ok (.aload_n 0, 1) := by decide +kernel
theorem dX9_isHousehold_4 : decode cX9_isHousehold 4 = .ok (.getfield 144, 3) := by decide +kernel
theorem dX9_isHousehold_7 : decode cX9_isHousehold 7 = .ok (.iconst 1, 1) := by decide +kernel
theorem dX9_isHousehold_8 : decode cX9_isHousehold 8 = .ok (.isub, 1) := by decide +kernel
theorem dX9_isHousehold_9 : decode cX9_isHousehold 9 = .ok (.i2l, 1) := by decide +kernel
theorem dX9_isHousehold_10 : decode cX9_isHousehold 10 = .ok (.invokestatic 140, 3) := by decide +kernel
theorem dX9_isHousehold_13 : decode cX9_isHousehold 13 = .ok (.ireturn, 1) := by decide +kernel
def f_X9_isHousehold (a0 a1 : Int) (H : PH) : RO := vm 9 a0 H <|
  (ld 25 H a0 14).bind fun x1 => (f_X9_in a1 0 (w32 (x1 - 1)) H).bind fun z2 => zr z2.1 z2.2
set_option maxHeartbeats 4000000 in
theorem m_X9_isHousehold (l : Launch) (a0 a1 : Int) (H : PH) (rr : Int) (HH : PH) (h : f_X9_isHousehold a0 a1 H = some (rr, HH)) : CT l yX9_isHousehold cX9_isHousehold 2 (some .boolean) 1 25 [vr a0, vi a1] H (some (vi rr)) HH := by
  refine CT.of RX9 (by decide) rfl [some (vr a0), some (vi a1)] rfl rfl ?_
  intro E F q hn hf hl hm
  unfold f_X9_isHousehold at h
  obtain ⟨hv, h⟩ := vm_spec h
  refine pw_iload_n (pc := 0) F dX9_isHousehold_0 rfl ?_
  refine pw_i2l (pc := 1) F dX9_isHousehold_1 ?_
  refine pw_lconst (pc := 2) F 0 dX9_isHousehold_2 (by decide) ?_
  refine pw_aload_n (pc := 3) F dX9_isHousehold_3 rfl ?_
  obtain ⟨x1, ex1, h⟩ := bnd h
  refine pw_get (pc := 4) F 9 14 144 (by decide) (by decide) g_f4ed299937 inl_9 0 rfl dX9_isHousehold_4 ex1 ?_
  refine pw_iconst (pc := 7) F 1 dX9_isHousehold_7 (by decide) ?_
  refine pw_isub (pc := 8) F dX9_isHousehold_8 ?_
  refine pw_i2l (pc := 9) F dX9_isHousehold_9 ?_
  obtain ⟨z2, ez2, h⟩ := bnd h
  refine pw_callS (pc := 10) (as := [vl a1, vl 0, vl (w32 (x1 - 1))]) (st := []) (r := (some (vi z2.1))) F 140 (fun l => m_X9_in l a1 0 (w32 (x1 - 1)) H z2.1 z2.2 ez2) g_0174c906e2 g_3fadeb3198 g_2759d91faa g_c0c30bc7de hd_X9_in (rm_ok hf hl (by decide) (by decide)) rfl dX9_isHousehold_10 rfl (stk' := [vi z2.1]) rfl ?_
  obtain ⟨hz, h⟩ := zr_spec h
  cases h
  exact pw_zret (pc := 13) F q hz dX9_isHousehold_13
/-! HouseholdVaultModel.isCondition(I)Z -/
theorem dX9_isCondition_0 : decode cX9_isCondition 0 = .ok (.iload_n 1, 1) := by decide +kernel
theorem dX9_isCondition_1 : decode cX9_isCondition 1 = .ok (.i2l, 1) := by decide +kernel
theorem dX9_isCondition_2 : decode cX9_isCondition 2 = .ok (.lconst 0, 1) := by decide +kernel
theorem dX9_isCondition_3 : decode cX9_isCondition 3 = .ok (.aload_n 0, 1) := by decide +kernel
theorem dX9_isCondition_4 : decode cX9_isCondition 4 = .ok (.getfield 147, 3) := by decide +kernel
theorem dX9_isCondition_7 : decode cX9_isCondition 7 = .ok (.iconst 1, 1) := by decide +kernel
theorem dX9_isCondition_8 : decode cX9_isCondition 8 = .ok (.isub, 1) := by decide +kernel
theorem dX9_isCondition_9 : decode cX9_isCondition 9 = .ok (.i2l, 1) := by decide +kernel
theorem dX9_isCondition_10 : decode cX9_isCondition 10 = .ok (.invokestatic 140, 3) := by decide +kernel
theorem dX9_isCondition_13 : decode cX9_isCondition 13 = .ok (.ireturn, 1) := by decide +kernel
def f_X9_isCondition (a0 a1 : Int) (H : PH) : RO := vm 9 a0 H <|
  (ld 25 H a0 18).bind fun x1 => (f_X9_in a1 0 (w32 (x1 - 1)) H).bind fun z2 => zr z2.1 z2.2
set_option maxHeartbeats 4000000 in
theorem m_X9_isCondition (l : Launch) (a0 a1 : Int) (H : PH) (rr : Int) (HH : PH) (h : f_X9_isCondition a0 a1 H = some (rr, HH)) : CT l yX9_isCondition cX9_isCondition 2 (some .boolean) 1 25 [vr a0, vi a1] H (some (vi rr)) HH := by
  refine CT.of RX9 (by decide) rfl [some (vr a0), some (vi a1)] rfl rfl ?_
  intro E F q hn hf hl hm
  unfold f_X9_isCondition at h
  obtain ⟨hv, h⟩ := vm_spec h
  refine pw_iload_n (pc := 0) F dX9_isCondition_0 rfl ?_
  refine pw_i2l (pc := 1) F dX9_isCondition_1 ?_
  refine pw_lconst (pc := 2) F 0 dX9_isCondition_2 (by decide) ?_
  refine pw_aload_n (pc := 3) F dX9_isCondition_3 rfl ?_
  obtain ⟨x1, ex1, h⟩ := bnd h
  refine pw_get (pc := 4) F 9 18 147 (by decide) (by decide) g_98b4b1c18b inl_9 0 rfl dX9_isCondition_4 ex1 ?_
  refine pw_iconst (pc := 7) F 1 dX9_isCondition_7 (by decide) ?_
  refine pw_isub (pc := 8) F dX9_isCondition_8 ?_
  refine pw_i2l (pc := 9) F dX9_isCondition_9 ?_
  obtain ⟨z2, ez2, h⟩ := bnd h
  refine pw_callS (pc := 10) (as := [vl a1, vl 0, vl (w32 (x1 - 1))]) (st := []) (r := (some (vi z2.1))) F 140 (fun l => m_X9_in l a1 0 (w32 (x1 - 1)) H z2.1 z2.2 ez2) g_0174c906e2 g_3fadeb3198 g_2759d91faa g_c0c30bc7de hd_X9_in (rm_ok hf hl (by decide) (by decide)) rfl dX9_isCondition_10 rfl (stk' := [vi z2.1]) rfl ?_
  obtain ⟨hz, h⟩ := zr_spec h
  cases h
  exact pw_zret (pc := 13) F q hz dX9_isCondition_13
/-! HouseholdVaultModel.place(III)I -/
theorem dX9_place_0 : decode cX9_place 0 = .ok (.bipush 24, 2) := by decide +kernel
theorem dX9_place_2 : decode cX9_place 2 = .ok (.iload_n 0, 1) := by decide +kernel
theorem dX9_place_3 : decode cX9_place 3 = .ok (.imul, 1) := by decide +kernel
theorem dX9_place_4 : decode cX9_place 4 = .ok (.iload_n 1, 1) := by decide +kernel
theorem dX9_place_5 : decode cX9_place 5 = .ok (.iadd, 1) := by decide +kernel
theorem dX9_place_6 : decode cX9_place 6 = .ok (.bipush 6, 2) := by decide +kernel
theorem dX9_place_8 : decode cX9_place 8 = .ok (.imul, 1) := by decide +kernel
theorem dX9_place_9 : decode cX9_place 9 = .ok (.iload_n 2, 1) := by decide +kernel
theorem dX9_place_10 : decode cX9_place 10 = .ok (.iadd, 1) := by decide +kernel
theorem dX9_place_11 : decode cX9_place 11 = .ok (.ireturn, 1) := by decide +kernel
def f_X9_place (a0 a1 a2 : Int) (H : PH) : RO :=
  some ((w32 ((w32 ((w32 ((w32 (24 * a0)) + a1)) * 6)) + a2)), H)
set_option maxHeartbeats 4000000 in
theorem m_X9_place (l : Launch) (a0 a1 a2 : Int) (H : PH) (rr : Int) (HH : PH) (h : f_X9_place a0 a1 a2 H = some (rr, HH)) : CT l yX9_place cX9_place 3 (some .int) 0 0 [vi a0, vi a1, vi a2] H (some (vi rr)) HH := by
  refine CT.of RX9 (by decide) rfl [some (vi a0), some (vi a1), some (vi a2)] rfl rfl ?_
  intro E F q hn hf hl hm
  unfold f_X9_place at h
  refine pw_bipush (pc := 0) F 24 dX9_place_0 (by decide) ?_
  refine pw_iload_n (pc := 2) F dX9_place_2 rfl ?_
  refine pw_imul (pc := 3) F dX9_place_3 ?_
  refine pw_iload_n (pc := 4) F dX9_place_4 rfl ?_
  refine pw_iadd (pc := 5) F dX9_place_5 ?_
  refine pw_bipush (pc := 6) F 6 dX9_place_6 (by decide) ?_
  refine pw_imul (pc := 8) F dX9_place_8 ?_
  refine pw_iload_n (pc := 9) F dX9_place_9 rfl ?_
  refine pw_iadd (pc := 10) F dX9_place_10 ?_
  cases h
  exact pw_iret (pc := 11) F q dX9_place_11
/-! HouseholdVaultModel.blank(II)V -/
theorem dX9_blank_0 : decode cX9_blank 0 = .ok (.iconst 0, 1) := by decide +kernel
theorem dX9_blank_1 : decode cX9_blank 1 = .ok (.istore_n 3, 1) := by decide +kernel
theorem dX9_blank_2 : decode cX9_blank 2 = .ok (.iload_n 3, 1) := by decide +kernel
theorem dX9_blank_3 : decode cX9_blank 3 = .ok (.bipush 6, 2) := by decide +kernel
theorem dX9_blank_5 : decode cX9_blank 5 = .ok (.if_icmp .ge 47, 3) := by decide +kernel
theorem dX9_blank_8 : decode cX9_blank 8 = .ok (.aload_n 0, 1) := by decide +kernel
theorem dX9_blank_9 : decode cX9_blank 9 = .ok (.getfield 51, 3) := by decide +kernel
theorem dX9_blank_12 : decode cX9_blank 12 = .ok (.iload_n 1, 1) := by decide +kernel
theorem dX9_blank_13 : decode cX9_blank 13 = .ok (.iload_n 2, 1) := by decide +kernel
theorem dX9_blank_14 : decode cX9_blank 14 = .ok (.iload_n 3, 1) := by decide +kernel
theorem dX9_blank_15 : decode cX9_blank 15 = .ok (.invokestatic 150, 3) := by decide +kernel
theorem dX9_blank_18 : decode cX9_blank 18 = .ok (.lconst 0, 1) := by decide +kernel
theorem dX9_blank_19 : decode cX9_blank 19 = .ok (.lastore, 1) := by decide +kernel
theorem dX9_blank_20 : decode cX9_blank 20 = .ok (.aload_n 0, 1) := by decide +kernel
theorem dX9_blank_21 : decode cX9_blank 21 = .ok (.getfield 54, 3) := by decide +kernel
theorem dX9_blank_24 : decode cX9_blank 24 = .ok (.iload_n 1, 1) := by decide +kernel
theorem dX9_blank_25 : decode cX9_blank 25 = .ok (.iload_n 2, 1) := by decide +kernel
theorem dX9_blank_26 : decode cX9_blank 26 = .ok (.iload_n 3, 1) := by decide +kernel
theorem dX9_blank_27 : decode cX9_blank 27 = .ok (.invokestatic 150, 3) := by decide +kernel
theorem dX9_blank_30 : decode cX9_blank 30 = .ok (.aload_n 0, 1) := by decide +kernel
theorem dX9_blank_31 : decode cX9_blank 31 = .ok (.getfield 7, 3) := by decide +kernel
theorem dX9_blank_34 : decode cX9_blank 34 = .ok (.iload_n 2, 1) := by decide +kernel
theorem dX9_blank_35 : decode cX9_blank 35 = .ok (.iaload, 1) := by decide +kernel
theorem dX9_blank_36 : decode cX9_blank 36 = .ok (.iconst 5, 1) := by decide +kernel
theorem dX9_blank_37 : decode cX9_blank 37 = .ok (.if_icmp .ne 7, 3) := by decide +kernel
theorem dX9_blank_40 : decode cX9_blank 40 = .ok (.iconst 0, 1) := by decide +kernel
theorem dX9_blank_41 : decode cX9_blank 41 = .ok (.goto 4, 3) := by decide +kernel
theorem dX9_blank_44 : decode cX9_blank 44 = .ok (.iconst 1, 1) := by decide +kernel
theorem dX9_blank_45 : decode cX9_blank 45 = .ok (.iastore, 1) := by decide +kernel
theorem dX9_blank_46 : decode cX9_blank 46 = .ok (.iinc 3 1, 3) := by decide +kernel
theorem dX9_blank_49 : decode cX9_blank 49 = .ok (.goto (-47), 3) := by decide +kernel
theorem dX9_blank_52 : decode cX9_blank 52 = .ok (.return_, 1) := by decide +kernel
def jX9_blank_45 (self2 : Int → PH → RO) (p0 p1 p2 p3 s0 s1 s2 : Int) (H : PH) : RO :=
  (stv 0 H s0 s1 s2).bind fun H1 => self2 (w32 (p3 + 1)) H1
set_option maxHeartbeats 4000000 in
theorem jX9_blank_45_ok {E : PE} {rr : Int} {HH : PH} (F : FX E cX9_blank RX9) (q : QE E none HH none) (hn : nLof E = 4) (hf : (roomOf E).frames = 1) (hl : (roomOf E).locals = 22) (self2 : Int → PH → RO) (p0 p1 p2 p3 s0 s1 s2 : Int) (H : PH) (ih2 : ∀ (v3 : Int) (HV : PH), self2 v3 HV = some (rr, HH) → PW E 2 [some (vr p0), some (vi p1), some (vi p2), some (vi v3)] [] HV) (h : jX9_blank_45 self2 p0 p1 p2 p3 s0 s1 s2 H = some (rr, HH)) : PW E 45 [some (vr p0), some (vi p1), some (vi p2), some (vi p3)] [vi s2, vi s1, vr s0] H := by
  unfold jX9_blank_45 at h
  obtain ⟨H1, eH1, h⟩ := bnd h
  refine pw_iast (pc := 45) F dX9_blank_45 eH1 ?_
  refine pw_iinc (pc := 46) F dX9_blank_46 rfl (lt_nl hn (by decide)) [some (vr p0), some (vi p1), some (vi p2), some (vi (w32 (p3 + 1)))] rfl (by decide) ?_
  refine pw_goto (pc := 49) F 2 dX9_blank_49 (by decide) ?_
  exact pw_mask [true, true, true, true] (ls' := [some (vr p0), some (vi p1), some (vi p2), some (vi (w32 (p3 + 1)))]) rfl (ih2 (w32 (p3 + 1)) H1 h)
def lX9_blank_2 (p0 p1 p2 : Int) (self2 : Int → PH → RO) (p3 : Int) (H : PH) : RO :=
  (if p3 ≥ 6 then some (0, H)
  else (ld 25 H p0 15).bind fun x1 => (f_X9_place p1 p2 p3 H).bind fun z2 => (stv 1 z2.2 x1 z2.1 0).bind fun H3 => (ld 25 H3 p0 16).bind fun x4 => (f_X9_place p1 p2 p3 H3).bind fun z5 => (ld 25 z5.2 p0 1).bind fun x6 => (ld 0 z5.2 x6 p2).bind fun x7 => (if x7 ≠ 5 then jX9_blank_45 self2 p0 p1 p2 p3 x4 z5.1 1 z5.2
  else jX9_blank_45 self2 p0 p1 p2 p3 x4 z5.1 0 z5.2))
set_option maxHeartbeats 4000000 in
theorem lX9_blank_2_ok {E : PE} {rr : Int} {HH : PH} (F : FX E cX9_blank RX9) (q : QE E none HH none) (hn : nLof E = 4) (hf : (roomOf E).frames = 1) (hl : (roomOf E).locals = 22) (p0 p1 p2 : Int) : ∀ (n : Nat) (p3 : Int) (H : PH), lq1 (lX9_blank_2 p0 p1 p2) n p3 H = some (rr, HH) → PW E 2 [some (vr p0), some (vi p1), some (vi p2), some (vi p3)] [] H := by
  refine lq1_ind (P := fun p3 H => PW E 2 [some (vr p0), some (vi p1), some (vi p2), some (vi p3)] [] H) ?_
  intro self2 ih2 p3 H h
  unfold lX9_blank_2 at h
  refine pw_iload_n (pc := 2) F dX9_blank_2 rfl ?_
  refine pw_bipush (pc := 3) F 6 dX9_blank_3 (by decide) ?_
  refine pw_icmp_ge (pc := 5) F 52 dX9_blank_5 (by decide) (fun hc => ?_) (fun hc => ?_)
  · have h := iteT hc h
    cases h
    exact pw_vret (pc := 52) F q dX9_blank_52
  · have h := iteF hc h
    refine pw_aload_n (pc := 8) F dX9_blank_8 rfl ?_
    obtain ⟨x1, ex1, h⟩ := bnd h
    refine pw_get (pc := 9) F 9 15 51 (by decide) (by decide) g_948f79b8fe inl_9 2 rfl dX9_blank_9 ex1 ?_
    refine pw_iload_n (pc := 12) F dX9_blank_12 rfl ?_
    refine pw_iload_n (pc := 13) F dX9_blank_13 rfl ?_
    refine pw_iload_n (pc := 14) F dX9_blank_14 rfl ?_
    obtain ⟨z2, ez2, h⟩ := bnd h
    refine pw_callS (pc := 15) (as := [vi p1, vi p2, vi p3]) (st := [vr x1]) (r := (some (vi z2.1))) F 150 (fun l => m_X9_place l p1 p2 p3 H z2.1 z2.2 ez2) g_ace1a9f84c g_ec0534314d g_2759d91faa g_205510d507 hd_X9_place (rm_ok hf hl (by decide) (by decide)) rfl dX9_blank_15 rfl (stk' := [vi z2.1, vr x1]) rfl ?_
    refine pw_lconst (pc := 18) F 0 dX9_blank_18 (by decide) ?_
    obtain ⟨H3, eH3, h⟩ := bnd h
    refine pw_last (pc := 19) F dX9_blank_19 eH3 ?_
    refine pw_aload_n (pc := 20) F dX9_blank_20 rfl ?_
    obtain ⟨x4, ex4, h⟩ := bnd h
    refine pw_get (pc := 21) F 9 16 54 (by decide) (by decide) g_fd9fcec31c inl_9 2 rfl dX9_blank_21 ex4 ?_
    refine pw_iload_n (pc := 24) F dX9_blank_24 rfl ?_
    refine pw_iload_n (pc := 25) F dX9_blank_25 rfl ?_
    refine pw_iload_n (pc := 26) F dX9_blank_26 rfl ?_
    obtain ⟨z5, ez5, h⟩ := bnd h
    refine pw_callS (pc := 27) (as := [vi p1, vi p2, vi p3]) (st := [vr x4]) (r := (some (vi z5.1))) F 150 (fun l => m_X9_place l p1 p2 p3 H3 z5.1 z5.2 ez5) g_ace1a9f84c g_ec0534314d g_2759d91faa g_205510d507 hd_X9_place (rm_ok hf hl (by decide) (by decide)) rfl dX9_blank_27 rfl (stk' := [vi z5.1, vr x4]) rfl ?_
    refine pw_aload_n (pc := 30) F dX9_blank_30 rfl ?_
    obtain ⟨x6, ex6, h⟩ := bnd h
    refine pw_get (pc := 31) F 9 1 7 (by decide) (by decide) g_a89464ec18 inl_9 2 rfl dX9_blank_31 ex6 ?_
    refine pw_iload_n (pc := 34) F dX9_blank_34 rfl ?_
    obtain ⟨x7, ex7, h⟩ := bnd h
    refine pw_iald (pc := 35) F dX9_blank_35 ex7 ?_
    refine pw_iconst (pc := 36) F 5 dX9_blank_36 (by decide) ?_
    refine pw_icmp_ne (pc := 37) F 44 dX9_blank_37 (by decide) (fun hc => ?_) (fun hc => ?_)
    · have h := iteT hc h
      refine pw_iconst (pc := 44) F 1 dX9_blank_44 (by decide) ?_
      exact pw_mask [true, true, true, true] (ls' := [some (vr p0), some (vi p1), some (vi p2), some (vi p3)]) rfl (jX9_blank_45_ok F q hn hf hl self2 p0 p1 p2 p3 x4 z5.1 1 z5.2 ih2 h)
    · have h := iteF hc h
      refine pw_iconst (pc := 40) F 0 dX9_blank_40 (by decide) ?_
      refine pw_goto (pc := 41) F 45 dX9_blank_41 (by decide) ?_
      exact pw_mask [true, true, true, true] (ls' := [some (vr p0), some (vi p1), some (vi p2), some (vi p3)]) rfl (jX9_blank_45_ok F q hn hf hl self2 p0 p1 p2 p3 x4 z5.1 0 z5.2 ih2 h)
def f_X9_blank (a0 a1 a2 : Int) (H : PH) : RO := vm 9 a0 H <|
  lq1 (lX9_blank_2 a0 a1 a2) 6000 0 H
set_option maxHeartbeats 4000000 in
theorem m_X9_blank (l : Launch) (a0 a1 a2 : Int) (H : PH) (rr : Int) (HH : PH) (h : f_X9_blank a0 a1 a2 H = some (rr, HH)) : CT l yX9_blank cX9_blank 4 none 1 22 [vr a0, vi a1, vi a2] H none HH := by
  refine CT.of RX9 (by decide) rfl [some (vr a0), some (vi a1), some (vi a2), none] rfl rfl ?_
  intro E F q hn hf hl hm
  unfold f_X9_blank at h
  obtain ⟨hv, h⟩ := vm_spec h
  refine pw_iconst (pc := 0) F 0 dX9_blank_0 (by decide) ?_
  refine pw_istore_n (pc := 1) F dX9_blank_1 (lt_nl hn (by decide)) [some (vr a0), some (vi a1), some (vi a2), some (vi 0)] rfl ?_
  exact pw_mask [true, true, true, true] (ls' := [some (vr a0), some (vi a1), some (vi a2), some (vi 0)]) rfl (lX9_blank_2_ok F q hn hf hl a0 a1 a2  6000 0 H h)
/-! HouseholdVaultModel.add(III)I -/
theorem dX9_add_0 : decode cX9_add 0 = .ok (.aload_n 0, 1) := by decide +kernel
theorem dX9_add_1 : decode cX9_add 1 = .ok (.getfield 136, 3) := by decide +kernel
theorem dX9_add_4 : decode cX9_add 4 = .ok (.istore 4, 2) := by decide +kernel
theorem dX9_add_6 : decode cX9_add 6 = .ok (.aload_n 0, 1) := by decide +kernel
theorem dX9_add_7 : decode cX9_add 7 = .ok (.getfield 7, 3) := by decide +kernel
theorem dX9_add_10 : decode cX9_add 10 = .ok (.iload 4, 2) := by decide +kernel
theorem dX9_add_12 : decode cX9_add 12 = .ok (.iload_n 1, 1) := by decide +kernel
theorem dX9_add_13 : decode cX9_add 13 = .ok (.iastore, 1) := by decide +kernel
theorem dX9_add_14 : decode cX9_add 14 = .ok (.aload_n 0, 1) := by decide +kernel
theorem dX9_add_15 : decode cX9_add 15 = .ok (.getfield 13, 3) := by decide +kernel
theorem dX9_add_18 : decode cX9_add 18 = .ok (.iload 4, 2) := by decide +kernel
theorem dX9_add_20 : decode cX9_add 20 = .ok (.iload_n 2, 1) := by decide +kernel
theorem dX9_add_21 : decode cX9_add 21 = .ok (.iastore, 1) := by decide +kernel
theorem dX9_add_22 : decode cX9_add 22 = .ok (.aload_n 0, 1) := by decide +kernel
theorem dX9_add_23 : decode cX9_add 23 = .ok (.getfield 16, 3) := by decide +kernel
theorem dX9_add_26 : decode cX9_add 26 = .ok (.iload 4, 2) := by decide +kernel
theorem dX9_add_28 : decode cX9_add 28 = .ok (.iload_n 3, 1) := by decide +kernel
theorem dX9_add_29 : decode cX9_add 29 = .ok (.iastore, 1) := by decide +kernel
theorem dX9_add_30 : decode cX9_add 30 = .ok (.aload_n 0, 1) := by decide +kernel
theorem dX9_add_31 : decode cX9_add 31 = .ok (.getfield 25, 3) := by decide +kernel
theorem dX9_add_34 : decode cX9_add 34 = .ok (.iload 4, 2) := by decide +kernel
theorem dX9_add_36 : decode cX9_add 36 = .ok (.iconst (-1), 1) := by decide +kernel
theorem dX9_add_37 : decode cX9_add 37 = .ok (.iastore, 1) := by decide +kernel
theorem dX9_add_38 : decode cX9_add 38 = .ok (.aload_n 0, 1) := by decide +kernel
theorem dX9_add_39 : decode cX9_add 39 = .ok (.dup, 1) := by decide +kernel
theorem dX9_add_40 : decode cX9_add 40 = .ok (.getfield 136, 3) := by decide +kernel
theorem dX9_add_43 : decode cX9_add 43 = .ok (.iconst 1, 1) := by decide +kernel
theorem dX9_add_44 : decode cX9_add 44 = .ok (.iadd, 1) := by decide +kernel
theorem dX9_add_45 : decode cX9_add 45 = .ok (.putfield 136, 3) := by decide +kernel
theorem dX9_add_48 : decode cX9_add 48 = .ok (.iconst 0, 1) := by decide +kernel
theorem dX9_add_49 : decode cX9_add 49 = .ok (.istore 5, 2) := by decide +kernel
theorem dX9_add_51 : decode cX9_add 51 = .ok (.iload 5, 2) := by decide +kernel
theorem dX9_add_53 : decode cX9_add 53 = .ok (.aload_n 0, 1) := by decide +kernel
theorem dX9_add_54 : decode cX9_add 54 = .ok (.getfield 144, 3) := by decide +kernel
theorem dX9_add_57 : decode cX9_add 57 = .ok (.if_icmp .ge 17, 3) := by decide +kernel
theorem dX9_add_60 : decode cX9_add 60 = .ok (.aload_n 0, 1) := by decide +kernel
theorem dX9_add_61 : decode cX9_add 61 = .ok (.iload 5, 2) := by decide +kernel
theorem dX9_add_63 : decode cX9_add 63 = .ok (.iload 4, 2) := by decide +kernel
theorem dX9_add_65 : decode cX9_add 65 = .ok (.invokevirtual 154, 3) := by decide +kernel
theorem dX9_add_68 : decode cX9_add 68 = .ok (.iinc 5 1, 3) := by decide +kernel
theorem dX9_add_71 : decode cX9_add 71 = .ok (.goto (-20), 3) := by decide +kernel
theorem dX9_add_74 : decode cX9_add 74 = .ok (.iload_n 3, 1) := by decide +kernel
theorem dX9_add_75 : decode cX9_add 75 = .ok (.ifCond .le 24, 3) := by decide +kernel
theorem dX9_add_78 : decode cX9_add 78 = .ok (.aload_n 0, 1) := by decide +kernel
theorem dX9_add_79 : decode cX9_add 79 = .ok (.getfield 87, 3) := by decide +kernel
theorem dX9_add_82 : decode cX9_add 82 = .ok (.aload_n 0, 1) := by decide +kernel
theorem dX9_add_83 : decode cX9_add 83 = .ok (.getfield 158, 3) := by decide +kernel
theorem dX9_add_86 : decode cX9_add 86 = .ok (.iload 4, 2) := by decide +kernel
theorem dX9_add_88 : decode cX9_add 88 = .ok (.iastore, 1) := by decide +kernel
theorem dX9_add_89 : decode cX9_add 89 = .ok (.aload_n 0, 1) := by decide +kernel
theorem dX9_add_90 : decode cX9_add 90 = .ok (.dup, 1) := by decide +kernel
theorem dX9_add_91 : decode cX9_add 91 = .ok (.getfield 158, 3) := by decide +kernel
theorem dX9_add_94 : decode cX9_add 94 = .ok (.iconst 1, 1) := by decide +kernel
theorem dX9_add_95 : decode cX9_add 95 = .ok (.iadd, 1) := by decide +kernel
theorem dX9_add_96 : decode cX9_add 96 = .ok (.putfield 158, 3) := by decide +kernel
theorem dX9_add_99 : decode cX9_add 99 = .ok (.iload 4, 2) := by decide +kernel
theorem dX9_add_101 : decode cX9_add 101 = .ok (.ireturn, 1) := by decide +kernel
def lX9_add_51 (p0 p3 p4 : Int) (self51 : Int → PH → RO) (p5 : Int) (H : PH) : RO :=
  (ld 25 H p0 14).bind fun x1 => (if p5 ≥ x1 then (if p3 ≤ 0 then some (p4, H)
  else (ld 25 H p0 28).bind fun x2 => (ld 25 H p0 29).bind fun x3 => (stv 0 H x2 x3 p4).bind fun H4 => (ld 25 H4 p0 29).bind fun x5 => (stv 25 H4 p0 29 (w32 (x5 + 1))).bind fun H6 => some (p4, H6))
  else (f_X9_blank p0 p5 p4 H).bind fun z7 => self51 (w32 (p5 + 1)) z7.2)
set_option maxHeartbeats 4000000 in
theorem lX9_add_51_ok {E : PE} {rr : Int} {HH : PH} (F : FX E cX9_add RX9) (q : QE E (some (vi rr)) HH (some .int)) (hn : nLof E = 6) (hf : (roomOf E).frames = 2) (hl : (roomOf E).locals = 45) (p0 p3 p4 : Int) : ∀ (n : Nat) (p5 : Int) (H : PH), lq1 (lX9_add_51 p0 p3 p4) n p5 H = some (rr, HH) → PW E 51 [some (vr p0), none, none, some (vi p3), some (vi p4), some (vi p5)] [] H := by
  refine lq1_ind (P := fun p5 H => PW E 51 [some (vr p0), none, none, some (vi p3), some (vi p4), some (vi p5)] [] H) ?_
  intro self51 ih51 p5 H h
  unfold lX9_add_51 at h
  refine pw_iload (pc := 51) F dX9_add_51 rfl ?_
  refine pw_aload_n (pc := 53) F dX9_add_53 rfl ?_
  obtain ⟨x1, ex1, h⟩ := bnd h
  refine pw_get (pc := 54) F 9 14 144 (by decide) (by decide) g_f4ed299937 inl_9 0 rfl dX9_add_54 ex1 ?_
  refine pw_icmp_ge (pc := 57) F 74 dX9_add_57 (by decide) (fun hc => ?_) (fun hc => ?_)
  · have h := iteT hc h
    refine pw_iload_n (pc := 74) F dX9_add_74 rfl ?_
    refine pw_if_le (pc := 75) F 99 dX9_add_75 (by decide) (fun hc => ?_) (fun hc => ?_)
    · have h := iteT hc h
      refine pw_iload (pc := 99) F dX9_add_99 rfl ?_
      cases h
      exact pw_iret (pc := 101) F q dX9_add_101
    · have h := iteF hc h
      refine pw_aload_n (pc := 78) F dX9_add_78 rfl ?_
      obtain ⟨x2, ex2, h⟩ := bnd h
      refine pw_get (pc := 79) F 9 28 87 (by decide) (by decide) g_4cb92a74f5 inl_9 2 rfl dX9_add_79 ex2 ?_
      refine pw_aload_n (pc := 82) F dX9_add_82 rfl ?_
      obtain ⟨x3, ex3, h⟩ := bnd h
      refine pw_get (pc := 83) F 9 29 158 (by decide) (by decide) g_e9280b5cc2 inl_9 0 rfl dX9_add_83 ex3 ?_
      refine pw_iload (pc := 86) F dX9_add_86 rfl ?_
      obtain ⟨H4, eH4, h⟩ := bnd h
      refine pw_iast (pc := 88) F dX9_add_88 eH4 ?_
      refine pw_aload_n (pc := 89) F dX9_add_89 rfl ?_
      refine pw_dup (pc := 90) F dX9_add_90 (pvne rfl) ?_
      obtain ⟨x5, ex5, h⟩ := bnd h
      refine pw_get (pc := 91) F 9 29 158 (by decide) (by decide) g_e9280b5cc2 inl_9 0 rfl dX9_add_91 ex5 ?_
      refine pw_iconst (pc := 94) F 1 dX9_add_94 (by decide) ?_
      refine pw_iadd (pc := 95) F dX9_add_95 ?_
      obtain ⟨H6, eH6, h⟩ := bnd h
      refine pw_put (pc := 96) F 9 29 158 (by decide) (by decide) g_e9280b5cc2 inl_9 rfl 0 rfl dX9_add_96 trivial eH6 ?_
      refine pw_iload (pc := 99) F dX9_add_99 rfl ?_
      cases h
      exact pw_iret (pc := 101) F q dX9_add_101
  · have h := iteF hc h
    refine pw_aload_n (pc := 60) F dX9_add_60 rfl ?_
    refine pw_iload (pc := 61) F dX9_add_61 rfl ?_
    refine pw_iload (pc := 63) F dX9_add_63 rfl ?_
    obtain ⟨z7, ez7, h⟩ := bnd h
    refine pw_callV (pc := 65) (as := [vi p5, vi p4]) (st := []) (r := none) F 154 9 (by decide) rfl (fun l => m_X9_blank l p0 p5 p4 H z7.1 z7.2 ez7) g_0a8335923d g_13467f71e4 g_aac8bd4ee9 g_2759d91faa g_df8e1135b4 hd_X9_blank (rm_ok hf hl (by decide) (by decide)) rfl (vm_spec ez7).1 dX9_add_65 rfl (stk' := []) rfl ?_
    refine pw_iinc (pc := 68) F dX9_add_68 rfl (lt_nl hn (by decide)) [some (vr p0), none, none, some (vi p3), some (vi p4), some (vi (w32 (p5 + 1)))] rfl (by decide) ?_
    refine pw_goto (pc := 71) F 51 dX9_add_71 (by decide) ?_
    exact pw_mask [true, true, true, true, true, true] (ls' := [some (vr p0), none, none, some (vi p3), some (vi p4), some (vi (w32 (p5 + 1)))]) rfl (ih51 (w32 (p5 + 1)) z7.2 h)
def f_X9_add (a0 a1 a2 a3 : Int) (H : PH) : RO := vm 9 a0 H <|
  (ld 25 H a0 0).bind fun x1 => (ld 25 H a0 1).bind fun x2 => (stv 0 H x2 x1 a1).bind fun H3 => (ld 25 H3 a0 2).bind fun x4 => (stv 0 H3 x4 x1 a2).bind fun H5 => (ld 25 H5 a0 3).bind fun x6 => (stv 0 H5 x6 x1 a3).bind fun H7 => (ld 25 H7 a0 6).bind fun x8 => (stv 0 H7 x8 x1 (-1)).bind fun H9 => (ld 25 H9 a0 0).bind fun x10 => (stv 25 H9 a0 0 (w32 (x10 + 1))).bind fun H11 => lq1 (lX9_add_51 a0 a3 x1) 6000 0 H11
set_option maxHeartbeats 4000000 in
theorem m_X9_add (l : Launch) (a0 a1 a2 a3 : Int) (H : PH) (rr : Int) (HH : PH) (h : f_X9_add a0 a1 a2 a3 H = some (rr, HH)) : CT l yX9_add cX9_add 6 (some .int) 2 45 [vr a0, vi a1, vi a2, vi a3] H (some (vi rr)) HH := by
  refine CT.of RX9 (by decide) rfl [some (vr a0), some (vi a1), some (vi a2), some (vi a3), none, none] rfl rfl ?_
  intro E F q hn hf hl hm
  unfold f_X9_add at h
  obtain ⟨hv, h⟩ := vm_spec h
  refine pw_aload_n (pc := 0) F dX9_add_0 rfl ?_
  obtain ⟨x1, ex1, h⟩ := bnd h
  refine pw_get (pc := 1) F 9 0 136 (by decide) (by decide) g_eb25be88a8 inl_9 0 rfl dX9_add_1 ex1 ?_
  refine pw_istore (pc := 4) F dX9_add_4 (lt_nl hn (by decide)) [some (vr a0), some (vi a1), some (vi a2), some (vi a3), some (vi x1), none] rfl ?_
  refine pw_aload_n (pc := 6) F dX9_add_6 rfl ?_
  obtain ⟨x2, ex2, h⟩ := bnd h
  refine pw_get (pc := 7) F 9 1 7 (by decide) (by decide) g_a89464ec18 inl_9 2 rfl dX9_add_7 ex2 ?_
  refine pw_iload (pc := 10) F dX9_add_10 rfl ?_
  refine pw_iload_n (pc := 12) F dX9_add_12 rfl ?_
  obtain ⟨H3, eH3, h⟩ := bnd h
  refine pw_iast (pc := 13) F dX9_add_13 eH3 ?_
  refine pw_aload_n (pc := 14) F dX9_add_14 rfl ?_
  obtain ⟨x4, ex4, h⟩ := bnd h
  refine pw_get (pc := 15) F 9 2 13 (by decide) (by decide) g_0c2899f53f inl_9 2 rfl dX9_add_15 ex4 ?_
  refine pw_iload (pc := 18) F dX9_add_18 rfl ?_
  refine pw_iload_n (pc := 20) F dX9_add_20 rfl ?_
  obtain ⟨H5, eH5, h⟩ := bnd h
  refine pw_iast (pc := 21) F dX9_add_21 eH5 ?_
  refine pw_aload_n (pc := 22) F dX9_add_22 rfl ?_
  obtain ⟨x6, ex6, h⟩ := bnd h
  refine pw_get (pc := 23) F 9 3 16 (by decide) (by decide) g_bd19d270ba inl_9 2 rfl dX9_add_23 ex6 ?_
  refine pw_iload (pc := 26) F dX9_add_26 rfl ?_
  refine pw_iload_n (pc := 28) F dX9_add_28 rfl ?_
  obtain ⟨H7, eH7, h⟩ := bnd h
  refine pw_iast (pc := 29) F dX9_add_29 eH7 ?_
  refine pw_aload_n (pc := 30) F dX9_add_30 rfl ?_
  obtain ⟨x8, ex8, h⟩ := bnd h
  refine pw_get (pc := 31) F 9 6 25 (by decide) (by decide) g_10019bf10f inl_9 2 rfl dX9_add_31 ex8 ?_
  refine pw_iload (pc := 34) F dX9_add_34 rfl ?_
  refine pw_iconst (pc := 36) F (-1) dX9_add_36 (by decide) ?_
  obtain ⟨H9, eH9, h⟩ := bnd h
  refine pw_iast (pc := 37) F dX9_add_37 eH9 ?_
  refine pw_aload_n (pc := 38) F dX9_add_38 rfl ?_
  refine pw_dup (pc := 39) F dX9_add_39 (pvne rfl) ?_
  obtain ⟨x10, ex10, h⟩ := bnd h
  refine pw_get (pc := 40) F 9 0 136 (by decide) (by decide) g_eb25be88a8 inl_9 0 rfl dX9_add_40 ex10 ?_
  refine pw_iconst (pc := 43) F 1 dX9_add_43 (by decide) ?_
  refine pw_iadd (pc := 44) F dX9_add_44 ?_
  obtain ⟨H11, eH11, h⟩ := bnd h
  refine pw_put (pc := 45) F 9 0 136 (by decide) (by decide) g_eb25be88a8 inl_9 rfl 0 rfl dX9_add_45 trivial eH11 ?_
  refine pw_iconst (pc := 48) F 0 dX9_add_48 (by decide) ?_
  refine pw_istore (pc := 49) F dX9_add_49 (lt_nl hn (by decide)) [some (vr a0), some (vi a1), some (vi a2), some (vi a3), some (vi x1), some (vi 0)] rfl ?_
  exact pw_mask [true, false, false, true, true, true] (ls' := [some (vr a0), none, none, some (vi a3), some (vi x1), some (vi 0)]) rfl (lX9_add_51_ok F q hn hf hl a0 a3 x1  6000 0 H11 h)
/-! HouseholdVaultModel.question(II)I -/
theorem dX9_question_0 : decode cX9_question 0 = .ok (.iload_n 1, 1) := by decide +kernel
theorem dX9_question_1 : decode cX9_question 1 = .ok (.i2l, 1) := by decide +kernel
theorem dX9_question_2 : decode cX9_question 2 = .ok (.lconst 0, 1) := by decide +kernel
theorem dX9_question_3 : decode cX9_question 3 = .ok (.ldc2_w 161, 3) := by decide +kernel
theorem dX9_question_6 : decode cX9_question 6 = .ok (.invokestatic 140, 3) := by decide +kernel
theorem dX9_question_9 : decode cX9_question 9 = .ok (.ifCond .eq 16, 3) := by decide +kernel
theorem dX9_question_12 : decode cX9_question 12 = .ok (.iload_n 2, 1) := by decide +kernel
theorem dX9_question_13 : decode cX9_question 13 = .ok (.iconst (-1), 1) := by decide +kernel
theorem dX9_question_14 : decode cX9_question 14 = .ok (.if_icmp .eq 13, 3) := by decide +kernel
theorem dX9_question_17 : decode cX9_question 17 = .ok (.aload_n 0, 1) := by decide +kernel
theorem dX9_question_18 : decode cX9_question 18 = .ok (.iload_n 2, 1) := by decide +kernel
theorem dX9_question_19 : decode cX9_question 19 = .ok (.invokevirtual 163, 3) := by decide +kernel
theorem dX9_question_22 : decode cX9_question 22 = .ok (.ifCond .ne 5, 3) := by decide +kernel
theorem dX9_question_25 : decode cX9_question 25 = .ok (.iconst (-1), 1) := by decide +kernel
theorem dX9_question_26 : decode cX9_question 26 = .ok (.ireturn, 1) := by decide +kernel
theorem dX9_question_27 : decode cX9_question 27 = .ok (.iload_n 2, 1) := by decide +kernel
theorem dX9_question_28 : decode cX9_question 28 = .ok (.ifCond .lt 21, 3) := by decide +kernel
theorem dX9_question_31 : decode cX9_question 31 = .ok (.aload_n 0, 1) := by decide +kernel
theorem dX9_question_32 : decode cX9_question 32 = .ok (.getfield 7, 3) := by decide +kernel
theorem dX9_question_35 : decode cX9_question 35 = .ok (.iload_n 2, 1) := by decide +kernel
theorem dX9_question_36 : decode cX9_question 36 = .ok (.iaload, 1) := by decide +kernel
theorem dX9_question_37 : decode cX9_question 37 = .ok (.iconst 5, 1) := by decide +kernel
theorem dX9_question_38 : decode cX9_question 38 = .ok (.if_icmp .ne 8, 3) := by decide +kernel
theorem dX9_question_41 : decode cX9_question 41 = .ok (.iload_n 1, 1) := by decide +kernel
theorem dX9_question_42 : decode cX9_question 42 = .ok (.iconst 5, 1) := by decide +kernel
theorem dX9_question_43 : decode cX9_question 43 = .ok (.if_icmp .ne 6, 3) := by decide +kernel
theorem dX9_question_46 : decode cX9_question 46 = .ok (.bipush (-2), 2) := by decide +kernel
theorem dX9_question_48 : decode cX9_question 48 = .ok (.ireturn, 1) := by decide +kernel
theorem dX9_question_49 : decode cX9_question 49 = .ok (.aload_n 0, 1) := by decide +kernel
theorem dX9_question_50 : decode cX9_question 50 = .ok (.getfield 136, 3) := by decide +kernel
theorem dX9_question_53 : decode cX9_question 53 = .ok (.bipush 24, 2) := by decide +kernel
theorem dX9_question_55 : decode cX9_question 55 = .ok (.if_icmp .ne 8, 3) := by decide +kernel
theorem dX9_question_58 : decode cX9_question 58 = .ok (.bipush (-4), 2) := by decide +kernel
theorem dX9_question_60 : decode cX9_question 60 = .ok (.goto 10, 3) := by decide +kernel
theorem dX9_question_63 : decode cX9_question 63 = .ok (.aload_n 0, 1) := by decide +kernel
theorem dX9_question_64 : decode cX9_question 64 = .ok (.iload_n 1, 1) := by decide +kernel
theorem dX9_question_65 : decode cX9_question 65 = .ok (.iload_n 2, 1) := by decide +kernel
theorem dX9_question_66 : decode cX9_question 66 = .ok (.iconst 0, 1) := by decide +kernel
theorem dX9_question_67 : decode cX9_question 67 = .ok (.invokevirtual 167, 3) := by decide +kernel
theorem dX9_question_70 : decode cX9_question 70 = .ok (.ireturn, 1) := by decide +kernel
def jX9_question_49 (p0 p1 p2 : Int) (H : PH) : RO :=
  (ld 25 H p0 0).bind fun x1 => (if x1 ≠ 24 then (f_X9_add p0 p1 p2 0 H).bind fun z2 => some (z2.1, z2.2)
  else some ((-4), H))
set_option maxHeartbeats 4000000 in
theorem jX9_question_49_ok {E : PE} {rr : Int} {HH : PH} (F : FX E cX9_question RX9) (q : QE E (some (vi rr)) HH (some .int)) (hn : nLof E = 3) (hf : (roomOf E).frames = 3) (hl : (roomOf E).locals = 70) (p0 p1 p2 : Int) (H : PH) (h : jX9_question_49 p0 p1 p2 H = some (rr, HH)) : PW E 49 [some (vr p0), some (vi p1), some (vi p2)] [] H := by
  unfold jX9_question_49 at h
  refine pw_aload_n (pc := 49) F dX9_question_49 rfl ?_
  obtain ⟨x1, ex1, h⟩ := bnd h
  refine pw_get (pc := 50) F 9 0 136 (by decide) (by decide) g_eb25be88a8 inl_9 0 rfl dX9_question_50 ex1 ?_
  refine pw_bipush (pc := 53) F 24 dX9_question_53 (by decide) ?_
  refine pw_icmp_ne (pc := 55) F 63 dX9_question_55 (by decide) (fun hc => ?_) (fun hc => ?_)
  · have h := iteT hc h
    refine pw_aload_n (pc := 63) F dX9_question_63 rfl ?_
    refine pw_iload_n (pc := 64) F dX9_question_64 rfl ?_
    refine pw_iload_n (pc := 65) F dX9_question_65 rfl ?_
    refine pw_iconst (pc := 66) F 0 dX9_question_66 (by decide) ?_
    obtain ⟨z2, ez2, h⟩ := bnd h
    refine pw_callV (pc := 67) (as := [vi p1, vi p2, vi 0]) (st := []) (r := (some (vi z2.1))) F 167 9 (by decide) rfl (fun l => m_X9_add l p0 p1 p2 0 H z2.1 z2.2 ez2) g_4e37b5869d g_00ef69ae41 g_862b2bfc9b g_2759d91faa g_c8224d232d hd_X9_add (rm_ok hf hl (by decide) (by decide)) rfl (vm_spec ez2).1 dX9_question_67 rfl (stk' := [vi z2.1]) rfl ?_
    cases h
    exact pw_iret (pc := 70) F q dX9_question_70
  · have h := iteF hc h
    refine pw_bipush (pc := 58) F (-4) dX9_question_58 (by decide) ?_
    refine pw_goto (pc := 60) F 70 dX9_question_60 (by decide) ?_
    cases h
    exact pw_iret (pc := 70) F q dX9_question_70
def jX9_question_27 (p0 p1 p2 : Int) (H : PH) : RO :=
  (if p2 < 0 then jX9_question_49 p0 p1 p2 H
  else (ld 25 H p0 1).bind fun x1 => (ld 0 H x1 p2).bind fun x2 => (if x2 ≠ 5 then some ((-2), H)
  else (if p1 ≠ 5 then jX9_question_49 p0 p1 p2 H
  else some ((-2), H))))
set_option maxHeartbeats 4000000 in
theorem jX9_question_27_ok {E : PE} {rr : Int} {HH : PH} (F : FX E cX9_question RX9) (q : QE E (some (vi rr)) HH (some .int)) (hn : nLof E = 3) (hf : (roomOf E).frames = 3) (hl : (roomOf E).locals = 70) (p0 p1 p2 : Int) (H : PH) (h : jX9_question_27 p0 p1 p2 H = some (rr, HH)) : PW E 27 [some (vr p0), some (vi p1), some (vi p2)] [] H := by
  unfold jX9_question_27 at h
  refine pw_iload_n (pc := 27) F dX9_question_27 rfl ?_
  refine pw_if_lt (pc := 28) F 49 dX9_question_28 (by decide) (fun hc => ?_) (fun hc => ?_)
  · have h := iteT hc h
    exact pw_mask [true, true, true] (ls' := [some (vr p0), some (vi p1), some (vi p2)]) rfl (jX9_question_49_ok F q hn hf hl p0 p1 p2 H h)
  · have h := iteF hc h
    refine pw_aload_n (pc := 31) F dX9_question_31 rfl ?_
    obtain ⟨x1, ex1, h⟩ := bnd h
    refine pw_get (pc := 32) F 9 1 7 (by decide) (by decide) g_a89464ec18 inl_9 2 rfl dX9_question_32 ex1 ?_
    refine pw_iload_n (pc := 35) F dX9_question_35 rfl ?_
    obtain ⟨x2, ex2, h⟩ := bnd h
    refine pw_iald (pc := 36) F dX9_question_36 ex2 ?_
    refine pw_iconst (pc := 37) F 5 dX9_question_37 (by decide) ?_
    refine pw_icmp_ne (pc := 38) F 46 dX9_question_38 (by decide) (fun hc => ?_) (fun hc => ?_)
    · have h := iteT hc h
      refine pw_bipush (pc := 46) F (-2) dX9_question_46 (by decide) ?_
      cases h
      exact pw_iret (pc := 48) F q dX9_question_48
    · have h := iteF hc h
      refine pw_iload_n (pc := 41) F dX9_question_41 rfl ?_
      refine pw_iconst (pc := 42) F 5 dX9_question_42 (by decide) ?_
      refine pw_icmp_ne (pc := 43) F 49 dX9_question_43 (by decide) (fun hc => ?_) (fun hc => ?_)
      · have h := iteT hc h
        exact pw_mask [true, true, true] (ls' := [some (vr p0), some (vi p1), some (vi p2)]) rfl (jX9_question_49_ok F q hn hf hl p0 p1 p2 H h)
      · have h := iteF hc h
        refine pw_bipush (pc := 46) F (-2) dX9_question_46 (by decide) ?_
        cases h
        exact pw_iret (pc := 48) F q dX9_question_48
def f_X9_question (a0 a1 a2 : Int) (H : PH) : RO := vm 9 a0 H <|
  (f_X9_in a1 0 5 H).bind fun z1 => (if z1.1 = 0 then some ((-1), z1.2)
  else (if a2 = (-1) then jX9_question_27 a0 a1 a2 z1.2
  else (f_X9_isQuestion a0 a2 z1.2).bind fun z2 => (if z2.1 ≠ 0 then jX9_question_27 a0 a1 a2 z2.2
  else some ((-1), z2.2))))
set_option maxHeartbeats 4000000 in
theorem m_X9_question (l : Launch) (a0 a1 a2 : Int) (H : PH) (rr : Int) (HH : PH) (h : f_X9_question a0 a1 a2 H = some (rr, HH)) : CT l yX9_question cX9_question 3 (some .int) 3 70 [vr a0, vi a1, vi a2] H (some (vi rr)) HH := by
  refine CT.of RX9 (by decide) rfl [some (vr a0), some (vi a1), some (vi a2)] rfl rfl ?_
  intro E F q hn hf hl hm
  unfold f_X9_question at h
  obtain ⟨hv, h⟩ := vm_spec h
  refine pw_iload_n (pc := 0) F dX9_question_0 rfl ?_
  refine pw_i2l (pc := 1) F dX9_question_1 ?_
  refine pw_lconst (pc := 2) F 0 dX9_question_2 (by decide) ?_
  refine pw_ldc2 (pc := 3) F 5 g_f5e836366d dX9_question_3 (by decide) ?_
  obtain ⟨z1, ez1, h⟩ := bnd h
  refine pw_callS (pc := 6) (as := [vl a1, vl 0, vl 5]) (st := []) (r := (some (vi z1.1))) F 140 (fun l => m_X9_in l a1 0 5 H z1.1 z1.2 ez1) g_0174c906e2 g_3fadeb3198 g_2759d91faa g_c0c30bc7de hd_X9_in (rm_ok hf hl (by decide) (by decide)) rfl dX9_question_6 rfl (stk' := [vi z1.1]) rfl ?_
  refine pw_if_eq (pc := 9) F 25 dX9_question_9 (by decide) (fun hc => ?_) (fun hc => ?_)
  · have h := iteT hc h
    refine pw_iconst (pc := 25) F (-1) dX9_question_25 (by decide) ?_
    cases h
    exact pw_iret (pc := 26) F q dX9_question_26
  · have h := iteF hc h
    refine pw_iload_n (pc := 12) F dX9_question_12 rfl ?_
    refine pw_iconst (pc := 13) F (-1) dX9_question_13 (by decide) ?_
    refine pw_icmp_eq (pc := 14) F 27 dX9_question_14 (by decide) (fun hc => ?_) (fun hc => ?_)
    · have h := iteT hc h
      exact pw_mask [true, true, true] (ls' := [some (vr a0), some (vi a1), some (vi a2)]) rfl (jX9_question_27_ok F q hn hf hl a0 a1 a2 z1.2 h)
    · have h := iteF hc h
      refine pw_aload_n (pc := 17) F dX9_question_17 rfl ?_
      refine pw_iload_n (pc := 18) F dX9_question_18 rfl ?_
      obtain ⟨z2, ez2, h⟩ := bnd h
      refine pw_callV (pc := 19) (as := [vi a2]) (st := []) (r := (some (vi z2.1))) F 163 9 (by decide) rfl (fun l => m_X9_isQuestion l a0 a2 z1.2 z2.1 z2.2 ez2) g_26236cf357 g_504499df23 g_65a9490ac1 g_2759d91faa g_4f2165d1ca hd_X9_isQuestion (rm_ok hf hl (by decide) (by decide)) rfl (vm_spec ez2).1 dX9_question_19 rfl (stk' := [vi z2.1]) rfl ?_
      refine pw_if_ne (pc := 22) F 27 dX9_question_22 (by decide) (fun hc => ?_) (fun hc => ?_)
      · have h := iteT hc h
        exact pw_mask [true, true, true] (ls' := [some (vr a0), some (vi a1), some (vi a2)]) rfl (jX9_question_27_ok F q hn hf hl a0 a1 a2 z2.2 h)
      · have h := iteF hc h
        refine pw_iconst (pc := 25) F (-1) dX9_question_25 (by decide) ?_
        cases h
        exact pw_iret (pc := 26) F q dX9_question_26
/-! HouseholdVaultModel.codeNumber(IJ)I -/
theorem dX9_codeNumber_0 : decode cX9_codeNumber 0 = .ok (.iconst (-1), 1) := by decide +kernel
theorem dX9_codeNumber_1 : decode cX9_codeNumber 1 = .ok (.istore 4, 2) := by decide +kernel
theorem dX9_codeNumber_3 : decode cX9_codeNumber 3 = .ok (.iconst 0, 1) := by decide +kernel
theorem dX9_codeNumber_4 : decode cX9_codeNumber 4 = .ok (.istore 5, 2) := by decide +kernel
theorem dX9_codeNumber_6 : decode cX9_codeNumber 6 = .ok (.iload 5, 2) := by decide +kernel
theorem dX9_codeNumber_8 : decode cX9_codeNumber 8 = .ok (.aload_n 0, 1) := by decide +kernel
theorem dX9_codeNumber_9 : decode cX9_codeNumber 9 = .ok (.getfield 35, 3) := by decide +kernel
theorem dX9_codeNumber_12 : decode cX9_codeNumber 12 = .ok (.iload_n 1, 1) := by decide +kernel
theorem dX9_codeNumber_13 : decode cX9_codeNumber 13 = .ok (.iaload, 1) := by decide +kernel
theorem dX9_codeNumber_14 : decode cX9_codeNumber 14 = .ok (.if_icmp .ge 36, 3) := by decide +kernel
theorem dX9_codeNumber_17 : decode cX9_codeNumber 17 = .ok (.aload_n 0, 1) := by decide +kernel
theorem dX9_codeNumber_18 : decode cX9_codeNumber 18 = .ok (.getfield 32, 3) := by decide +kernel
theorem dX9_codeNumber_21 : decode cX9_codeNumber 21 = .ok (.bipush 8, 2) := by decide +kernel
theorem dX9_codeNumber_23 : decode cX9_codeNumber 23 = .ok (.iload_n 1, 1) := by decide +kernel
theorem dX9_codeNumber_24 : decode cX9_codeNumber 24 = .ok (.imul, 1) := by decide +kernel
theorem dX9_codeNumber_25 : decode cX9_codeNumber 25 = .ok (.iload 5, 2) := by decide +kernel
theorem dX9_codeNumber_27 : decode cX9_codeNumber 27 = .ok (.iadd, 1) := by decide +kernel
theorem dX9_codeNumber_28 : decode cX9_codeNumber 28 = .ok (.iaload, 1) := by decide +kernel
theorem dX9_codeNumber_29 : decode cX9_codeNumber 29 = .ok (.i2l, 1) := by decide +kernel
theorem dX9_codeNumber_30 : decode cX9_codeNumber 30 = .ok (.lload_n 2, 1) := by decide +kernel
theorem dX9_codeNumber_31 : decode cX9_codeNumber 31 = .ok (.lcmp, 1) := by decide +kernel
theorem dX9_codeNumber_32 : decode cX9_codeNumber 32 = .ok (.ifCond .ne 8, 3) := by decide +kernel
theorem dX9_codeNumber_35 : decode cX9_codeNumber 35 = .ok (.iload 5, 2) := by decide +kernel
theorem dX9_codeNumber_37 : decode cX9_codeNumber 37 = .ok (.goto 5, 3) := by decide +kernel
theorem dX9_codeNumber_40 : decode cX9_codeNumber 40 = .ok (.iload 4, 2) := by decide +kernel
theorem dX9_codeNumber_42 : decode cX9_codeNumber 42 = .ok (.istore 4, 2) := by decide +kernel
theorem dX9_codeNumber_44 : decode cX9_codeNumber 44 = .ok (.iinc 5 1, 3) := by decide +kernel
theorem dX9_codeNumber_47 : decode cX9_codeNumber 47 = .ok (.goto (-41), 3) := by decide +kernel
theorem dX9_codeNumber_50 : decode cX9_codeNumber 50 = .ok (.iload 4, 2) := by decide +kernel
theorem dX9_codeNumber_52 : decode cX9_codeNumber 52 = .ok (.ireturn, 1) := by decide +kernel
def jX9_codeNumber_42 (self6 : Int → Int → PH → RO) (p0 p1 p2 p5 s0 : Int) (H : PH) : RO :=
  self6 s0 (w32 (p5 + 1)) H
set_option maxHeartbeats 4000000 in
theorem jX9_codeNumber_42_ok {E : PE} {rr : Int} {HH : PH} (F : FX E cX9_codeNumber RX9) (q : QE E (some (vi rr)) HH (some .int)) (hn : nLof E = 6) (hf : (roomOf E).frames = 0) (hl : (roomOf E).locals = 0) (self6 : Int → Int → PH → RO) (p0 p1 p2 p5 s0 : Int) (H : PH) (ih6 : ∀ (v4 v5 : Int) (HV : PH), self6 v4 v5 HV = some (rr, HH) → PW E 6 [some (vr p0), some (vi p1), some (vl p2), none, some (vi v4), some (vi v5)] [] HV) (h : jX9_codeNumber_42 self6 p0 p1 p2 p5 s0 H = some (rr, HH)) : PW E 42 [some (vr p0), some (vi p1), some (vl p2), none, none, some (vi p5)] [vi s0] H := by
  unfold jX9_codeNumber_42 at h
  refine pw_istore (pc := 42) F dX9_codeNumber_42 (lt_nl hn (by decide)) [some (vr p0), some (vi p1), some (vl p2), none, some (vi s0), some (vi p5)] rfl ?_
  refine pw_iinc (pc := 44) F dX9_codeNumber_44 rfl (lt_nl hn (by decide)) [some (vr p0), some (vi p1), some (vl p2), none, some (vi s0), some (vi (w32 (p5 + 1)))] rfl (by decide) ?_
  refine pw_goto (pc := 47) F 6 dX9_codeNumber_47 (by decide) ?_
  exact pw_mask [true, true, true, true, true, true] (ls' := [some (vr p0), some (vi p1), some (vl p2), none, some (vi s0), some (vi (w32 (p5 + 1)))]) rfl (ih6 s0 (w32 (p5 + 1)) H h)
def lX9_codeNumber_6 (p0 p1 p2 : Int) (self6 : Int → Int → PH → RO) (p4 p5 : Int) (H : PH) : RO :=
  (ld 25 H p0 9).bind fun x1 => (ld 0 H x1 p1).bind fun x2 => (if p5 ≥ x2 then some (p4, H)
  else (ld 25 H p0 8).bind fun x3 => (ld 0 H x3 (w32 ((w32 (8 * p1)) + p5))).bind fun x4 => (if (lc x4 p2) ≠ 0 then jX9_codeNumber_42 self6 p0 p1 p2 p5 p4 H
  else jX9_codeNumber_42 self6 p0 p1 p2 p5 p5 H))
set_option maxHeartbeats 4000000 in
theorem lX9_codeNumber_6_ok {E : PE} {rr : Int} {HH : PH} (F : FX E cX9_codeNumber RX9) (q : QE E (some (vi rr)) HH (some .int)) (hn : nLof E = 6) (hf : (roomOf E).frames = 0) (hl : (roomOf E).locals = 0) (p0 p1 p2 : Int) : ∀ (n : Nat) (p4 p5 : Int) (H : PH), lq2 (lX9_codeNumber_6 p0 p1 p2) n p4 p5 H = some (rr, HH) → PW E 6 [some (vr p0), some (vi p1), some (vl p2), none, some (vi p4), some (vi p5)] [] H := by
  refine lq2_ind (P := fun p4 p5 H => PW E 6 [some (vr p0), some (vi p1), some (vl p2), none, some (vi p4), some (vi p5)] [] H) ?_
  intro self6 ih6 p4 p5 H h
  unfold lX9_codeNumber_6 at h
  refine pw_iload (pc := 6) F dX9_codeNumber_6 rfl ?_
  refine pw_aload_n (pc := 8) F dX9_codeNumber_8 rfl ?_
  obtain ⟨x1, ex1, h⟩ := bnd h
  refine pw_get (pc := 9) F 9 9 35 (by decide) (by decide) g_364d877551 inl_9 2 rfl dX9_codeNumber_9 ex1 ?_
  refine pw_iload_n (pc := 12) F dX9_codeNumber_12 rfl ?_
  obtain ⟨x2, ex2, h⟩ := bnd h
  refine pw_iald (pc := 13) F dX9_codeNumber_13 ex2 ?_
  refine pw_icmp_ge (pc := 14) F 50 dX9_codeNumber_14 (by decide) (fun hc => ?_) (fun hc => ?_)
  · have h := iteT hc h
    refine pw_iload (pc := 50) F dX9_codeNumber_50 rfl ?_
    cases h
    exact pw_iret (pc := 52) F q dX9_codeNumber_52
  · have h := iteF hc h
    refine pw_aload_n (pc := 17) F dX9_codeNumber_17 rfl ?_
    obtain ⟨x3, ex3, h⟩ := bnd h
    refine pw_get (pc := 18) F 9 8 32 (by decide) (by decide) g_8263c80882 inl_9 2 rfl dX9_codeNumber_18 ex3 ?_
    refine pw_bipush (pc := 21) F 8 dX9_codeNumber_21 (by decide) ?_
    refine pw_iload_n (pc := 23) F dX9_codeNumber_23 rfl ?_
    refine pw_imul (pc := 24) F dX9_codeNumber_24 ?_
    refine pw_iload (pc := 25) F dX9_codeNumber_25 rfl ?_
    refine pw_iadd (pc := 27) F dX9_codeNumber_27 ?_
    obtain ⟨x4, ex4, h⟩ := bnd h
    refine pw_iald (pc := 28) F dX9_codeNumber_28 ex4 ?_
    refine pw_i2l (pc := 29) F dX9_codeNumber_29 ?_
    refine pw_lload_n (pc := 30) F dX9_codeNumber_30 rfl ?_
    refine pw_lcmp (pc := 31) F dX9_codeNumber_31 ?_
    refine pw_if_ne (pc := 32) F 40 dX9_codeNumber_32 (by decide) (fun hc => ?_) (fun hc => ?_)
    · have h := iteT hc h
      refine pw_iload (pc := 40) F dX9_codeNumber_40 rfl ?_
      exact pw_mask [true, true, true, true, false, true] (ls' := [some (vr p0), some (vi p1), some (vl p2), none, none, some (vi p5)]) rfl (jX9_codeNumber_42_ok F q hn hf hl self6 p0 p1 p2 p5 p4 H ih6 h)
    · have h := iteF hc h
      refine pw_iload (pc := 35) F dX9_codeNumber_35 rfl ?_
      refine pw_goto (pc := 37) F 42 dX9_codeNumber_37 (by decide) ?_
      exact pw_mask [true, true, true, true, false, true] (ls' := [some (vr p0), some (vi p1), some (vl p2), none, none, some (vi p5)]) rfl (jX9_codeNumber_42_ok F q hn hf hl self6 p0 p1 p2 p5 p5 H ih6 h)
def f_X9_codeNumber (a0 a1 a2 : Int) (H : PH) : RO := vm 9 a0 H <|
  lq2 (lX9_codeNumber_6 a0 a1 a2) 6000 (-1) 0 H
set_option maxHeartbeats 4000000 in
theorem m_X9_codeNumber (l : Launch) (a0 a1 a2 : Int) (H : PH) (rr : Int) (HH : PH) (h : f_X9_codeNumber a0 a1 a2 H = some (rr, HH)) : CT l yX9_codeNumber cX9_codeNumber 6 (some .int) 0 0 [vr a0, vi a1, vl a2] H (some (vi rr)) HH := by
  refine CT.of RX9 (by decide) rfl [some (vr a0), some (vi a1), some (vl a2), none, none, none] rfl rfl ?_
  intro E F q hn hf hl hm
  unfold f_X9_codeNumber at h
  obtain ⟨hv, h⟩ := vm_spec h
  refine pw_iconst (pc := 0) F (-1) dX9_codeNumber_0 (by decide) ?_
  refine pw_istore (pc := 1) F dX9_codeNumber_1 (lt_nl hn (by decide)) [some (vr a0), some (vi a1), some (vl a2), none, some (vi (-1)), none] rfl ?_
  refine pw_iconst (pc := 3) F 0 dX9_codeNumber_3 (by decide) ?_
  refine pw_istore (pc := 4) F dX9_codeNumber_4 (lt_nl hn (by decide)) [some (vr a0), some (vi a1), some (vl a2), none, some (vi (-1)), some (vi 0)] rfl ?_
  exact pw_mask [true, true, true, true, true, true] (ls' := [some (vr a0), some (vi a1), some (vl a2), none, some (vi (-1)), some (vi 0)]) rfl (lX9_codeNumber_6_ok F q hn hf hl a0 a1 a2  6000 (-1) 0 H h)
/-! HouseholdVaultModel.code(II)I -/
theorem dX9_code_0 : decode cX9_code 0 = .ok (.aload_n 0, 1) := by decide +kernel
theorem dX9_code_1 : decode cX9_code 1 = .ok (.iload_n 1, 1) := by decide +kernel
theorem dX9_code_2 : decode cX9_code 2 = .ok (.invokevirtual 163, 3) := by decide +kernel
theorem dX9_code_5 : decode cX9_code 5 = .ok (.ifCond .eq 17, 3) := by decide +kernel
theorem dX9_code_8 : decode cX9_code 8 = .ok (.iload_n 2, 1) := by decide +kernel
theorem dX9_code_9 : decode cX9_code 9 = .ok (.i2l, 1) := by decide +kernel
theorem dX9_code_10 : decode cX9_code 10 = .ok (.ldc2_w 170, 3) := by decide +kernel
theorem dX9_code_13 : decode cX9_code 13 = .ok (.ldc2_w 172, 3) := by decide +kernel
theorem dX9_code_16 : decode cX9_code 16 = .ok (.invokestatic 140, 3) := by decide +kernel
theorem dX9_code_19 : decode cX9_code 19 = .ok (.ifCond .ne 5, 3) := by decide +kernel
theorem dX9_code_22 : decode cX9_code 22 = .ok (.iconst (-1), 1) := by decide +kernel
theorem dX9_code_23 : decode cX9_code 23 = .ok (.ireturn, 1) := by decide +kernel
theorem dX9_code_24 : decode cX9_code 24 = .ok (.aload_n 0, 1) := by decide +kernel
theorem dX9_code_25 : decode cX9_code 25 = .ok (.getfield 7, 3) := by decide +kernel
theorem dX9_code_28 : decode cX9_code 28 = .ok (.iload_n 1, 1) := by decide +kernel
theorem dX9_code_29 : decode cX9_code 29 = .ok (.iaload, 1) := by decide +kernel
theorem dX9_code_30 : decode cX9_code 30 = .ok (.iconst 1, 1) := by decide +kernel
theorem dX9_code_31 : decode cX9_code 31 = .ok (.if_icmp .gt 12, 3) := by decide +kernel
theorem dX9_code_34 : decode cX9_code 34 = .ok (.aload_n 0, 1) := by decide +kernel
theorem dX9_code_35 : decode cX9_code 35 = .ok (.getfield 16, 3) := by decide +kernel
theorem dX9_code_38 : decode cX9_code 38 = .ok (.iload_n 1, 1) := by decide +kernel
theorem dX9_code_39 : decode cX9_code 39 = .ok (.iaload, 1) := by decide +kernel
theorem dX9_code_40 : decode cX9_code 40 = .ok (.ifCond .le 6, 3) := by decide +kernel
theorem dX9_code_43 : decode cX9_code 43 = .ok (.bipush (-2), 2) := by decide +kernel
theorem dX9_code_45 : decode cX9_code 45 = .ok (.ireturn, 1) := by decide +kernel
theorem dX9_code_46 : decode cX9_code 46 = .ok (.aload_n 0, 1) := by decide +kernel
theorem dX9_code_47 : decode cX9_code 47 = .ok (.iload_n 1, 1) := by decide +kernel
theorem dX9_code_48 : decode cX9_code 48 = .ok (.iload_n 2, 1) := by decide +kernel
theorem dX9_code_49 : decode cX9_code 49 = .ok (.i2l, 1) := by decide +kernel
theorem dX9_code_50 : decode cX9_code 50 = .ok (.invokevirtual 174, 3) := by decide +kernel
theorem dX9_code_53 : decode cX9_code 53 = .ok (.ifCond .lt 6, 3) := by decide +kernel
theorem dX9_code_56 : decode cX9_code 56 = .ok (.bipush (-3), 2) := by decide +kernel
theorem dX9_code_58 : decode cX9_code 58 = .ok (.ireturn, 1) := by decide +kernel
theorem dX9_code_59 : decode cX9_code 59 = .ok (.aload_n 0, 1) := by decide +kernel
theorem dX9_code_60 : decode cX9_code 60 = .ok (.getfield 35, 3) := by decide +kernel
theorem dX9_code_63 : decode cX9_code 63 = .ok (.iload_n 1, 1) := by decide +kernel
theorem dX9_code_64 : decode cX9_code 64 = .ok (.iaload, 1) := by decide +kernel
theorem dX9_code_65 : decode cX9_code 65 = .ok (.bipush 8, 2) := by decide +kernel
theorem dX9_code_67 : decode cX9_code 67 = .ok (.if_icmp .ne 6, 3) := by decide +kernel
theorem dX9_code_70 : decode cX9_code 70 = .ok (.bipush (-4), 2) := by decide +kernel
theorem dX9_code_72 : decode cX9_code 72 = .ok (.ireturn, 1) := by decide +kernel
theorem dX9_code_73 : decode cX9_code 73 = .ok (.aload_n 0, 1) := by decide +kernel
theorem dX9_code_74 : decode cX9_code 74 = .ok (.getfield 32, 3) := by decide +kernel
theorem dX9_code_77 : decode cX9_code 77 = .ok (.bipush 8, 2) := by decide +kernel
theorem dX9_code_79 : decode cX9_code 79 = .ok (.iload_n 1, 1) := by decide +kernel
theorem dX9_code_80 : decode cX9_code 80 = .ok (.imul, 1) := by decide +kernel
theorem dX9_code_81 : decode cX9_code 81 = .ok (.aload_n 0, 1) := by decide +kernel
theorem dX9_code_82 : decode cX9_code 82 = .ok (.getfield 35, 3) := by decide +kernel
theorem dX9_code_85 : decode cX9_code 85 = .ok (.iload_n 1, 1) := by decide +kernel
theorem dX9_code_86 : decode cX9_code 86 = .ok (.iaload, 1) := by decide +kernel
theorem dX9_code_87 : decode cX9_code 87 = .ok (.iadd, 1) := by decide +kernel
theorem dX9_code_88 : decode cX9_code 88 = .ok (.iload_n 2, 1) := by decide +kernel
theorem dX9_code_89 : decode cX9_code 89 = .ok (.iastore, 1) := by decide +kernel
theorem dX9_code_90 : decode cX9_code 90 = .ok (.aload_n 0, 1) := by decide +kernel
theorem dX9_code_91 : decode cX9_code 91 = .ok (.getfield 35, 3) := by decide +kernel
theorem dX9_code_94 : decode cX9_code 94 = .ok (.iload_n 1, 1) := by decide +kernel
theorem dX9_code_95 : decode cX9_code 95 = .ok (.dup2, 1) := by decide +kernel
theorem dX9_code_96 : decode cX9_code 96 = .ok (.iaload, 1) := by decide +kernel
theorem dX9_code_97 : decode cX9_code 97 = .ok (.iconst 1, 1) := by decide +kernel
theorem dX9_code_98 : decode cX9_code 98 = .ok (.iadd, 1) := by decide +kernel
theorem dX9_code_99 : decode cX9_code 99 = .ok (.iastore, 1) := by decide +kernel
theorem dX9_code_100 : decode cX9_code 100 = .ok (.aload_n 0, 1) := by decide +kernel
theorem dX9_code_101 : decode cX9_code 101 = .ok (.getfield 35, 3) := by decide +kernel
theorem dX9_code_104 : decode cX9_code 104 = .ok (.iload_n 1, 1) := by decide +kernel
theorem dX9_code_105 : decode cX9_code 105 = .ok (.iaload, 1) := by decide +kernel
theorem dX9_code_106 : decode cX9_code 106 = .ok (.ireturn, 1) := by decide +kernel
def f_X9_code (a0 a1 a2 : Int) (H : PH) : RO := vm 9 a0 H <|
  (f_X9_isQuestion a0 a1 H).bind fun z1 => (if z1.1 = 0 then some ((-1), z1.2)
  else (f_X9_in a2 (-128) 127 z1.2).bind fun z2 => (if z2.1 ≠ 0 then (ld 25 z2.2 a0 1).bind fun x3 => (ld 0 z2.2 x3 a1).bind fun x4 => (if x4 > 1 then some ((-2), z2.2)
  else (ld 25 z2.2 a0 3).bind fun x5 => (ld 0 z2.2 x5 a1).bind fun x6 => (if x6 ≤ 0 then (f_X9_codeNumber a0 a1 a2 z2.2).bind fun z7 => (if z7.1 < 0 then (ld 25 z7.2 a0 9).bind fun x8 => (ld 0 z7.2 x8 a1).bind fun x9 => (if x9 ≠ 8 then (ld 25 z7.2 a0 8).bind fun x10 => (ld 25 z7.2 a0 9).bind fun x11 => (ld 0 z7.2 x11 a1).bind fun x12 => (stv 0 z7.2 x10 (w32 ((w32 (8 * a1)) + x12)) a2).bind fun H13 => (ld 25 H13 a0 9).bind fun x14 => (ld 0 H13 x14 a1).bind fun x15 => (stv 0 H13 x14 a1 (w32 (x15 + 1))).bind fun H16 => (ld 25 H16 a0 9).bind fun x17 => (ld 0 H16 x17 a1).bind fun x18 => some (x18, H16)
  else some ((-4), z7.2))
  else some ((-3), z7.2))
  else some ((-2), z2.2)))
  else some ((-1), z2.2)))
set_option maxHeartbeats 4000000 in
theorem m_X9_code (l : Launch) (a0 a1 a2 : Int) (H : PH) (rr : Int) (HH : PH) (h : f_X9_code a0 a1 a2 H = some (rr, HH)) : CT l yX9_code cX9_code 3 (some .int) 2 46 [vr a0, vi a1, vi a2] H (some (vi rr)) HH := by
  refine CT.of RX9 (by decide) rfl [some (vr a0), some (vi a1), some (vi a2)] rfl rfl ?_
  intro E F q hn hf hl hm
  unfold f_X9_code at h
  obtain ⟨hv, h⟩ := vm_spec h
  refine pw_aload_n (pc := 0) F dX9_code_0 rfl ?_
  refine pw_iload_n (pc := 1) F dX9_code_1 rfl ?_
  obtain ⟨z1, ez1, h⟩ := bnd h
  refine pw_callV (pc := 2) (as := [vi a1]) (st := []) (r := (some (vi z1.1))) F 163 9 (by decide) rfl (fun l => m_X9_isQuestion l a0 a1 H z1.1 z1.2 ez1) g_26236cf357 g_504499df23 g_65a9490ac1 g_2759d91faa g_4f2165d1ca hd_X9_isQuestion (rm_ok hf hl (by decide) (by decide)) rfl (vm_spec ez1).1 dX9_code_2 rfl (stk' := [vi z1.1]) rfl ?_
  refine pw_if_eq (pc := 5) F 22 dX9_code_5 (by decide) (fun hc => ?_) (fun hc => ?_)
  · have h := iteT hc h
    refine pw_iconst (pc := 22) F (-1) dX9_code_22 (by decide) ?_
    cases h
    exact pw_iret (pc := 23) F q dX9_code_23
  · have h := iteF hc h
    refine pw_iload_n (pc := 8) F dX9_code_8 rfl ?_
    refine pw_i2l (pc := 9) F dX9_code_9 ?_
    refine pw_ldc2 (pc := 10) F (-128) g_283eba2487 dX9_code_10 (by decide) ?_
    refine pw_ldc2 (pc := 13) F 127 g_d06778f810 dX9_code_13 (by decide) ?_
    obtain ⟨z2, ez2, h⟩ := bnd h
    refine pw_callS (pc := 16) (as := [vl a2, vl (-128), vl 127]) (st := []) (r := (some (vi z2.1))) F 140 (fun l => m_X9_in l a2 (-128) 127 z1.2 z2.1 z2.2 ez2) g_0174c906e2 g_3fadeb3198 g_2759d91faa g_c0c30bc7de hd_X9_in (rm_ok hf hl (by decide) (by decide)) rfl dX9_code_16 rfl (stk' := [vi z2.1]) rfl ?_
    refine pw_if_ne (pc := 19) F 24 dX9_code_19 (by decide) (fun hc => ?_) (fun hc => ?_)
    · have h := iteT hc h
      refine pw_aload_n (pc := 24) F dX9_code_24 rfl ?_
      obtain ⟨x3, ex3, h⟩ := bnd h
      refine pw_get (pc := 25) F 9 1 7 (by decide) (by decide) g_a89464ec18 inl_9 2 rfl dX9_code_25 ex3 ?_
      refine pw_iload_n (pc := 28) F dX9_code_28 rfl ?_
      obtain ⟨x4, ex4, h⟩ := bnd h
      refine pw_iald (pc := 29) F dX9_code_29 ex4 ?_
      refine pw_iconst (pc := 30) F 1 dX9_code_30 (by decide) ?_
      refine pw_icmp_gt (pc := 31) F 43 dX9_code_31 (by decide) (fun hc => ?_) (fun hc => ?_)
      · have h := iteT hc h
        refine pw_bipush (pc := 43) F (-2) dX9_code_43 (by decide) ?_
        cases h
        exact pw_iret (pc := 45) F q dX9_code_45
      · have h := iteF hc h
        refine pw_aload_n (pc := 34) F dX9_code_34 rfl ?_
        obtain ⟨x5, ex5, h⟩ := bnd h
        refine pw_get (pc := 35) F 9 3 16 (by decide) (by decide) g_bd19d270ba inl_9 2 rfl dX9_code_35 ex5 ?_
        refine pw_iload_n (pc := 38) F dX9_code_38 rfl ?_
        obtain ⟨x6, ex6, h⟩ := bnd h
        refine pw_iald (pc := 39) F dX9_code_39 ex6 ?_
        refine pw_if_le (pc := 40) F 46 dX9_code_40 (by decide) (fun hc => ?_) (fun hc => ?_)
        · have h := iteT hc h
          refine pw_aload_n (pc := 46) F dX9_code_46 rfl ?_
          refine pw_iload_n (pc := 47) F dX9_code_47 rfl ?_
          refine pw_iload_n (pc := 48) F dX9_code_48 rfl ?_
          refine pw_i2l (pc := 49) F dX9_code_49 ?_
          obtain ⟨z7, ez7, h⟩ := bnd h
          refine pw_callV (pc := 50) (as := [vi a1, vl a2]) (st := []) (r := (some (vi z7.1))) F 174 9 (by decide) rfl (fun l => m_X9_codeNumber l a0 a1 a2 z2.2 z7.1 z7.2 ez7) g_74b15b1c50 g_5405ac1030 g_3d4c6b4b45 g_2759d91faa g_522d481ddd hd_X9_codeNumber (rm_ok hf hl (by decide) (by decide)) rfl (vm_spec ez7).1 dX9_code_50 rfl (stk' := [vi z7.1]) rfl ?_
          refine pw_if_lt (pc := 53) F 59 dX9_code_53 (by decide) (fun hc => ?_) (fun hc => ?_)
          · have h := iteT hc h
            refine pw_aload_n (pc := 59) F dX9_code_59 rfl ?_
            obtain ⟨x8, ex8, h⟩ := bnd h
            refine pw_get (pc := 60) F 9 9 35 (by decide) (by decide) g_364d877551 inl_9 2 rfl dX9_code_60 ex8 ?_
            refine pw_iload_n (pc := 63) F dX9_code_63 rfl ?_
            obtain ⟨x9, ex9, h⟩ := bnd h
            refine pw_iald (pc := 64) F dX9_code_64 ex9 ?_
            refine pw_bipush (pc := 65) F 8 dX9_code_65 (by decide) ?_
            refine pw_icmp_ne (pc := 67) F 73 dX9_code_67 (by decide) (fun hc => ?_) (fun hc => ?_)
            · have h := iteT hc h
              refine pw_aload_n (pc := 73) F dX9_code_73 rfl ?_
              obtain ⟨x10, ex10, h⟩ := bnd h
              refine pw_get (pc := 74) F 9 8 32 (by decide) (by decide) g_8263c80882 inl_9 2 rfl dX9_code_74 ex10 ?_
              refine pw_bipush (pc := 77) F 8 dX9_code_77 (by decide) ?_
              refine pw_iload_n (pc := 79) F dX9_code_79 rfl ?_
              refine pw_imul (pc := 80) F dX9_code_80 ?_
              refine pw_aload_n (pc := 81) F dX9_code_81 rfl ?_
              obtain ⟨x11, ex11, h⟩ := bnd h
              refine pw_get (pc := 82) F 9 9 35 (by decide) (by decide) g_364d877551 inl_9 2 rfl dX9_code_82 ex11 ?_
              refine pw_iload_n (pc := 85) F dX9_code_85 rfl ?_
              obtain ⟨x12, ex12, h⟩ := bnd h
              refine pw_iald (pc := 86) F dX9_code_86 ex12 ?_
              refine pw_iadd (pc := 87) F dX9_code_87 ?_
              refine pw_iload_n (pc := 88) F dX9_code_88 rfl ?_
              obtain ⟨H13, eH13, h⟩ := bnd h
              refine pw_iast (pc := 89) F dX9_code_89 eH13 ?_
              refine pw_aload_n (pc := 90) F dX9_code_90 rfl ?_
              obtain ⟨x14, ex14, h⟩ := bnd h
              refine pw_get (pc := 91) F 9 9 35 (by decide) (by decide) g_364d877551 inl_9 2 rfl dX9_code_91 ex14 ?_
              refine pw_iload_n (pc := 94) F dX9_code_94 rfl ?_
              refine pw_dup2 (pc := 95) F dX9_code_95 (pvne rfl) (pvne rfl) ?_
              obtain ⟨x15, ex15, h⟩ := bnd h
              refine pw_iald (pc := 96) F dX9_code_96 ex15 ?_
              refine pw_iconst (pc := 97) F 1 dX9_code_97 (by decide) ?_
              refine pw_iadd (pc := 98) F dX9_code_98 ?_
              obtain ⟨H16, eH16, h⟩ := bnd h
              refine pw_iast (pc := 99) F dX9_code_99 eH16 ?_
              refine pw_aload_n (pc := 100) F dX9_code_100 rfl ?_
              obtain ⟨x17, ex17, h⟩ := bnd h
              refine pw_get (pc := 101) F 9 9 35 (by decide) (by decide) g_364d877551 inl_9 2 rfl dX9_code_101 ex17 ?_
              refine pw_iload_n (pc := 104) F dX9_code_104 rfl ?_
              obtain ⟨x18, ex18, h⟩ := bnd h
              refine pw_iald (pc := 105) F dX9_code_105 ex18 ?_
              cases h
              exact pw_iret (pc := 106) F q dX9_code_106
            · have h := iteF hc h
              refine pw_bipush (pc := 70) F (-4) dX9_code_70 (by decide) ?_
              cases h
              exact pw_iret (pc := 72) F q dX9_code_72
          · have h := iteF hc h
            refine pw_bipush (pc := 56) F (-3) dX9_code_56 (by decide) ?_
            cases h
            exact pw_iret (pc := 58) F q dX9_code_58
        · have h := iteF hc h
          refine pw_bipush (pc := 43) F (-2) dX9_code_43 (by decide) ?_
          cases h
          exact pw_iret (pc := 45) F q dX9_code_45
    · have h := iteF hc h
      refine pw_iconst (pc := 22) F (-1) dX9_code_22 (by decide) ?_
      cases h
      exact pw_iret (pc := 23) F q dX9_code_23
/-! HouseholdVaultModel.map(I)I -/
theorem dX9_map_0 : decode cX9_map 0 = .ok (.aload_n 0, 1) := by decide +kernel
theorem dX9_map_1 : decode cX9_map 1 = .ok (.iload_n 1, 1) := by decide +kernel
theorem dX9_map_2 : decode cX9_map 2 = .ok (.invokevirtual 163, 3) := by decide +kernel
theorem dX9_map_5 : decode cX9_map 5 = .ok (.ifCond .ne 5, 3) := by decide +kernel
theorem dX9_map_8 : decode cX9_map 8 = .ok (.iconst (-1), 1) := by decide +kernel
theorem dX9_map_9 : decode cX9_map 9 = .ok (.ireturn, 1) := by decide +kernel
theorem dX9_map_10 : decode cX9_map 10 = .ok (.aload_n 0, 1) := by decide +kernel
theorem dX9_map_11 : decode cX9_map 11 = .ok (.getfield 7, 3) := by decide +kernel
theorem dX9_map_14 : decode cX9_map 14 = .ok (.iload_n 1, 1) := by decide +kernel
theorem dX9_map_15 : decode cX9_map 15 = .ok (.iaload, 1) := by decide +kernel
theorem dX9_map_16 : decode cX9_map 16 = .ok (.iconst 1, 1) := by decide +kernel
theorem dX9_map_17 : decode cX9_map 17 = .ok (.if_icmp .eq 13, 3) := by decide +kernel
theorem dX9_map_20 : decode cX9_map 20 = .ok (.aload_n 0, 1) := by decide +kernel
theorem dX9_map_21 : decode cX9_map 21 = .ok (.getfield 7, 3) := by decide +kernel
theorem dX9_map_24 : decode cX9_map 24 = .ok (.iload_n 1, 1) := by decide +kernel
theorem dX9_map_25 : decode cX9_map 25 = .ok (.iaload, 1) := by decide +kernel
theorem dX9_map_26 : decode cX9_map 26 = .ok (.iconst 5, 1) := by decide +kernel
theorem dX9_map_27 : decode cX9_map 27 = .ok (.if_icmp .ne 6, 3) := by decide +kernel
theorem dX9_map_30 : decode cX9_map 30 = .ok (.bipush (-2), 2) := by decide +kernel
theorem dX9_map_32 : decode cX9_map 32 = .ok (.ireturn, 1) := by decide +kernel
theorem dX9_map_33 : decode cX9_map 33 = .ok (.aload_n 0, 1) := by decide +kernel
theorem dX9_map_34 : decode cX9_map 34 = .ok (.getfield 136, 3) := by decide +kernel
theorem dX9_map_37 : decode cX9_map 37 = .ok (.bipush 24, 2) := by decide +kernel
theorem dX9_map_39 : decode cX9_map 39 = .ok (.if_icmp .ne 6, 3) := by decide +kernel
theorem dX9_map_42 : decode cX9_map 42 = .ok (.bipush (-4), 2) := by decide +kernel
theorem dX9_map_44 : decode cX9_map 44 = .ok (.ireturn, 1) := by decide +kernel
theorem dX9_map_45 : decode cX9_map 45 = .ok (.aload_n 0, 1) := by decide +kernel
theorem dX9_map_46 : decode cX9_map 46 = .ok (.iconst 0, 1) := by decide +kernel
theorem dX9_map_47 : decode cX9_map 47 = .ok (.aload_n 0, 1) := by decide +kernel
theorem dX9_map_48 : decode cX9_map 48 = .ok (.getfield 13, 3) := by decide +kernel
theorem dX9_map_51 : decode cX9_map 51 = .ok (.iload_n 1, 1) := by decide +kernel
theorem dX9_map_52 : decode cX9_map 52 = .ok (.iaload, 1) := by decide +kernel
theorem dX9_map_53 : decode cX9_map 53 = .ok (.iconst 1, 1) := by decide +kernel
theorem dX9_map_54 : decode cX9_map 54 = .ok (.invokevirtual 167, 3) := by decide +kernel
theorem dX9_map_57 : decode cX9_map 57 = .ok (.istore_n 2, 1) := by decide +kernel
theorem dX9_map_58 : decode cX9_map 58 = .ok (.aload_n 0, 1) := by decide +kernel
theorem dX9_map_59 : decode cX9_map 59 = .ok (.getfield 19, 3) := by decide +kernel
theorem dX9_map_62 : decode cX9_map 62 = .ok (.iload_n 2, 1) := by decide +kernel
theorem dX9_map_63 : decode cX9_map 63 = .ok (.iload_n 1, 1) := by decide +kernel
theorem dX9_map_64 : decode cX9_map 64 = .ok (.iastore, 1) := by decide +kernel
theorem dX9_map_65 : decode cX9_map 65 = .ok (.iload_n 2, 1) := by decide +kernel
theorem dX9_map_66 : decode cX9_map 66 = .ok (.ireturn, 1) := by decide +kernel
def f_X9_map (a0 a1 : Int) (H : PH) : RO := vm 9 a0 H <|
  (f_X9_isQuestion a0 a1 H).bind fun z1 => (if z1.1 ≠ 0 then (ld 25 z1.2 a0 1).bind fun x2 => (ld 0 z1.2 x2 a1).bind fun x3 => (if x3 = 1 then some ((-2), z1.2)
  else (ld 25 z1.2 a0 1).bind fun x4 => (ld 0 z1.2 x4 a1).bind fun x5 => (if x5 ≠ 5 then (ld 25 z1.2 a0 0).bind fun x6 => (if x6 ≠ 24 then (ld 25 z1.2 a0 2).bind fun x7 => (ld 0 z1.2 x7 a1).bind fun x8 => (f_X9_add a0 0 x8 1 z1.2).bind fun z9 => (ld 25 z9.2 a0 4).bind fun x10 => (stv 0 z9.2 x10 z9.1 a1).bind fun H11 => some (z9.1, H11)
  else some ((-4), z1.2))
  else some ((-2), z1.2)))
  else some ((-1), z1.2))
set_option maxHeartbeats 4000000 in
theorem m_X9_map (l : Launch) (a0 a1 : Int) (H : PH) (rr : Int) (HH : PH) (h : f_X9_map a0 a1 H = some (rr, HH)) : CT l yX9_map cX9_map 3 (some .int) 3 70 [vr a0, vi a1] H (some (vi rr)) HH := by
  refine CT.of RX9 (by decide) rfl [some (vr a0), some (vi a1), none] rfl rfl ?_
  intro E F q hn hf hl hm
  unfold f_X9_map at h
  obtain ⟨hv, h⟩ := vm_spec h
  refine pw_aload_n (pc := 0) F dX9_map_0 rfl ?_
  refine pw_iload_n (pc := 1) F dX9_map_1 rfl ?_
  obtain ⟨z1, ez1, h⟩ := bnd h
  refine pw_callV (pc := 2) (as := [vi a1]) (st := []) (r := (some (vi z1.1))) F 163 9 (by decide) rfl (fun l => m_X9_isQuestion l a0 a1 H z1.1 z1.2 ez1) g_26236cf357 g_504499df23 g_65a9490ac1 g_2759d91faa g_4f2165d1ca hd_X9_isQuestion (rm_ok hf hl (by decide) (by decide)) rfl (vm_spec ez1).1 dX9_map_2 rfl (stk' := [vi z1.1]) rfl ?_
  refine pw_if_ne (pc := 5) F 10 dX9_map_5 (by decide) (fun hc => ?_) (fun hc => ?_)
  · have h := iteT hc h
    refine pw_aload_n (pc := 10) F dX9_map_10 rfl ?_
    obtain ⟨x2, ex2, h⟩ := bnd h
    refine pw_get (pc := 11) F 9 1 7 (by decide) (by decide) g_a89464ec18 inl_9 2 rfl dX9_map_11 ex2 ?_
    refine pw_iload_n (pc := 14) F dX9_map_14 rfl ?_
    obtain ⟨x3, ex3, h⟩ := bnd h
    refine pw_iald (pc := 15) F dX9_map_15 ex3 ?_
    refine pw_iconst (pc := 16) F 1 dX9_map_16 (by decide) ?_
    refine pw_icmp_eq (pc := 17) F 30 dX9_map_17 (by decide) (fun hc => ?_) (fun hc => ?_)
    · have h := iteT hc h
      refine pw_bipush (pc := 30) F (-2) dX9_map_30 (by decide) ?_
      cases h
      exact pw_iret (pc := 32) F q dX9_map_32
    · have h := iteF hc h
      refine pw_aload_n (pc := 20) F dX9_map_20 rfl ?_
      obtain ⟨x4, ex4, h⟩ := bnd h
      refine pw_get (pc := 21) F 9 1 7 (by decide) (by decide) g_a89464ec18 inl_9 2 rfl dX9_map_21 ex4 ?_
      refine pw_iload_n (pc := 24) F dX9_map_24 rfl ?_
      obtain ⟨x5, ex5, h⟩ := bnd h
      refine pw_iald (pc := 25) F dX9_map_25 ex5 ?_
      refine pw_iconst (pc := 26) F 5 dX9_map_26 (by decide) ?_
      refine pw_icmp_ne (pc := 27) F 33 dX9_map_27 (by decide) (fun hc => ?_) (fun hc => ?_)
      · have h := iteT hc h
        refine pw_aload_n (pc := 33) F dX9_map_33 rfl ?_
        obtain ⟨x6, ex6, h⟩ := bnd h
        refine pw_get (pc := 34) F 9 0 136 (by decide) (by decide) g_eb25be88a8 inl_9 0 rfl dX9_map_34 ex6 ?_
        refine pw_bipush (pc := 37) F 24 dX9_map_37 (by decide) ?_
        refine pw_icmp_ne (pc := 39) F 45 dX9_map_39 (by decide) (fun hc => ?_) (fun hc => ?_)
        · have h := iteT hc h
          refine pw_aload_n (pc := 45) F dX9_map_45 rfl ?_
          refine pw_iconst (pc := 46) F 0 dX9_map_46 (by decide) ?_
          refine pw_aload_n (pc := 47) F dX9_map_47 rfl ?_
          obtain ⟨x7, ex7, h⟩ := bnd h
          refine pw_get (pc := 48) F 9 2 13 (by decide) (by decide) g_0c2899f53f inl_9 2 rfl dX9_map_48 ex7 ?_
          refine pw_iload_n (pc := 51) F dX9_map_51 rfl ?_
          obtain ⟨x8, ex8, h⟩ := bnd h
          refine pw_iald (pc := 52) F dX9_map_52 ex8 ?_
          refine pw_iconst (pc := 53) F 1 dX9_map_53 (by decide) ?_
          obtain ⟨z9, ez9, h⟩ := bnd h
          refine pw_callV (pc := 54) (as := [vi 0, vi x8, vi 1]) (st := []) (r := (some (vi z9.1))) F 167 9 (by decide) rfl (fun l => m_X9_add l a0 0 x8 1 z1.2 z9.1 z9.2 ez9) g_4e37b5869d g_00ef69ae41 g_862b2bfc9b g_2759d91faa g_c8224d232d hd_X9_add (rm_ok hf hl (by decide) (by decide)) rfl (vm_spec ez9).1 dX9_map_54 rfl (stk' := [vi z9.1]) rfl ?_
          refine pw_istore_n (pc := 57) F dX9_map_57 (lt_nl hn (by decide)) [some (vr a0), some (vi a1), some (vi z9.1)] rfl ?_
          refine pw_aload_n (pc := 58) F dX9_map_58 rfl ?_
          obtain ⟨x10, ex10, h⟩ := bnd h
          refine pw_get (pc := 59) F 9 4 19 (by decide) (by decide) g_1b40c2a4c8 inl_9 2 rfl dX9_map_59 ex10 ?_
          refine pw_iload_n (pc := 62) F dX9_map_62 rfl ?_
          refine pw_iload_n (pc := 63) F dX9_map_63 rfl ?_
          obtain ⟨H11, eH11, h⟩ := bnd h
          refine pw_iast (pc := 64) F dX9_map_64 eH11 ?_
          refine pw_iload_n (pc := 65) F dX9_map_65 rfl ?_
          cases h
          exact pw_iret (pc := 66) F q dX9_map_66
        · have h := iteF hc h
          refine pw_bipush (pc := 42) F (-4) dX9_map_42 (by decide) ?_
          cases h
          exact pw_iret (pc := 44) F q dX9_map_44
      · have h := iteF hc h
        refine pw_bipush (pc := 30) F (-2) dX9_map_30 (by decide) ?_
        cases h
        exact pw_iret (pc := 32) F q dX9_map_32
  · have h := iteF hc h
    refine pw_iconst (pc := 8) F (-1) dX9_map_8 (by decide) ?_
    cases h
    exact pw_iret (pc := 9) F q dX9_map_9
/-! HouseholdVaultModel.row(IJJI)I -/
theorem dX9_row_0 : decode cX9_row 0 = .ok (.aload_n 0, 1) := by decide +kernel
theorem dX9_row_1 : decode cX9_row 1 = .ok (.iload_n 1, 1) := by decide +kernel
theorem dX9_row_2 : decode cX9_row 2 = .ok (.invokevirtual 163, 3) := by decide +kernel
theorem dX9_row_5 : decode cX9_row 5 = .ok (.ifCond .eq 25, 3) := by decide +kernel
theorem dX9_row_8 : decode cX9_row 8 = .ok (.lload_n 2, 1) := by decide +kernel
theorem dX9_row_9 : decode cX9_row 9 = .ok (.lload 4, 2) := by decide +kernel
theorem dX9_row_11 : decode cX9_row 11 = .ok (.lcmp, 1) := by decide +kernel
theorem dX9_row_12 : decode cX9_row 12 = .ok (.ifCond .gt 18, 3) := by decide +kernel
theorem dX9_row_15 : decode cX9_row 15 = .ok (.iload 6, 2) := by decide +kernel
theorem dX9_row_17 : decode cX9_row 17 = .ok (.i2l, 1) := by decide +kernel
theorem dX9_row_18 : decode cX9_row 18 = .ok (.ldc2_w 170, 3) := by decide +kernel
theorem dX9_row_21 : decode cX9_row 21 = .ok (.ldc2_w 172, 3) := by decide +kernel
theorem dX9_row_24 : decode cX9_row 24 = .ok (.invokestatic 140, 3) := by decide +kernel
theorem dX9_row_27 : decode cX9_row 27 = .ok (.ifCond .ne 5, 3) := by decide +kernel
theorem dX9_row_30 : decode cX9_row 30 = .ok (.iconst (-1), 1) := by decide +kernel
theorem dX9_row_31 : decode cX9_row 31 = .ok (.ireturn, 1) := by decide +kernel
theorem dX9_row_32 : decode cX9_row 32 = .ok (.aload_n 0, 1) := by decide +kernel
theorem dX9_row_33 : decode cX9_row 33 = .ok (.getfield 16, 3) := by decide +kernel
theorem dX9_row_36 : decode cX9_row 36 = .ok (.iload_n 1, 1) := by decide +kernel
theorem dX9_row_37 : decode cX9_row 37 = .ok (.iaload, 1) := by decide +kernel
theorem dX9_row_38 : decode cX9_row 38 = .ok (.iconst 1, 1) := by decide +kernel
theorem dX9_row_39 : decode cX9_row 39 = .ok (.if_icmp .eq 6, 3) := by decide +kernel
theorem dX9_row_42 : decode cX9_row 42 = .ok (.bipush (-2), 2) := by decide +kernel
theorem dX9_row_44 : decode cX9_row 44 = .ok (.ireturn, 1) := by decide +kernel
theorem dX9_row_45 : decode cX9_row 45 = .ok (.aload_n 0, 1) := by decide +kernel
theorem dX9_row_46 : decode cX9_row 46 = .ok (.getfield 48, 3) := by decide +kernel
theorem dX9_row_49 : decode cX9_row 49 = .ok (.iload_n 1, 1) := by decide +kernel
theorem dX9_row_50 : decode cX9_row 50 = .ok (.iaload, 1) := by decide +kernel
theorem dX9_row_51 : decode cX9_row 51 = .ok (.bipush 8, 2) := by decide +kernel
theorem dX9_row_53 : decode cX9_row 53 = .ok (.if_icmp .ne 6, 3) := by decide +kernel
theorem dX9_row_56 : decode cX9_row 56 = .ok (.bipush (-4), 2) := by decide +kernel
theorem dX9_row_58 : decode cX9_row 58 = .ok (.ireturn, 1) := by decide +kernel
theorem dX9_row_59 : decode cX9_row 59 = .ok (.bipush 8, 2) := by decide +kernel
theorem dX9_row_61 : decode cX9_row 61 = .ok (.iload_n 1, 1) := by decide +kernel
theorem dX9_row_62 : decode cX9_row 62 = .ok (.imul, 1) := by decide +kernel
theorem dX9_row_63 : decode cX9_row 63 = .ok (.aload_n 0, 1) := by decide +kernel
theorem dX9_row_64 : decode cX9_row 64 = .ok (.getfield 48, 3) := by decide +kernel
theorem dX9_row_67 : decode cX9_row 67 = .ok (.iload_n 1, 1) := by decide +kernel
theorem dX9_row_68 : decode cX9_row 68 = .ok (.iaload, 1) := by decide +kernel
theorem dX9_row_69 : decode cX9_row 69 = .ok (.iadd, 1) := by decide +kernel
theorem dX9_row_70 : decode cX9_row 70 = .ok (.istore 7, 2) := by decide +kernel
theorem dX9_row_72 : decode cX9_row 72 = .ok (.aload_n 0, 1) := by decide +kernel
theorem dX9_row_73 : decode cX9_row 73 = .ok (.getfield 38, 3) := by decide +kernel
theorem dX9_row_76 : decode cX9_row 76 = .ok (.iload 7, 2) := by decide +kernel
theorem dX9_row_78 : decode cX9_row 78 = .ok (.lload_n 2, 1) := by decide +kernel
theorem dX9_row_79 : decode cX9_row 79 = .ok (.lastore, 1) := by decide +kernel
theorem dX9_row_80 : decode cX9_row 80 = .ok (.aload_n 0, 1) := by decide +kernel
theorem dX9_row_81 : decode cX9_row 81 = .ok (.getfield 42, 3) := by decide +kernel
theorem dX9_row_84 : decode cX9_row 84 = .ok (.iload 7, 2) := by decide +kernel
theorem dX9_row_86 : decode cX9_row 86 = .ok (.lload 4, 2) := by decide +kernel
theorem dX9_row_88 : decode cX9_row 88 = .ok (.lastore, 1) := by decide +kernel
theorem dX9_row_89 : decode cX9_row 89 = .ok (.aload_n 0, 1) := by decide +kernel
theorem dX9_row_90 : decode cX9_row 90 = .ok (.getfield 45, 3) := by decide +kernel
theorem dX9_row_93 : decode cX9_row 93 = .ok (.iload 7, 2) := by decide +kernel
theorem dX9_row_95 : decode cX9_row 95 = .ok (.iload 6, 2) := by decide +kernel
theorem dX9_row_97 : decode cX9_row 97 = .ok (.iastore, 1) := by decide +kernel
theorem dX9_row_98 : decode cX9_row 98 = .ok (.aload_n 0, 1) := by decide +kernel
theorem dX9_row_99 : decode cX9_row 99 = .ok (.getfield 48, 3) := by decide +kernel
theorem dX9_row_102 : decode cX9_row 102 = .ok (.iload_n 1, 1) := by decide +kernel
theorem dX9_row_103 : decode cX9_row 103 = .ok (.dup2, 1) := by decide +kernel
theorem dX9_row_104 : decode cX9_row 104 = .ok (.iaload, 1) := by decide +kernel
theorem dX9_row_105 : decode cX9_row 105 = .ok (.iconst 1, 1) := by decide +kernel
theorem dX9_row_106 : decode cX9_row 106 = .ok (.iadd, 1) := by decide +kernel
theorem dX9_row_107 : decode cX9_row 107 = .ok (.iastore, 1) := by decide +kernel
theorem dX9_row_108 : decode cX9_row 108 = .ok (.aload_n 0, 1) := by decide +kernel
theorem dX9_row_109 : decode cX9_row 109 = .ok (.iload_n 1, 1) := by decide +kernel
theorem dX9_row_110 : decode cX9_row 110 = .ok (.iload 6, 2) := by decide +kernel
theorem dX9_row_112 : decode cX9_row 112 = .ok (.i2l, 1) := by decide +kernel
theorem dX9_row_113 : decode cX9_row 113 = .ok (.invokevirtual 174, 3) := by decide +kernel
theorem dX9_row_116 : decode cX9_row 116 = .ok (.ifCond .ge 31, 3) := by decide +kernel
theorem dX9_row_119 : decode cX9_row 119 = .ok (.aload_n 0, 1) := by decide +kernel
theorem dX9_row_120 : decode cX9_row 120 = .ok (.getfield 32, 3) := by decide +kernel
theorem dX9_row_123 : decode cX9_row 123 = .ok (.bipush 8, 2) := by decide +kernel
theorem dX9_row_125 : decode cX9_row 125 = .ok (.iload_n 1, 1) := by decide +kernel
theorem dX9_row_126 : decode cX9_row 126 = .ok (.imul, 1) := by decide +kernel
theorem dX9_row_127 : decode cX9_row 127 = .ok (.aload_n 0, 1) := by decide +kernel
theorem dX9_row_128 : decode cX9_row 128 = .ok (.getfield 35, 3) := by decide +kernel
theorem dX9_row_131 : decode cX9_row 131 = .ok (.iload_n 1, 1) := by decide +kernel
theorem dX9_row_132 : decode cX9_row 132 = .ok (.iaload, 1) := by decide +kernel
theorem dX9_row_133 : decode cX9_row 133 = .ok (.iadd, 1) := by decide +kernel
theorem dX9_row_134 : decode cX9_row 134 = .ok (.iload 6, 2) := by decide +kernel
theorem dX9_row_136 : decode cX9_row 136 = .ok (.iastore, 1) := by decide +kernel
theorem dX9_row_137 : decode cX9_row 137 = .ok (.aload_n 0, 1) := by decide +kernel
theorem dX9_row_138 : decode cX9_row 138 = .ok (.getfield 35, 3) := by decide +kernel
theorem dX9_row_141 : decode cX9_row 141 = .ok (.iload_n 1, 1) := by decide +kernel
theorem dX9_row_142 : decode cX9_row 142 = .ok (.dup2, 1) := by decide +kernel
theorem dX9_row_143 : decode cX9_row 143 = .ok (.iaload, 1) := by decide +kernel
theorem dX9_row_144 : decode cX9_row 144 = .ok (.iconst 1, 1) := by decide +kernel
theorem dX9_row_145 : decode cX9_row 145 = .ok (.iadd, 1) := by decide +kernel
theorem dX9_row_146 : decode cX9_row 146 = .ok (.iastore, 1) := by decide +kernel
theorem dX9_row_147 : decode cX9_row 147 = .ok (.aload_n 0, 1) := by decide +kernel
theorem dX9_row_148 : decode cX9_row 148 = .ok (.getfield 48, 3) := by decide +kernel
theorem dX9_row_151 : decode cX9_row 151 = .ok (.iload_n 1, 1) := by decide +kernel
theorem dX9_row_152 : decode cX9_row 152 = .ok (.iaload, 1) := by decide +kernel
theorem dX9_row_153 : decode cX9_row 153 = .ok (.ireturn, 1) := by decide +kernel
def jX9_row_147 (p0 p1 : Int) (H : PH) : RO :=
  (ld 25 H p0 13).bind fun x1 => (ld 0 H x1 p1).bind fun x2 => some (x2, H)
set_option maxHeartbeats 4000000 in
theorem jX9_row_147_ok {E : PE} {rr : Int} {HH : PH} (F : FX E cX9_row RX9) (q : QE E (some (vi rr)) HH (some .int)) (hn : nLof E = 8) (hf : (roomOf E).frames = 2) (hl : (roomOf E).locals = 46) (p0 p1 : Int) (H : PH) (h : jX9_row_147 p0 p1 H = some (rr, HH)) : PW E 147 [some (vr p0), some (vi p1), none, none, none, none, none, none] [] H := by
  unfold jX9_row_147 at h
  refine pw_aload_n (pc := 147) F dX9_row_147 rfl ?_
  obtain ⟨x1, ex1, h⟩ := bnd h
  refine pw_get (pc := 148) F 9 13 48 (by decide) (by decide) g_02ee53a81c inl_9 2 rfl dX9_row_148 ex1 ?_
  refine pw_iload_n (pc := 151) F dX9_row_151 rfl ?_
  obtain ⟨x2, ex2, h⟩ := bnd h
  refine pw_iald (pc := 152) F dX9_row_152 ex2 ?_
  cases h
  exact pw_iret (pc := 153) F q dX9_row_153
def f_X9_row (a0 a1 a2 a3 a4 : Int) (H : PH) : RO := vm 9 a0 H <|
  (f_X9_isQuestion a0 a1 H).bind fun z1 => (if z1.1 = 0 then some ((-1), z1.2)
  else (if (lc a2 a3) > 0 then some ((-1), z1.2)
  else (f_X9_in a4 (-128) 127 z1.2).bind fun z2 => (if z2.1 ≠ 0 then (ld 25 z2.2 a0 3).bind fun x3 => (ld 0 z2.2 x3 a1).bind fun x4 => (if x4 = 1 then (ld 25 z2.2 a0 13).bind fun x5 => (ld 0 z2.2 x5 a1).bind fun x6 => (if x6 ≠ 8 then (ld 25 z2.2 a0 13).bind fun x7 => (ld 0 z2.2 x7 a1).bind fun x8 => (ld 25 z2.2 a0 10).bind fun x9 => (stv 1 z2.2 x9 (w32 ((w32 (8 * a1)) + x8)) a2).bind fun H10 => (ld 25 H10 a0 11).bind fun x11 => (stv 1 H10 x11 (w32 ((w32 (8 * a1)) + x8)) a3).bind fun H12 => (ld 25 H12 a0 12).bind fun x13 => (stv 0 H12 x13 (w32 ((w32 (8 * a1)) + x8)) a4).bind fun H14 => (ld 25 H14 a0 13).bind fun x15 => (ld 0 H14 x15 a1).bind fun x16 => (stv 0 H14 x15 a1 (w32 (x16 + 1))).bind fun H17 => (f_X9_codeNumber a0 a1 a4 H17).bind fun z18 => (if z18.1 ≥ 0 then jX9_row_147 a0 a1 z18.2
  else (ld 25 z18.2 a0 8).bind fun x19 => (ld 25 z18.2 a0 9).bind fun x20 => (ld 0 z18.2 x20 a1).bind fun x21 => (stv 0 z18.2 x19 (w32 ((w32 (8 * a1)) + x21)) a4).bind fun H22 => (ld 25 H22 a0 9).bind fun x23 => (ld 0 H22 x23 a1).bind fun x24 => (stv 0 H22 x23 a1 (w32 (x24 + 1))).bind fun H25 => jX9_row_147 a0 a1 H25)
  else some ((-4), z2.2))
  else some ((-2), z2.2))
  else some ((-1), z2.2))))
set_option maxHeartbeats 4000000 in
theorem m_X9_row (l : Launch) (a0 a1 a2 a3 a4 : Int) (H : PH) (rr : Int) (HH : PH) (h : f_X9_row a0 a1 a2 a3 a4 H = some (rr, HH)) : CT l yX9_row cX9_row 8 (some .int) 2 46 [vr a0, vi a1, vl a2, vl a3, vi a4] H (some (vi rr)) HH := by
  refine CT.of RX9 (by decide) rfl [some (vr a0), some (vi a1), some (vl a2), none, some (vl a3), none, some (vi a4), none] rfl rfl ?_
  intro E F q hn hf hl hm
  unfold f_X9_row at h
  obtain ⟨hv, h⟩ := vm_spec h
  refine pw_aload_n (pc := 0) F dX9_row_0 rfl ?_
  refine pw_iload_n (pc := 1) F dX9_row_1 rfl ?_
  obtain ⟨z1, ez1, h⟩ := bnd h
  refine pw_callV (pc := 2) (as := [vi a1]) (st := []) (r := (some (vi z1.1))) F 163 9 (by decide) rfl (fun l => m_X9_isQuestion l a0 a1 H z1.1 z1.2 ez1) g_26236cf357 g_504499df23 g_65a9490ac1 g_2759d91faa g_4f2165d1ca hd_X9_isQuestion (rm_ok hf hl (by decide) (by decide)) rfl (vm_spec ez1).1 dX9_row_2 rfl (stk' := [vi z1.1]) rfl ?_
  refine pw_if_eq (pc := 5) F 30 dX9_row_5 (by decide) (fun hc => ?_) (fun hc => ?_)
  · have h := iteT hc h
    refine pw_iconst (pc := 30) F (-1) dX9_row_30 (by decide) ?_
    cases h
    exact pw_iret (pc := 31) F q dX9_row_31
  · have h := iteF hc h
    refine pw_lload_n (pc := 8) F dX9_row_8 rfl ?_
    refine pw_lload (pc := 9) F dX9_row_9 rfl ?_
    refine pw_lcmp (pc := 11) F dX9_row_11 ?_
    refine pw_if_gt (pc := 12) F 30 dX9_row_12 (by decide) (fun hc => ?_) (fun hc => ?_)
    · have h := iteT hc h
      refine pw_iconst (pc := 30) F (-1) dX9_row_30 (by decide) ?_
      cases h
      exact pw_iret (pc := 31) F q dX9_row_31
    · have h := iteF hc h
      refine pw_iload (pc := 15) F dX9_row_15 rfl ?_
      refine pw_i2l (pc := 17) F dX9_row_17 ?_
      refine pw_ldc2 (pc := 18) F (-128) g_283eba2487 dX9_row_18 (by decide) ?_
      refine pw_ldc2 (pc := 21) F 127 g_d06778f810 dX9_row_21 (by decide) ?_
      obtain ⟨z2, ez2, h⟩ := bnd h
      refine pw_callS (pc := 24) (as := [vl a4, vl (-128), vl 127]) (st := []) (r := (some (vi z2.1))) F 140 (fun l => m_X9_in l a4 (-128) 127 z1.2 z2.1 z2.2 ez2) g_0174c906e2 g_3fadeb3198 g_2759d91faa g_c0c30bc7de hd_X9_in (rm_ok hf hl (by decide) (by decide)) rfl dX9_row_24 rfl (stk' := [vi z2.1]) rfl ?_
      refine pw_if_ne (pc := 27) F 32 dX9_row_27 (by decide) (fun hc => ?_) (fun hc => ?_)
      · have h := iteT hc h
        refine pw_aload_n (pc := 32) F dX9_row_32 rfl ?_
        obtain ⟨x3, ex3, h⟩ := bnd h
        refine pw_get (pc := 33) F 9 3 16 (by decide) (by decide) g_bd19d270ba inl_9 2 rfl dX9_row_33 ex3 ?_
        refine pw_iload_n (pc := 36) F dX9_row_36 rfl ?_
        obtain ⟨x4, ex4, h⟩ := bnd h
        refine pw_iald (pc := 37) F dX9_row_37 ex4 ?_
        refine pw_iconst (pc := 38) F 1 dX9_row_38 (by decide) ?_
        refine pw_icmp_eq (pc := 39) F 45 dX9_row_39 (by decide) (fun hc => ?_) (fun hc => ?_)
        · have h := iteT hc h
          refine pw_aload_n (pc := 45) F dX9_row_45 rfl ?_
          obtain ⟨x5, ex5, h⟩ := bnd h
          refine pw_get (pc := 46) F 9 13 48 (by decide) (by decide) g_02ee53a81c inl_9 2 rfl dX9_row_46 ex5 ?_
          refine pw_iload_n (pc := 49) F dX9_row_49 rfl ?_
          obtain ⟨x6, ex6, h⟩ := bnd h
          refine pw_iald (pc := 50) F dX9_row_50 ex6 ?_
          refine pw_bipush (pc := 51) F 8 dX9_row_51 (by decide) ?_
          refine pw_icmp_ne (pc := 53) F 59 dX9_row_53 (by decide) (fun hc => ?_) (fun hc => ?_)
          · have h := iteT hc h
            refine pw_bipush (pc := 59) F 8 dX9_row_59 (by decide) ?_
            refine pw_iload_n (pc := 61) F dX9_row_61 rfl ?_
            refine pw_imul (pc := 62) F dX9_row_62 ?_
            refine pw_aload_n (pc := 63) F dX9_row_63 rfl ?_
            obtain ⟨x7, ex7, h⟩ := bnd h
            refine pw_get (pc := 64) F 9 13 48 (by decide) (by decide) g_02ee53a81c inl_9 2 rfl dX9_row_64 ex7 ?_
            refine pw_iload_n (pc := 67) F dX9_row_67 rfl ?_
            obtain ⟨x8, ex8, h⟩ := bnd h
            refine pw_iald (pc := 68) F dX9_row_68 ex8 ?_
            refine pw_iadd (pc := 69) F dX9_row_69 ?_
            refine pw_istore (pc := 70) F dX9_row_70 (lt_nl hn (by decide)) [some (vr a0), some (vi a1), some (vl a2), none, some (vl a3), none, some (vi a4), some (vi (w32 ((w32 (8 * a1)) + x8)))] rfl ?_
            refine pw_aload_n (pc := 72) F dX9_row_72 rfl ?_
            obtain ⟨x9, ex9, h⟩ := bnd h
            refine pw_get (pc := 73) F 9 10 38 (by decide) (by decide) g_19aee9d404 inl_9 2 rfl dX9_row_73 ex9 ?_
            refine pw_iload (pc := 76) F dX9_row_76 rfl ?_
            refine pw_lload_n (pc := 78) F dX9_row_78 rfl ?_
            obtain ⟨H10, eH10, h⟩ := bnd h
            refine pw_last (pc := 79) F dX9_row_79 eH10 ?_
            refine pw_aload_n (pc := 80) F dX9_row_80 rfl ?_
            obtain ⟨x11, ex11, h⟩ := bnd h
            refine pw_get (pc := 81) F 9 11 42 (by decide) (by decide) g_95eb8cebe6 inl_9 2 rfl dX9_row_81 ex11 ?_
            refine pw_iload (pc := 84) F dX9_row_84 rfl ?_
            refine pw_lload (pc := 86) F dX9_row_86 rfl ?_
            obtain ⟨H12, eH12, h⟩ := bnd h
            refine pw_last (pc := 88) F dX9_row_88 eH12 ?_
            refine pw_aload_n (pc := 89) F dX9_row_89 rfl ?_
            obtain ⟨x13, ex13, h⟩ := bnd h
            refine pw_get (pc := 90) F 9 12 45 (by decide) (by decide) g_098a6cb5f4 inl_9 2 rfl dX9_row_90 ex13 ?_
            refine pw_iload (pc := 93) F dX9_row_93 rfl ?_
            refine pw_iload (pc := 95) F dX9_row_95 rfl ?_
            obtain ⟨H14, eH14, h⟩ := bnd h
            refine pw_iast (pc := 97) F dX9_row_97 eH14 ?_
            refine pw_aload_n (pc := 98) F dX9_row_98 rfl ?_
            obtain ⟨x15, ex15, h⟩ := bnd h
            refine pw_get (pc := 99) F 9 13 48 (by decide) (by decide) g_02ee53a81c inl_9 2 rfl dX9_row_99 ex15 ?_
            refine pw_iload_n (pc := 102) F dX9_row_102 rfl ?_
            refine pw_dup2 (pc := 103) F dX9_row_103 (pvne rfl) (pvne rfl) ?_
            obtain ⟨x16, ex16, h⟩ := bnd h
            refine pw_iald (pc := 104) F dX9_row_104 ex16 ?_
            refine pw_iconst (pc := 105) F 1 dX9_row_105 (by decide) ?_
            refine pw_iadd (pc := 106) F dX9_row_106 ?_
            obtain ⟨H17, eH17, h⟩ := bnd h
            refine pw_iast (pc := 107) F dX9_row_107 eH17 ?_
            refine pw_aload_n (pc := 108) F dX9_row_108 rfl ?_
            refine pw_iload_n (pc := 109) F dX9_row_109 rfl ?_
            refine pw_iload (pc := 110) F dX9_row_110 rfl ?_
            refine pw_i2l (pc := 112) F dX9_row_112 ?_
            obtain ⟨z18, ez18, h⟩ := bnd h
            refine pw_callV (pc := 113) (as := [vi a1, vl a4]) (st := []) (r := (some (vi z18.1))) F 174 9 (by decide) rfl (fun l => m_X9_codeNumber l a0 a1 a4 H17 z18.1 z18.2 ez18) g_74b15b1c50 g_5405ac1030 g_3d4c6b4b45 g_2759d91faa g_522d481ddd hd_X9_codeNumber (rm_ok hf hl (by decide) (by decide)) rfl (vm_spec ez18).1 dX9_row_113 rfl (stk' := [vi z18.1]) rfl ?_
            refine pw_if_ge (pc := 116) F 147 dX9_row_116 (by decide) (fun hc => ?_) (fun hc => ?_)
            · have h := iteT hc h
              exact pw_mask [true, true, false, true, false, true, false, false] (ls' := [some (vr a0), some (vi a1), none, none, none, none, none, none]) rfl (jX9_row_147_ok F q hn hf hl a0 a1 z18.2 h)
            · have h := iteF hc h
              refine pw_aload_n (pc := 119) F dX9_row_119 rfl ?_
              obtain ⟨x19, ex19, h⟩ := bnd h
              refine pw_get (pc := 120) F 9 8 32 (by decide) (by decide) g_8263c80882 inl_9 2 rfl dX9_row_120 ex19 ?_
              refine pw_bipush (pc := 123) F 8 dX9_row_123 (by decide) ?_
              refine pw_iload_n (pc := 125) F dX9_row_125 rfl ?_
              refine pw_imul (pc := 126) F dX9_row_126 ?_
              refine pw_aload_n (pc := 127) F dX9_row_127 rfl ?_
              obtain ⟨x20, ex20, h⟩ := bnd h
              refine pw_get (pc := 128) F 9 9 35 (by decide) (by decide) g_364d877551 inl_9 2 rfl dX9_row_128 ex20 ?_
              refine pw_iload_n (pc := 131) F dX9_row_131 rfl ?_
              obtain ⟨x21, ex21, h⟩ := bnd h
              refine pw_iald (pc := 132) F dX9_row_132 ex21 ?_
              refine pw_iadd (pc := 133) F dX9_row_133 ?_
              refine pw_iload (pc := 134) F dX9_row_134 rfl ?_
              obtain ⟨H22, eH22, h⟩ := bnd h
              refine pw_iast (pc := 136) F dX9_row_136 eH22 ?_
              refine pw_aload_n (pc := 137) F dX9_row_137 rfl ?_
              obtain ⟨x23, ex23, h⟩ := bnd h
              refine pw_get (pc := 138) F 9 9 35 (by decide) (by decide) g_364d877551 inl_9 2 rfl dX9_row_138 ex23 ?_
              refine pw_iload_n (pc := 141) F dX9_row_141 rfl ?_
              refine pw_dup2 (pc := 142) F dX9_row_142 (pvne rfl) (pvne rfl) ?_
              obtain ⟨x24, ex24, h⟩ := bnd h
              refine pw_iald (pc := 143) F dX9_row_143 ex24 ?_
              refine pw_iconst (pc := 144) F 1 dX9_row_144 (by decide) ?_
              refine pw_iadd (pc := 145) F dX9_row_145 ?_
              obtain ⟨H25, eH25, h⟩ := bnd h
              refine pw_iast (pc := 146) F dX9_row_146 eH25 ?_
              exact pw_mask [true, true, false, true, false, true, false, false] (ls' := [some (vr a0), some (vi a1), none, none, none, none, none, none]) rfl (jX9_row_147_ok F q hn hf hl a0 a1 H25 h)
          · have h := iteF hc h
            refine pw_bipush (pc := 56) F (-4) dX9_row_56 (by decide) ?_
            cases h
            exact pw_iret (pc := 58) F q dX9_row_58
        · have h := iteF hc h
          refine pw_bipush (pc := 42) F (-2) dX9_row_42 (by decide) ?_
          cases h
          exact pw_iret (pc := 44) F q dX9_row_44
      · have h := iteF hc h
        refine pw_iconst (pc := 30) F (-1) dX9_row_30 (by decide) ?_
        cases h
        exact pw_iret (pc := 31) F q dX9_row_31
/-! HouseholdVaultModel.howMany(II)I -/
theorem dX9_howMany_0 : decode cX9_howMany 0 = .ok (.aload_n 0, 1) := by decide +kernel
theorem dX9_howMany_1 : decode cX9_howMany 1 = .ok (.iload_n 1, 1) := by decide +kernel
theorem dX9_howMany_2 : decode cX9_howMany 2 = .ok (.invokevirtual 163, 3) := by decide +kernel
theorem dX9_howMany_5 : decode cX9_howMany 5 = .ok (.ifCond .eq 11, 3) := by decide +kernel
theorem dX9_howMany_8 : decode cX9_howMany 8 = .ok (.aload_n 0, 1) := by decide +kernel
theorem dX9_howMany_9 : decode cX9_howMany 9 = .ok (.iload_n 2, 1) := by decide +kernel
theorem dX9_howMany_10 : decode cX9_howMany 10 = .ok (.invokevirtual 178, 3) := by decide +kernel
theorem dX9_howMany_13 : decode cX9_howMany 13 = .ok (.ifCond .ne 5, 3) := by decide +kernel
theorem dX9_howMany_16 : decode cX9_howMany 16 = .ok (.iconst (-1), 1) := by decide +kernel
theorem dX9_howMany_17 : decode cX9_howMany 17 = .ok (.ireturn, 1) := by decide +kernel
theorem dX9_howMany_18 : decode cX9_howMany 18 = .ok (.aload_n 0, 1) := by decide +kernel
theorem dX9_howMany_19 : decode cX9_howMany 19 = .ok (.getfield 7, 3) := by decide +kernel
theorem dX9_howMany_22 : decode cX9_howMany 22 = .ok (.iload_n 1, 1) := by decide +kernel
theorem dX9_howMany_23 : decode cX9_howMany 23 = .ok (.iaload, 1) := by decide +kernel
theorem dX9_howMany_24 : decode cX9_howMany 24 = .ok (.iconst 5, 1) := by decide +kernel
theorem dX9_howMany_25 : decode cX9_howMany 25 = .ok (.if_icmp .ne 13, 3) := by decide +kernel
theorem dX9_howMany_28 : decode cX9_howMany 28 = .ok (.aload_n 0, 1) := by decide +kernel
theorem dX9_howMany_29 : decode cX9_howMany 29 = .ok (.getfield 78, 3) := by decide +kernel
theorem dX9_howMany_32 : decode cX9_howMany 32 = .ok (.iload_n 2, 1) := by decide +kernel
theorem dX9_howMany_33 : decode cX9_howMany 33 = .ok (.iaload, 1) := by decide +kernel
theorem dX9_howMany_34 : decode cX9_howMany 34 = .ok (.iload_n 1, 1) := by decide +kernel
theorem dX9_howMany_35 : decode cX9_howMany 35 = .ok (.if_icmp .eq 6, 3) := by decide +kernel
theorem dX9_howMany_38 : decode cX9_howMany 38 = .ok (.bipush (-2), 2) := by decide +kernel
theorem dX9_howMany_40 : decode cX9_howMany 40 = .ok (.ireturn, 1) := by decide +kernel
theorem dX9_howMany_41 : decode cX9_howMany 41 = .ok (.aload_n 0, 1) := by decide +kernel
theorem dX9_howMany_42 : decode cX9_howMany 42 = .ok (.getfield 136, 3) := by decide +kernel
theorem dX9_howMany_45 : decode cX9_howMany 45 = .ok (.bipush 24, 2) := by decide +kernel
theorem dX9_howMany_47 : decode cX9_howMany 47 = .ok (.if_icmp .ne 6, 3) := by decide +kernel
theorem dX9_howMany_50 : decode cX9_howMany 50 = .ok (.bipush (-4), 2) := by decide +kernel
theorem dX9_howMany_52 : decode cX9_howMany 52 = .ok (.ireturn, 1) := by decide +kernel
theorem dX9_howMany_53 : decode cX9_howMany 53 = .ok (.aload_n 0, 1) := by decide +kernel
theorem dX9_howMany_54 : decode cX9_howMany 54 = .ok (.iconst 2, 1) := by decide +kernel
theorem dX9_howMany_55 : decode cX9_howMany 55 = .ok (.iconst (-1), 1) := by decide +kernel
theorem dX9_howMany_56 : decode cX9_howMany 56 = .ok (.iconst 2, 1) := by decide +kernel
theorem dX9_howMany_57 : decode cX9_howMany 57 = .ok (.invokevirtual 167, 3) := by decide +kernel
theorem dX9_howMany_60 : decode cX9_howMany 60 = .ok (.istore_n 3, 1) := by decide +kernel
theorem dX9_howMany_61 : decode cX9_howMany 61 = .ok (.aload_n 0, 1) := by decide +kernel
theorem dX9_howMany_62 : decode cX9_howMany 62 = .ok (.getfield 19, 3) := by decide +kernel
theorem dX9_howMany_65 : decode cX9_howMany 65 = .ok (.iload_n 3, 1) := by decide +kernel
theorem dX9_howMany_66 : decode cX9_howMany 66 = .ok (.iload_n 1, 1) := by decide +kernel
theorem dX9_howMany_67 : decode cX9_howMany 67 = .ok (.iastore, 1) := by decide +kernel
theorem dX9_howMany_68 : decode cX9_howMany 68 = .ok (.aload_n 0, 1) := by decide +kernel
theorem dX9_howMany_69 : decode cX9_howMany 69 = .ok (.getfield 22, 3) := by decide +kernel
theorem dX9_howMany_72 : decode cX9_howMany 72 = .ok (.iload_n 3, 1) := by decide +kernel
theorem dX9_howMany_73 : decode cX9_howMany 73 = .ok (.iload_n 2, 1) := by decide +kernel
theorem dX9_howMany_74 : decode cX9_howMany 74 = .ok (.iastore, 1) := by decide +kernel
theorem dX9_howMany_75 : decode cX9_howMany 75 = .ok (.iload_n 3, 1) := by decide +kernel
theorem dX9_howMany_76 : decode cX9_howMany 76 = .ok (.ireturn, 1) := by decide +kernel
def f_X9_howMany (a0 a1 a2 : Int) (H : PH) : RO := vm 9 a0 H <|
  (f_X9_isQuestion a0 a1 H).bind fun z1 => (if z1.1 = 0 then some ((-1), z1.2)
  else (f_X9_isCondition a0 a2 z1.2).bind fun z2 => (if z2.1 ≠ 0 then (ld 25 z2.2 a0 1).bind fun x3 => (ld 0 z2.2 x3 a1).bind fun x4 => (if x4 ≠ 5 then some ((-2), z2.2)
  else (ld 25 z2.2 a0 25).bind fun x5 => (ld 0 z2.2 x5 a2).bind fun x6 => (if x6 = a1 then (ld 25 z2.2 a0 0).bind fun x7 => (if x7 ≠ 24 then (f_X9_add a0 2 (-1) 2 z2.2).bind fun z8 => (ld 25 z8.2 a0 4).bind fun x9 => (stv 0 z8.2 x9 z8.1 a1).bind fun H10 => (ld 25 H10 a0 5).bind fun x11 => (stv 0 H10 x11 z8.1 a2).bind fun H12 => some (z8.1, H12)
  else some ((-4), z2.2))
  else some ((-2), z2.2)))
  else some ((-1), z2.2)))
set_option maxHeartbeats 4000000 in
theorem m_X9_howMany (l : Launch) (a0 a1 a2 : Int) (H : PH) (rr : Int) (HH : PH) (h : f_X9_howMany a0 a1 a2 H = some (rr, HH)) : CT l yX9_howMany cX9_howMany 4 (some .int) 3 70 [vr a0, vi a1, vi a2] H (some (vi rr)) HH := by
  refine CT.of RX9 (by decide) rfl [some (vr a0), some (vi a1), some (vi a2), none] rfl rfl ?_
  intro E F q hn hf hl hm
  unfold f_X9_howMany at h
  obtain ⟨hv, h⟩ := vm_spec h
  refine pw_aload_n (pc := 0) F dX9_howMany_0 rfl ?_
  refine pw_iload_n (pc := 1) F dX9_howMany_1 rfl ?_
  obtain ⟨z1, ez1, h⟩ := bnd h
  refine pw_callV (pc := 2) (as := [vi a1]) (st := []) (r := (some (vi z1.1))) F 163 9 (by decide) rfl (fun l => m_X9_isQuestion l a0 a1 H z1.1 z1.2 ez1) g_26236cf357 g_504499df23 g_65a9490ac1 g_2759d91faa g_4f2165d1ca hd_X9_isQuestion (rm_ok hf hl (by decide) (by decide)) rfl (vm_spec ez1).1 dX9_howMany_2 rfl (stk' := [vi z1.1]) rfl ?_
  refine pw_if_eq (pc := 5) F 16 dX9_howMany_5 (by decide) (fun hc => ?_) (fun hc => ?_)
  · have h := iteT hc h
    refine pw_iconst (pc := 16) F (-1) dX9_howMany_16 (by decide) ?_
    cases h
    exact pw_iret (pc := 17) F q dX9_howMany_17
  · have h := iteF hc h
    refine pw_aload_n (pc := 8) F dX9_howMany_8 rfl ?_
    refine pw_iload_n (pc := 9) F dX9_howMany_9 rfl ?_
    obtain ⟨z2, ez2, h⟩ := bnd h
    refine pw_callV (pc := 10) (as := [vi a2]) (st := []) (r := (some (vi z2.1))) F 178 9 (by decide) rfl (fun l => m_X9_isCondition l a0 a2 z1.2 z2.1 z2.2 ez2) g_7eb587748a g_679f284a6f g_67cc1a7d68 g_2759d91faa g_8ca3f2c8d6 hd_X9_isCondition (rm_ok hf hl (by decide) (by decide)) rfl (vm_spec ez2).1 dX9_howMany_10 rfl (stk' := [vi z2.1]) rfl ?_
    refine pw_if_ne (pc := 13) F 18 dX9_howMany_13 (by decide) (fun hc => ?_) (fun hc => ?_)
    · have h := iteT hc h
      refine pw_aload_n (pc := 18) F dX9_howMany_18 rfl ?_
      obtain ⟨x3, ex3, h⟩ := bnd h
      refine pw_get (pc := 19) F 9 1 7 (by decide) (by decide) g_a89464ec18 inl_9 2 rfl dX9_howMany_19 ex3 ?_
      refine pw_iload_n (pc := 22) F dX9_howMany_22 rfl ?_
      obtain ⟨x4, ex4, h⟩ := bnd h
      refine pw_iald (pc := 23) F dX9_howMany_23 ex4 ?_
      refine pw_iconst (pc := 24) F 5 dX9_howMany_24 (by decide) ?_
      refine pw_icmp_ne (pc := 25) F 38 dX9_howMany_25 (by decide) (fun hc => ?_) (fun hc => ?_)
      · have h := iteT hc h
        refine pw_bipush (pc := 38) F (-2) dX9_howMany_38 (by decide) ?_
        cases h
        exact pw_iret (pc := 40) F q dX9_howMany_40
      · have h := iteF hc h
        refine pw_aload_n (pc := 28) F dX9_howMany_28 rfl ?_
        obtain ⟨x5, ex5, h⟩ := bnd h
        refine pw_get (pc := 29) F 9 25 78 (by decide) (by decide) g_26e1dbdafb inl_9 2 rfl dX9_howMany_29 ex5 ?_
        refine pw_iload_n (pc := 32) F dX9_howMany_32 rfl ?_
        obtain ⟨x6, ex6, h⟩ := bnd h
        refine pw_iald (pc := 33) F dX9_howMany_33 ex6 ?_
        refine pw_iload_n (pc := 34) F dX9_howMany_34 rfl ?_
        refine pw_icmp_eq (pc := 35) F 41 dX9_howMany_35 (by decide) (fun hc => ?_) (fun hc => ?_)
        · have h := iteT hc h
          refine pw_aload_n (pc := 41) F dX9_howMany_41 rfl ?_
          obtain ⟨x7, ex7, h⟩ := bnd h
          refine pw_get (pc := 42) F 9 0 136 (by decide) (by decide) g_eb25be88a8 inl_9 0 rfl dX9_howMany_42 ex7 ?_
          refine pw_bipush (pc := 45) F 24 dX9_howMany_45 (by decide) ?_
          refine pw_icmp_ne (pc := 47) F 53 dX9_howMany_47 (by decide) (fun hc => ?_) (fun hc => ?_)
          · have h := iteT hc h
            refine pw_aload_n (pc := 53) F dX9_howMany_53 rfl ?_
            refine pw_iconst (pc := 54) F 2 dX9_howMany_54 (by decide) ?_
            refine pw_iconst (pc := 55) F (-1) dX9_howMany_55 (by decide) ?_
            refine pw_iconst (pc := 56) F 2 dX9_howMany_56 (by decide) ?_
            obtain ⟨z8, ez8, h⟩ := bnd h
            refine pw_callV (pc := 57) (as := [vi 2, vi (-1), vi 2]) (st := []) (r := (some (vi z8.1))) F 167 9 (by decide) rfl (fun l => m_X9_add l a0 2 (-1) 2 z2.2 z8.1 z8.2 ez8) g_4e37b5869d g_00ef69ae41 g_862b2bfc9b g_2759d91faa g_c8224d232d hd_X9_add (rm_ok hf hl (by decide) (by decide)) rfl (vm_spec ez8).1 dX9_howMany_57 rfl (stk' := [vi z8.1]) rfl ?_
            refine pw_istore_n (pc := 60) F dX9_howMany_60 (lt_nl hn (by decide)) [some (vr a0), some (vi a1), some (vi a2), some (vi z8.1)] rfl ?_
            refine pw_aload_n (pc := 61) F dX9_howMany_61 rfl ?_
            obtain ⟨x9, ex9, h⟩ := bnd h
            refine pw_get (pc := 62) F 9 4 19 (by decide) (by decide) g_1b40c2a4c8 inl_9 2 rfl dX9_howMany_62 ex9 ?_
            refine pw_iload_n (pc := 65) F dX9_howMany_65 rfl ?_
            refine pw_iload_n (pc := 66) F dX9_howMany_66 rfl ?_
            obtain ⟨H10, eH10, h⟩ := bnd h
            refine pw_iast (pc := 67) F dX9_howMany_67 eH10 ?_
            refine pw_aload_n (pc := 68) F dX9_howMany_68 rfl ?_
            obtain ⟨x11, ex11, h⟩ := bnd h
            refine pw_get (pc := 69) F 9 5 22 (by decide) (by decide) g_cd0b03d2d5 inl_9 2 rfl dX9_howMany_69 ex11 ?_
            refine pw_iload_n (pc := 72) F dX9_howMany_72 rfl ?_
            refine pw_iload_n (pc := 73) F dX9_howMany_73 rfl ?_
            obtain ⟨H12, eH12, h⟩ := bnd h
            refine pw_iast (pc := 74) F dX9_howMany_74 eH12 ?_
            refine pw_iload_n (pc := 75) F dX9_howMany_75 rfl ?_
            cases h
            exact pw_iret (pc := 76) F q dX9_howMany_76
          · have h := iteF hc h
            refine pw_bipush (pc := 50) F (-4) dX9_howMany_50 (by decide) ?_
            cases h
            exact pw_iret (pc := 52) F q dX9_howMany_52
        · have h := iteF hc h
          refine pw_bipush (pc := 38) F (-2) dX9_howMany_38 (by decide) ?_
          cases h
          exact pw_iret (pc := 40) F q dX9_howMany_40
    · have h := iteF hc h
      refine pw_iconst (pc := 16) F (-1) dX9_howMany_16 (by decide) ?_
      cases h
      exact pw_iret (pc := 17) F q dX9_howMany_17
