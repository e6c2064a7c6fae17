/-! HouseholdVaultModel.makeAt(II)V -/
theorem dX9_makeAt_0 : decode cX9_makeAt 0 = .ok (.aload_n 0, 1) := by decide +kernel
theorem dX9_makeAt_1 : decode cX9_makeAt 1 = .ok (.getfield 16, 3) := by decide +kernel
theorem dX9_makeAt_4 : decode cX9_makeAt 4 = .ok (.iload_n 2, 1) := by decide +kernel
theorem dX9_makeAt_5 : decode cX9_makeAt 5 = .ok (.iaload, 1) := by decide +kernel
theorem dX9_makeAt_6 : decode cX9_makeAt 6 = .ok (.iconst 1, 1) := by decide +kernel
theorem dX9_makeAt_7 : decode cX9_makeAt 7 = .ok (.if_icmp .ne 64, 3) := by decide +kernel
theorem dX9_makeAt_10 : decode cX9_makeAt 10 = .ok (.aload_n 0, 1) := by decide +kernel
theorem dX9_makeAt_11 : decode cX9_makeAt 11 = .ok (.getfield 13, 3) := by decide +kernel
theorem dX9_makeAt_14 : decode cX9_makeAt 14 = .ok (.iload_n 2, 1) := by decide +kernel
theorem dX9_makeAt_15 : decode cX9_makeAt 15 = .ok (.iaload, 1) := by decide +kernel
theorem dX9_makeAt_16 : decode cX9_makeAt 16 = .ok (.ifCond .ge 7, 3) := by decide +kernel
theorem dX9_makeAt_19 : decode cX9_makeAt 19 = .ok (.iconst 0, 1) := by decide +kernel
theorem dX9_makeAt_20 : decode cX9_makeAt 20 = .ok (.goto 14, 3) := by decide +kernel
theorem dX9_makeAt_23 : decode cX9_makeAt 23 = .ok (.aload_n 0, 1) := by decide +kernel
theorem dX9_makeAt_24 : decode cX9_makeAt 24 = .ok (.iload_n 1, 1) := by decide +kernel
theorem dX9_makeAt_25 : decode cX9_makeAt 25 = .ok (.aload_n 0, 1) := by decide +kernel
theorem dX9_makeAt_26 : decode cX9_makeAt 26 = .ok (.getfield 13, 3) := by decide +kernel
theorem dX9_makeAt_29 : decode cX9_makeAt 29 = .ok (.iload_n 2, 1) := by decide +kernel
theorem dX9_makeAt_30 : decode cX9_makeAt 30 = .ok (.iaload, 1) := by decide +kernel
theorem dX9_makeAt_31 : decode cX9_makeAt 31 = .ok (.invokevirtual 184, 3) := by decide +kernel
theorem dX9_makeAt_34 : decode cX9_makeAt 34 = .ok (.istore_n 3, 1) := by decide +kernel
theorem dX9_makeAt_35 : decode cX9_makeAt 35 = .ok (.aload_n 0, 1) := by decide +kernel
theorem dX9_makeAt_36 : decode cX9_makeAt 36 = .ok (.getfield 13, 3) := by decide +kernel
theorem dX9_makeAt_39 : decode cX9_makeAt 39 = .ok (.iload_n 2, 1) := by decide +kernel
theorem dX9_makeAt_40 : decode cX9_makeAt 40 = .ok (.iaload, 1) := by decide +kernel
theorem dX9_makeAt_41 : decode cX9_makeAt 41 = .ok (.ifCond .ge 7, 3) := by decide +kernel
theorem dX9_makeAt_44 : decode cX9_makeAt 44 = .ok (.iconst 0, 1) := by decide +kernel
theorem dX9_makeAt_45 : decode cX9_makeAt 45 = .ok (.goto 4, 3) := by decide +kernel
theorem dX9_makeAt_48 : decode cX9_makeAt 48 = .ok (.iconst 1, 1) := by decide +kernel
theorem dX9_makeAt_49 : decode cX9_makeAt 49 = .ok (.istore 4, 2) := by decide +kernel
theorem dX9_makeAt_51 : decode cX9_makeAt 51 = .ok (.iload 4, 2) := by decide +kernel
theorem dX9_makeAt_53 : decode cX9_makeAt 53 = .ok (.iload_n 3, 1) := by decide +kernel
theorem dX9_makeAt_54 : decode cX9_makeAt 54 = .ok (.if_icmp .gt 16, 3) := by decide +kernel
theorem dX9_makeAt_57 : decode cX9_makeAt 57 = .ok (.aload_n 0, 1) := by decide +kernel
theorem dX9_makeAt_58 : decode cX9_makeAt 58 = .ok (.iload_n 2, 1) := by decide +kernel
theorem dX9_makeAt_59 : decode cX9_makeAt 59 = .ok (.iload 4, 2) := by decide +kernel
theorem dX9_makeAt_61 : decode cX9_makeAt 61 = .ok (.invokevirtual 212, 3) := by decide +kernel
theorem dX9_makeAt_64 : decode cX9_makeAt 64 = .ok (.iinc 4 1, 3) := by decide +kernel
theorem dX9_makeAt_67 : decode cX9_makeAt 67 = .ok (.goto (-16), 3) := by decide +kernel
theorem dX9_makeAt_70 : decode cX9_makeAt 70 = .ok (.return_, 1) := by decide +kernel
theorem dX9_makeAt_71 : decode cX9_makeAt 71 = .ok (.aload_n 0, 1) := by decide +kernel
theorem dX9_makeAt_72 : decode cX9_makeAt 72 = .ok (.getfield 16, 3) := by decide +kernel
theorem dX9_makeAt_75 : decode cX9_makeAt 75 = .ok (.iload_n 2, 1) := by decide +kernel
theorem dX9_makeAt_76 : decode cX9_makeAt 76 = .ok (.iaload, 1) := by decide +kernel
theorem dX9_makeAt_77 : decode cX9_makeAt 77 = .ok (.iconst 2, 1) := by decide +kernel
theorem dX9_makeAt_78 : decode cX9_makeAt 78 = .ok (.if_icmp .ne 12, 3) := by decide +kernel
theorem dX9_makeAt_81 : decode cX9_makeAt 81 = .ok (.aload_n 0, 1) := by decide +kernel
theorem dX9_makeAt_82 : decode cX9_makeAt 82 = .ok (.getfield 19, 3) := by decide +kernel
theorem dX9_makeAt_85 : decode cX9_makeAt 85 = .ok (.iload_n 2, 1) := by decide +kernel
theorem dX9_makeAt_86 : decode cX9_makeAt 86 = .ok (.iaload, 1) := by decide +kernel
theorem dX9_makeAt_87 : decode cX9_makeAt 87 = .ok (.goto 14, 3) := by decide +kernel
theorem dX9_makeAt_90 : decode cX9_makeAt 90 = .ok (.aload_n 0, 1) := by decide +kernel
theorem dX9_makeAt_91 : decode cX9_makeAt 91 = .ok (.getfield 13, 3) := by decide +kernel
theorem dX9_makeAt_94 : decode cX9_makeAt 94 = .ok (.aload_n 0, 1) := by decide +kernel
theorem dX9_makeAt_95 : decode cX9_makeAt 95 = .ok (.getfield 19, 3) := by decide +kernel
theorem dX9_makeAt_98 : decode cX9_makeAt 98 = .ok (.iload_n 2, 1) := by decide +kernel
theorem dX9_makeAt_99 : decode cX9_makeAt 99 = .ok (.iaload, 1) := by decide +kernel
theorem dX9_makeAt_100 : decode cX9_makeAt 100 = .ok (.iaload, 1) := by decide +kernel
theorem dX9_makeAt_101 : decode cX9_makeAt 101 = .ok (.istore_n 3, 1) := by decide +kernel
theorem dX9_makeAt_102 : decode cX9_makeAt 102 = .ok (.iconst 0, 1) := by decide +kernel
theorem dX9_makeAt_103 : decode cX9_makeAt 103 = .ok (.istore 4, 2) := by decide +kernel
theorem dX9_makeAt_105 : decode cX9_makeAt 105 = .ok (.lconst 0, 1) := by decide +kernel
theorem dX9_makeAt_106 : decode cX9_makeAt 106 = .ok (.lstore 5, 2) := by decide +kernel
theorem dX9_makeAt_108 : decode cX9_makeAt 108 = .ok (.iconst 1, 1) := by decide +kernel
theorem dX9_makeAt_109 : decode cX9_makeAt 109 = .ok (.istore 7, 2) := by decide +kernel
theorem dX9_makeAt_111 : decode cX9_makeAt 111 = .ok (.iload 7, 2) := by decide +kernel
theorem dX9_makeAt_113 : decode cX9_makeAt 113 = .ok (.aload_n 0, 1) := by decide +kernel
theorem dX9_makeAt_114 : decode cX9_makeAt 114 = .ok (.iload_n 1, 1) := by decide +kernel
theorem dX9_makeAt_115 : decode cX9_makeAt 115 = .ok (.iload_n 3, 1) := by decide +kernel
theorem dX9_makeAt_116 : decode cX9_makeAt 116 = .ok (.invokevirtual 184, 3) := by decide +kernel
theorem dX9_makeAt_119 : decode cX9_makeAt 119 = .ok (.if_icmp .gt 97, 3) := by decide +kernel
theorem dX9_makeAt_122 : decode cX9_makeAt 122 = .ok (.aload_n 0, 1) := by decide +kernel
theorem dX9_makeAt_123 : decode cX9_makeAt 123 = .ok (.getfield 16, 3) := by decide +kernel
theorem dX9_makeAt_126 : decode cX9_makeAt 126 = .ok (.iload_n 2, 1) := by decide +kernel
theorem dX9_makeAt_127 : decode cX9_makeAt 127 = .ok (.iaload, 1) := by decide +kernel
theorem dX9_makeAt_128 : decode cX9_makeAt 128 = .ok (.iconst 2, 1) := by decide +kernel
theorem dX9_makeAt_129 : decode cX9_makeAt 129 = .ok (.if_icmp .ne 36, 3) := by decide +kernel
theorem dX9_makeAt_132 : decode cX9_makeAt 132 = .ok (.iload 4, 2) := by decide +kernel
theorem dX9_makeAt_134 : decode cX9_makeAt 134 = .ok (.aload_n 0, 1) := by decide +kernel
theorem dX9_makeAt_135 : decode cX9_makeAt 135 = .ok (.getfield 121, 3) := by decide +kernel
theorem dX9_makeAt_138 : decode cX9_makeAt 138 = .ok (.bipush 6, 2) := by decide +kernel
theorem dX9_makeAt_140 : decode cX9_makeAt 140 = .ok (.aload_n 0, 1) := by decide +kernel
theorem dX9_makeAt_141 : decode cX9_makeAt 141 = .ok (.getfield 22, 3) := by decide +kernel
theorem dX9_makeAt_144 : decode cX9_makeAt 144 = .ok (.iload_n 2, 1) := by decide +kernel
theorem dX9_makeAt_145 : decode cX9_makeAt 145 = .ok (.iaload, 1) := by decide +kernel
theorem dX9_makeAt_146 : decode cX9_makeAt 146 = .ok (.imul, 1) := by decide +kernel
theorem dX9_makeAt_147 : decode cX9_makeAt 147 = .ok (.iload 7, 2) := by decide +kernel
theorem dX9_makeAt_149 : decode cX9_makeAt 149 = .ok (.iadd, 1) := by decide +kernel
theorem dX9_makeAt_150 : decode cX9_makeAt 150 = .ok (.baload, 1) := by decide +kernel
theorem dX9_makeAt_151 : decode cX9_makeAt 151 = .ok (.ifCond .eq 7, 3) := by decide +kernel
theorem dX9_makeAt_154 : decode cX9_makeAt 154 = .ok (.iconst 1, 1) := by decide +kernel
theorem dX9_makeAt_155 : decode cX9_makeAt 155 = .ok (.goto 4, 3) := by decide +kernel
theorem dX9_makeAt_158 : decode cX9_makeAt 158 = .ok (.iconst 0, 1) := by decide +kernel
theorem dX9_makeAt_159 : decode cX9_makeAt 159 = .ok (.iadd, 1) := by decide +kernel
theorem dX9_makeAt_160 : decode cX9_makeAt 160 = .ok (.istore 4, 2) := by decide +kernel
theorem dX9_makeAt_162 : decode cX9_makeAt 162 = .ok (.goto 48, 3) := by decide +kernel
theorem dX9_makeAt_165 : decode cX9_makeAt 165 = .ok (.aload_n 0, 1) := by decide +kernel
theorem dX9_makeAt_166 : decode cX9_makeAt 166 = .ok (.getfield 118, 3) := by decide +kernel
theorem dX9_makeAt_169 : decode cX9_makeAt 169 = .ok (.bipush 6, 2) := by decide +kernel
theorem dX9_makeAt_171 : decode cX9_makeAt 171 = .ok (.aload_n 0, 1) := by decide +kernel
theorem dX9_makeAt_172 : decode cX9_makeAt 172 = .ok (.getfield 19, 3) := by decide +kernel
theorem dX9_makeAt_175 : decode cX9_makeAt 175 = .ok (.iload_n 2, 1) := by decide +kernel
theorem dX9_makeAt_176 : decode cX9_makeAt 176 = .ok (.iaload, 1) := by decide +kernel
theorem dX9_makeAt_177 : decode cX9_makeAt 177 = .ok (.imul, 1) := by decide +kernel
theorem dX9_makeAt_178 : decode cX9_makeAt 178 = .ok (.iload 7, 2) := by decide +kernel
theorem dX9_makeAt_180 : decode cX9_makeAt 180 = .ok (.iadd, 1) := by decide +kernel
theorem dX9_makeAt_181 : decode cX9_makeAt 181 = .ok (.iaload, 1) := by decide +kernel
theorem dX9_makeAt_182 : decode cX9_makeAt 182 = .ok (.ifCond .ne 28, 3) := by decide +kernel
theorem dX9_makeAt_185 : decode cX9_makeAt 185 = .ok (.iinc 4 1, 3) := by decide +kernel
theorem dX9_makeAt_188 : decode cX9_makeAt 188 = .ok (.lload 5, 2) := by decide +kernel
theorem dX9_makeAt_190 : decode cX9_makeAt 190 = .ok (.aload_n 0, 1) := by decide +kernel
theorem dX9_makeAt_191 : decode cX9_makeAt 191 = .ok (.getfield 115, 3) := by decide +kernel
theorem dX9_makeAt_194 : decode cX9_makeAt 194 = .ok (.bipush 6, 2) := by decide +kernel
theorem dX9_makeAt_196 : decode cX9_makeAt 196 = .ok (.aload_n 0, 1) := by decide +kernel
theorem dX9_makeAt_197 : decode cX9_makeAt 197 = .ok (.getfield 19, 3) := by decide +kernel
theorem dX9_makeAt_200 : decode cX9_makeAt 200 = .ok (.iload_n 2, 1) := by decide +kernel
theorem dX9_makeAt_201 : decode cX9_makeAt 201 = .ok (.iaload, 1) := by decide +kernel
theorem dX9_makeAt_202 : decode cX9_makeAt 202 = .ok (.imul, 1) := by decide +kernel
theorem dX9_makeAt_203 : decode cX9_makeAt 203 = .ok (.iload 7, 2) := by decide +kernel
theorem dX9_makeAt_205 : decode cX9_makeAt 205 = .ok (.iadd, 1) := by decide +kernel
theorem dX9_makeAt_206 : decode cX9_makeAt 206 = .ok (.laload, 1) := by decide +kernel
theorem dX9_makeAt_207 : decode cX9_makeAt 207 = .ok (.ladd, 1) := by decide +kernel
theorem dX9_makeAt_208 : decode cX9_makeAt 208 = .ok (.lstore 5, 2) := by decide +kernel
theorem dX9_makeAt_210 : decode cX9_makeAt 210 = .ok (.iinc 7 1, 3) := by decide +kernel
theorem dX9_makeAt_213 : decode cX9_makeAt 213 = .ok (.goto (-102), 3) := by decide +kernel
theorem dX9_makeAt_216 : decode cX9_makeAt 216 = .ok (.aload_n 0, 1) := by decide +kernel
theorem dX9_makeAt_217 : decode cX9_makeAt 217 = .ok (.getfield 16, 3) := by decide +kernel
theorem dX9_makeAt_220 : decode cX9_makeAt 220 = .ok (.iload_n 2, 1) := by decide +kernel
theorem dX9_makeAt_221 : decode cX9_makeAt 221 = .ok (.iaload, 1) := by decide +kernel
theorem dX9_makeAt_222 : decode cX9_makeAt 222 = .ok (.iconst 2, 1) := by decide +kernel
theorem dX9_makeAt_223 : decode cX9_makeAt 223 = .ok (.if_icmp .ne 16, 3) := by decide +kernel
theorem dX9_makeAt_226 : decode cX9_makeAt 226 = .ok (.aload_n 0, 1) := by decide +kernel
theorem dX9_makeAt_227 : decode cX9_makeAt 227 = .ok (.iload_n 2, 1) := by decide +kernel
theorem dX9_makeAt_228 : decode cX9_makeAt 228 = .ok (.iconst 0, 1) := by decide +kernel
theorem dX9_makeAt_229 : decode cX9_makeAt 229 = .ok (.iload 4, 2) := by decide +kernel
theorem dX9_makeAt_231 : decode cX9_makeAt 231 = .ok (.i2l, 1) := by decide +kernel
theorem dX9_makeAt_232 : decode cX9_makeAt 232 = .ok (.iconst 0, 1) := by decide +kernel
theorem dX9_makeAt_233 : decode cX9_makeAt 233 = .ok (.invokevirtual 208, 3) := by decide +kernel
theorem dX9_makeAt_236 : decode cX9_makeAt 236 = .ok (.goto 62, 3) := by decide +kernel
theorem dX9_makeAt_239 : decode cX9_makeAt 239 = .ok (.iload 4, 2) := by decide +kernel
theorem dX9_makeAt_241 : decode cX9_makeAt 241 = .ok (.ifCond .eq 23, 3) := by decide +kernel
theorem dX9_makeAt_244 : decode cX9_makeAt 244 = .ok (.aload_n 0, 1) := by decide +kernel
theorem dX9_makeAt_245 : decode cX9_makeAt 245 = .ok (.getfield 7, 3) := by decide +kernel
theorem dX9_makeAt_248 : decode cX9_makeAt 248 = .ok (.iload_n 2, 1) := by decide +kernel
theorem dX9_makeAt_249 : decode cX9_makeAt 249 = .ok (.iaload, 1) := by decide +kernel
theorem dX9_makeAt_250 : decode cX9_makeAt 250 = .ok (.iconst 2, 1) := by decide +kernel
theorem dX9_makeAt_251 : decode cX9_makeAt 251 = .ok (.if_icmp .ne 17, 3) := by decide +kernel
theorem dX9_makeAt_254 : decode cX9_makeAt 254 = .ok (.lload 5, 2) := by decide +kernel
theorem dX9_makeAt_256 : decode cX9_makeAt 256 = .ok (.lload 5, 2) := by decide +kernel
theorem dX9_makeAt_258 : decode cX9_makeAt 258 = .ok (.l2i, 1) := by decide +kernel
theorem dX9_makeAt_259 : decode cX9_makeAt 259 = .ok (.i2l, 1) := by decide +kernel
theorem dX9_makeAt_260 : decode cX9_makeAt 260 = .ok (.lcmp, 1) := by decide +kernel
theorem dX9_makeAt_261 : decode cX9_makeAt 261 = .ok (.ifCond .eq 7, 3) := by decide +kernel
theorem dX9_makeAt_264 : decode cX9_makeAt 264 = .ok (.iconst 1, 1) := by decide +kernel
theorem dX9_makeAt_265 : decode cX9_makeAt 265 = .ok (.goto 4, 3) := by decide +kernel
theorem dX9_makeAt_268 : decode cX9_makeAt 268 = .ok (.iconst 0, 1) := by decide +kernel
theorem dX9_makeAt_269 : decode cX9_makeAt 269 = .ok (.istore 7, 2) := by decide +kernel
theorem dX9_makeAt_271 : decode cX9_makeAt 271 = .ok (.aload_n 0, 1) := by decide +kernel
theorem dX9_makeAt_272 : decode cX9_makeAt 272 = .ok (.iload_n 2, 1) := by decide +kernel
theorem dX9_makeAt_273 : decode cX9_makeAt 273 = .ok (.iconst 0, 1) := by decide +kernel
theorem dX9_makeAt_274 : decode cX9_makeAt 274 = .ok (.iload 7, 2) := by decide +kernel
theorem dX9_makeAt_276 : decode cX9_makeAt 276 = .ok (.ifCond .eq 7, 3) := by decide +kernel
theorem dX9_makeAt_279 : decode cX9_makeAt 279 = .ok (.lconst 0, 1) := by decide +kernel
theorem dX9_makeAt_280 : decode cX9_makeAt 280 = .ok (.goto 5, 3) := by decide +kernel
theorem dX9_makeAt_283 : decode cX9_makeAt 283 = .ok (.lload 5, 2) := by decide +kernel
theorem dX9_makeAt_285 : decode cX9_makeAt 285 = .ok (.iload 7, 2) := by decide +kernel
theorem dX9_makeAt_287 : decode cX9_makeAt 287 = .ok (.ifCond .eq 7, 3) := by decide +kernel
theorem dX9_makeAt_290 : decode cX9_makeAt 290 = .ok (.iconst 5, 1) := by decide +kernel
theorem dX9_makeAt_291 : decode cX9_makeAt 291 = .ok (.goto 4, 3) := by decide +kernel
theorem dX9_makeAt_294 : decode cX9_makeAt 294 = .ok (.iconst 0, 1) := by decide +kernel
theorem dX9_makeAt_295 : decode cX9_makeAt 295 = .ok (.invokevirtual 208, 3) := by decide +kernel
theorem dX9_makeAt_298 : decode cX9_makeAt 298 = .ok (.return_, 1) := by decide +kernel
def jX9_makeAt_295 (s0 s1 s2 s3 s4 : Int) (H : PH) : RO :=
  (f_X9_told s0 s1 s2 s3 s4 H).bind fun z1 => some (0, z1.2)
set_option maxHeartbeats 4000000 in
theorem jX9_makeAt_295_ok {E : PE} {rr : Int} {HH : PH} (F : FX E cX9_makeAt RX9) (q : QE E none HH none) (hn : nLof E = 8) (hf : (roomOf E).frames = 2) (hl : (roomOf E).locals = 49) (s0 s1 s2 s3 s4 : Int) (H : PH) (h : jX9_makeAt_295 s0 s1 s2 s3 s4 H = some (rr, HH)) : PW E 295 [none, none, none, none, none, none, none, none] [vi s4, vl s3, vi s2, vi s1, vr s0] H := by
  unfold jX9_makeAt_295 at h
  obtain ⟨z1, ez1, h⟩ := bnd h
  refine pw_callV (pc := 295) (as := [vi s1, vi s2, vl s3, vi s4]) (st := []) (r := none) F 208 9 (by decide) rfl (fun l => m_X9_told l s0 s1 s2 s3 s4 H z1.1 z1.2 ez1) g_b31a41e5be g_bf9f77486a g_02988af58e g_2759d91faa g_fd92aa9107 hd_X9_told (rm_ok hf hl (by decide) (by decide)) rfl (vm_spec ez1).1 dX9_makeAt_295 rfl (stk' := []) rfl ?_
  cases h
  exact pw_vret (pc := 298) F q dX9_makeAt_298
def jX9_makeAt_285 (p7 s0 s1 s2 s3 : Int) (H : PH) : RO :=
  (if p7 = 0 then jX9_makeAt_295 s0 s1 s2 s3 0 H
  else jX9_makeAt_295 s0 s1 s2 s3 5 H)
set_option maxHeartbeats 4000000 in
theorem jX9_makeAt_285_ok {E : PE} {rr : Int} {HH : PH} (F : FX E cX9_makeAt RX9) (q : QE E none HH none) (hn : nLof E = 8) (hf : (roomOf E).frames = 2) (hl : (roomOf E).locals = 49) (p7 s0 s1 s2 s3 : Int) (H : PH) (h : jX9_makeAt_285 p7 s0 s1 s2 s3 H = some (rr, HH)) : PW E 285 [none, none, none, none, none, none, none, some (vi p7)] [vl s3, vi s2, vi s1, vr s0] H := by
  unfold jX9_makeAt_285 at h
  refine pw_iload (pc := 285) F dX9_makeAt_285 rfl ?_
  refine pw_if_eq (pc := 287) F 294 dX9_makeAt_287 (by decide) (fun hc => ?_) (fun hc => ?_)
  · have h := iteT hc h
    refine pw_iconst (pc := 294) F 0 dX9_makeAt_294 (by decide) ?_
    exact pw_mask [true, true, true, true, true, true, true, false] (ls' := [none, none, none, none, none, none, none, none]) rfl (jX9_makeAt_295_ok F q hn hf hl s0 s1 s2 s3 0 H h)
  · have h := iteF hc h
    refine pw_iconst (pc := 290) F 5 dX9_makeAt_290 (by decide) ?_
    refine pw_goto (pc := 291) F 295 dX9_makeAt_291 (by decide) ?_
    exact pw_mask [true, true, true, true, true, true, true, false] (ls' := [none, none, none, none, none, none, none, none]) rfl (jX9_makeAt_295_ok F q hn hf hl s0 s1 s2 s3 5 H h)
def jX9_makeAt_269 (p0 p2 p5 s0 : Int) (H : PH) : RO :=
  (if s0 = 0 then jX9_makeAt_285 s0 p0 p2 0 p5 H
  else jX9_makeAt_285 s0 p0 p2 0 0 H)
set_option maxHeartbeats 4000000 in
theorem jX9_makeAt_269_ok {E : PE} {rr : Int} {HH : PH} (F : FX E cX9_makeAt RX9) (q : QE E none HH none) (hn : nLof E = 8) (hf : (roomOf E).frames = 2) (hl : (roomOf E).locals = 49) (p0 p2 p5 s0 : Int) (H : PH) (h : jX9_makeAt_269 p0 p2 p5 s0 H = some (rr, HH)) : PW E 269 [some (vr p0), none, some (vi p2), none, none, some (vl p5), none, none] [vi s0] H := by
  unfold jX9_makeAt_269 at h
  refine pw_istore (pc := 269) F dX9_makeAt_269 (lt_nl hn (by decide)) [some (vr p0), none, some (vi p2), none, none, some (vl p5), none, some (vi s0)] rfl ?_
  refine pw_aload_n (pc := 271) F dX9_makeAt_271 rfl ?_
  refine pw_iload_n (pc := 272) F dX9_makeAt_272 rfl ?_
  refine pw_iconst (pc := 273) F 0 dX9_makeAt_273 (by decide) ?_
  refine pw_iload (pc := 274) F dX9_makeAt_274 rfl ?_
  refine pw_if_eq (pc := 276) F 283 dX9_makeAt_276 (by decide) (fun hc => ?_) (fun hc => ?_)
  · have h := iteT hc h
    refine pw_lload (pc := 283) F dX9_makeAt_283 rfl ?_
    exact pw_mask [false, true, false, true, true, false, true, true] (ls' := [none, none, none, none, none, none, none, some (vi s0)]) rfl (jX9_makeAt_285_ok F q hn hf hl s0 p0 p2 0 p5 H h)
  · have h := iteF hc h
    refine pw_lconst (pc := 279) F 0 dX9_makeAt_279 (by decide) ?_
    refine pw_goto (pc := 280) F 285 dX9_makeAt_280 (by decide) ?_
    exact pw_mask [false, true, false, true, true, false, true, true] (ls' := [none, none, none, none, none, none, none, some (vi s0)]) rfl (jX9_makeAt_285_ok F q hn hf hl s0 p0 p2 0 0 H h)
def jX9_makeAt_264 (p0 p2 p5 : Int) (H : PH) : RO :=
  jX9_makeAt_269 p0 p2 p5 1 H
set_option maxHeartbeats 4000000 in
theorem jX9_makeAt_264_ok {E : PE} {rr : Int} {HH : PH} (F : FX E cX9_makeAt RX9) (q : QE E none HH none) (hn : nLof E = 8) (hf : (roomOf E).frames = 2) (hl : (roomOf E).locals = 49) (p0 p2 p5 : Int) (H : PH) (h : jX9_makeAt_264 p0 p2 p5 H = some (rr, HH)) : PW E 264 [some (vr p0), none, some (vi p2), none, none, some (vl p5), none, none] [] H := by
  unfold jX9_makeAt_264 at h
  refine pw_iconst (pc := 264) F 1 dX9_makeAt_264 (by decide) ?_
  refine pw_goto (pc := 265) F 269 dX9_makeAt_265 (by decide) ?_
  exact pw_mask [true, true, true, true, true, true, true, true] (ls' := [some (vr p0), none, some (vi p2), none, none, some (vl p5), none, none]) rfl (jX9_makeAt_269_ok F q hn hf hl p0 p2 p5 1 H h)
def jX9_makeAt_268 (p0 p2 p5 : Int) (H : PH) : RO :=
  jX9_makeAt_269 p0 p2 p5 0 H
set_option maxHeartbeats 4000000 in
theorem jX9_makeAt_268_ok {E : PE} {rr : Int} {HH : PH} (F : FX E cX9_makeAt RX9) (q : QE E none HH none) (hn : nLof E = 8) (hf : (roomOf E).frames = 2) (hl : (roomOf E).locals = 49) (p0 p2 p5 : Int) (H : PH) (h : jX9_makeAt_268 p0 p2 p5 H = some (rr, HH)) : PW E 268 [some (vr p0), none, some (vi p2), none, none, some (vl p5), none, none] [] H := by
  unfold jX9_makeAt_268 at h
  refine pw_iconst (pc := 268) F 0 dX9_makeAt_268 (by decide) ?_
  exact pw_mask [true, true, true, true, true, true, true, true] (ls' := [some (vr p0), none, some (vi p2), none, none, some (vl p5), none, none]) rfl (jX9_makeAt_269_ok F q hn hf hl p0 p2 p5 0 H h)
def jX9_makeAt_210 (self111 : Int → Int → Int → PH → RO) (p0 p1 p2 p3 p4 p5 p7 : Int) (H : PH) : RO :=
  self111 p4 p5 (w32 (p7 + 1)) H
set_option maxHeartbeats 4000000 in
theorem jX9_makeAt_210_ok {E : PE} {rr : Int} {HH : PH} (F : FX E cX9_makeAt RX9) (q : QE E none HH none) (hn : nLof E = 8) (hf : (roomOf E).frames = 2) (hl : (roomOf E).locals = 49) (self111 : Int → Int → Int → PH → RO) (p0 p1 p2 p3 p4 p5 p7 : Int) (H : PH) (ih111 : ∀ (v4 v5 v7 : Int) (HV : PH), self111 v4 v5 v7 HV = some (rr, HH) → PW E 111 [some (vr p0), some (vi p1), some (vi p2), some (vi p3), some (vi v4), some (vl v5), none, some (vi v7)] [] HV) (h : jX9_makeAt_210 self111 p0 p1 p2 p3 p4 p5 p7 H = some (rr, HH)) : PW E 210 [some (vr p0), some (vi p1), some (vi p2), some (vi p3), some (vi p4), some (vl p5), none, some (vi p7)] [] H := by
  unfold jX9_makeAt_210 at h
  refine pw_iinc (pc := 210) F dX9_makeAt_210 rfl (lt_nl hn (by decide)) [some (vr p0), some (vi p1), some (vi p2), some (vi p3), some (vi p4), some (vl p5), none, some (vi (w32 (p7 + 1)))] rfl (by decide) ?_
  refine pw_goto (pc := 213) F 111 dX9_makeAt_213 (by decide) ?_
  exact pw_mask [true, true, true, true, true, true, true, true] (ls' := [some (vr p0), some (vi p1), some (vi p2), some (vi p3), some (vi p4), some (vl p5), none, some (vi (w32 (p7 + 1)))]) rfl (ih111 p4 p5 (w32 (p7 + 1)) H h)
def jX9_makeAt_159 (self111 : Int → Int → Int → PH → RO) (p0 p1 p2 p3 p5 p7 s0 s1 : Int) (H : PH) : RO :=
  jX9_makeAt_210 self111 p0 p1 p2 p3 (w32 (s0 + s1)) p5 p7 H
set_option maxHeartbeats 4000000 in
theorem jX9_makeAt_159_ok {E : PE} {rr : Int} {HH : PH} (F : FX E cX9_makeAt RX9) (q : QE E none HH none) (hn : nLof E = 8) (hf : (roomOf E).frames = 2) (hl : (roomOf E).locals = 49) (self111 : Int → Int → Int → PH → RO) (p0 p1 p2 p3 p5 p7 s0 s1 : Int) (H : PH) (ih111 : ∀ (v4 v5 v7 : Int) (HV : PH), self111 v4 v5 v7 HV = some (rr, HH) → PW E 111 [some (vr p0), some (vi p1), some (vi p2), some (vi p3), some (vi v4), some (vl v5), none, some (vi v7)] [] HV) (h : jX9_makeAt_159 self111 p0 p1 p2 p3 p5 p7 s0 s1 H = some (rr, HH)) : PW E 159 [some (vr p0), some (vi p1), some (vi p2), some (vi p3), none, some (vl p5), none, some (vi p7)] [vi s1, vi s0] H := by
  unfold jX9_makeAt_159 at h
  refine pw_iadd (pc := 159) F dX9_makeAt_159 ?_
  refine pw_istore (pc := 160) F dX9_makeAt_160 (lt_nl hn (by decide)) [some (vr p0), some (vi p1), some (vi p2), some (vi p3), some (vi (w32 (s0 + s1))), some (vl p5), none, some (vi p7)] rfl ?_
  refine pw_goto (pc := 162) F 210 dX9_makeAt_162 (by decide) ?_
  exact pw_mask [true, true, true, true, true, true, true, true] (ls' := [some (vr p0), some (vi p1), some (vi p2), some (vi p3), some (vi (w32 (s0 + s1))), some (vl p5), none, some (vi p7)]) rfl (jX9_makeAt_210_ok F q hn hf hl self111 p0 p1 p2 p3 (w32 (s0 + s1)) p5 p7 H ih111 h)
def lX9_makeAt_111 (p0 p1 p2 p3 : Int) (self111 : Int → Int → Int → PH → RO) (p4 p5 p7 : Int) (H : PH) : RO :=
  (f_X9_persons p0 p1 p3 H).bind fun z1 => (if p7 > z1.1 then (ld 25 z1.2 p0 3).bind fun x2 => (ld 0 z1.2 x2 p2).bind fun x3 => (if x3 ≠ 2 then (if p4 = 0 then jX9_makeAt_264 p0 p2 p5 z1.2
  else (ld 25 z1.2 p0 1).bind fun x4 => (ld 0 z1.2 x4 p2).bind fun x5 => (if x5 ≠ 2 then jX9_makeAt_268 p0 p2 p5 z1.2
  else (if (lc p5 (w32 p5)) = 0 then jX9_makeAt_268 p0 p2 p5 z1.2
  else jX9_makeAt_264 p0 p2 p5 z1.2)))
  else (f_X9_told p0 p2 0 p4 0 z1.2).bind fun z6 => some (0, z6.2))
  else (ld 25 z1.2 p0 3).bind fun x7 => (ld 0 z1.2 x7 p2).bind fun x8 => (if x8 ≠ 2 then (ld 25 z1.2 p0 44).bind fun x9 => (ld 25 z1.2 p0 4).bind fun x10 => (ld 0 z1.2 x10 p2).bind fun x11 => (ld 0 z1.2 x9 (w32 ((w32 (6 * x11)) + p7))).bind fun x12 => (if x12 ≠ 0 then jX9_makeAt_210 self111 p0 p1 p2 p3 p4 p5 p7 z1.2
  else (ld 25 z1.2 p0 43).bind fun x13 => (ld 25 z1.2 p0 4).bind fun x14 => (ld 0 z1.2 x14 p2).bind fun x15 => (ld 1 z1.2 x13 (w32 ((w32 (6 * x15)) + p7))).bind fun x16 => jX9_makeAt_210 self111 p0 p1 p2 p3 (w32 (p4 + 1)) (w64 (p5 + x16)) p7 z1.2)
  else (ld 25 z1.2 p0 45).bind fun x17 => (ld 25 z1.2 p0 5).bind fun x18 => (ld 0 z1.2 x18 p2).bind fun x19 => (ld 2 z1.2 x17 (w32 ((w32 (6 * x19)) + p7))).bind fun x20 => (if x20 = 0 then jX9_makeAt_159 self111 p0 p1 p2 p3 p5 p7 p4 0 z1.2
  else jX9_makeAt_159 self111 p0 p1 p2 p3 p5 p7 p4 1 z1.2)))
set_option maxHeartbeats 4000000 in
theorem lX9_makeAt_111_ok {E : PE} {rr : Int} {HH : PH} (F : FX E cX9_makeAt RX9) (q : QE E none HH none) (hn : nLof E = 8) (hf : (roomOf E).frames = 2) (hl : (roomOf E).locals = 49) (p0 p1 p2 p3 : Int) : ∀ (n : Nat) (p4 p5 p7 : Int) (H : PH), lq3 (lX9_makeAt_111 p0 p1 p2 p3) n p4 p5 p7 H = some (rr, HH) → PW E 111 [some (vr p0), some (vi p1), some (vi p2), some (vi p3), some (vi p4), some (vl p5), none, some (vi p7)] [] H := by
  refine lq3_ind (P := fun p4 p5 p7 H => PW E 111 [some (vr p0), some (vi p1), some (vi p2), some (vi p3), some (vi p4), some (vl p5), none, some (vi p7)] [] H) ?_
  intro self111 ih111 p4 p5 p7 H h
  unfold lX9_makeAt_111 at h
  refine pw_iload (pc := 111) F dX9_makeAt_111 rfl ?_
  refine pw_aload_n (pc := 113) F dX9_makeAt_113 rfl ?_
  refine pw_iload_n (pc := 114) F dX9_makeAt_114 rfl ?_
  refine pw_iload_n (pc := 115) F dX9_makeAt_115 rfl ?_
  obtain ⟨z1, ez1, h⟩ := bnd h
  refine pw_callV (pc := 116) (as := [vi p1, vi p3]) (st := [vi p7]) (r := (some (vi z1.1))) F 184 9 (by decide) rfl (fun l => m_X9_persons l p0 p1 p3 H z1.1 z1.2 ez1) g_de33c5095d g_d70a88cf42 g_2197e2f2b8 g_2759d91faa g_c55f0dc1c5 hd_X9_persons (rm_ok hf hl (by decide) (by decide)) rfl (vm_spec ez1).1 dX9_makeAt_116 rfl (stk' := [vi z1.1, vi p7]) rfl ?_
  refine pw_icmp_gt (pc := 119) F 216 dX9_makeAt_119 (by decide) (fun hc => ?_) (fun hc => ?_)
  · have h := iteT hc h
    refine pw_aload_n (pc := 216) F dX9_makeAt_216 rfl ?_
    obtain ⟨x2, ex2, h⟩ := bnd h
    refine pw_get (pc := 217) F 9 3 16 (by decide) (by decide) g_bd19d270ba inl_9 2 rfl dX9_makeAt_217 ex2 ?_
    refine pw_iload_n (pc := 220) F dX9_makeAt_220 rfl ?_
    obtain ⟨x3, ex3, h⟩ := bnd h
    refine pw_iald (pc := 221) F dX9_makeAt_221 ex3 ?_
    refine pw_iconst (pc := 222) F 2 dX9_makeAt_222 (by decide) ?_
    refine pw_icmp_ne (pc := 223) F 239 dX9_makeAt_223 (by decide) (fun hc => ?_) (fun hc => ?_)
    · have h := iteT hc h
      refine pw_iload (pc := 239) F dX9_makeAt_239 rfl ?_
      refine pw_if_eq (pc := 241) F 264 dX9_makeAt_241 (by decide) (fun hc => ?_) (fun hc => ?_)
      · have h := iteT hc h
        exact pw_mask [true, false, true, false, false, true, true, false] (ls' := [some (vr p0), none, some (vi p2), none, none, some (vl p5), none, none]) rfl (jX9_makeAt_264_ok F q hn hf hl p0 p2 p5 z1.2 h)
      · have h := iteF hc h
        refine pw_aload_n (pc := 244) F dX9_makeAt_244 rfl ?_
        obtain ⟨x4, ex4, h⟩ := bnd h
        refine pw_get (pc := 245) F 9 1 7 (by decide) (by decide) g_a89464ec18 inl_9 2 rfl dX9_makeAt_245 ex4 ?_
        refine pw_iload_n (pc := 248) F dX9_makeAt_248 rfl ?_
        obtain ⟨x5, ex5, h⟩ := bnd h
        refine pw_iald (pc := 249) F dX9_makeAt_249 ex5 ?_
        refine pw_iconst (pc := 250) F 2 dX9_makeAt_250 (by decide) ?_
        refine pw_icmp_ne (pc := 251) F 268 dX9_makeAt_251 (by decide) (fun hc => ?_) (fun hc => ?_)
        · have h := iteT hc h
          exact pw_mask [true, false, true, false, false, true, true, false] (ls' := [some (vr p0), none, some (vi p2), none, none, some (vl p5), none, none]) rfl (jX9_makeAt_268_ok F q hn hf hl p0 p2 p5 z1.2 h)
        · have h := iteF hc h
          refine pw_lload (pc := 254) F dX9_makeAt_254 rfl ?_
          refine pw_lload (pc := 256) F dX9_makeAt_256 rfl ?_
          refine pw_l2i (pc := 258) F dX9_makeAt_258 ?_
          refine pw_i2l (pc := 259) F dX9_makeAt_259 ?_
          refine pw_lcmp (pc := 260) F dX9_makeAt_260 ?_
          refine pw_if_eq (pc := 261) F 268 dX9_makeAt_261 (by decide) (fun hc => ?_) (fun hc => ?_)
          · have h := iteT hc h
            exact pw_mask [true, false, true, false, false, true, true, false] (ls' := [some (vr p0), none, some (vi p2), none, none, some (vl p5), none, none]) rfl (jX9_makeAt_268_ok F q hn hf hl p0 p2 p5 z1.2 h)
          · have h := iteF hc h
            exact pw_mask [true, false, true, false, false, true, true, false] (ls' := [some (vr p0), none, some (vi p2), none, none, some (vl p5), none, none]) rfl (jX9_makeAt_264_ok F q hn hf hl p0 p2 p5 z1.2 h)
    · have h := iteF hc h
      refine pw_aload_n (pc := 226) F dX9_makeAt_226 rfl ?_
      refine pw_iload_n (pc := 227) F dX9_makeAt_227 rfl ?_
      refine pw_iconst (pc := 228) F 0 dX9_makeAt_228 (by decide) ?_
      refine pw_iload (pc := 229) F dX9_makeAt_229 rfl ?_
      refine pw_i2l (pc := 231) F dX9_makeAt_231 ?_
      refine pw_iconst (pc := 232) F 0 dX9_makeAt_232 (by decide) ?_
      obtain ⟨z6, ez6, h⟩ := bnd h
      refine pw_callV (pc := 233) (as := [vi p2, vi 0, vl p4, vi 0]) (st := []) (r := none) F 208 9 (by decide) rfl (fun l => m_X9_told l p0 p2 0 p4 0 z1.2 z6.1 z6.2 ez6) g_b31a41e5be g_bf9f77486a g_02988af58e g_2759d91faa g_fd92aa9107 hd_X9_told (rm_ok hf hl (by decide) (by decide)) rfl (vm_spec ez6).1 dX9_makeAt_233 rfl (stk' := []) rfl ?_
      refine pw_goto (pc := 236) F 298 dX9_makeAt_236 (by decide) ?_
      cases h
      exact pw_vret (pc := 298) F q dX9_makeAt_298
  · have h := iteF hc h
    refine pw_aload_n (pc := 122) F dX9_makeAt_122 rfl ?_
    obtain ⟨x7, ex7, h⟩ := bnd h
    refine pw_get (pc := 123) F 9 3 16 (by decide) (by decide) g_bd19d270ba inl_9 2 rfl dX9_makeAt_123 ex7 ?_
    refine pw_iload_n (pc := 126) F dX9_makeAt_126 rfl ?_
    obtain ⟨x8, ex8, h⟩ := bnd h
    refine pw_iald (pc := 127) F dX9_makeAt_127 ex8 ?_
    refine pw_iconst (pc := 128) F 2 dX9_makeAt_128 (by decide) ?_
    refine pw_icmp_ne (pc := 129) F 165 dX9_makeAt_129 (by decide) (fun hc => ?_) (fun hc => ?_)
    · have h := iteT hc h
      refine pw_aload_n (pc := 165) F dX9_makeAt_165 rfl ?_
      obtain ⟨x9, ex9, h⟩ := bnd h
      refine pw_get (pc := 166) F 9 44 118 (by decide) (by decide) g_5be5e353a9 inl_9 2 rfl dX9_makeAt_166 ex9 ?_
      refine pw_bipush (pc := 169) F 6 dX9_makeAt_169 (by decide) ?_
      refine pw_aload_n (pc := 171) F dX9_makeAt_171 rfl ?_
      obtain ⟨x10, ex10, h⟩ := bnd h
      refine pw_get (pc := 172) F 9 4 19 (by decide) (by decide) g_1b40c2a4c8 inl_9 2 rfl dX9_makeAt_172 ex10 ?_
      refine pw_iload_n (pc := 175) F dX9_makeAt_175 rfl ?_
      obtain ⟨x11, ex11, h⟩ := bnd h
      refine pw_iald (pc := 176) F dX9_makeAt_176 ex11 ?_
      refine pw_imul (pc := 177) F dX9_makeAt_177 ?_
      refine pw_iload (pc := 178) F dX9_makeAt_178 rfl ?_
      refine pw_iadd (pc := 180) F dX9_makeAt_180 ?_
      obtain ⟨x12, ex12, h⟩ := bnd h
      refine pw_iald (pc := 181) F dX9_makeAt_181 ex12 ?_
      refine pw_if_ne (pc := 182) F 210 dX9_makeAt_182 (by decide) (fun hc => ?_) (fun hc => ?_)
      · have h := iteT hc h
        exact pw_mask [true, true, true, true, true, true, true, true] (ls' := [some (vr p0), some (vi p1), some (vi p2), some (vi p3), some (vi p4), some (vl p5), none, some (vi p7)]) rfl (jX9_makeAt_210_ok F q hn hf hl self111 p0 p1 p2 p3 p4 p5 p7 z1.2 ih111 h)
      · have h := iteF hc h
        refine pw_iinc (pc := 185) F dX9_makeAt_185 rfl (lt_nl hn (by decide)) [some (vr p0), some (vi p1), some (vi p2), some (vi p3), some (vi (w32 (p4 + 1))), some (vl p5), none, some (vi p7)] rfl (by decide) ?_
        refine pw_lload (pc := 188) F dX9_makeAt_188 rfl ?_
        refine pw_aload_n (pc := 190) F dX9_makeAt_190 rfl ?_
        obtain ⟨x13, ex13, h⟩ := bnd h
        refine pw_get (pc := 191) F 9 43 115 (by decide) (by decide) g_e8763ca537 inl_9 2 rfl dX9_makeAt_191 ex13 ?_
        refine pw_bipush (pc := 194) F 6 dX9_makeAt_194 (by decide) ?_
        refine pw_aload_n (pc := 196) F dX9_makeAt_196 rfl ?_
        obtain ⟨x14, ex14, h⟩ := bnd h
        refine pw_get (pc := 197) F 9 4 19 (by decide) (by decide) g_1b40c2a4c8 inl_9 2 rfl dX9_makeAt_197 ex14 ?_
        refine pw_iload_n (pc := 200) F dX9_makeAt_200 rfl ?_
        obtain ⟨x15, ex15, h⟩ := bnd h
        refine pw_iald (pc := 201) F dX9_makeAt_201 ex15 ?_
        refine pw_imul (pc := 202) F dX9_makeAt_202 ?_
        refine pw_iload (pc := 203) F dX9_makeAt_203 rfl ?_
        refine pw_iadd (pc := 205) F dX9_makeAt_205 ?_
        obtain ⟨x16, ex16, h⟩ := bnd h
        refine pw_lald (pc := 206) F dX9_makeAt_206 ex16 ?_
        refine pw_ladd (pc := 207) F dX9_makeAt_207 ?_
        refine pw_lstore (pc := 208) F dX9_makeAt_208 (lt_nl hn (by decide)) [some (vr p0), some (vi p1), some (vi p2), some (vi p3), some (vi (w32 (p4 + 1))), some (vl (w64 (p5 + x16))), none, some (vi p7)] rfl ?_
        exact pw_mask [true, true, true, true, true, true, true, true] (ls' := [some (vr p0), some (vi p1), some (vi p2), some (vi p3), some (vi (w32 (p4 + 1))), some (vl (w64 (p5 + x16))), none, some (vi p7)]) rfl (jX9_makeAt_210_ok F q hn hf hl self111 p0 p1 p2 p3 (w32 (p4 + 1)) (w64 (p5 + x16)) p7 z1.2 ih111 h)
    · have h := iteF hc h
      refine pw_iload (pc := 132) F dX9_makeAt_132 rfl ?_
      refine pw_aload_n (pc := 134) F dX9_makeAt_134 rfl ?_
      obtain ⟨x17, ex17, h⟩ := bnd h
      refine pw_get (pc := 135) F 9 45 121 (by decide) (by decide) g_b75f1cdc97 inl_9 2 rfl dX9_makeAt_135 ex17 ?_
      refine pw_bipush (pc := 138) F 6 dX9_makeAt_138 (by decide) ?_
      refine pw_aload_n (pc := 140) F dX9_makeAt_140 rfl ?_
      obtain ⟨x18, ex18, h⟩ := bnd h
      refine pw_get (pc := 141) F 9 5 22 (by decide) (by decide) g_cd0b03d2d5 inl_9 2 rfl dX9_makeAt_141 ex18 ?_
      refine pw_iload_n (pc := 144) F dX9_makeAt_144 rfl ?_
      obtain ⟨x19, ex19, h⟩ := bnd h
      refine pw_iald (pc := 145) F dX9_makeAt_145 ex19 ?_
      refine pw_imul (pc := 146) F dX9_makeAt_146 ?_
      refine pw_iload (pc := 147) F dX9_makeAt_147 rfl ?_
      refine pw_iadd (pc := 149) F dX9_makeAt_149 ?_
      obtain ⟨x20, ex20, h⟩ := bnd h
      refine pw_zald (pc := 150) F dX9_makeAt_150 ex20 ?_
      refine pw_if_eq (pc := 151) F 158 dX9_makeAt_151 (by decide) (fun hc => ?_) (fun hc => ?_)
      · have h := iteT hc h
        refine pw_iconst (pc := 158) F 0 dX9_makeAt_158 (by decide) ?_
        exact pw_mask [true, true, true, true, false, true, true, true] (ls' := [some (vr p0), some (vi p1), some (vi p2), some (vi p3), none, some (vl p5), none, some (vi p7)]) rfl (jX9_makeAt_159_ok F q hn hf hl self111 p0 p1 p2 p3 p5 p7 p4 0 z1.2 ih111 h)
      · have h := iteF hc h
        refine pw_iconst (pc := 154) F 1 dX9_makeAt_154 (by decide) ?_
        refine pw_goto (pc := 155) F 159 dX9_makeAt_155 (by decide) ?_
        exact pw_mask [true, true, true, true, false, true, true, true] (ls' := [some (vr p0), some (vi p1), some (vi p2), some (vi p3), none, some (vl p5), none, some (vi p7)]) rfl (jX9_makeAt_159_ok F q hn hf hl self111 p0 p1 p2 p3 p5 p7 p4 1 z1.2 ih111 h)
def jX9_makeAt_101 (p0 p1 p2 s0 : Int) (H : PH) : RO :=
  lq3 (lX9_makeAt_111 p0 p1 p2 s0) 6000 0 0 1 H
set_option maxHeartbeats 4000000 in
theorem jX9_makeAt_101_ok {E : PE} {rr : Int} {HH : PH} (F : FX E cX9_makeAt RX9) (q : QE E none HH none) (hn : nLof E = 8) (hf : (roomOf E).frames = 2) (hl : (roomOf E).locals = 49) (p0 p1 p2 s0 : Int) (H : PH) (h : jX9_makeAt_101 p0 p1 p2 s0 H = some (rr, HH)) : PW E 101 [some (vr p0), some (vi p1), some (vi p2), none, none, none, none, none] [vi s0] H := by
  unfold jX9_makeAt_101 at h
  refine pw_istore_n (pc := 101) F dX9_makeAt_101 (lt_nl hn (by decide)) [some (vr p0), some (vi p1), some (vi p2), some (vi s0), none, none, none, none] rfl ?_
  refine pw_iconst (pc := 102) F 0 dX9_makeAt_102 (by decide) ?_
  refine pw_istore (pc := 103) F dX9_makeAt_103 (lt_nl hn (by decide)) [some (vr p0), some (vi p1), some (vi p2), some (vi s0), some (vi 0), none, none, none] rfl ?_
  refine pw_lconst (pc := 105) F 0 dX9_makeAt_105 (by decide) ?_
  refine pw_lstore (pc := 106) F dX9_makeAt_106 (lt_nl hn (by decide)) [some (vr p0), some (vi p1), some (vi p2), some (vi s0), some (vi 0), some (vl 0), none, none] rfl ?_
  refine pw_iconst (pc := 108) F 1 dX9_makeAt_108 (by decide) ?_
  refine pw_istore (pc := 109) F dX9_makeAt_109 (lt_nl hn (by decide)) [some (vr p0), some (vi p1), some (vi p2), some (vi s0), some (vi 0), some (vl 0), none, some (vi 1)] rfl ?_
  exact pw_mask [true, true, true, true, true, true, true, true] (ls' := [some (vr p0), some (vi p1), some (vi p2), some (vi s0), some (vi 0), some (vl 0), none, some (vi 1)]) rfl (lX9_makeAt_111_ok F q hn hf hl p0 p1 p2 s0  6000 0 0 1 H h)
def lX9_makeAt_51 (p0 p2 p3 : Int) (self51 : Int → PH → RO) (p4 : Int) (H : PH) : RO :=
  (if p4 > p3 then some (0, H)
  else (f_X9_mapAt p0 p2 p4 H).bind fun z1 => self51 (w32 (p4 + 1)) z1.2)
set_option maxHeartbeats 4000000 in
theorem lX9_makeAt_51_ok {E : PE} {rr : Int} {HH : PH} (F : FX E cX9_makeAt RX9) (q : QE E none HH none) (hn : nLof E = 8) (hf : (roomOf E).frames = 2) (hl : (roomOf E).locals = 49) (p0 p2 p3 : Int) : ∀ (n : Nat) (p4 : Int) (H : PH), lq1 (lX9_makeAt_51 p0 p2 p3) n p4 H = some (rr, HH) → PW E 51 [some (vr p0), none, some (vi p2), some (vi p3), some (vi p4), none, none, none] [] H := by
  refine lq1_ind (P := fun p4 H => PW E 51 [some (vr p0), none, some (vi p2), some (vi p3), some (vi p4), none, none, none] [] H) ?_
  intro self51 ih51 p4 H h
  unfold lX9_makeAt_51 at h
  refine pw_iload (pc := 51) F dX9_makeAt_51 rfl ?_
  refine pw_iload_n (pc := 53) F dX9_makeAt_53 rfl ?_
  refine pw_icmp_gt (pc := 54) F 70 dX9_makeAt_54 (by decide) (fun hc => ?_) (fun hc => ?_)
  · have h := iteT hc h
    cases h
    exact pw_vret (pc := 70) F q dX9_makeAt_70
  · have h := iteF hc h
    refine pw_aload_n (pc := 57) F dX9_makeAt_57 rfl ?_
    refine pw_iload_n (pc := 58) F dX9_makeAt_58 rfl ?_
    refine pw_iload (pc := 59) F dX9_makeAt_59 rfl ?_
    obtain ⟨z1, ez1, h⟩ := bnd h
    refine pw_callV (pc := 61) (as := [vi p2, vi p4]) (st := []) (r := none) F 212 9 (by decide) rfl (fun l => m_X9_mapAt l p0 p2 p4 H z1.1 z1.2 ez1) g_25bc187d9b g_89c9c1ab59 g_3aea6bbae1 g_2759d91faa g_2faae90e47 hd_X9_mapAt (rm_ok hf hl (by decide) (by decide)) rfl (vm_spec ez1).1 dX9_makeAt_61 rfl (stk' := []) rfl ?_
    refine pw_iinc (pc := 64) F dX9_makeAt_64 rfl (lt_nl hn (by decide)) [some (vr p0), none, some (vi p2), some (vi p3), some (vi (w32 (p4 + 1))), none, none, none] rfl (by decide) ?_
    refine pw_goto (pc := 67) F 51 dX9_makeAt_67 (by decide) ?_
    exact pw_mask [true, true, true, true, true, true, true, true] (ls' := [some (vr p0), none, some (vi p2), some (vi p3), some (vi (w32 (p4 + 1))), none, none, none]) rfl (ih51 (w32 (p4 + 1)) z1.2 h)
def jX9_makeAt_49 (p0 p2 p3 s0 : Int) (H : PH) : RO :=
  lq1 (lX9_makeAt_51 p0 p2 p3) 6000 s0 H
set_option maxHeartbeats 4000000 in
theorem jX9_makeAt_49_ok {E : PE} {rr : Int} {HH : PH} (F : FX E cX9_makeAt RX9) (q : QE E none HH none) (hn : nLof E = 8) (hf : (roomOf E).frames = 2) (hl : (roomOf E).locals = 49) (p0 p2 p3 s0 : Int) (H : PH) (h : jX9_makeAt_49 p0 p2 p3 s0 H = some (rr, HH)) : PW E 49 [some (vr p0), none, some (vi p2), some (vi p3), none, none, none, none] [vi s0] H := by
  unfold jX9_makeAt_49 at h
  refine pw_istore (pc := 49) F dX9_makeAt_49 (lt_nl hn (by decide)) [some (vr p0), none, some (vi p2), some (vi p3), some (vi s0), none, none, none] rfl ?_
  exact pw_mask [true, true, true, true, true, true, true, true] (ls' := [some (vr p0), none, some (vi p2), some (vi p3), some (vi s0), none, none, none]) rfl (lX9_makeAt_51_ok F q hn hf hl p0 p2 p3  6000 s0 H h)
def jX9_makeAt_34 (p0 p2 s0 : Int) (H : PH) : RO :=
  (ld 25 H p0 2).bind fun x1 => (ld 0 H x1 p2).bind fun x2 => (if x2 ≥ 0 then jX9_makeAt_49 p0 p2 s0 1 H
  else jX9_makeAt_49 p0 p2 s0 0 H)
set_option maxHeartbeats 4000000 in
theorem jX9_makeAt_34_ok {E : PE} {rr : Int} {HH : PH} (F : FX E cX9_makeAt RX9) (q : QE E none HH none) (hn : nLof E = 8) (hf : (roomOf E).frames = 2) (hl : (roomOf E).locals = 49) (p0 p2 s0 : Int) (H : PH) (h : jX9_makeAt_34 p0 p2 s0 H = some (rr, HH)) : PW E 34 [some (vr p0), none, some (vi p2), none, none, none, none, none] [vi s0] H := by
  unfold jX9_makeAt_34 at h
  refine pw_istore_n (pc := 34) F dX9_makeAt_34 (lt_nl hn (by decide)) [some (vr p0), none, some (vi p2), some (vi s0), none, none, none, none] rfl ?_
  refine pw_aload_n (pc := 35) F dX9_makeAt_35 rfl ?_
  obtain ⟨x1, ex1, h⟩ := bnd h
  refine pw_get (pc := 36) F 9 2 13 (by decide) (by decide) g_0c2899f53f inl_9 2 rfl dX9_makeAt_36 ex1 ?_
  refine pw_iload_n (pc := 39) F dX9_makeAt_39 rfl ?_
  obtain ⟨x2, ex2, h⟩ := bnd h
  refine pw_iald (pc := 40) F dX9_makeAt_40 ex2 ?_
  refine pw_if_ge (pc := 41) F 48 dX9_makeAt_41 (by decide) (fun hc => ?_) (fun hc => ?_)
  · have h := iteT hc h
    refine pw_iconst (pc := 48) F 1 dX9_makeAt_48 (by decide) ?_
    exact pw_mask [true, true, true, true, true, true, true, true] (ls' := [some (vr p0), none, some (vi p2), some (vi s0), none, none, none, none]) rfl (jX9_makeAt_49_ok F q hn hf hl p0 p2 s0 1 H h)
  · have h := iteF hc h
    refine pw_iconst (pc := 44) F 0 dX9_makeAt_44 (by decide) ?_
    refine pw_goto (pc := 45) F 49 dX9_makeAt_45 (by decide) ?_
    exact pw_mask [true, true, true, true, true, true, true, true] (ls' := [some (vr p0), none, some (vi p2), some (vi s0), none, none, none, none]) rfl (jX9_makeAt_49_ok F q hn hf hl p0 p2 s0 0 H h)
def f_X9_makeAt (a0 a1 a2 : Int) (H : PH) : RO := vm 9 a0 H <|
  (ld 25 H a0 3).bind fun x1 => (ld 0 H x1 a2).bind fun x2 => (if x2 ≠ 1 then (ld 25 H a0 3).bind fun x3 => (ld 0 H x3 a2).bind fun x4 => (if x4 ≠ 2 then (ld 25 H a0 2).bind fun x5 => (ld 25 H a0 4).bind fun x6 => (ld 0 H x6 a2).bind fun x7 => (ld 0 H x5 x7).bind fun x8 => jX9_makeAt_101 a0 a1 a2 x8 H
  else (ld 25 H a0 4).bind fun x9 => (ld 0 H x9 a2).bind fun x10 => jX9_makeAt_101 a0 a1 a2 x10 H)
  else (ld 25 H a0 2).bind fun x11 => (ld 0 H x11 a2).bind fun x12 => (if x12 ≥ 0 then (ld 25 H a0 2).bind fun x13 => (ld 0 H x13 a2).bind fun x14 => (f_X9_persons a0 a1 x14 H).bind fun z15 => jX9_makeAt_34 a0 a2 z15.1 z15.2
  else jX9_makeAt_34 a0 a2 0 H))
set_option maxHeartbeats 4000000 in
theorem m_X9_makeAt (l : Launch) (a0 a1 a2 : Int) (H : PH) (rr : Int) (HH : PH) (h : f_X9_makeAt a0 a1 a2 H = some (rr, HH)) : CT l yX9_makeAt cX9_makeAt 8 none 2 49 [vr a0, vi a1, vi a2] H none HH := by
  refine CT.of RX9 (by decide) rfl [some (vr a0), some (vi a1), some (vi a2), none, none, none, none, none] rfl rfl ?_
  intro E F q hn hf hl hm
  unfold f_X9_makeAt at h
  obtain ⟨hv, h⟩ := vm_spec h
  refine pw_aload_n (pc := 0) F dX9_makeAt_0 rfl ?_
  obtain ⟨x1, ex1, h⟩ := bnd h
  refine pw_get (pc := 1) F 9 3 16 (by decide) (by decide) g_bd19d270ba inl_9 2 rfl dX9_makeAt_1 ex1 ?_
  refine pw_iload_n (pc := 4) F dX9_makeAt_4 rfl ?_
  obtain ⟨x2, ex2, h⟩ := bnd h
  refine pw_iald (pc := 5) F dX9_makeAt_5 ex2 ?_
  refine pw_iconst (pc := 6) F 1 dX9_makeAt_6 (by decide) ?_
  refine pw_icmp_ne (pc := 7) F 71 dX9_makeAt_7 (by decide) (fun hc => ?_) (fun hc => ?_)
  · have h := iteT hc h
    refine pw_aload_n (pc := 71) F dX9_makeAt_71 rfl ?_
    obtain ⟨x3, ex3, h⟩ := bnd h
    refine pw_get (pc := 72) F 9 3 16 (by decide) (by decide) g_bd19d270ba inl_9 2 rfl dX9_makeAt_72 ex3 ?_
    refine pw_iload_n (pc := 75) F dX9_makeAt_75 rfl ?_
    obtain ⟨x4, ex4, h⟩ := bnd h
    refine pw_iald (pc := 76) F dX9_makeAt_76 ex4 ?_
    refine pw_iconst (pc := 77) F 2 dX9_makeAt_77 (by decide) ?_
    refine pw_icmp_ne (pc := 78) F 90 dX9_makeAt_78 (by decide) (fun hc => ?_) (fun hc => ?_)
    · have h := iteT hc h
      refine pw_aload_n (pc := 90) F dX9_makeAt_90 rfl ?_
      obtain ⟨x5, ex5, h⟩ := bnd h
      refine pw_get (pc := 91) F 9 2 13 (by decide) (by decide) g_0c2899f53f inl_9 2 rfl dX9_makeAt_91 ex5 ?_
      refine pw_aload_n (pc := 94) F dX9_makeAt_94 rfl ?_
      obtain ⟨x6, ex6, h⟩ := bnd h
      refine pw_get (pc := 95) F 9 4 19 (by decide) (by decide) g_1b40c2a4c8 inl_9 2 rfl dX9_makeAt_95 ex6 ?_
      refine pw_iload_n (pc := 98) F dX9_makeAt_98 rfl ?_
      obtain ⟨x7, ex7, h⟩ := bnd h
      refine pw_iald (pc := 99) F dX9_makeAt_99 ex7 ?_
      obtain ⟨x8, ex8, h⟩ := bnd h
      refine pw_iald (pc := 100) F dX9_makeAt_100 ex8 ?_
      exact pw_mask [true, true, true, true, true, true, true, true] (ls' := [some (vr a0), some (vi a1), some (vi a2), none, none, none, none, none]) rfl (jX9_makeAt_101_ok F q hn hf hl a0 a1 a2 x8 H h)
    · have h := iteF hc h
      refine pw_aload_n (pc := 81) F dX9_makeAt_81 rfl ?_
      obtain ⟨x9, ex9, h⟩ := bnd h
      refine pw_get (pc := 82) F 9 4 19 (by decide) (by decide) g_1b40c2a4c8 inl_9 2 rfl dX9_makeAt_82 ex9 ?_
      refine pw_iload_n (pc := 85) F dX9_makeAt_85 rfl ?_
      obtain ⟨x10, ex10, h⟩ := bnd h
      refine pw_iald (pc := 86) F dX9_makeAt_86 ex10 ?_
      refine pw_goto (pc := 87) F 101 dX9_makeAt_87 (by decide) ?_
      exact pw_mask [true, true, true, true, true, true, true, true] (ls' := [some (vr a0), some (vi a1), some (vi a2), none, none, none, none, none]) rfl (jX9_makeAt_101_ok F q hn hf hl a0 a1 a2 x10 H h)
  · have h := iteF hc h
    refine pw_aload_n (pc := 10) F dX9_makeAt_10 rfl ?_
    obtain ⟨x11, ex11, h⟩ := bnd h
    refine pw_get (pc := 11) F 9 2 13 (by decide) (by decide) g_0c2899f53f inl_9 2 rfl dX9_makeAt_11 ex11 ?_
    refine pw_iload_n (pc := 14) F dX9_makeAt_14 rfl ?_
    obtain ⟨x12, ex12, h⟩ := bnd h
    refine pw_iald (pc := 15) F dX9_makeAt_15 ex12 ?_
    refine pw_if_ge (pc := 16) F 23 dX9_makeAt_16 (by decide) (fun hc => ?_) (fun hc => ?_)
    · have h := iteT hc h
      refine pw_aload_n (pc := 23) F dX9_makeAt_23 rfl ?_
      refine pw_iload_n (pc := 24) F dX9_makeAt_24 rfl ?_
      refine pw_aload_n (pc := 25) F dX9_makeAt_25 rfl ?_
      obtain ⟨x13, ex13, h⟩ := bnd h
      refine pw_get (pc := 26) F 9 2 13 (by decide) (by decide) g_0c2899f53f inl_9 2 rfl dX9_makeAt_26 ex13 ?_
      refine pw_iload_n (pc := 29) F dX9_makeAt_29 rfl ?_
      obtain ⟨x14, ex14, h⟩ := bnd h
      refine pw_iald (pc := 30) F dX9_makeAt_30 ex14 ?_
      obtain ⟨z15, ez15, h⟩ := bnd h
      refine pw_callV (pc := 31) (as := [vi a1, vi x14]) (st := []) (r := (some (vi z15.1))) F 184 9 (by decide) rfl (fun l => m_X9_persons l a0 a1 x14 H z15.1 z15.2 ez15) g_de33c5095d g_d70a88cf42 g_2197e2f2b8 g_2759d91faa g_c55f0dc1c5 hd_X9_persons (rm_ok hf hl (by decide) (by decide)) rfl (vm_spec ez15).1 dX9_makeAt_31 rfl (stk' := [vi z15.1]) rfl ?_
      exact pw_mask [true, false, true, true, true, true, true, true] (ls' := [some (vr a0), none, some (vi a2), none, none, none, none, none]) rfl (jX9_makeAt_34_ok F q hn hf hl a0 a2 z15.1 z15.2 h)
    · have h := iteF hc h
      refine pw_iconst (pc := 19) F 0 dX9_makeAt_19 (by decide) ?_
      refine pw_goto (pc := 20) F 34 dX9_makeAt_20 (by decide) ?_
      exact pw_mask [true, false, true, true, true, true, true, true] (ls' := [some (vr a0), none, some (vi a2), none, none, none, none, none]) rfl (jX9_makeAt_34_ok F q hn hf hl a0 a2 0 H h)
/-! HouseholdVaultModel.isAsked(II)Z -/
theorem dX9_isAsked_0 : decode cX9_isAsked 0 = .ok (.aload_n 0, 1) := by decide +kernel
theorem dX9_isAsked_1 : decode cX9_isAsked 1 = .ok (.getfield 66, 3) := by decide +kernel
theorem dX9_isAsked_4 : decode cX9_isAsked 4 = .ok (.iload_n 1, 1) := by decide +kernel
theorem dX9_isAsked_5 : decode cX9_isAsked 5 = .ok (.iaload, 1) := by decide +kernel
theorem dX9_isAsked_6 : decode cX9_isAsked 6 = .ok (.istore_n 3, 1) := by decide +kernel
theorem dX9_isAsked_7 : decode cX9_isAsked 7 = .ok (.bipush 6, 2) := by decide +kernel
theorem dX9_isAsked_9 : decode cX9_isAsked 9 = .ok (.iload_n 3, 1) := by decide +kernel
theorem dX9_isAsked_10 : decode cX9_isAsked 10 = .ok (.imul, 1) := by decide +kernel
theorem dX9_isAsked_11 : decode cX9_isAsked 11 = .ok (.iload_n 2, 1) := by decide +kernel
theorem dX9_isAsked_12 : decode cX9_isAsked 12 = .ok (.iadd, 1) := by decide +kernel
theorem dX9_isAsked_13 : decode cX9_isAsked 13 = .ok (.istore 4, 2) := by decide +kernel
theorem dX9_isAsked_15 : decode cX9_isAsked 15 = .ok (.aload_n 0, 1) := by decide +kernel
theorem dX9_isAsked_16 : decode cX9_isAsked 16 = .ok (.getfield 63, 3) := by decide +kernel
theorem dX9_isAsked_19 : decode cX9_isAsked 19 = .ok (.iload_n 1, 1) := by decide +kernel
theorem dX9_isAsked_20 : decode cX9_isAsked 20 = .ok (.iaload, 1) := by decide +kernel
theorem dX9_isAsked_21 : decode cX9_isAsked 21 = .ok (.iconst 3, 1) := by decide +kernel
theorem dX9_isAsked_22 : decode cX9_isAsked 22 = .ok (.if_icmp .ne 19, 3) := by decide +kernel
theorem dX9_isAsked_25 : decode cX9_isAsked 25 = .ok (.aload_n 0, 1) := by decide +kernel
theorem dX9_isAsked_26 : decode cX9_isAsked 26 = .ok (.getfield 118, 3) := by decide +kernel
theorem dX9_isAsked_29 : decode cX9_isAsked 29 = .ok (.iload 4, 2) := by decide +kernel
theorem dX9_isAsked_31 : decode cX9_isAsked 31 = .ok (.iaload, 1) := by decide +kernel
theorem dX9_isAsked_32 : decode cX9_isAsked 32 = .ok (.ifCond .le 7, 3) := by decide +kernel
theorem dX9_isAsked_35 : decode cX9_isAsked 35 = .ok (.iconst 1, 1) := by decide +kernel
theorem dX9_isAsked_36 : decode cX9_isAsked 36 = .ok (.goto 4, 3) := by decide +kernel
theorem dX9_isAsked_39 : decode cX9_isAsked 39 = .ok (.iconst 0, 1) := by decide +kernel
theorem dX9_isAsked_40 : decode cX9_isAsked 40 = .ok (.ireturn, 1) := by decide +kernel
theorem dX9_isAsked_41 : decode cX9_isAsked 41 = .ok (.aload_n 0, 1) := by decide +kernel
theorem dX9_isAsked_42 : decode cX9_isAsked 42 = .ok (.getfield 115, 3) := by decide +kernel
theorem dX9_isAsked_45 : decode cX9_isAsked 45 = .ok (.iload 4, 2) := by decide +kernel
theorem dX9_isAsked_47 : decode cX9_isAsked 47 = .ok (.laload, 1) := by decide +kernel
theorem dX9_isAsked_48 : decode cX9_isAsked 48 = .ok (.lstore 5, 2) := by decide +kernel
theorem dX9_isAsked_50 : decode cX9_isAsked 50 = .ok (.aload_n 0, 1) := by decide +kernel
theorem dX9_isAsked_51 : decode cX9_isAsked 51 = .ok (.getfield 118, 3) := by decide +kernel
theorem dX9_isAsked_54 : decode cX9_isAsked 54 = .ok (.iload 4, 2) := by decide +kernel
theorem dX9_isAsked_56 : decode cX9_isAsked 56 = .ok (.iaload, 1) := by decide +kernel
theorem dX9_isAsked_57 : decode cX9_isAsked 57 = .ok (.ifCond .le 5, 3) := by decide +kernel
theorem dX9_isAsked_60 : decode cX9_isAsked 60 = .ok (.iconst 0, 1) := by decide +kernel
theorem dX9_isAsked_61 : decode cX9_isAsked 61 = .ok (.ireturn, 1) := by decide +kernel
theorem dX9_isAsked_62 : decode cX9_isAsked 62 = .ok (.aload_n 0, 1) := by decide +kernel
theorem dX9_isAsked_63 : decode cX9_isAsked 63 = .ok (.getfield 7, 3) := by decide +kernel
theorem dX9_isAsked_66 : decode cX9_isAsked 66 = .ok (.iload_n 3, 1) := by decide +kernel
theorem dX9_isAsked_67 : decode cX9_isAsked 67 = .ok (.iaload, 1) := by decide +kernel
theorem dX9_isAsked_68 : decode cX9_isAsked 68 = .ok (.iconst 1, 1) := by decide +kernel
theorem dX9_isAsked_69 : decode cX9_isAsked 69 = .ok (.if_icmp .ne 26, 3) := by decide +kernel
theorem dX9_isAsked_72 : decode cX9_isAsked 72 = .ok (.lload 5, 2) := by decide +kernel
theorem dX9_isAsked_74 : decode cX9_isAsked 74 = .ok (.aload_n 0, 1) := by decide +kernel
theorem dX9_isAsked_75 : decode cX9_isAsked 75 = .ok (.getfield 69, 3) := by decide +kernel
theorem dX9_isAsked_78 : decode cX9_isAsked 78 = .ok (.iload_n 1, 1) := by decide +kernel
theorem dX9_isAsked_79 : decode cX9_isAsked 79 = .ok (.laload, 1) := by decide +kernel
theorem dX9_isAsked_80 : decode cX9_isAsked 80 = .ok (.l2i, 1) := by decide +kernel
theorem dX9_isAsked_81 : decode cX9_isAsked 81 = .ok (.lshr, 1) := by decide +kernel
theorem dX9_isAsked_82 : decode cX9_isAsked 82 = .ok (.lconst 1, 1) := by decide +kernel
theorem dX9_isAsked_83 : decode cX9_isAsked 83 = .ok (.land, 1) := by decide +kernel
theorem dX9_isAsked_84 : decode cX9_isAsked 84 = .ok (.lconst 1, 1) := by decide +kernel
theorem dX9_isAsked_85 : decode cX9_isAsked 85 = .ok (.lcmp, 1) := by decide +kernel
theorem dX9_isAsked_86 : decode cX9_isAsked 86 = .ok (.ifCond .ne 7, 3) := by decide +kernel
theorem dX9_isAsked_89 : decode cX9_isAsked 89 = .ok (.iconst 1, 1) := by decide +kernel
theorem dX9_isAsked_90 : decode cX9_isAsked 90 = .ok (.goto 4, 3) := by decide +kernel
theorem dX9_isAsked_93 : decode cX9_isAsked 93 = .ok (.iconst 0, 1) := by decide +kernel
theorem dX9_isAsked_94 : decode cX9_isAsked 94 = .ok (.ireturn, 1) := by decide +kernel
theorem dX9_isAsked_95 : decode cX9_isAsked 95 = .ok (.aload_n 0, 1) := by decide +kernel
theorem dX9_isAsked_96 : decode cX9_isAsked 96 = .ok (.getfield 63, 3) := by decide +kernel
theorem dX9_isAsked_99 : decode cX9_isAsked 99 = .ok (.iload_n 1, 1) := by decide +kernel
theorem dX9_isAsked_100 : decode cX9_isAsked 100 = .ok (.iaload, 1) := by decide +kernel
theorem dX9_isAsked_101 : decode cX9_isAsked 101 = .ok (.ifCond .ne 23, 3) := by decide +kernel
theorem dX9_isAsked_104 : decode cX9_isAsked 104 = .ok (.lload 5, 2) := by decide +kernel
theorem dX9_isAsked_106 : decode cX9_isAsked 106 = .ok (.aload_n 0, 1) := by decide +kernel
theorem dX9_isAsked_107 : decode cX9_isAsked 107 = .ok (.getfield 69, 3) := by decide +kernel
theorem dX9_isAsked_110 : decode cX9_isAsked 110 = .ok (.iload_n 1, 1) := by decide +kernel
theorem dX9_isAsked_111 : decode cX9_isAsked 111 = .ok (.laload, 1) := by decide +kernel
theorem dX9_isAsked_112 : decode cX9_isAsked 112 = .ok (.lcmp, 1) := by decide +kernel
theorem dX9_isAsked_113 : decode cX9_isAsked 113 = .ok (.ifCond .ne 7, 3) := by decide +kernel
theorem dX9_isAsked_116 : decode cX9_isAsked 116 = .ok (.iconst 1, 1) := by decide +kernel
theorem dX9_isAsked_117 : decode cX9_isAsked 117 = .ok (.goto 54, 3) := by decide +kernel
theorem dX9_isAsked_120 : decode cX9_isAsked 120 = .ok (.iconst 0, 1) := by decide +kernel
theorem dX9_isAsked_121 : decode cX9_isAsked 121 = .ok (.goto 50, 3) := by decide +kernel
theorem dX9_isAsked_124 : decode cX9_isAsked 124 = .ok (.aload_n 0, 1) := by decide +kernel
theorem dX9_isAsked_125 : decode cX9_isAsked 125 = .ok (.getfield 63, 3) := by decide +kernel
theorem dX9_isAsked_128 : decode cX9_isAsked 128 = .ok (.iload_n 1, 1) := by decide +kernel
theorem dX9_isAsked_129 : decode cX9_isAsked 129 = .ok (.iaload, 1) := by decide +kernel
theorem dX9_isAsked_130 : decode cX9_isAsked 130 = .ok (.iconst 1, 1) := by decide +kernel
theorem dX9_isAsked_131 : decode cX9_isAsked 131 = .ok (.if_icmp .ne 23, 3) := by decide +kernel
theorem dX9_isAsked_134 : decode cX9_isAsked 134 = .ok (.lload 5, 2) := by decide +kernel
theorem dX9_isAsked_136 : decode cX9_isAsked 136 = .ok (.aload_n 0, 1) := by decide +kernel
theorem dX9_isAsked_137 : decode cX9_isAsked 137 = .ok (.getfield 69, 3) := by decide +kernel
theorem dX9_isAsked_140 : decode cX9_isAsked 140 = .ok (.iload_n 1, 1) := by decide +kernel
theorem dX9_isAsked_141 : decode cX9_isAsked 141 = .ok (.laload, 1) := by decide +kernel
theorem dX9_isAsked_142 : decode cX9_isAsked 142 = .ok (.lcmp, 1) := by decide +kernel
theorem dX9_isAsked_143 : decode cX9_isAsked 143 = .ok (.ifCond .ge 7, 3) := by decide +kernel
theorem dX9_isAsked_146 : decode cX9_isAsked 146 = .ok (.iconst 1, 1) := by decide +kernel
theorem dX9_isAsked_147 : decode cX9_isAsked 147 = .ok (.goto 24, 3) := by decide +kernel
theorem dX9_isAsked_150 : decode cX9_isAsked 150 = .ok (.iconst 0, 1) := by decide +kernel
theorem dX9_isAsked_151 : decode cX9_isAsked 151 = .ok (.goto 20, 3) := by decide +kernel
theorem dX9_isAsked_154 : decode cX9_isAsked 154 = .ok (.lload 5, 2) := by decide +kernel
theorem dX9_isAsked_156 : decode cX9_isAsked 156 = .ok (.aload_n 0, 1) := by decide +kernel
theorem dX9_isAsked_157 : decode cX9_isAsked 157 = .ok (.getfield 69, 3) := by decide +kernel
theorem dX9_isAsked_160 : decode cX9_isAsked 160 = .ok (.iload_n 1, 1) := by decide +kernel
theorem dX9_isAsked_161 : decode cX9_isAsked 161 = .ok (.laload, 1) := by decide +kernel
theorem dX9_isAsked_162 : decode cX9_isAsked 162 = .ok (.lcmp, 1) := by decide +kernel
theorem dX9_isAsked_163 : decode cX9_isAsked 163 = .ok (.ifCond .le 7, 3) := by decide +kernel
theorem dX9_isAsked_166 : decode cX9_isAsked 166 = .ok (.iconst 1, 1) := by decide +kernel
theorem dX9_isAsked_167 : decode cX9_isAsked 167 = .ok (.goto 4, 3) := by decide +kernel
theorem dX9_isAsked_170 : decode cX9_isAsked 170 = .ok (.iconst 0, 1) := by decide +kernel
theorem dX9_isAsked_171 : decode cX9_isAsked 171 = .ok (.ireturn, 1) := by decide +kernel
def f_X9_isAsked (a0 a1 a2 : Int) (H : PH) : RO := vm 9 a0 H <|
  (ld 25 H a0 21).bind fun x1 => (ld 0 H x1 a1).bind fun x2 => (ld 25 H a0 20).bind fun x3 => (ld 0 H x3 a1).bind fun x4 => (if x4 ≠ 3 then (ld 25 H a0 43).bind fun x5 => (ld 1 H x5 (w32 ((w32 (6 * x2)) + a2))).bind fun x6 => (ld 25 H a0 44).bind fun x7 => (ld 0 H x7 (w32 ((w32 (6 * x2)) + a2))).bind fun x8 => (if x8 ≤ 0 then (ld 25 H a0 1).bind fun x9 => (ld 0 H x9 x2).bind fun x10 => (if x10 ≠ 1 then (ld 25 H a0 20).bind fun x11 => (ld 0 H x11 a1).bind fun x12 => (if x12 ≠ 0 then (ld 25 H a0 20).bind fun x13 => (ld 0 H x13 a1).bind fun x14 => (if x14 ≠ 1 then (ld 25 H a0 22).bind fun x15 => (ld 1 H x15 a1).bind fun x16 => (if (lc x6 x16) ≤ 0 then some (0, H)
  else some (1, H))
  else (ld 25 H a0 22).bind fun x17 => (ld 1 H x17 a1).bind fun x18 => (if (lc x6 x18) ≥ 0 then some (0, H)
  else some (1, H)))
  else (ld 25 H a0 22).bind fun x19 => (ld 1 H x19 a1).bind fun x20 => (if (lc x6 x20) ≠ 0 then some (0, H)
  else some (1, H)))
  else (ld 25 H a0 22).bind fun x21 => (ld 1 H x21 a1).bind fun x22 => (if (lc (l_and (l_shr x6 (w32 x22)) 1) 1) ≠ 0 then some (0, H)
  else some (1, H)))
  else some (0, H))
  else (ld 25 H a0 44).bind fun x23 => (ld 0 H x23 (w32 ((w32 (6 * x2)) + a2))).bind fun x24 => (if x24 ≤ 0 then some (0, H)
  else some (1, H)))
set_option maxHeartbeats 4000000 in
theorem m_X9_isAsked (l : Launch) (a0 a1 a2 : Int) (H : PH) (rr : Int) (HH : PH) (h : f_X9_isAsked a0 a1 a2 H = some (rr, HH)) : CT l yX9_isAsked cX9_isAsked 7 (some .boolean) 0 0 [vr a0, vi a1, vi a2] H (some (vi rr)) HH := by
  refine CT.of RX9 (by decide) rfl [some (vr a0), some (vi a1), some (vi a2), none, none, none, none] rfl rfl ?_
  intro E F q hn hf hl hm
  unfold f_X9_isAsked at h
  obtain ⟨hv, h⟩ := vm_spec h
  refine pw_aload_n (pc := 0) F dX9_isAsked_0 rfl ?_
  obtain ⟨x1, ex1, h⟩ := bnd h
  refine pw_get (pc := 1) F 9 21 66 (by decide) (by decide) g_aa88bfb7db inl_9 2 rfl dX9_isAsked_1 ex1 ?_
  refine pw_iload_n (pc := 4) F dX9_isAsked_4 rfl ?_
  obtain ⟨x2, ex2, h⟩ := bnd h
  refine pw_iald (pc := 5) F dX9_isAsked_5 ex2 ?_
  refine pw_istore_n (pc := 6) F dX9_isAsked_6 (lt_nl hn (by decide)) [some (vr a0), some (vi a1), some (vi a2), some (vi x2), none, none, none] rfl ?_
  refine pw_bipush (pc := 7) F 6 dX9_isAsked_7 (by decide) ?_
  refine pw_iload_n (pc := 9) F dX9_isAsked_9 rfl ?_
  refine pw_imul (pc := 10) F dX9_isAsked_10 ?_
  refine pw_iload_n (pc := 11) F dX9_isAsked_11 rfl ?_
  refine pw_iadd (pc := 12) F dX9_isAsked_12 ?_
  refine pw_istore (pc := 13) F dX9_isAsked_13 (lt_nl hn (by decide)) [some (vr a0), some (vi a1), some (vi a2), some (vi x2), some (vi (w32 ((w32 (6 * x2)) + a2))), none, none] rfl ?_
  refine pw_aload_n (pc := 15) F dX9_isAsked_15 rfl ?_
  obtain ⟨x3, ex3, h⟩ := bnd h
  refine pw_get (pc := 16) F 9 20 63 (by decide) (by decide) g_ef6ee937d9 inl_9 2 rfl dX9_isAsked_16 ex3 ?_
  refine pw_iload_n (pc := 19) F dX9_isAsked_19 rfl ?_
  obtain ⟨x4, ex4, h⟩ := bnd h
  refine pw_iald (pc := 20) F dX9_isAsked_20 ex4 ?_
  refine pw_iconst (pc := 21) F 3 dX9_isAsked_21 (by decide) ?_
  refine pw_icmp_ne (pc := 22) F 41 dX9_isAsked_22 (by decide) (fun hc => ?_) (fun hc => ?_)
  · have h := iteT hc h
    refine pw_aload_n (pc := 41) F dX9_isAsked_41 rfl ?_
    obtain ⟨x5, ex5, h⟩ := bnd h
    refine pw_get (pc := 42) F 9 43 115 (by decide) (by decide) g_e8763ca537 inl_9 2 rfl dX9_isAsked_42 ex5 ?_
    refine pw_iload (pc := 45) F dX9_isAsked_45 rfl ?_
    obtain ⟨x6, ex6, h⟩ := bnd h
    refine pw_lald (pc := 47) F dX9_isAsked_47 ex6 ?_
    refine pw_lstore (pc := 48) F dX9_isAsked_48 (lt_nl hn (by decide)) [some (vr a0), some (vi a1), some (vi a2), some (vi x2), some (vi (w32 ((w32 (6 * x2)) + a2))), some (vl x6), none] rfl ?_
    refine pw_aload_n (pc := 50) F dX9_isAsked_50 rfl ?_
    obtain ⟨x7, ex7, h⟩ := bnd h
    refine pw_get (pc := 51) F 9 44 118 (by decide) (by decide) g_5be5e353a9 inl_9 2 rfl dX9_isAsked_51 ex7 ?_
    refine pw_iload (pc := 54) F dX9_isAsked_54 rfl ?_
    obtain ⟨x8, ex8, h⟩ := bnd h
    refine pw_iald (pc := 56) F dX9_isAsked_56 ex8 ?_
    refine pw_if_le (pc := 57) F 62 dX9_isAsked_57 (by decide) (fun hc => ?_) (fun hc => ?_)
    · have h := iteT hc h
      refine pw_aload_n (pc := 62) F dX9_isAsked_62 rfl ?_
      obtain ⟨x9, ex9, h⟩ := bnd h
      refine pw_get (pc := 63) F 9 1 7 (by decide) (by decide) g_a89464ec18 inl_9 2 rfl dX9_isAsked_63 ex9 ?_
      refine pw_iload_n (pc := 66) F dX9_isAsked_66 rfl ?_
      obtain ⟨x10, ex10, h⟩ := bnd h
      refine pw_iald (pc := 67) F dX9_isAsked_67 ex10 ?_
      refine pw_iconst (pc := 68) F 1 dX9_isAsked_68 (by decide) ?_
      refine pw_icmp_ne (pc := 69) F 95 dX9_isAsked_69 (by decide) (fun hc => ?_) (fun hc => ?_)
      · have h := iteT hc h
        refine pw_aload_n (pc := 95) F dX9_isAsked_95 rfl ?_
        obtain ⟨x11, ex11, h⟩ := bnd h
        refine pw_get (pc := 96) F 9 20 63 (by decide) (by decide) g_ef6ee937d9 inl_9 2 rfl dX9_isAsked_96 ex11 ?_
        refine pw_iload_n (pc := 99) F dX9_isAsked_99 rfl ?_
        obtain ⟨x12, ex12, h⟩ := bnd h
        refine pw_iald (pc := 100) F dX9_isAsked_100 ex12 ?_
        refine pw_if_ne (pc := 101) F 124 dX9_isAsked_101 (by decide) (fun hc => ?_) (fun hc => ?_)
        · have h := iteT hc h
          refine pw_aload_n (pc := 124) F dX9_isAsked_124 rfl ?_
          obtain ⟨x13, ex13, h⟩ := bnd h
          refine pw_get (pc := 125) F 9 20 63 (by decide) (by decide) g_ef6ee937d9 inl_9 2 rfl dX9_isAsked_125 ex13 ?_
          refine pw_iload_n (pc := 128) F dX9_isAsked_128 rfl ?_
          obtain ⟨x14, ex14, h⟩ := bnd h
          refine pw_iald (pc := 129) F dX9_isAsked_129 ex14 ?_
          refine pw_iconst (pc := 130) F 1 dX9_isAsked_130 (by decide) ?_
          refine pw_icmp_ne (pc := 131) F 154 dX9_isAsked_131 (by decide) (fun hc => ?_) (fun hc => ?_)
          · have h := iteT hc h
            refine pw_lload (pc := 154) F dX9_isAsked_154 rfl ?_
            refine pw_aload_n (pc := 156) F dX9_isAsked_156 rfl ?_
            obtain ⟨x15, ex15, h⟩ := bnd h
            refine pw_get (pc := 157) F 9 22 69 (by decide) (by decide) g_d4e5cb9e3b inl_9 2 rfl dX9_isAsked_157 ex15 ?_
            refine pw_iload_n (pc := 160) F dX9_isAsked_160 rfl ?_
            obtain ⟨x16, ex16, h⟩ := bnd h
            refine pw_lald (pc := 161) F dX9_isAsked_161 ex16 ?_
            refine pw_lcmp (pc := 162) F dX9_isAsked_162 ?_
            refine pw_if_le (pc := 163) F 170 dX9_isAsked_163 (by decide) (fun hc => ?_) (fun hc => ?_)
            · have h := iteT hc h
              refine pw_iconst (pc := 170) F 0 dX9_isAsked_170 (by decide) ?_
              cases h
              exact pw_zret (pc := 171) F q (by decide) dX9_isAsked_171
            · have h := iteF hc h
              refine pw_iconst (pc := 166) F 1 dX9_isAsked_166 (by decide) ?_
              refine pw_goto (pc := 167) F 171 dX9_isAsked_167 (by decide) ?_
              cases h
              exact pw_zret (pc := 171) F q (by decide) dX9_isAsked_171
          · have h := iteF hc h
            refine pw_lload (pc := 134) F dX9_isAsked_134 rfl ?_
            refine pw_aload_n (pc := 136) F dX9_isAsked_136 rfl ?_
            obtain ⟨x17, ex17, h⟩ := bnd h
            refine pw_get (pc := 137) F 9 22 69 (by decide) (by decide) g_d4e5cb9e3b inl_9 2 rfl dX9_isAsked_137 ex17 ?_
            refine pw_iload_n (pc := 140) F dX9_isAsked_140 rfl ?_
            obtain ⟨x18, ex18, h⟩ := bnd h
            refine pw_lald (pc := 141) F dX9_isAsked_141 ex18 ?_
            refine pw_lcmp (pc := 142) F dX9_isAsked_142 ?_
            refine pw_if_ge (pc := 143) F 150 dX9_isAsked_143 (by decide) (fun hc => ?_) (fun hc => ?_)
            · have h := iteT hc h
              refine pw_iconst (pc := 150) F 0 dX9_isAsked_150 (by decide) ?_
              refine pw_goto (pc := 151) F 171 dX9_isAsked_151 (by decide) ?_
              cases h
              exact pw_zret (pc := 171) F q (by decide) dX9_isAsked_171
            · have h := iteF hc h
              refine pw_iconst (pc := 146) F 1 dX9_isAsked_146 (by decide) ?_
              refine pw_goto (pc := 147) F 171 dX9_isAsked_147 (by decide) ?_
              cases h
              exact pw_zret (pc := 171) F q (by decide) dX9_isAsked_171
        · have h := iteF hc h
          refine pw_lload (pc := 104) F dX9_isAsked_104 rfl ?_
          refine pw_aload_n (pc := 106) F dX9_isAsked_106 rfl ?_
          obtain ⟨x19, ex19, h⟩ := bnd h
          refine pw_get (pc := 107) F 9 22 69 (by decide) (by decide) g_d4e5cb9e3b inl_9 2 rfl dX9_isAsked_107 ex19 ?_
          refine pw_iload_n (pc := 110) F dX9_isAsked_110 rfl ?_
          obtain ⟨x20, ex20, h⟩ := bnd h
          refine pw_lald (pc := 111) F dX9_isAsked_111 ex20 ?_
          refine pw_lcmp (pc := 112) F dX9_isAsked_112 ?_
          refine pw_if_ne (pc := 113) F 120 dX9_isAsked_113 (by decide) (fun hc => ?_) (fun hc => ?_)
          · have h := iteT hc h
            refine pw_iconst (pc := 120) F 0 dX9_isAsked_120 (by decide) ?_
            refine pw_goto (pc := 121) F 171 dX9_isAsked_121 (by decide) ?_
            cases h
            exact pw_zret (pc := 171) F q (by decide) dX9_isAsked_171
          · have h := iteF hc h
            refine pw_iconst (pc := 116) F 1 dX9_isAsked_116 (by decide) ?_
            refine pw_goto (pc := 117) F 171 dX9_isAsked_117 (by decide) ?_
            cases h
            exact pw_zret (pc := 171) F q (by decide) dX9_isAsked_171
      · have h := iteF hc h
        refine pw_lload (pc := 72) F dX9_isAsked_72 rfl ?_
        refine pw_aload_n (pc := 74) F dX9_isAsked_74 rfl ?_
        obtain ⟨x21, ex21, h⟩ := bnd h
        refine pw_get (pc := 75) F 9 22 69 (by decide) (by decide) g_d4e5cb9e3b inl_9 2 rfl dX9_isAsked_75 ex21 ?_
        refine pw_iload_n (pc := 78) F dX9_isAsked_78 rfl ?_
        obtain ⟨x22, ex22, h⟩ := bnd h
        refine pw_lald (pc := 79) F dX9_isAsked_79 ex22 ?_
        refine pw_l2i (pc := 80) F dX9_isAsked_80 ?_
        refine pw_lshr (pc := 81) F dX9_isAsked_81 ?_
        refine pw_lconst (pc := 82) F 1 dX9_isAsked_82 (by decide) ?_
        refine pw_land (pc := 83) F dX9_isAsked_83 ?_
        refine pw_lconst (pc := 84) F 1 dX9_isAsked_84 (by decide) ?_
        refine pw_lcmp (pc := 85) F dX9_isAsked_85 ?_
        refine pw_if_ne (pc := 86) F 93 dX9_isAsked_86 (by decide) (fun hc => ?_) (fun hc => ?_)
        · have h := iteT hc h
          refine pw_iconst (pc := 93) F 0 dX9_isAsked_93 (by decide) ?_
          cases h
          exact pw_zret (pc := 94) F q (by decide) dX9_isAsked_94
        · have h := iteF hc h
          refine pw_iconst (pc := 89) F 1 dX9_isAsked_89 (by decide) ?_
          refine pw_goto (pc := 90) F 94 dX9_isAsked_90 (by decide) ?_
          cases h
          exact pw_zret (pc := 94) F q (by decide) dX9_isAsked_94
    · have h := iteF hc h
      refine pw_iconst (pc := 60) F 0 dX9_isAsked_60 (by decide) ?_
      cases h
      exact pw_zret (pc := 61) F q (by decide) dX9_isAsked_61
  · have h := iteF hc h
    refine pw_aload_n (pc := 25) F dX9_isAsked_25 rfl ?_
    obtain ⟨x23, ex23, h⟩ := bnd h
    refine pw_get (pc := 26) F 9 44 118 (by decide) (by decide) g_5be5e353a9 inl_9 2 rfl dX9_isAsked_26 ex23 ?_
    refine pw_iload (pc := 29) F dX9_isAsked_29 rfl ?_
    obtain ⟨x24, ex24, h⟩ := bnd h
    refine pw_iald (pc := 31) F dX9_isAsked_31 ex24 ?_
    refine pw_if_le (pc := 32) F 39 dX9_isAsked_32 (by decide) (fun hc => ?_) (fun hc => ?_)
    · have h := iteT hc h
      refine pw_iconst (pc := 39) F 0 dX9_isAsked_39 (by decide) ?_
      cases h
      exact pw_zret (pc := 40) F q (by decide) dX9_isAsked_40
    · have h := iteF hc h
      refine pw_iconst (pc := 35) F 1 dX9_isAsked_35 (by decide) ?_
      refine pw_goto (pc := 36) F 40 dX9_isAsked_36 (by decide) ?_
      cases h
      exact pw_zret (pc := 40) F q (by decide) dX9_isAsked_40
/-! HouseholdVaultModel.isSaid(II)Z -/
theorem dX9_isSaid_0 : decode cX9_isSaid 0 = .ok (.aload_n 0, 1) := by decide +kernel
theorem dX9_isSaid_1 : decode cX9_isSaid 1 = .ok (.getfield 121, 3) := by decide +kernel
theorem dX9_isSaid_4 : decode cX9_isSaid 4 = .ok (.bipush 6, 2) := by decide +kernel
theorem dX9_isSaid_6 : decode cX9_isSaid 6 = .ok (.iload_n 1, 1) := by decide +kernel
theorem dX9_isSaid_7 : decode cX9_isSaid 7 = .ok (.imul, 1) := by decide +kernel
theorem dX9_isSaid_8 : decode cX9_isSaid 8 = .ok (.aload_n 0, 1) := by decide +kernel
theorem dX9_isSaid_9 : decode cX9_isSaid 9 = .ok (.getfield 78, 3) := by decide +kernel
theorem dX9_isSaid_12 : decode cX9_isSaid 12 = .ok (.iload_n 1, 1) := by decide +kernel
theorem dX9_isSaid_13 : decode cX9_isSaid 13 = .ok (.iaload, 1) := by decide +kernel
theorem dX9_isSaid_14 : decode cX9_isSaid 14 = .ok (.ifCond .ge 7, 3) := by decide +kernel
theorem dX9_isSaid_17 : decode cX9_isSaid 17 = .ok (.iconst 0, 1) := by decide +kernel
theorem dX9_isSaid_18 : decode cX9_isSaid 18 = .ok (.goto 4, 3) := by decide +kernel
theorem dX9_isSaid_21 : decode cX9_isSaid 21 = .ok (.iload_n 2, 1) := by decide +kernel
theorem dX9_isSaid_22 : decode cX9_isSaid 22 = .ok (.iadd, 1) := by decide +kernel
theorem dX9_isSaid_23 : decode cX9_isSaid 23 = .ok (.baload, 1) := by decide +kernel
theorem dX9_isSaid_24 : decode cX9_isSaid 24 = .ok (.ireturn, 1) := by decide +kernel
def jX9_isSaid_22 (s0 s1 s2 : Int) (H : PH) : RO :=
  (ld 2 H s0 (w32 (s1 + s2))).bind fun x1 => zr x1 H
set_option maxHeartbeats 4000000 in
theorem jX9_isSaid_22_ok {E : PE} {rr : Int} {HH : PH} (F : FX E cX9_isSaid RX9) (q : QE E (some (vi rr)) HH (some .boolean)) (hn : nLof E = 3) (hf : (roomOf E).frames = 0) (hl : (roomOf E).locals = 0) (s0 s1 s2 : Int) (H : PH) (h : jX9_isSaid_22 s0 s1 s2 H = some (rr, HH)) : PW E 22 [none, none, none] [vi s2, vi s1, vr s0] H := by
  unfold jX9_isSaid_22 at h
  refine pw_iadd (pc := 22) F dX9_isSaid_22 ?_
  obtain ⟨x1, ex1, h⟩ := bnd h
  refine pw_zald (pc := 23) F dX9_isSaid_23 ex1 ?_
  obtain ⟨hz, h⟩ := zr_spec h
  cases h
  exact pw_zret (pc := 24) F q hz dX9_isSaid_24
def f_X9_isSaid (a0 a1 a2 : Int) (H : PH) : RO := vm 9 a0 H <|
  (ld 25 H a0 45).bind fun x1 => (ld 25 H a0 25).bind fun x2 => (ld 0 H x2 a1).bind fun x3 => (if x3 ≥ 0 then jX9_isSaid_22 x1 (w32 (6 * a1)) a2 H
  else jX9_isSaid_22 x1 (w32 (6 * a1)) 0 H)
set_option maxHeartbeats 4000000 in
theorem m_X9_isSaid (l : Launch) (a0 a1 a2 : Int) (H : PH) (rr : Int) (HH : PH) (h : f_X9_isSaid a0 a1 a2 H = some (rr, HH)) : CT l yX9_isSaid cX9_isSaid 3 (some .boolean) 0 0 [vr a0, vi a1, vi a2] H (some (vi rr)) HH := by
  refine CT.of RX9 (by decide) rfl [some (vr a0), some (vi a1), some (vi a2)] rfl rfl ?_
  intro E F q hn hf hl hm
  unfold f_X9_isSaid at h
  obtain ⟨hv, h⟩ := vm_spec h
  refine pw_aload_n (pc := 0) F dX9_isSaid_0 rfl ?_
  obtain ⟨x1, ex1, h⟩ := bnd h
  refine pw_get (pc := 1) F 9 45 121 (by decide) (by decide) g_b75f1cdc97 inl_9 2 rfl dX9_isSaid_1 ex1 ?_
  refine pw_bipush (pc := 4) F 6 dX9_isSaid_4 (by decide) ?_
  refine pw_iload_n (pc := 6) F dX9_isSaid_6 rfl ?_
  refine pw_imul (pc := 7) F dX9_isSaid_7 ?_
  refine pw_aload_n (pc := 8) F dX9_isSaid_8 rfl ?_
  obtain ⟨x2, ex2, h⟩ := bnd h
  refine pw_get (pc := 9) F 9 25 78 (by decide) (by decide) g_26e1dbdafb inl_9 2 rfl dX9_isSaid_9 ex2 ?_
  refine pw_iload_n (pc := 12) F dX9_isSaid_12 rfl ?_
  obtain ⟨x3, ex3, h⟩ := bnd h
  refine pw_iald (pc := 13) F dX9_isSaid_13 ex3 ?_
  refine pw_if_ge (pc := 14) F 21 dX9_isSaid_14 (by decide) (fun hc => ?_) (fun hc => ?_)
  · have h := iteT hc h
    refine pw_iload_n (pc := 21) F dX9_isSaid_21 rfl ?_
    exact pw_mask [false, false, false] (ls' := [none, none, none]) rfl (jX9_isSaid_22_ok F q hn hf hl x1 (w32 (6 * a1)) a2 H h)
  · have h := iteF hc h
    refine pw_iconst (pc := 17) F 0 dX9_isSaid_17 (by decide) ?_
    refine pw_goto (pc := 18) F 22 dX9_isSaid_18 (by decide) ?_
    exact pw_mask [false, false, false] (ls' := [none, none, none]) rfl (jX9_isSaid_22_ok F q hn hf hl x1 (w32 (6 * a1)) 0 H h)
/-! HouseholdVaultModel.sayAt(II)V -/
theorem dX9_sayAt_0 : decode cX9_sayAt 0 = .ok (.aload_n 0, 1) := by decide +kernel
theorem dX9_sayAt_1 : decode cX9_sayAt 1 = .ok (.getfield 60, 3) := by decide +kernel
theorem dX9_sayAt_4 : decode cX9_sayAt 4 = .ok (.iload_n 2, 1) := by decide +kernel
theorem dX9_sayAt_5 : decode cX9_sayAt 5 = .ok (.iaload, 1) := by decide +kernel
theorem dX9_sayAt_6 : decode cX9_sayAt 6 = .ok (.iconst 4, 1) := by decide +kernel
theorem dX9_sayAt_7 : decode cX9_sayAt 7 = .ok (.if_icmp .ne 88, 3) := by decide +kernel
theorem dX9_sayAt_10 : decode cX9_sayAt 10 = .ok (.iconst 0, 1) := by decide +kernel
theorem dX9_sayAt_11 : decode cX9_sayAt 11 = .ok (.istore_n 3, 1) := by decide +kernel
theorem dX9_sayAt_12 : decode cX9_sayAt 12 = .ok (.iconst 1, 1) := by decide +kernel
theorem dX9_sayAt_13 : decode cX9_sayAt 13 = .ok (.istore 4, 2) := by decide +kernel
theorem dX9_sayAt_15 : decode cX9_sayAt 15 = .ok (.iload 4, 2) := by decide +kernel
theorem dX9_sayAt_17 : decode cX9_sayAt 17 = .ok (.aload_n 0, 1) := by decide +kernel
theorem dX9_sayAt_18 : decode cX9_sayAt 18 = .ok (.iload_n 1, 1) := by decide +kernel
theorem dX9_sayAt_19 : decode cX9_sayAt 19 = .ok (.aload_n 0, 1) := by decide +kernel
theorem dX9_sayAt_20 : decode cX9_sayAt 20 = .ok (.getfield 78, 3) := by decide +kernel
theorem dX9_sayAt_23 : decode cX9_sayAt 23 = .ok (.aload_n 0, 1) := by decide +kernel
theorem dX9_sayAt_24 : decode cX9_sayAt 24 = .ok (.getfield 72, 3) := by decide +kernel
theorem dX9_sayAt_27 : decode cX9_sayAt 27 = .ok (.iload_n 2, 1) := by decide +kernel
theorem dX9_sayAt_28 : decode cX9_sayAt 28 = .ok (.iaload, 1) := by decide +kernel
theorem dX9_sayAt_29 : decode cX9_sayAt 29 = .ok (.iaload, 1) := by decide +kernel
theorem dX9_sayAt_30 : decode cX9_sayAt 30 = .ok (.invokevirtual 184, 3) := by decide +kernel
theorem dX9_sayAt_33 : decode cX9_sayAt 33 = .ok (.if_icmp .gt 37, 3) := by decide +kernel
theorem dX9_sayAt_36 : decode cX9_sayAt 36 = .ok (.iload_n 3, 1) := by decide +kernel
theorem dX9_sayAt_37 : decode cX9_sayAt 37 = .ok (.aload_n 0, 1) := by decide +kernel
theorem dX9_sayAt_38 : decode cX9_sayAt 38 = .ok (.getfield 121, 3) := by decide +kernel
theorem dX9_sayAt_41 : decode cX9_sayAt 41 = .ok (.bipush 6, 2) := by decide +kernel
theorem dX9_sayAt_43 : decode cX9_sayAt 43 = .ok (.aload_n 0, 1) := by decide +kernel
theorem dX9_sayAt_44 : decode cX9_sayAt 44 = .ok (.getfield 72, 3) := by decide +kernel
theorem dX9_sayAt_47 : decode cX9_sayAt 47 = .ok (.iload_n 2, 1) := by decide +kernel
theorem dX9_sayAt_48 : decode cX9_sayAt 48 = .ok (.iaload, 1) := by decide +kernel
theorem dX9_sayAt_49 : decode cX9_sayAt 49 = .ok (.imul, 1) := by decide +kernel
theorem dX9_sayAt_50 : decode cX9_sayAt 50 = .ok (.iload 4, 2) := by decide +kernel
theorem dX9_sayAt_52 : decode cX9_sayAt 52 = .ok (.iadd, 1) := by decide +kernel
theorem dX9_sayAt_53 : decode cX9_sayAt 53 = .ok (.baload, 1) := by decide +kernel
theorem dX9_sayAt_54 : decode cX9_sayAt 54 = .ok (.ifCond .eq 7, 3) := by decide +kernel
theorem dX9_sayAt_57 : decode cX9_sayAt 57 = .ok (.iconst 1, 1) := by decide +kernel
theorem dX9_sayAt_58 : decode cX9_sayAt 58 = .ok (.goto 4, 3) := by decide +kernel
theorem dX9_sayAt_61 : decode cX9_sayAt 61 = .ok (.iconst 0, 1) := by decide +kernel
theorem dX9_sayAt_62 : decode cX9_sayAt 62 = .ok (.iadd, 1) := by decide +kernel
theorem dX9_sayAt_63 : decode cX9_sayAt 63 = .ok (.istore_n 3, 1) := by decide +kernel
theorem dX9_sayAt_64 : decode cX9_sayAt 64 = .ok (.iinc 4 1, 3) := by decide +kernel
theorem dX9_sayAt_67 : decode cX9_sayAt 67 = .ok (.goto (-52), 3) := by decide +kernel
theorem dX9_sayAt_70 : decode cX9_sayAt 70 = .ok (.aload_n 0, 1) := by decide +kernel
theorem dX9_sayAt_71 : decode cX9_sayAt 71 = .ok (.getfield 121, 3) := by decide +kernel
theorem dX9_sayAt_74 : decode cX9_sayAt 74 = .ok (.bipush 6, 2) := by decide +kernel
theorem dX9_sayAt_76 : decode cX9_sayAt 76 = .ok (.iload_n 2, 1) := by decide +kernel
theorem dX9_sayAt_77 : decode cX9_sayAt 77 = .ok (.imul, 1) := by decide +kernel
theorem dX9_sayAt_78 : decode cX9_sayAt 78 = .ok (.iload_n 3, 1) := by decide +kernel
theorem dX9_sayAt_79 : decode cX9_sayAt 79 = .ok (.aload_n 0, 1) := by decide +kernel
theorem dX9_sayAt_80 : decode cX9_sayAt 80 = .ok (.getfield 63, 3) := by decide +kernel
theorem dX9_sayAt_83 : decode cX9_sayAt 83 = .ok (.iload_n 2, 1) := by decide +kernel
theorem dX9_sayAt_84 : decode cX9_sayAt 84 = .ok (.iaload, 1) := by decide +kernel
theorem dX9_sayAt_85 : decode cX9_sayAt 85 = .ok (.if_icmp .lt 7, 3) := by decide +kernel
theorem dX9_sayAt_88 : decode cX9_sayAt 88 = .ok (.iconst 1, 1) := by decide +kernel
theorem dX9_sayAt_89 : decode cX9_sayAt 89 = .ok (.goto 4, 3) := by decide +kernel
theorem dX9_sayAt_92 : decode cX9_sayAt 92 = .ok (.iconst 0, 1) := by decide +kernel
theorem dX9_sayAt_93 : decode cX9_sayAt 93 = .ok (.bastore, 1) := by decide +kernel
theorem dX9_sayAt_94 : decode cX9_sayAt 94 = .ok (.return_, 1) := by decide +kernel
theorem dX9_sayAt_95 : decode cX9_sayAt 95 = .ok (.aload_n 0, 1) := by decide +kernel
theorem dX9_sayAt_96 : decode cX9_sayAt 96 = .ok (.getfield 78, 3) := by decide +kernel
theorem dX9_sayAt_99 : decode cX9_sayAt 99 = .ok (.iload_n 2, 1) := by decide +kernel
theorem dX9_sayAt_100 : decode cX9_sayAt 100 = .ok (.iaload, 1) := by decide +kernel
theorem dX9_sayAt_101 : decode cX9_sayAt 101 = .ok (.ifCond .ge 7, 3) := by decide +kernel
theorem dX9_sayAt_104 : decode cX9_sayAt 104 = .ok (.iconst 0, 1) := by decide +kernel
theorem dX9_sayAt_105 : decode cX9_sayAt 105 = .ok (.goto 14, 3) := by decide +kernel
theorem dX9_sayAt_108 : decode cX9_sayAt 108 = .ok (.aload_n 0, 1) := by decide +kernel
theorem dX9_sayAt_109 : decode cX9_sayAt 109 = .ok (.iload_n 1, 1) := by decide +kernel
theorem dX9_sayAt_110 : decode cX9_sayAt 110 = .ok (.aload_n 0, 1) := by decide +kernel
theorem dX9_sayAt_111 : decode cX9_sayAt 111 = .ok (.getfield 78, 3) := by decide +kernel
theorem dX9_sayAt_114 : decode cX9_sayAt 114 = .ok (.iload_n 2, 1) := by decide +kernel
theorem dX9_sayAt_115 : decode cX9_sayAt 115 = .ok (.iaload, 1) := by decide +kernel
theorem dX9_sayAt_116 : decode cX9_sayAt 116 = .ok (.invokevirtual 184, 3) := by decide +kernel
theorem dX9_sayAt_119 : decode cX9_sayAt 119 = .ok (.istore_n 3, 1) := by decide +kernel
theorem dX9_sayAt_120 : decode cX9_sayAt 120 = .ok (.aload_n 0, 1) := by decide +kernel
theorem dX9_sayAt_121 : decode cX9_sayAt 121 = .ok (.getfield 78, 3) := by decide +kernel
theorem dX9_sayAt_124 : decode cX9_sayAt 124 = .ok (.iload_n 2, 1) := by decide +kernel
theorem dX9_sayAt_125 : decode cX9_sayAt 125 = .ok (.iaload, 1) := by decide +kernel
theorem dX9_sayAt_126 : decode cX9_sayAt 126 = .ok (.ifCond .ge 7, 3) := by decide +kernel
theorem dX9_sayAt_129 : decode cX9_sayAt 129 = .ok (.iconst 0, 1) := by decide +kernel
theorem dX9_sayAt_130 : decode cX9_sayAt 130 = .ok (.goto 4, 3) := by decide +kernel
theorem dX9_sayAt_133 : decode cX9_sayAt 133 = .ok (.iconst 1, 1) := by decide +kernel
theorem dX9_sayAt_134 : decode cX9_sayAt 134 = .ok (.istore 4, 2) := by decide +kernel
theorem dX9_sayAt_136 : decode cX9_sayAt 136 = .ok (.iload 4, 2) := by decide +kernel
theorem dX9_sayAt_138 : decode cX9_sayAt 138 = .ok (.iload_n 3, 1) := by decide +kernel
theorem dX9_sayAt_139 : decode cX9_sayAt 139 = .ok (.if_icmp .gt 156, 3) := by decide +kernel
theorem dX9_sayAt_142 : decode cX9_sayAt 142 = .ok (.aload_n 0, 1) := by decide +kernel
theorem dX9_sayAt_143 : decode cX9_sayAt 143 = .ok (.getfield 60, 3) := by decide +kernel
theorem dX9_sayAt_146 : decode cX9_sayAt 146 = .ok (.iload_n 2, 1) := by decide +kernel
theorem dX9_sayAt_147 : decode cX9_sayAt 147 = .ok (.iaload, 1) := by decide +kernel
theorem dX9_sayAt_148 : decode cX9_sayAt 148 = .ok (.ifCond .ne 13, 3) := by decide +kernel
theorem dX9_sayAt_151 : decode cX9_sayAt 151 = .ok (.aload_n 0, 1) := by decide +kernel
theorem dX9_sayAt_152 : decode cX9_sayAt 152 = .ok (.iload_n 2, 1) := by decide +kernel
theorem dX9_sayAt_153 : decode cX9_sayAt 153 = .ok (.iload 4, 2) := by decide +kernel
theorem dX9_sayAt_155 : decode cX9_sayAt 155 = .ok (.invokevirtual 215, 3) := by decide +kernel
theorem dX9_sayAt_158 : decode cX9_sayAt 158 = .ok (.goto 15, 3) := by decide +kernel
theorem dX9_sayAt_161 : decode cX9_sayAt 161 = .ok (.aload_n 0, 1) := by decide +kernel
theorem dX9_sayAt_162 : decode cX9_sayAt 162 = .ok (.aload_n 0, 1) := by decide +kernel
theorem dX9_sayAt_163 : decode cX9_sayAt 163 = .ok (.getfield 72, 3) := by decide +kernel
theorem dX9_sayAt_166 : decode cX9_sayAt 166 = .ok (.iload_n 2, 1) := by decide +kernel
theorem dX9_sayAt_167 : decode cX9_sayAt 167 = .ok (.iaload, 1) := by decide +kernel
theorem dX9_sayAt_168 : decode cX9_sayAt 168 = .ok (.iload 4, 2) := by decide +kernel
theorem dX9_sayAt_170 : decode cX9_sayAt 170 = .ok (.invokevirtual 219, 3) := by decide +kernel
theorem dX9_sayAt_173 : decode cX9_sayAt 173 = .ok (.istore 5, 2) := by decide +kernel
theorem dX9_sayAt_175 : decode cX9_sayAt 175 = .ok (.aload_n 0, 1) := by decide +kernel
theorem dX9_sayAt_176 : decode cX9_sayAt 176 = .ok (.getfield 60, 3) := by decide +kernel
theorem dX9_sayAt_179 : decode cX9_sayAt 179 = .ok (.iload_n 2, 1) := by decide +kernel
theorem dX9_sayAt_180 : decode cX9_sayAt 180 = .ok (.iaload, 1) := by decide +kernel
theorem dX9_sayAt_181 : decode cX9_sayAt 181 = .ok (.iconst 1, 1) := by decide +kernel
theorem dX9_sayAt_182 : decode cX9_sayAt 182 = .ok (.if_icmp .ne 33, 3) := by decide +kernel
theorem dX9_sayAt_185 : decode cX9_sayAt 185 = .ok (.iload 5, 2) := by decide +kernel
theorem dX9_sayAt_187 : decode cX9_sayAt 187 = .ok (.ifCond .eq 22, 3) := by decide +kernel
theorem dX9_sayAt_190 : decode cX9_sayAt 190 = .ok (.aload_n 0, 1) := by decide +kernel
theorem dX9_sayAt_191 : decode cX9_sayAt 191 = .ok (.aload_n 0, 1) := by decide +kernel
theorem dX9_sayAt_192 : decode cX9_sayAt 192 = .ok (.getfield 75, 3) := by decide +kernel
theorem dX9_sayAt_195 : decode cX9_sayAt 195 = .ok (.iload_n 2, 1) := by decide +kernel
theorem dX9_sayAt_196 : decode cX9_sayAt 196 = .ok (.iaload, 1) := by decide +kernel
theorem dX9_sayAt_197 : decode cX9_sayAt 197 = .ok (.iload 4, 2) := by decide +kernel
theorem dX9_sayAt_199 : decode cX9_sayAt 199 = .ok (.invokevirtual 219, 3) := by decide +kernel
theorem dX9_sayAt_202 : decode cX9_sayAt 202 = .ok (.ifCond .eq 7, 3) := by decide +kernel
theorem dX9_sayAt_205 : decode cX9_sayAt 205 = .ok (.iconst 1, 1) := by decide +kernel
theorem dX9_sayAt_206 : decode cX9_sayAt 206 = .ok (.goto 4, 3) := by decide +kernel
theorem dX9_sayAt_209 : decode cX9_sayAt 209 = .ok (.iconst 0, 1) := by decide +kernel
theorem dX9_sayAt_210 : decode cX9_sayAt 210 = .ok (.istore 5, 2) := by decide +kernel
theorem dX9_sayAt_212 : decode cX9_sayAt 212 = .ok (.goto 40, 3) := by decide +kernel
theorem dX9_sayAt_215 : decode cX9_sayAt 215 = .ok (.aload_n 0, 1) := by decide +kernel
theorem dX9_sayAt_216 : decode cX9_sayAt 216 = .ok (.getfield 60, 3) := by decide +kernel
theorem dX9_sayAt_219 : decode cX9_sayAt 219 = .ok (.iload_n 2, 1) := by decide +kernel
theorem dX9_sayAt_220 : decode cX9_sayAt 220 = .ok (.iaload, 1) := by decide +kernel
theorem dX9_sayAt_221 : decode cX9_sayAt 221 = .ok (.iconst 2, 1) := by decide +kernel
theorem dX9_sayAt_222 : decode cX9_sayAt 222 = .ok (.if_icmp .ne 30, 3) := by decide +kernel
theorem dX9_sayAt_225 : decode cX9_sayAt 225 = .ok (.iload 5, 2) := by decide +kernel
theorem dX9_sayAt_227 : decode cX9_sayAt 227 = .ok (.ifCond .ne 18, 3) := by decide +kernel
theorem dX9_sayAt_230 : decode cX9_sayAt 230 = .ok (.aload_n 0, 1) := by decide +kernel
theorem dX9_sayAt_231 : decode cX9_sayAt 231 = .ok (.aload_n 0, 1) := by decide +kernel
theorem dX9_sayAt_232 : decode cX9_sayAt 232 = .ok (.getfield 75, 3) := by decide +kernel
theorem dX9_sayAt_235 : decode cX9_sayAt 235 = .ok (.iload_n 2, 1) := by decide +kernel
theorem dX9_sayAt_236 : decode cX9_sayAt 236 = .ok (.iaload, 1) := by decide +kernel
theorem dX9_sayAt_237 : decode cX9_sayAt 237 = .ok (.iload 4, 2) := by decide +kernel
theorem dX9_sayAt_239 : decode cX9_sayAt 239 = .ok (.invokevirtual 219, 3) := by decide +kernel
theorem dX9_sayAt_242 : decode cX9_sayAt 242 = .ok (.ifCond .eq 7, 3) := by decide +kernel
theorem dX9_sayAt_245 : decode cX9_sayAt 245 = .ok (.iconst 1, 1) := by decide +kernel
theorem dX9_sayAt_246 : decode cX9_sayAt 246 = .ok (.goto 4, 3) := by decide +kernel
theorem dX9_sayAt_249 : decode cX9_sayAt 249 = .ok (.iconst 0, 1) := by decide +kernel
theorem dX9_sayAt_250 : decode cX9_sayAt 250 = .ok (.istore 5, 2) := by decide +kernel
theorem dX9_sayAt_252 : decode cX9_sayAt 252 = .ok (.aload_n 0, 1) := by decide +kernel
theorem dX9_sayAt_253 : decode cX9_sayAt 253 = .ok (.getfield 121, 3) := by decide +kernel
theorem dX9_sayAt_256 : decode cX9_sayAt 256 = .ok (.bipush 6, 2) := by decide +kernel
theorem dX9_sayAt_258 : decode cX9_sayAt 258 = .ok (.iload_n 2, 1) := by decide +kernel
theorem dX9_sayAt_259 : decode cX9_sayAt 259 = .ok (.imul, 1) := by decide +kernel
theorem dX9_sayAt_260 : decode cX9_sayAt 260 = .ok (.iload 4, 2) := by decide +kernel
theorem dX9_sayAt_262 : decode cX9_sayAt 262 = .ok (.iadd, 1) := by decide +kernel
theorem dX9_sayAt_263 : decode cX9_sayAt 263 = .ok (.aload_n 0, 1) := by decide +kernel
theorem dX9_sayAt_264 : decode cX9_sayAt 264 = .ok (.getfield 60, 3) := by decide +kernel
theorem dX9_sayAt_267 : decode cX9_sayAt 267 = .ok (.iload_n 2, 1) := by decide +kernel
theorem dX9_sayAt_268 : decode cX9_sayAt 268 = .ok (.iaload, 1) := by decide +kernel
theorem dX9_sayAt_269 : decode cX9_sayAt 269 = .ok (.iconst 3, 1) := by decide +kernel
theorem dX9_sayAt_270 : decode cX9_sayAt 270 = .ok (.if_icmp .ne 16, 3) := by decide +kernel
theorem dX9_sayAt_273 : decode cX9_sayAt 273 = .ok (.iload 5, 2) := by decide +kernel
theorem dX9_sayAt_275 : decode cX9_sayAt 275 = .ok (.ifCond .ne 7, 3) := by decide +kernel
theorem dX9_sayAt_278 : decode cX9_sayAt 278 = .ok (.iconst 1, 1) := by decide +kernel
theorem dX9_sayAt_279 : decode cX9_sayAt 279 = .ok (.goto 9, 3) := by decide +kernel
theorem dX9_sayAt_282 : decode cX9_sayAt 282 = .ok (.iconst 0, 1) := by decide +kernel
theorem dX9_sayAt_283 : decode cX9_sayAt 283 = .ok (.goto 5, 3) := by decide +kernel
theorem dX9_sayAt_286 : decode cX9_sayAt 286 = .ok (.iload 5, 2) := by decide +kernel
theorem dX9_sayAt_288 : decode cX9_sayAt 288 = .ok (.bastore, 1) := by decide +kernel
theorem dX9_sayAt_289 : decode cX9_sayAt 289 = .ok (.iinc 4 1, 3) := by decide +kernel
theorem dX9_sayAt_292 : decode cX9_sayAt 292 = .ok (.goto (-156), 3) := by decide +kernel
theorem dX9_sayAt_295 : decode cX9_sayAt 295 = .ok (.return_, 1) := by decide +kernel
def jX9_sayAt_288 (self136 : Int → PH → RO) (p0 p2 p3 p4 s0 s1 s2 : Int) (H : PH) : RO :=
  (stz 2 H s0 s1 s2).bind fun H1 => self136 (w32 (p4 + 1)) H1
set_option maxHeartbeats 4000000 in
theorem jX9_sayAt_288_ok {E : PE} {rr : Int} {HH : PH} (F : FX E cX9_sayAt RX9) (q : QE E none HH none) (hn : nLof E = 6) (hf : (roomOf E).frames = 2) (hl : (roomOf E).locals = 44) (self136 : Int → PH → RO) (p0 p2 p3 p4 s0 s1 s2 : Int) (H : PH) (ih136 : ∀ (v4 : Int) (HV : PH), self136 v4 HV = some (rr, HH) → PW E 136 [some (vr p0), none, some (vi p2), some (vi p3), some (vi v4), none] [] HV) (h : jX9_sayAt_288 self136 p0 p2 p3 p4 s0 s1 s2 H = some (rr, HH)) : PW E 288 [some (vr p0), none, some (vi p2), some (vi p3), some (vi p4), none] [vi s2, vi s1, vr s0] H := by
  unfold jX9_sayAt_288 at h
  obtain ⟨H1, eH1, h⟩ := bnd h
  refine pw_zast (pc := 288) F dX9_sayAt_288 (stz_spec eH1).1 (stz_spec eH1).2 ?_
  refine pw_iinc (pc := 289) F dX9_sayAt_289 rfl (lt_nl hn (by decide)) [some (vr p0), none, some (vi p2), some (vi p3), some (vi (w32 (p4 + 1))), none] rfl (by decide) ?_
  refine pw_goto (pc := 292) F 136 dX9_sayAt_292 (by decide) ?_
  exact pw_mask [true, true, true, true, true, true] (ls' := [some (vr p0), none, some (vi p2), some (vi p3), some (vi (w32 (p4 + 1))), none]) rfl (ih136 (w32 (p4 + 1)) H1 h)
def jX9_sayAt_252 (self136 : Int → PH → RO) (p0 p2 p3 p4 p5 : Int) (H : PH) : RO :=
  (ld 25 H p0 45).bind fun x1 => (ld 25 H p0 19).bind fun x2 => (ld 0 H x2 p2).bind fun x3 => (if x3 ≠ 3 then jX9_sayAt_288 self136 p0 p2 p3 p4 x1 (w32 ((w32 (6 * p2)) + p4)) p5 H
  else (if p5 ≠ 0 then jX9_sayAt_288 self136 p0 p2 p3 p4 x1 (w32 ((w32 (6 * p2)) + p4)) 0 H
  else jX9_sayAt_288 self136 p0 p2 p3 p4 x1 (w32 ((w32 (6 * p2)) + p4)) 1 H))
set_option maxHeartbeats 4000000 in
theorem jX9_sayAt_252_ok {E : PE} {rr : Int} {HH : PH} (F : FX E cX9_sayAt RX9) (q : QE E none HH none) (hn : nLof E = 6) (hf : (roomOf E).frames = 2) (hl : (roomOf E).locals = 44) (self136 : Int → PH → RO) (p0 p2 p3 p4 p5 : Int) (H : PH) (ih136 : ∀ (v4 : Int) (HV : PH), self136 v4 HV = some (rr, HH) → PW E 136 [some (vr p0), none, some (vi p2), some (vi p3), some (vi v4), none] [] HV) (h : jX9_sayAt_252 self136 p0 p2 p3 p4 p5 H = some (rr, HH)) : PW E 252 [some (vr p0), none, some (vi p2), some (vi p3), some (vi p4), some (vi p5)] [] H := by
  unfold jX9_sayAt_252 at h
  refine pw_aload_n (pc := 252) F dX9_sayAt_252 rfl ?_
  obtain ⟨x1, ex1, h⟩ := bnd h
  refine pw_get (pc := 253) F 9 45 121 (by decide) (by decide) g_b75f1cdc97 inl_9 2 rfl dX9_sayAt_253 ex1 ?_
  refine pw_bipush (pc := 256) F 6 dX9_sayAt_256 (by decide) ?_
  refine pw_iload_n (pc := 258) F dX9_sayAt_258 rfl ?_
  refine pw_imul (pc := 259) F dX9_sayAt_259 ?_
  refine pw_iload (pc := 260) F dX9_sayAt_260 rfl ?_
  refine pw_iadd (pc := 262) F dX9_sayAt_262 ?_
  refine pw_aload_n (pc := 263) F dX9_sayAt_263 rfl ?_
  obtain ⟨x2, ex2, h⟩ := bnd h
  refine pw_get (pc := 264) F 9 19 60 (by decide) (by decide) g_14ea23737e inl_9 2 rfl dX9_sayAt_264 ex2 ?_
  refine pw_iload_n (pc := 267) F dX9_sayAt_267 rfl ?_
  obtain ⟨x3, ex3, h⟩ := bnd h
  refine pw_iald (pc := 268) F dX9_sayAt_268 ex3 ?_
  refine pw_iconst (pc := 269) F 3 dX9_sayAt_269 (by decide) ?_
  refine pw_icmp_ne (pc := 270) F 286 dX9_sayAt_270 (by decide) (fun hc => ?_) (fun hc => ?_)
  · have h := iteT hc h
    refine pw_iload (pc := 286) F dX9_sayAt_286 rfl ?_
    exact pw_mask [true, true, true, true, true, false] (ls' := [some (vr p0), none, some (vi p2), some (vi p3), some (vi p4), none]) rfl (jX9_sayAt_288_ok F q hn hf hl self136 p0 p2 p3 p4 x1 (w32 ((w32 (6 * p2)) + p4)) p5 H ih136 h)
  · have h := iteF hc h
    refine pw_iload (pc := 273) F dX9_sayAt_273 rfl ?_
    refine pw_if_ne (pc := 275) F 282 dX9_sayAt_275 (by decide) (fun hc => ?_) (fun hc => ?_)
    · have h := iteT hc h
      refine pw_iconst (pc := 282) F 0 dX9_sayAt_282 (by decide) ?_
      refine pw_goto (pc := 283) F 288 dX9_sayAt_283 (by decide) ?_
      exact pw_mask [true, true, true, true, true, false] (ls' := [some (vr p0), none, some (vi p2), some (vi p3), some (vi p4), none]) rfl (jX9_sayAt_288_ok F q hn hf hl self136 p0 p2 p3 p4 x1 (w32 ((w32 (6 * p2)) + p4)) 0 H ih136 h)
    · have h := iteF hc h
      refine pw_iconst (pc := 278) F 1 dX9_sayAt_278 (by decide) ?_
      refine pw_goto (pc := 279) F 288 dX9_sayAt_279 (by decide) ?_
      exact pw_mask [true, true, true, true, true, false] (ls' := [some (vr p0), none, some (vi p2), some (vi p3), some (vi p4), none]) rfl (jX9_sayAt_288_ok F q hn hf hl self136 p0 p2 p3 p4 x1 (w32 ((w32 (6 * p2)) + p4)) 1 H ih136 h)
def jX9_sayAt_250 (self136 : Int → PH → RO) (p0 p2 p3 p4 s0 : Int) (H : PH) : RO :=
  jX9_sayAt_252 self136 p0 p2 p3 p4 s0 H
set_option maxHeartbeats 4000000 in
theorem jX9_sayAt_250_ok {E : PE} {rr : Int} {HH : PH} (F : FX E cX9_sayAt RX9) (q : QE E none HH none) (hn : nLof E = 6) (hf : (roomOf E).frames = 2) (hl : (roomOf E).locals = 44) (self136 : Int → PH → RO) (p0 p2 p3 p4 s0 : Int) (H : PH) (ih136 : ∀ (v4 : Int) (HV : PH), self136 v4 HV = some (rr, HH) → PW E 136 [some (vr p0), none, some (vi p2), some (vi p3), some (vi v4), none] [] HV) (h : jX9_sayAt_250 self136 p0 p2 p3 p4 s0 H = some (rr, HH)) : PW E 250 [some (vr p0), none, some (vi p2), some (vi p3), some (vi p4), none] [vi s0] H := by
  unfold jX9_sayAt_250 at h
  refine pw_istore (pc := 250) F dX9_sayAt_250 (lt_nl hn (by decide)) [some (vr p0), none, some (vi p2), some (vi p3), some (vi p4), some (vi s0)] rfl ?_
  exact pw_mask [true, true, true, true, true, true] (ls' := [some (vr p0), none, some (vi p2), some (vi p3), some (vi p4), some (vi s0)]) rfl (jX9_sayAt_252_ok F q hn hf hl self136 p0 p2 p3 p4 s0 H ih136 h)
def jX9_sayAt_245 (self136 : Int → PH → RO) (p0 p2 p3 p4 : Int) (H : PH) : RO :=
  jX9_sayAt_250 self136 p0 p2 p3 p4 1 H
set_option maxHeartbeats 4000000 in
theorem jX9_sayAt_245_ok {E : PE} {rr : Int} {HH : PH} (F : FX E cX9_sayAt RX9) (q : QE E none HH none) (hn : nLof E = 6) (hf : (roomOf E).frames = 2) (hl : (roomOf E).locals = 44) (self136 : Int → PH → RO) (p0 p2 p3 p4 : Int) (H : PH) (ih136 : ∀ (v4 : Int) (HV : PH), self136 v4 HV = some (rr, HH) → PW E 136 [some (vr p0), none, some (vi p2), some (vi p3), some (vi v4), none] [] HV) (h : jX9_sayAt_245 self136 p0 p2 p3 p4 H = some (rr, HH)) : PW E 245 [some (vr p0), none, some (vi p2), some (vi p3), some (vi p4), none] [] H := by
  unfold jX9_sayAt_245 at h
  refine pw_iconst (pc := 245) F 1 dX9_sayAt_245 (by decide) ?_
  refine pw_goto (pc := 246) F 250 dX9_sayAt_246 (by decide) ?_
  exact pw_mask [true, true, true, true, true, true] (ls' := [some (vr p0), none, some (vi p2), some (vi p3), some (vi p4), none]) rfl (jX9_sayAt_250_ok F q hn hf hl self136 p0 p2 p3 p4 1 H ih136 h)
def jX9_sayAt_210 (self136 : Int → PH → RO) (p0 p2 p3 p4 s0 : Int) (H : PH) : RO :=
  jX9_sayAt_252 self136 p0 p2 p3 p4 s0 H
set_option maxHeartbeats 4000000 in
theorem jX9_sayAt_210_ok {E : PE} {rr : Int} {HH : PH} (F : FX E cX9_sayAt RX9) (q : QE E none HH none) (hn : nLof E = 6) (hf : (roomOf E).frames = 2) (hl : (roomOf E).locals = 44) (self136 : Int → PH → RO) (p0 p2 p3 p4 s0 : Int) (H : PH) (ih136 : ∀ (v4 : Int) (HV : PH), self136 v4 HV = some (rr, HH) → PW E 136 [some (vr p0), none, some (vi p2), some (vi p3), some (vi v4), none] [] HV) (h : jX9_sayAt_210 self136 p0 p2 p3 p4 s0 H = some (rr, HH)) : PW E 210 [some (vr p0), none, some (vi p2), some (vi p3), some (vi p4), none] [vi s0] H := by
  unfold jX9_sayAt_210 at h
  refine pw_istore (pc := 210) F dX9_sayAt_210 (lt_nl hn (by decide)) [some (vr p0), none, some (vi p2), some (vi p3), some (vi p4), some (vi s0)] rfl ?_
  refine pw_goto (pc := 212) F 252 dX9_sayAt_212 (by decide) ?_
  exact pw_mask [true, true, true, true, true, true] (ls' := [some (vr p0), none, some (vi p2), some (vi p3), some (vi p4), some (vi s0)]) rfl (jX9_sayAt_252_ok F q hn hf hl self136 p0 p2 p3 p4 s0 H ih136 h)
def jX9_sayAt_209 (self136 : Int → PH → RO) (p0 p2 p3 p4 : Int) (H : PH) : RO :=
  jX9_sayAt_210 self136 p0 p2 p3 p4 0 H
set_option maxHeartbeats 4000000 in
theorem jX9_sayAt_209_ok {E : PE} {rr : Int} {HH : PH} (F : FX E cX9_sayAt RX9) (q : QE E none HH none) (hn : nLof E = 6) (hf : (roomOf E).frames = 2) (hl : (roomOf E).locals = 44) (self136 : Int → PH → RO) (p0 p2 p3 p4 : Int) (H : PH) (ih136 : ∀ (v4 : Int) (HV : PH), self136 v4 HV = some (rr, HH) → PW E 136 [some (vr p0), none, some (vi p2), some (vi p3), some (vi v4), none] [] HV) (h : jX9_sayAt_209 self136 p0 p2 p3 p4 H = some (rr, HH)) : PW E 209 [some (vr p0), none, some (vi p2), some (vi p3), some (vi p4), none] [] H := by
  unfold jX9_sayAt_209 at h
  refine pw_iconst (pc := 209) F 0 dX9_sayAt_209 (by decide) ?_
  exact pw_mask [true, true, true, true, true, true] (ls' := [some (vr p0), none, some (vi p2), some (vi p3), some (vi p4), none]) rfl (jX9_sayAt_210_ok F q hn hf hl self136 p0 p2 p3 p4 0 H ih136 h)
def jX9_sayAt_173 (self136 : Int → PH → RO) (p0 p2 p3 p4 s0 : Int) (H : PH) : RO :=
  (ld 25 H p0 19).bind fun x1 => (ld 0 H x1 p2).bind fun x2 => (if x2 ≠ 1 then (ld 25 H p0 19).bind fun x3 => (ld 0 H x3 p2).bind fun x4 => (if x4 ≠ 2 then jX9_sayAt_252 self136 p0 p2 p3 p4 s0 H
  else (if s0 ≠ 0 then jX9_sayAt_245 self136 p0 p2 p3 p4 H
  else (ld 25 H p0 24).bind fun x5 => (ld 0 H x5 p2).bind fun x6 => (f_X9_isSaid p0 x6 p4 H).bind fun z7 => (if z7.1 = 0 then jX9_sayAt_250 self136 p0 p2 p3 p4 0 z7.2
  else jX9_sayAt_245 self136 p0 p2 p3 p4 z7.2)))
  else (if s0 = 0 then jX9_sayAt_209 self136 p0 p2 p3 p4 H
  else (ld 25 H p0 24).bind fun x8 => (ld 0 H x8 p2).bind fun x9 => (f_X9_isSaid p0 x9 p4 H).bind fun z10 => (if z10.1 = 0 then jX9_sayAt_209 self136 p0 p2 p3 p4 z10.2
  else jX9_sayAt_210 self136 p0 p2 p3 p4 1 z10.2)))
set_option maxHeartbeats 4000000 in
theorem jX9_sayAt_173_ok {E : PE} {rr : Int} {HH : PH} (F : FX E cX9_sayAt RX9) (q : QE E none HH none) (hn : nLof E = 6) (hf : (roomOf E).frames = 2) (hl : (roomOf E).locals = 44) (self136 : Int → PH → RO) (p0 p2 p3 p4 s0 : Int) (H : PH) (ih136 : ∀ (v4 : Int) (HV : PH), self136 v4 HV = some (rr, HH) → PW E 136 [some (vr p0), none, some (vi p2), some (vi p3), some (vi v4), none] [] HV) (h : jX9_sayAt_173 self136 p0 p2 p3 p4 s0 H = some (rr, HH)) : PW E 173 [some (vr p0), none, some (vi p2), some (vi p3), some (vi p4), none] [vi s0] H := by
  unfold jX9_sayAt_173 at h
  refine pw_istore (pc := 173) F dX9_sayAt_173 (lt_nl hn (by decide)) [some (vr p0), none, some (vi p2), some (vi p3), some (vi p4), some (vi s0)] rfl ?_
  refine pw_aload_n (pc := 175) F dX9_sayAt_175 rfl ?_
  obtain ⟨x1, ex1, h⟩ := bnd h
  refine pw_get (pc := 176) F 9 19 60 (by decide) (by decide) g_14ea23737e inl_9 2 rfl dX9_sayAt_176 ex1 ?_
  refine pw_iload_n (pc := 179) F dX9_sayAt_179 rfl ?_
  obtain ⟨x2, ex2, h⟩ := bnd h
  refine pw_iald (pc := 180) F dX9_sayAt_180 ex2 ?_
  refine pw_iconst (pc := 181) F 1 dX9_sayAt_181 (by decide) ?_
  refine pw_icmp_ne (pc := 182) F 215 dX9_sayAt_182 (by decide) (fun hc => ?_) (fun hc => ?_)
  · have h := iteT hc h
    refine pw_aload_n (pc := 215) F dX9_sayAt_215 rfl ?_
    obtain ⟨x3, ex3, h⟩ := bnd h
    refine pw_get (pc := 216) F 9 19 60 (by decide) (by decide) g_14ea23737e inl_9 2 rfl dX9_sayAt_216 ex3 ?_
    refine pw_iload_n (pc := 219) F dX9_sayAt_219 rfl ?_
    obtain ⟨x4, ex4, h⟩ := bnd h
    refine pw_iald (pc := 220) F dX9_sayAt_220 ex4 ?_
    refine pw_iconst (pc := 221) F 2 dX9_sayAt_221 (by decide) ?_
    refine pw_icmp_ne (pc := 222) F 252 dX9_sayAt_222 (by decide) (fun hc => ?_) (fun hc => ?_)
    · have h := iteT hc h
      exact pw_mask [true, true, true, true, true, true] (ls' := [some (vr p0), none, some (vi p2), some (vi p3), some (vi p4), some (vi s0)]) rfl (jX9_sayAt_252_ok F q hn hf hl self136 p0 p2 p3 p4 s0 H ih136 h)
    · have h := iteF hc h
      refine pw_iload (pc := 225) F dX9_sayAt_225 rfl ?_
      refine pw_if_ne (pc := 227) F 245 dX9_sayAt_227 (by decide) (fun hc => ?_) (fun hc => ?_)
      · have h := iteT hc h
        exact pw_mask [true, true, true, true, true, false] (ls' := [some (vr p0), none, some (vi p2), some (vi p3), some (vi p4), none]) rfl (jX9_sayAt_245_ok F q hn hf hl self136 p0 p2 p3 p4 H ih136 h)
      · have h := iteF hc h
        refine pw_aload_n (pc := 230) F dX9_sayAt_230 rfl ?_
        refine pw_aload_n (pc := 231) F dX9_sayAt_231 rfl ?_
        obtain ⟨x5, ex5, h⟩ := bnd h
        refine pw_get (pc := 232) F 9 24 75 (by decide) (by decide) g_98c91f31c8 inl_9 2 rfl dX9_sayAt_232 ex5 ?_
        refine pw_iload_n (pc := 235) F dX9_sayAt_235 rfl ?_
        obtain ⟨x6, ex6, h⟩ := bnd h
        refine pw_iald (pc := 236) F dX9_sayAt_236 ex6 ?_
        refine pw_iload (pc := 237) F dX9_sayAt_237 rfl ?_
        obtain ⟨z7, ez7, h⟩ := bnd h
        refine pw_callV (pc := 239) (as := [vi x6, vi p4]) (st := []) (r := (some (vi z7.1))) F 219 9 (by decide) rfl (fun l => m_X9_isSaid l p0 x6 p4 H z7.1 z7.2 ez7) g_2e24908044 g_d693ff4c1a g_a73f6b46fd g_2759d91faa g_cc067aace1 hd_X9_isSaid (rm_ok hf hl (by decide) (by decide)) rfl (vm_spec ez7).1 dX9_sayAt_239 rfl (stk' := [vi z7.1]) rfl ?_
        refine pw_if_eq (pc := 242) F 249 dX9_sayAt_242 (by decide) (fun hc => ?_) (fun hc => ?_)
        · have h := iteT hc h
          refine pw_iconst (pc := 249) F 0 dX9_sayAt_249 (by decide) ?_
          exact pw_mask [true, true, true, true, true, false] (ls' := [some (vr p0), none, some (vi p2), some (vi p3), some (vi p4), none]) rfl (jX9_sayAt_250_ok F q hn hf hl self136 p0 p2 p3 p4 0 z7.2 ih136 h)
        · have h := iteF hc h
          exact pw_mask [true, true, true, true, true, false] (ls' := [some (vr p0), none, some (vi p2), some (vi p3), some (vi p4), none]) rfl (jX9_sayAt_245_ok F q hn hf hl self136 p0 p2 p3 p4 z7.2 ih136 h)
  · have h := iteF hc h
    refine pw_iload (pc := 185) F dX9_sayAt_185 rfl ?_
    refine pw_if_eq (pc := 187) F 209 dX9_sayAt_187 (by decide) (fun hc => ?_) (fun hc => ?_)
    · have h := iteT hc h
      exact pw_mask [true, true, true, true, true, false] (ls' := [some (vr p0), none, some (vi p2), some (vi p3), some (vi p4), none]) rfl (jX9_sayAt_209_ok F q hn hf hl self136 p0 p2 p3 p4 H ih136 h)
    · have h := iteF hc h
      refine pw_aload_n (pc := 190) F dX9_sayAt_190 rfl ?_
      refine pw_aload_n (pc := 191) F dX9_sayAt_191 rfl ?_
      obtain ⟨x8, ex8, h⟩ := bnd h
      refine pw_get (pc := 192) F 9 24 75 (by decide) (by decide) g_98c91f31c8 inl_9 2 rfl dX9_sayAt_192 ex8 ?_
      refine pw_iload_n (pc := 195) F dX9_sayAt_195 rfl ?_
      obtain ⟨x9, ex9, h⟩ := bnd h
      refine pw_iald (pc := 196) F dX9_sayAt_196 ex9 ?_
      refine pw_iload (pc := 197) F dX9_sayAt_197 rfl ?_
      obtain ⟨z10, ez10, h⟩ := bnd h
      refine pw_callV (pc := 199) (as := [vi x9, vi p4]) (st := []) (r := (some (vi z10.1))) F 219 9 (by decide) rfl (fun l => m_X9_isSaid l p0 x9 p4 H z10.1 z10.2 ez10) g_2e24908044 g_d693ff4c1a g_a73f6b46fd g_2759d91faa g_cc067aace1 hd_X9_isSaid (rm_ok hf hl (by decide) (by decide)) rfl (vm_spec ez10).1 dX9_sayAt_199 rfl (stk' := [vi z10.1]) rfl ?_
      refine pw_if_eq (pc := 202) F 209 dX9_sayAt_202 (by decide) (fun hc => ?_) (fun hc => ?_)
      · have h := iteT hc h
        exact pw_mask [true, true, true, true, true, false] (ls' := [some (vr p0), none, some (vi p2), some (vi p3), some (vi p4), none]) rfl (jX9_sayAt_209_ok F q hn hf hl self136 p0 p2 p3 p4 z10.2 ih136 h)
      · have h := iteF hc h
        refine pw_iconst (pc := 205) F 1 dX9_sayAt_205 (by decide) ?_
        refine pw_goto (pc := 206) F 210 dX9_sayAt_206 (by decide) ?_
        exact pw_mask [true, true, true, true, true, false] (ls' := [some (vr p0), none, some (vi p2), some (vi p3), some (vi p4), none]) rfl (jX9_sayAt_210_ok F q hn hf hl self136 p0 p2 p3 p4 1 z10.2 ih136 h)
def lX9_sayAt_136 (p0 p2 p3 : Int) (self136 : Int → PH → RO) (p4 : Int) (H : PH) : RO :=
  (if p4 > p3 then some (0, H)
  else (ld 25 H p0 19).bind fun x1 => (ld 0 H x1 p2).bind fun x2 => (if x2 ≠ 0 then (ld 25 H p0 23).bind fun x3 => (ld 0 H x3 p2).bind fun x4 => (f_X9_isSaid p0 x4 p4 H).bind fun z5 => jX9_sayAt_173 self136 p0 p2 p3 p4 z5.1 z5.2
  else (f_X9_isAsked p0 p2 p4 H).bind fun z6 => jX9_sayAt_173 self136 p0 p2 p3 p4 z6.1 z6.2))
set_option maxHeartbeats 4000000 in
theorem lX9_sayAt_136_ok {E : PE} {rr : Int} {HH : PH} (F : FX E cX9_sayAt RX9) (q : QE E none HH none) (hn : nLof E = 6) (hf : (roomOf E).frames = 2) (hl : (roomOf E).locals = 44) (p0 p2 p3 : Int) : ∀ (n : Nat) (p4 : Int) (H : PH), lq1 (lX9_sayAt_136 p0 p2 p3) n p4 H = some (rr, HH) → PW E 136 [some (vr p0), none, some (vi p2), some (vi p3), some (vi p4), none] [] H := by
  refine lq1_ind (P := fun p4 H => PW E 136 [some (vr p0), none, some (vi p2), some (vi p3), some (vi p4), none] [] H) ?_
  intro self136 ih136 p4 H h
  unfold lX9_sayAt_136 at h
  refine pw_iload (pc := 136) F dX9_sayAt_136 rfl ?_
  refine pw_iload_n (pc := 138) F dX9_sayAt_138 rfl ?_
  refine pw_icmp_gt (pc := 139) F 295 dX9_sayAt_139 (by decide) (fun hc => ?_) (fun hc => ?_)
  · have h := iteT hc h
    cases h
    exact pw_vret (pc := 295) F q dX9_sayAt_295
  · have h := iteF hc h
    refine pw_aload_n (pc := 142) F dX9_sayAt_142 rfl ?_
    obtain ⟨x1, ex1, h⟩ := bnd h
    refine pw_get (pc := 143) F 9 19 60 (by decide) (by decide) g_14ea23737e inl_9 2 rfl dX9_sayAt_143 ex1 ?_
    refine pw_iload_n (pc := 146) F dX9_sayAt_146 rfl ?_
    obtain ⟨x2, ex2, h⟩ := bnd h
    refine pw_iald (pc := 147) F dX9_sayAt_147 ex2 ?_
    refine pw_if_ne (pc := 148) F 161 dX9_sayAt_148 (by decide) (fun hc => ?_) (fun hc => ?_)
    · have h := iteT hc h
      refine pw_aload_n (pc := 161) F dX9_sayAt_161 rfl ?_
      refine pw_aload_n (pc := 162) F dX9_sayAt_162 rfl ?_
      obtain ⟨x3, ex3, h⟩ := bnd h
      refine pw_get (pc := 163) F 9 23 72 (by decide) (by decide) g_630466eb5f inl_9 2 rfl dX9_sayAt_163 ex3 ?_
      refine pw_iload_n (pc := 166) F dX9_sayAt_166 rfl ?_
      obtain ⟨x4, ex4, h⟩ := bnd h
      refine pw_iald (pc := 167) F dX9_sayAt_167 ex4 ?_
      refine pw_iload (pc := 168) F dX9_sayAt_168 rfl ?_
      obtain ⟨z5, ez5, h⟩ := bnd h
      refine pw_callV (pc := 170) (as := [vi x4, vi p4]) (st := []) (r := (some (vi z5.1))) F 219 9 (by decide) rfl (fun l => m_X9_isSaid l p0 x4 p4 H z5.1 z5.2 ez5) g_2e24908044 g_d693ff4c1a g_a73f6b46fd g_2759d91faa g_cc067aace1 hd_X9_isSaid (rm_ok hf hl (by decide) (by decide)) rfl (vm_spec ez5).1 dX9_sayAt_170 rfl (stk' := [vi z5.1]) rfl ?_
      exact pw_mask [true, true, true, true, true, true] (ls' := [some (vr p0), none, some (vi p2), some (vi p3), some (vi p4), none]) rfl (jX9_sayAt_173_ok F q hn hf hl self136 p0 p2 p3 p4 z5.1 z5.2 ih136 h)
    · have h := iteF hc h
      refine pw_aload_n (pc := 151) F dX9_sayAt_151 rfl ?_
      refine pw_iload_n (pc := 152) F dX9_sayAt_152 rfl ?_
      refine pw_iload (pc := 153) F dX9_sayAt_153 rfl ?_
      obtain ⟨z6, ez6, h⟩ := bnd h
      refine pw_callV (pc := 155) (as := [vi p2, vi p4]) (st := []) (r := (some (vi z6.1))) F 215 9 (by decide) rfl (fun l => m_X9_isAsked l p0 p2 p4 H z6.1 z6.2 ez6) g_1d13176040 g_493861a93f g_deb49322ed g_2759d91faa g_3aff3be76b hd_X9_isAsked (rm_ok hf hl (by decide) (by decide)) rfl (vm_spec ez6).1 dX9_sayAt_155 rfl (stk' := [vi z6.1]) rfl ?_
      refine pw_goto (pc := 158) F 173 dX9_sayAt_158 (by decide) ?_
      exact pw_mask [true, true, true, true, true, true] (ls' := [some (vr p0), none, some (vi p2), some (vi p3), some (vi p4), none]) rfl (jX9_sayAt_173_ok F q hn hf hl self136 p0 p2 p3 p4 z6.1 z6.2 ih136 h)
def jX9_sayAt_134 (p0 p2 p3 s0 : Int) (H : PH) : RO :=
  lq1 (lX9_sayAt_136 p0 p2 p3) 6000 s0 H
set_option maxHeartbeats 4000000 in
theorem jX9_sayAt_134_ok {E : PE} {rr : Int} {HH : PH} (F : FX E cX9_sayAt RX9) (q : QE E none HH none) (hn : nLof E = 6) (hf : (roomOf E).frames = 2) (hl : (roomOf E).locals = 44) (p0 p2 p3 s0 : Int) (H : PH) (h : jX9_sayAt_134 p0 p2 p3 s0 H = some (rr, HH)) : PW E 134 [some (vr p0), none, some (vi p2), some (vi p3), none, none] [vi s0] H := by
  unfold jX9_sayAt_134 at h
  refine pw_istore (pc := 134) F dX9_sayAt_134 (lt_nl hn (by decide)) [some (vr p0), none, some (vi p2), some (vi p3), some (vi s0), none] rfl ?_
  exact pw_mask [true, true, true, true, true, true] (ls' := [some (vr p0), none, some (vi p2), some (vi p3), some (vi s0), none]) rfl (lX9_sayAt_136_ok F q hn hf hl p0 p2 p3  6000 s0 H h)
def jX9_sayAt_119 (p0 p2 s0 : Int) (H : PH) : RO :=
  (ld 25 H p0 25).bind fun x1 => (ld 0 H x1 p2).bind fun x2 => (if x2 ≥ 0 then jX9_sayAt_134 p0 p2 s0 1 H
  else jX9_sayAt_134 p0 p2 s0 0 H)
set_option maxHeartbeats 4000000 in
theorem jX9_sayAt_119_ok {E : PE} {rr : Int} {HH : PH} (F : FX E cX9_sayAt RX9) (q : QE E none HH none) (hn : nLof E = 6) (hf : (roomOf E).frames = 2) (hl : (roomOf E).locals = 44) (p0 p2 s0 : Int) (H : PH) (h : jX9_sayAt_119 p0 p2 s0 H = some (rr, HH)) : PW E 119 [some (vr p0), none, some (vi p2), none, none, none] [vi s0] H := by
  unfold jX9_sayAt_119 at h
  refine pw_istore_n (pc := 119) F dX9_sayAt_119 (lt_nl hn (by decide)) [some (vr p0), none, some (vi p2), some (vi s0), none, none] rfl ?_
  refine pw_aload_n (pc := 120) F dX9_sayAt_120 rfl ?_
  obtain ⟨x1, ex1, h⟩ := bnd h
  refine pw_get (pc := 121) F 9 25 78 (by decide) (by decide) g_26e1dbdafb inl_9 2 rfl dX9_sayAt_121 ex1 ?_
  refine pw_iload_n (pc := 124) F dX9_sayAt_124 rfl ?_
  obtain ⟨x2, ex2, h⟩ := bnd h
  refine pw_iald (pc := 125) F dX9_sayAt_125 ex2 ?_
  refine pw_if_ge (pc := 126) F 133 dX9_sayAt_126 (by decide) (fun hc => ?_) (fun hc => ?_)
  · have h := iteT hc h
    refine pw_iconst (pc := 133) F 1 dX9_sayAt_133 (by decide) ?_
    exact pw_mask [true, true, true, true, true, true] (ls' := [some (vr p0), none, some (vi p2), some (vi s0), none, none]) rfl (jX9_sayAt_134_ok F q hn hf hl p0 p2 s0 1 H h)
  · have h := iteF hc h
    refine pw_iconst (pc := 129) F 0 dX9_sayAt_129 (by decide) ?_
    refine pw_goto (pc := 130) F 134 dX9_sayAt_130 (by decide) ?_
    exact pw_mask [true, true, true, true, true, true] (ls' := [some (vr p0), none, some (vi p2), some (vi s0), none, none]) rfl (jX9_sayAt_134_ok F q hn hf hl p0 p2 s0 0 H h)
def jX9_sayAt_93 (s0 s1 s2 : Int) (H : PH) : RO :=
  (stz 2 H s0 s1 s2).bind fun H1 => some (0, H1)
set_option maxHeartbeats 4000000 in
theorem jX9_sayAt_93_ok {E : PE} {rr : Int} {HH : PH} (F : FX E cX9_sayAt RX9) (q : QE E none HH none) (hn : nLof E = 6) (hf : (roomOf E).frames = 2) (hl : (roomOf E).locals = 44) (s0 s1 s2 : Int) (H : PH) (h : jX9_sayAt_93 s0 s1 s2 H = some (rr, HH)) : PW E 93 [none, none, none, none, none, none] [vi s2, vi s1, vr s0] H := by
  unfold jX9_sayAt_93 at h
  obtain ⟨H1, eH1, h⟩ := bnd h
  refine pw_zast (pc := 93) F dX9_sayAt_93 (stz_spec eH1).1 (stz_spec eH1).2 ?_
  cases h
  exact pw_vret (pc := 94) F q dX9_sayAt_94
def jX9_sayAt_62 (self15 : Int → Int → PH → RO) (p0 p1 p2 p4 s0 s1 : Int) (H : PH) : RO :=
  self15 (w32 (s0 + s1)) (w32 (p4 + 1)) H
set_option maxHeartbeats 4000000 in
theorem jX9_sayAt_62_ok {E : PE} {rr : Int} {HH : PH} (F : FX E cX9_sayAt RX9) (q : QE E none HH none) (hn : nLof E = 6) (hf : (roomOf E).frames = 2) (hl : (roomOf E).locals = 44) (self15 : Int → Int → PH → RO) (p0 p1 p2 p4 s0 s1 : Int) (H : PH) (ih15 : ∀ (v3 v4 : Int) (HV : PH), self15 v3 v4 HV = some (rr, HH) → PW E 15 [some (vr p0), some (vi p1), some (vi p2), some (vi v3), some (vi v4), none] [] HV) (h : jX9_sayAt_62 self15 p0 p1 p2 p4 s0 s1 H = some (rr, HH)) : PW E 62 [some (vr p0), some (vi p1), some (vi p2), none, some (vi p4), none] [vi s1, vi s0] H := by
  unfold jX9_sayAt_62 at h
  refine pw_iadd (pc := 62) F dX9_sayAt_62 ?_
  refine pw_istore_n (pc := 63) F dX9_sayAt_63 (lt_nl hn (by decide)) [some (vr p0), some (vi p1), some (vi p2), some (vi (w32 (s0 + s1))), some (vi p4), none] rfl ?_
  refine pw_iinc (pc := 64) F dX9_sayAt_64 rfl (lt_nl hn (by decide)) [some (vr p0), some (vi p1), some (vi p2), some (vi (w32 (s0 + s1))), some (vi (w32 (p4 + 1))), none] rfl (by decide) ?_
  refine pw_goto (pc := 67) F 15 dX9_sayAt_67 (by decide) ?_
  exact pw_mask [true, true, true, true, true, true] (ls' := [some (vr p0), some (vi p1), some (vi p2), some (vi (w32 (s0 + s1))), some (vi (w32 (p4 + 1))), none]) rfl (ih15 (w32 (s0 + s1)) (w32 (p4 + 1)) H h)
def lX9_sayAt_15 (p0 p1 p2 : Int) (self15 : Int → Int → PH → RO) (p3 p4 : Int) (H : PH) : RO :=
  (ld 25 H p0 25).bind fun x1 => (ld 25 H p0 23).bind fun x2 => (ld 0 H x2 p2).bind fun x3 => (ld 0 H x1 x3).bind fun x4 => (f_X9_persons p0 p1 x4 H).bind fun z5 => (if p4 > z5.1 then (ld 25 z5.2 p0 45).bind fun x6 => (ld 25 z5.2 p0 20).bind fun x7 => (ld 0 z5.2 x7 p2).bind fun x8 => (if p3 < x8 then jX9_sayAt_93 x6 (w32 (6 * p2)) 0 z5.2
  else jX9_sayAt_93 x6 (w32 (6 * p2)) 1 z5.2)
  else (ld 25 z5.2 p0 45).bind fun x9 => (ld 25 z5.2 p0 23).bind fun x10 => (ld 0 z5.2 x10 p2).bind fun x11 => (ld 2 z5.2 x9 (w32 ((w32 (6 * x11)) + p4))).bind fun x12 => (if x12 = 0 then jX9_sayAt_62 self15 p0 p1 p2 p4 p3 0 z5.2
  else jX9_sayAt_62 self15 p0 p1 p2 p4 p3 1 z5.2))
set_option maxHeartbeats 4000000 in
theorem lX9_sayAt_15_ok {E : PE} {rr : Int} {HH : PH} (F : FX E cX9_sayAt RX9) (q : QE E none HH none) (hn : nLof E = 6) (hf : (roomOf E).frames = 2) (hl : (roomOf E).locals = 44) (p0 p1 p2 : Int) : ∀ (n : Nat) (p3 p4 : Int) (H : PH), lq2 (lX9_sayAt_15 p0 p1 p2) n p3 p4 H = some (rr, HH) → PW E 15 [some (vr p0), some (vi p1), some (vi p2), some (vi p3), some (vi p4), none] [] H := by
  refine lq2_ind (P := fun p3 p4 H => PW E 15 [some (vr p0), some (vi p1), some (vi p2), some (vi p3), some (vi p4), none] [] H) ?_
  intro self15 ih15 p3 p4 H h
  unfold lX9_sayAt_15 at h
  refine pw_iload (pc := 15) F dX9_sayAt_15 rfl ?_
  refine pw_aload_n (pc := 17) F dX9_sayAt_17 rfl ?_
  refine pw_iload_n (pc := 18) F dX9_sayAt_18 rfl ?_
  refine pw_aload_n (pc := 19) F dX9_sayAt_19 rfl ?_
  obtain ⟨x1, ex1, h⟩ := bnd h
  refine pw_get (pc := 20) F 9 25 78 (by decide) (by decide) g_26e1dbdafb inl_9 2 rfl dX9_sayAt_20 ex1 ?_
  refine pw_aload_n (pc := 23) F dX9_sayAt_23 rfl ?_
  obtain ⟨x2, ex2, h⟩ := bnd h
  refine pw_get (pc := 24) F 9 23 72 (by decide) (by decide) g_630466eb5f inl_9 2 rfl dX9_sayAt_24 ex2 ?_
  refine pw_iload_n (pc := 27) F dX9_sayAt_27 rfl ?_
  obtain ⟨x3, ex3, h⟩ := bnd h
  refine pw_iald (pc := 28) F dX9_sayAt_28 ex3 ?_
  obtain ⟨x4, ex4, h⟩ := bnd h
  refine pw_iald (pc := 29) F dX9_sayAt_29 ex4 ?_
  obtain ⟨z5, ez5, h⟩ := bnd h
  refine pw_callV (pc := 30) (as := [vi p1, vi x4]) (st := [vi p4]) (r := (some (vi z5.1))) F 184 9 (by decide) rfl (fun l => m_X9_persons l p0 p1 x4 H z5.1 z5.2 ez5) g_de33c5095d g_d70a88cf42 g_2197e2f2b8 g_2759d91faa g_c55f0dc1c5 hd_X9_persons (rm_ok hf hl (by decide) (by decide)) rfl (vm_spec ez5).1 dX9_sayAt_30 rfl (stk' := [vi z5.1, vi p4]) rfl ?_
  refine pw_icmp_gt (pc := 33) F 70 dX9_sayAt_33 (by decide) (fun hc => ?_) (fun hc => ?_)
  · have h := iteT hc h
    refine pw_aload_n (pc := 70) F dX9_sayAt_70 rfl ?_
    obtain ⟨x6, ex6, h⟩ := bnd h
    refine pw_get (pc := 71) F 9 45 121 (by decide) (by decide) g_b75f1cdc97 inl_9 2 rfl dX9_sayAt_71 ex6 ?_
    refine pw_bipush (pc := 74) F 6 dX9_sayAt_74 (by decide) ?_
    refine pw_iload_n (pc := 76) F dX9_sayAt_76 rfl ?_
    refine pw_imul (pc := 77) F dX9_sayAt_77 ?_
    refine pw_iload_n (pc := 78) F dX9_sayAt_78 rfl ?_
    refine pw_aload_n (pc := 79) F dX9_sayAt_79 rfl ?_
    obtain ⟨x7, ex7, h⟩ := bnd h
    refine pw_get (pc := 80) F 9 20 63 (by decide) (by decide) g_ef6ee937d9 inl_9 2 rfl dX9_sayAt_80 ex7 ?_
    refine pw_iload_n (pc := 83) F dX9_sayAt_83 rfl ?_
    obtain ⟨x8, ex8, h⟩ := bnd h
    refine pw_iald (pc := 84) F dX9_sayAt_84 ex8 ?_
    refine pw_icmp_lt (pc := 85) F 92 dX9_sayAt_85 (by decide) (fun hc => ?_) (fun hc => ?_)
    · have h := iteT hc h
      refine pw_iconst (pc := 92) F 0 dX9_sayAt_92 (by decide) ?_
      exact pw_mask [false, false, false, false, false, true] (ls' := [none, none, none, none, none, none]) rfl (jX9_sayAt_93_ok F q hn hf hl x6 (w32 (6 * p2)) 0 z5.2 h)
    · have h := iteF hc h
      refine pw_iconst (pc := 88) F 1 dX9_sayAt_88 (by decide) ?_
      refine pw_goto (pc := 89) F 93 dX9_sayAt_89 (by decide) ?_
      exact pw_mask [false, false, false, false, false, true] (ls' := [none, none, none, none, none, none]) rfl (jX9_sayAt_93_ok F q hn hf hl x6 (w32 (6 * p2)) 1 z5.2 h)
  · have h := iteF hc h
    refine pw_iload_n (pc := 36) F dX9_sayAt_36 rfl ?_
    refine pw_aload_n (pc := 37) F dX9_sayAt_37 rfl ?_
    obtain ⟨x9, ex9, h⟩ := bnd h
    refine pw_get (pc := 38) F 9 45 121 (by decide) (by decide) g_b75f1cdc97 inl_9 2 rfl dX9_sayAt_38 ex9 ?_
    refine pw_bipush (pc := 41) F 6 dX9_sayAt_41 (by decide) ?_
    refine pw_aload_n (pc := 43) F dX9_sayAt_43 rfl ?_
    obtain ⟨x10, ex10, h⟩ := bnd h
    refine pw_get (pc := 44) F 9 23 72 (by decide) (by decide) g_630466eb5f inl_9 2 rfl dX9_sayAt_44 ex10 ?_
    refine pw_iload_n (pc := 47) F dX9_sayAt_47 rfl ?_
    obtain ⟨x11, ex11, h⟩ := bnd h
    refine pw_iald (pc := 48) F dX9_sayAt_48 ex11 ?_
    refine pw_imul (pc := 49) F dX9_sayAt_49 ?_
    refine pw_iload (pc := 50) F dX9_sayAt_50 rfl ?_
    refine pw_iadd (pc := 52) F dX9_sayAt_52 ?_
    obtain ⟨x12, ex12, h⟩ := bnd h
    refine pw_zald (pc := 53) F dX9_sayAt_53 ex12 ?_
    refine pw_if_eq (pc := 54) F 61 dX9_sayAt_54 (by decide) (fun hc => ?_) (fun hc => ?_)
    · have h := iteT hc h
      refine pw_iconst (pc := 61) F 0 dX9_sayAt_61 (by decide) ?_
      exact pw_mask [true, true, true, false, true, true] (ls' := [some (vr p0), some (vi p1), some (vi p2), none, some (vi p4), none]) rfl (jX9_sayAt_62_ok F q hn hf hl self15 p0 p1 p2 p4 p3 0 z5.2 ih15 h)
    · have h := iteF hc h
      refine pw_iconst (pc := 57) F 1 dX9_sayAt_57 (by decide) ?_
      refine pw_goto (pc := 58) F 62 dX9_sayAt_58 (by decide) ?_
      exact pw_mask [true, true, true, false, true, true] (ls' := [some (vr p0), some (vi p1), some (vi p2), none, some (vi p4), none]) rfl (jX9_sayAt_62_ok F q hn hf hl self15 p0 p1 p2 p4 p3 1 z5.2 ih15 h)
def f_X9_sayAt (a0 a1 a2 : Int) (H : PH) : RO := vm 9 a0 H <|
  (ld 25 H a0 19).bind fun x1 => (ld 0 H x1 a2).bind fun x2 => (if x2 ≠ 4 then (ld 25 H a0 25).bind fun x3 => (ld 0 H x3 a2).bind fun x4 => (if x4 ≥ 0 then (ld 25 H a0 25).bind fun x5 => (ld 0 H x5 a2).bind fun x6 => (f_X9_persons a0 a1 x6 H).bind fun z7 => jX9_sayAt_119 a0 a2 z7.1 z7.2
  else jX9_sayAt_119 a0 a2 0 H)
  else lq2 (lX9_sayAt_15 a0 a1 a2) 6000 0 1 H)
set_option maxHeartbeats 4000000 in
theorem m_X9_sayAt (l : Launch) (a0 a1 a2 : Int) (H : PH) (rr : Int) (HH : PH) (h : f_X9_sayAt a0 a1 a2 H = some (rr, HH)) : CT l yX9_sayAt cX9_sayAt 6 none 2 44 [vr a0, vi a1, vi a2] H none HH := by
  refine CT.of RX9 (by decide) rfl [some (vr a0), some (vi a1), some (vi a2), none, none, none] rfl rfl ?_
  intro E F q hn hf hl hm
  unfold f_X9_sayAt at h
  obtain ⟨hv, h⟩ := vm_spec h
  refine pw_aload_n (pc := 0) F dX9_sayAt_0 rfl ?_
  obtain ⟨x1, ex1, h⟩ := bnd h
  refine pw_get (pc := 1) F 9 19 60 (by decide) (by decide) g_14ea23737e inl_9 2 rfl dX9_sayAt_1 ex1 ?_
  refine pw_iload_n (pc := 4) F dX9_sayAt_4 rfl ?_
  obtain ⟨x2, ex2, h⟩ := bnd h
  refine pw_iald (pc := 5) F dX9_sayAt_5 ex2 ?_
  refine pw_iconst (pc := 6) F 4 dX9_sayAt_6 (by decide) ?_
  refine pw_icmp_ne (pc := 7) F 95 dX9_sayAt_7 (by decide) (fun hc => ?_) (fun hc => ?_)
  · have h := iteT hc h
    refine pw_aload_n (pc := 95) F dX9_sayAt_95 rfl ?_
    obtain ⟨x3, ex3, h⟩ := bnd h
    refine pw_get (pc := 96) F 9 25 78 (by decide) (by decide) g_26e1dbdafb inl_9 2 rfl dX9_sayAt_96 ex3 ?_
    refine pw_iload_n (pc := 99) F dX9_sayAt_99 rfl ?_
    obtain ⟨x4, ex4, h⟩ := bnd h
    refine pw_iald (pc := 100) F dX9_sayAt_100 ex4 ?_
    refine pw_if_ge (pc := 101) F 108 dX9_sayAt_101 (by decide) (fun hc => ?_) (fun hc => ?_)
    · have h := iteT hc h
      refine pw_aload_n (pc := 108) F dX9_sayAt_108 rfl ?_
      refine pw_iload_n (pc := 109) F dX9_sayAt_109 rfl ?_
      refine pw_aload_n (pc := 110) F dX9_sayAt_110 rfl ?_
      obtain ⟨x5, ex5, h⟩ := bnd h
      refine pw_get (pc := 111) F 9 25 78 (by decide) (by decide) g_26e1dbdafb inl_9 2 rfl dX9_sayAt_111 ex5 ?_
      refine pw_iload_n (pc := 114) F dX9_sayAt_114 rfl ?_
      obtain ⟨x6, ex6, h⟩ := bnd h
      refine pw_iald (pc := 115) F dX9_sayAt_115 ex6 ?_
      obtain ⟨z7, ez7, h⟩ := bnd h
      refine pw_callV (pc := 116) (as := [vi a1, vi x6]) (st := []) (r := (some (vi z7.1))) F 184 9 (by decide) rfl (fun l => m_X9_persons l a0 a1 x6 H z7.1 z7.2 ez7) g_de33c5095d g_d70a88cf42 g_2197e2f2b8 g_2759d91faa g_c55f0dc1c5 hd_X9_persons (rm_ok hf hl (by decide) (by decide)) rfl (vm_spec ez7).1 dX9_sayAt_116 rfl (stk' := [vi z7.1]) rfl ?_
      exact pw_mask [true, false, true, true, true, true] (ls' := [some (vr a0), none, some (vi a2), none, none, none]) rfl (jX9_sayAt_119_ok F q hn hf hl a0 a2 z7.1 z7.2 h)
    · have h := iteF hc h
      refine pw_iconst (pc := 104) F 0 dX9_sayAt_104 (by decide) ?_
      refine pw_goto (pc := 105) F 119 dX9_sayAt_105 (by decide) ?_
      exact pw_mask [true, false, true, true, true, true] (ls' := [some (vr a0), none, some (vi a2), none, none, none]) rfl (jX9_sayAt_119_ok F q hn hf hl a0 a2 0 H h)
  · have h := iteF hc h
    refine pw_iconst (pc := 10) F 0 dX9_sayAt_10 (by decide) ?_
    refine pw_istore_n (pc := 11) F dX9_sayAt_11 (lt_nl hn (by decide)) [some (vr a0), some (vi a1), some (vi a2), some (vi 0), none, none] rfl ?_
    refine pw_iconst (pc := 12) F 1 dX9_sayAt_12 (by decide) ?_
    refine pw_istore (pc := 13) F dX9_sayAt_13 (lt_nl hn (by decide)) [some (vr a0), some (vi a1), some (vi a2), some (vi 0), some (vi 1), none] rfl ?_
    exact pw_mask [true, true, true, true, true, true] (ls' := [some (vr a0), some (vi a1), some (vi a2), some (vi 0), some (vi 1), none]) rfl (lX9_sayAt_15_ok F q hn hf hl a0 a1 a2  6000 0 1 H h)
/-! HouseholdVaultModel.workOut(I)V -/
theorem dX9_workOut_0 : decode cX9_workOut 0 = .ok (.iconst 0, 1) := by decide +kernel
theorem dX9_workOut_1 : decode cX9_workOut 1 = .ok (.istore_n 2, 1) := by decide +kernel
theorem dX9_workOut_2 : decode cX9_workOut 2 = .ok (.iload_n 2, 1) := by decide +kernel
theorem dX9_workOut_3 : decode cX9_workOut 3 = .ok (.aload_n 0, 1) := by decide +kernel
theorem dX9_workOut_4 : decode cX9_workOut 4 = .ok (.getfield 136, 3) := by decide +kernel
theorem dX9_workOut_7 : decode cX9_workOut 7 = .ok (.if_icmp .ge 60, 3) := by decide +kernel
theorem dX9_workOut_10 : decode cX9_workOut 10 = .ok (.iconst 0, 1) := by decide +kernel
theorem dX9_workOut_11 : decode cX9_workOut 11 = .ok (.istore_n 3, 1) := by decide +kernel
theorem dX9_workOut_12 : decode cX9_workOut 12 = .ok (.iload_n 3, 1) := by decide +kernel
theorem dX9_workOut_13 : decode cX9_workOut 13 = .ok (.bipush 6, 2) := by decide +kernel
theorem dX9_workOut_15 : decode cX9_workOut 15 = .ok (.if_icmp .ge 46, 3) := by decide +kernel
theorem dX9_workOut_18 : decode cX9_workOut 18 = .ok (.aload_n 0, 1) := by decide +kernel
theorem dX9_workOut_19 : decode cX9_workOut 19 = .ok (.getfield 16, 3) := by decide +kernel
theorem dX9_workOut_22 : decode cX9_workOut 22 = .ok (.iload_n 2, 1) := by decide +kernel
theorem dX9_workOut_23 : decode cX9_workOut 23 = .ok (.iaload, 1) := by decide +kernel
theorem dX9_workOut_24 : decode cX9_workOut 24 = .ok (.ifCond .ne 37, 3) := by decide +kernel
theorem dX9_workOut_27 : decode cX9_workOut 27 = .ok (.aload_n 0, 1) := by decide +kernel
theorem dX9_workOut_28 : decode cX9_workOut 28 = .ok (.iload_n 2, 1) := by decide +kernel
theorem dX9_workOut_29 : decode cX9_workOut 29 = .ok (.iload_n 3, 1) := by decide +kernel
theorem dX9_workOut_30 : decode cX9_workOut 30 = .ok (.aload_n 0, 1) := by decide +kernel
theorem dX9_workOut_31 : decode cX9_workOut 31 = .ok (.getfield 51, 3) := by decide +kernel
theorem dX9_workOut_34 : decode cX9_workOut 34 = .ok (.iload_n 1, 1) := by decide +kernel
theorem dX9_workOut_35 : decode cX9_workOut 35 = .ok (.iload_n 2, 1) := by decide +kernel
theorem dX9_workOut_36 : decode cX9_workOut 36 = .ok (.iload_n 3, 1) := by decide +kernel
theorem dX9_workOut_37 : decode cX9_workOut 37 = .ok (.invokestatic 150, 3) := by decide +kernel
theorem dX9_workOut_40 : decode cX9_workOut 40 = .ok (.laload, 1) := by decide +kernel
theorem dX9_workOut_41 : decode cX9_workOut 41 = .ok (.aload_n 0, 1) := by decide +kernel
theorem dX9_workOut_42 : decode cX9_workOut 42 = .ok (.getfield 54, 3) := by decide +kernel
theorem dX9_workOut_45 : decode cX9_workOut 45 = .ok (.iload_n 1, 1) := by decide +kernel
theorem dX9_workOut_46 : decode cX9_workOut 46 = .ok (.iload_n 2, 1) := by decide +kernel
theorem dX9_workOut_47 : decode cX9_workOut 47 = .ok (.iload_n 3, 1) := by decide +kernel
theorem dX9_workOut_48 : decode cX9_workOut 48 = .ok (.invokestatic 150, 3) := by decide +kernel
theorem dX9_workOut_51 : decode cX9_workOut 51 = .ok (.iaload, 1) := by decide +kernel
theorem dX9_workOut_52 : decode cX9_workOut 52 = .ok (.invokevirtual 208, 3) := by decide +kernel
theorem dX9_workOut_55 : decode cX9_workOut 55 = .ok (.iinc 3 1, 3) := by decide +kernel
theorem dX9_workOut_58 : decode cX9_workOut 58 = .ok (.goto (-46), 3) := by decide +kernel
theorem dX9_workOut_61 : decode cX9_workOut 61 = .ok (.iinc 2 1, 3) := by decide +kernel
theorem dX9_workOut_64 : decode cX9_workOut 64 = .ok (.goto (-62), 3) := by decide +kernel
theorem dX9_workOut_67 : decode cX9_workOut 67 = .ok (.iconst 0, 1) := by decide +kernel
theorem dX9_workOut_68 : decode cX9_workOut 68 = .ok (.istore_n 2, 1) := by decide +kernel
theorem dX9_workOut_69 : decode cX9_workOut 69 = .ok (.iload_n 2, 1) := by decide +kernel
theorem dX9_workOut_70 : decode cX9_workOut 70 = .ok (.aload_n 0, 1) := by decide +kernel
theorem dX9_workOut_71 : decode cX9_workOut 71 = .ok (.getfield 158, 3) := by decide +kernel
theorem dX9_workOut_74 : decode cX9_workOut 74 = .ok (.if_icmp .ge 48, 3) := by decide +kernel
theorem dX9_workOut_77 : decode cX9_workOut 77 = .ok (.aload_n 0, 1) := by decide +kernel
theorem dX9_workOut_78 : decode cX9_workOut 78 = .ok (.getfield 87, 3) := by decide +kernel
theorem dX9_workOut_81 : decode cX9_workOut 81 = .ok (.iload_n 2, 1) := by decide +kernel
theorem dX9_workOut_82 : decode cX9_workOut 82 = .ok (.iaload, 1) := by decide +kernel
theorem dX9_workOut_83 : decode cX9_workOut 83 = .ok (.bipush 100, 2) := by decide +kernel
theorem dX9_workOut_85 : decode cX9_workOut 85 = .ok (.if_icmp .ge 17, 3) := by decide +kernel
theorem dX9_workOut_88 : decode cX9_workOut 88 = .ok (.aload_n 0, 1) := by decide +kernel
theorem dX9_workOut_89 : decode cX9_workOut 89 = .ok (.iload_n 1, 1) := by decide +kernel
theorem dX9_workOut_90 : decode cX9_workOut 90 = .ok (.aload_n 0, 1) := by decide +kernel
theorem dX9_workOut_91 : decode cX9_workOut 91 = .ok (.getfield 87, 3) := by decide +kernel
theorem dX9_workOut_94 : decode cX9_workOut 94 = .ok (.iload_n 2, 1) := by decide +kernel
theorem dX9_workOut_95 : decode cX9_workOut 95 = .ok (.iaload, 1) := by decide +kernel
theorem dX9_workOut_96 : decode cX9_workOut 96 = .ok (.invokevirtual 222, 3) := by decide +kernel
theorem dX9_workOut_99 : decode cX9_workOut 99 = .ok (.goto 17, 3) := by decide +kernel
theorem dX9_workOut_102 : decode cX9_workOut 102 = .ok (.aload_n 0, 1) := by decide +kernel
theorem dX9_workOut_103 : decode cX9_workOut 103 = .ok (.iload_n 1, 1) := by decide +kernel
theorem dX9_workOut_104 : decode cX9_workOut 104 = .ok (.aload_n 0, 1) := by decide +kernel
theorem dX9_workOut_105 : decode cX9_workOut 105 = .ok (.getfield 87, 3) := by decide +kernel
theorem dX9_workOut_108 : decode cX9_workOut 108 = .ok (.iload_n 2, 1) := by decide +kernel
theorem dX9_workOut_109 : decode cX9_workOut 109 = .ok (.iaload, 1) := by decide +kernel
theorem dX9_workOut_110 : decode cX9_workOut 110 = .ok (.bipush 100, 2) := by decide +kernel
theorem dX9_workOut_112 : decode cX9_workOut 112 = .ok (.isub, 1) := by decide +kernel
theorem dX9_workOut_113 : decode cX9_workOut 113 = .ok (.invokevirtual 225, 3) := by decide +kernel
theorem dX9_workOut_116 : decode cX9_workOut 116 = .ok (.iinc 2 1, 3) := by decide +kernel
theorem dX9_workOut_119 : decode cX9_workOut 119 = .ok (.goto (-50), 3) := by decide +kernel
theorem dX9_workOut_122 : decode cX9_workOut 122 = .ok (.return_, 1) := by decide +kernel
def jX9_workOut_116 (self69 : Int → PH → RO) (p0 p1 p2 : Int) (H : PH) : RO :=
  self69 (w32 (p2 + 1)) H
set_option maxHeartbeats 4000000 in
theorem jX9_workOut_116_ok {E : PE} {rr : Int} {HH : PH} (F : FX E cX9_workOut RX9) (q : QE E none HH none) (hn : nLof E = 4) (hf : (roomOf E).frames = 3) (hl : (roomOf E).locals = 76) (self69 : Int → PH → RO) (p0 p1 p2 : Int) (H : PH) (ih69 : ∀ (v2 : Int) (HV : PH), self69 v2 HV = some (rr, HH) → PW E 69 [some (vr p0), some (vi p1), some (vi v2), none] [] HV) (h : jX9_workOut_116 self69 p0 p1 p2 H = some (rr, HH)) : PW E 116 [some (vr p0), some (vi p1), some (vi p2), none] [] H := by
  unfold jX9_workOut_116 at h
  refine pw_iinc (pc := 116) F dX9_workOut_116 rfl (lt_nl hn (by decide)) [some (vr p0), some (vi p1), some (vi (w32 (p2 + 1))), none] rfl (by decide) ?_
  refine pw_goto (pc := 119) F 69 dX9_workOut_119 (by decide) ?_
  exact pw_mask [true, true, true, true] (ls' := [some (vr p0), some (vi p1), some (vi (w32 (p2 + 1))), none]) rfl (ih69 (w32 (p2 + 1)) H h)
def lX9_workOut_69 (p0 p1 : Int) (self69 : Int → PH → RO) (p2 : Int) (H : PH) : RO :=
  (ld 25 H p0 29).bind fun x1 => (if p2 ≥ x1 then some (0, H)
  else (ld 25 H p0 28).bind fun x2 => (ld 0 H x2 p2).bind fun x3 => (if x3 ≥ 100 then (ld 25 H p0 28).bind fun x4 => (ld 0 H x4 p2).bind fun x5 => (f_X9_sayAt p0 p1 (w32 (x5 - 100)) H).bind fun z6 => jX9_workOut_116 self69 p0 p1 p2 z6.2
  else (ld 25 H p0 28).bind fun x7 => (ld 0 H x7 p2).bind fun x8 => (f_X9_makeAt p0 p1 x8 H).bind fun z9 => jX9_workOut_116 self69 p0 p1 p2 z9.2))
set_option maxHeartbeats 4000000 in
theorem lX9_workOut_69_ok {E : PE} {rr : Int} {HH : PH} (F : FX E cX9_workOut RX9) (q : QE E none HH none) (hn : nLof E = 4) (hf : (roomOf E).frames = 3) (hl : (roomOf E).locals = 76) (p0 p1 : Int) : ∀ (n : Nat) (p2 : Int) (H : PH), lq1 (lX9_workOut_69 p0 p1) n p2 H = some (rr, HH) → PW E 69 [some (vr p0), some (vi p1), some (vi p2), none] [] H := by
  refine lq1_ind (P := fun p2 H => PW E 69 [some (vr p0), some (vi p1), some (vi p2), none] [] H) ?_
  intro self69 ih69 p2 H h
  unfold lX9_workOut_69 at h
  refine pw_iload_n (pc := 69) F dX9_workOut_69 rfl ?_
  refine pw_aload_n (pc := 70) F dX9_workOut_70 rfl ?_
  obtain ⟨x1, ex1, h⟩ := bnd h
  refine pw_get (pc := 71) F 9 29 158 (by decide) (by decide) g_e9280b5cc2 inl_9 0 rfl dX9_workOut_71 ex1 ?_
  refine pw_icmp_ge (pc := 74) F 122 dX9_workOut_74 (by decide) (fun hc => ?_) (fun hc => ?_)
  · have h := iteT hc h
    cases h
    exact pw_vret (pc := 122) F q dX9_workOut_122
  · have h := iteF hc h
    refine pw_aload_n (pc := 77) F dX9_workOut_77 rfl ?_
    obtain ⟨x2, ex2, h⟩ := bnd h
    refine pw_get (pc := 78) F 9 28 87 (by decide) (by decide) g_4cb92a74f5 inl_9 2 rfl dX9_workOut_78 ex2 ?_
    refine pw_iload_n (pc := 81) F dX9_workOut_81 rfl ?_
    obtain ⟨x3, ex3, h⟩ := bnd h
    refine pw_iald (pc := 82) F dX9_workOut_82 ex3 ?_
    refine pw_bipush (pc := 83) F 100 dX9_workOut_83 (by decide) ?_
    refine pw_icmp_ge (pc := 85) F 102 dX9_workOut_85 (by decide) (fun hc => ?_) (fun hc => ?_)
    · have h := iteT hc h
      refine pw_aload_n (pc := 102) F dX9_workOut_102 rfl ?_
      refine pw_iload_n (pc := 103) F dX9_workOut_103 rfl ?_
      refine pw_aload_n (pc := 104) F dX9_workOut_104 rfl ?_
      obtain ⟨x4, ex4, h⟩ := bnd h
      refine pw_get (pc := 105) F 9 28 87 (by decide) (by decide) g_4cb92a74f5 inl_9 2 rfl dX9_workOut_105 ex4 ?_
      refine pw_iload_n (pc := 108) F dX9_workOut_108 rfl ?_
      obtain ⟨x5, ex5, h⟩ := bnd h
      refine pw_iald (pc := 109) F dX9_workOut_109 ex5 ?_
      refine pw_bipush (pc := 110) F 100 dX9_workOut_110 (by decide) ?_
      refine pw_isub (pc := 112) F dX9_workOut_112 ?_
      obtain ⟨z6, ez6, h⟩ := bnd h
      refine pw_callV (pc := 113) (as := [vi p1, vi (w32 (x5 - 100))]) (st := []) (r := none) F 225 9 (by decide) rfl (fun l => m_X9_sayAt l p0 p1 (w32 (x5 - 100)) H z6.1 z6.2 ez6) g_e09bd91415 g_926eef7197 g_8b636c7661 g_2759d91faa g_e4d7315b47 hd_X9_sayAt (rm_ok hf hl (by decide) (by decide)) rfl (vm_spec ez6).1 dX9_workOut_113 rfl (stk' := []) rfl ?_
      exact pw_mask [true, true, true, true] (ls' := [some (vr p0), some (vi p1), some (vi p2), none]) rfl (jX9_workOut_116_ok F q hn hf hl self69 p0 p1 p2 z6.2 ih69 h)
    · have h := iteF hc h
      refine pw_aload_n (pc := 88) F dX9_workOut_88 rfl ?_
      refine pw_iload_n (pc := 89) F dX9_workOut_89 rfl ?_
      refine pw_aload_n (pc := 90) F dX9_workOut_90 rfl ?_
      obtain ⟨x7, ex7, h⟩ := bnd h
      refine pw_get (pc := 91) F 9 28 87 (by decide) (by decide) g_4cb92a74f5 inl_9 2 rfl dX9_workOut_91 ex7 ?_
      refine pw_iload_n (pc := 94) F dX9_workOut_94 rfl ?_
      obtain ⟨x8, ex8, h⟩ := bnd h
      refine pw_iald (pc := 95) F dX9_workOut_95 ex8 ?_
      obtain ⟨z9, ez9, h⟩ := bnd h
      refine pw_callV (pc := 96) (as := [vi p1, vi x8]) (st := []) (r := none) F 222 9 (by decide) rfl (fun l => m_X9_makeAt l p0 p1 x8 H z9.1 z9.2 ez9) g_a35f16221d g_e70fb79457 g_93c70f41ad g_2759d91faa g_728a03ecf0 hd_X9_makeAt (rm_ok hf hl (by decide) (by decide)) rfl (vm_spec ez9).1 dX9_workOut_96 rfl (stk' := []) rfl ?_
      refine pw_goto (pc := 99) F 116 dX9_workOut_99 (by decide) ?_
      exact pw_mask [true, true, true, true] (ls' := [some (vr p0), some (vi p1), some (vi p2), none]) rfl (jX9_workOut_116_ok F q hn hf hl self69 p0 p1 p2 z9.2 ih69 h)
def jX9_workOut_61 (self2 : Int → PH → RO) (p0 p1 p2 : Int) (H : PH) : RO :=
  self2 (w32 (p2 + 1)) H
set_option maxHeartbeats 4000000 in
theorem jX9_workOut_61_ok {E : PE} {rr : Int} {HH : PH} (F : FX E cX9_workOut RX9) (q : QE E none HH none) (hn : nLof E = 4) (hf : (roomOf E).frames = 3) (hl : (roomOf E).locals = 76) (self2 : Int → PH → RO) (p0 p1 p2 : Int) (H : PH) (ih2 : ∀ (v2 : Int) (HV : PH), self2 v2 HV = some (rr, HH) → PW E 2 [some (vr p0), some (vi p1), some (vi v2), none] [] HV) (h : jX9_workOut_61 self2 p0 p1 p2 H = some (rr, HH)) : PW E 61 [some (vr p0), some (vi p1), some (vi p2), none] [] H := by
  unfold jX9_workOut_61 at h
  refine pw_iinc (pc := 61) F dX9_workOut_61 rfl (lt_nl hn (by decide)) [some (vr p0), some (vi p1), some (vi (w32 (p2 + 1))), none] rfl (by decide) ?_
  refine pw_goto (pc := 64) F 2 dX9_workOut_64 (by decide) ?_
  exact pw_mask [true, true, true, true] (ls' := [some (vr p0), some (vi p1), some (vi (w32 (p2 + 1))), none]) rfl (ih2 (w32 (p2 + 1)) H h)
def lX9_workOut_12 (self2 : Int → PH → RO) (p0 p1 p2 : Int) (self12 : Int → PH → RO) (p3 : Int) (H : PH) : RO :=
  (if p3 ≥ 6 then jX9_workOut_61 self2 p0 p1 p2 H
  else (ld 25 H p0 3).bind fun x1 => (ld 0 H x1 p2).bind fun x2 => (if x2 ≠ 0 then jX9_workOut_61 self2 p0 p1 p2 H
  else (ld 25 H p0 15).bind fun x3 => (f_X9_place p1 p2 p3 H).bind fun z4 => (ld 1 z4.2 x3 z4.1).bind fun x5 => (ld 25 z4.2 p0 16).bind fun x6 => (f_X9_place p1 p2 p3 z4.2).bind fun z7 => (ld 0 z7.2 x6 z7.1).bind fun x8 => (f_X9_told p0 p2 p3 x5 x8 z7.2).bind fun z9 => self12 (w32 (p3 + 1)) z9.2))
set_option maxHeartbeats 4000000 in
theorem lX9_workOut_12_ok {E : PE} {rr : Int} {HH : PH} (F : FX E cX9_workOut RX9) (q : QE E none HH none) (hn : nLof E = 4) (hf : (roomOf E).frames = 3) (hl : (roomOf E).locals = 76) (self2 : Int → PH → RO) (p0 p1 p2 : Int) (ih2 : ∀ (v2 : Int) (HV : PH), self2 v2 HV = some (rr, HH) → PW E 2 [some (vr p0), some (vi p1), some (vi v2), none] [] HV) : ∀ (n : Nat) (p3 : Int) (H : PH), lq1 (lX9_workOut_12 self2 p0 p1 p2) n p3 H = some (rr, HH) → PW E 12 [some (vr p0), some (vi p1), some (vi p2), some (vi p3)] [] H := by
  refine lq1_ind (P := fun p3 H => PW E 12 [some (vr p0), some (vi p1), some (vi p2), some (vi p3)] [] H) ?_
  intro self12 ih12 p3 H h
  unfold lX9_workOut_12 at h
  refine pw_iload_n (pc := 12) F dX9_workOut_12 rfl ?_
  refine pw_bipush (pc := 13) F 6 dX9_workOut_13 (by decide) ?_
  refine pw_icmp_ge (pc := 15) F 61 dX9_workOut_15 (by decide) (fun hc => ?_) (fun hc => ?_)
  · have h := iteT hc h
    exact pw_mask [true, true, true, false] (ls' := [some (vr p0), some (vi p1), some (vi p2), none]) rfl (jX9_workOut_61_ok F q hn hf hl self2 p0 p1 p2 H ih2 h)
  · have h := iteF hc h
    refine pw_aload_n (pc := 18) F dX9_workOut_18 rfl ?_
    obtain ⟨x1, ex1, h⟩ := bnd h
    refine pw_get (pc := 19) F 9 3 16 (by decide) (by decide) g_bd19d270ba inl_9 2 rfl dX9_workOut_19 ex1 ?_
    refine pw_iload_n (pc := 22) F dX9_workOut_22 rfl ?_
    obtain ⟨x2, ex2, h⟩ := bnd h
    refine pw_iald (pc := 23) F dX9_workOut_23 ex2 ?_
    refine pw_if_ne (pc := 24) F 61 dX9_workOut_24 (by decide) (fun hc => ?_) (fun hc => ?_)
    · have h := iteT hc h
      exact pw_mask [true, true, true, false] (ls' := [some (vr p0), some (vi p1), some (vi p2), none]) rfl (jX9_workOut_61_ok F q hn hf hl self2 p0 p1 p2 H ih2 h)
    · have h := iteF hc h
      refine pw_aload_n (pc := 27) F dX9_workOut_27 rfl ?_
      refine pw_iload_n (pc := 28) F dX9_workOut_28 rfl ?_
      refine pw_iload_n (pc := 29) F dX9_workOut_29 rfl ?_
      refine pw_aload_n (pc := 30) F dX9_workOut_30 rfl ?_
      obtain ⟨x3, ex3, h⟩ := bnd h
      refine pw_get (pc := 31) F 9 15 51 (by decide) (by decide) g_948f79b8fe inl_9 2 rfl dX9_workOut_31 ex3 ?_
      refine pw_iload_n (pc := 34) F dX9_workOut_34 rfl ?_
      refine pw_iload_n (pc := 35) F dX9_workOut_35 rfl ?_
      refine pw_iload_n (pc := 36) F dX9_workOut_36 rfl ?_
      obtain ⟨z4, ez4, h⟩ := bnd h
      refine pw_callS (pc := 37) (as := [vi p1, vi p2, vi p3]) (st := [vr x3, vi p3, vi p2, vr p0]) (r := (some (vi z4.1))) F 150 (fun l => m_X9_place l p1 p2 p3 H z4.1 z4.2 ez4) g_ace1a9f84c g_ec0534314d g_2759d91faa g_205510d507 hd_X9_place (rm_ok hf hl (by decide) (by decide)) rfl dX9_workOut_37 rfl (stk' := [vi z4.1, vr x3, vi p3, vi p2, vr p0]) rfl ?_
      obtain ⟨x5, ex5, h⟩ := bnd h
      refine pw_lald (pc := 40) F dX9_workOut_40 ex5 ?_
      refine pw_aload_n (pc := 41) F dX9_workOut_41 rfl ?_
      obtain ⟨x6, ex6, h⟩ := bnd h
      refine pw_get (pc := 42) F 9 16 54 (by decide) (by decide) g_fd9fcec31c inl_9 2 rfl dX9_workOut_42 ex6 ?_
      refine pw_iload_n (pc := 45) F dX9_workOut_45 rfl ?_
      refine pw_iload_n (pc := 46) F dX9_workOut_46 rfl ?_
      refine pw_iload_n (pc := 47) F dX9_workOut_47 rfl ?_
      obtain ⟨z7, ez7, h⟩ := bnd h
      refine pw_callS (pc := 48) (as := [vi p1, vi p2, vi p3]) (st := [vr x6, vl x5, vi p3, vi p2, vr p0]) (r := (some (vi z7.1))) F 150 (fun l => m_X9_place l p1 p2 p3 z4.2 z7.1 z7.2 ez7) g_ace1a9f84c g_ec0534314d g_2759d91faa g_205510d507 hd_X9_place (rm_ok hf hl (by decide) (by decide)) rfl dX9_workOut_48 rfl (stk' := [vi z7.1, vr x6, vl x5, vi p3, vi p2, vr p0]) rfl ?_
      obtain ⟨x8, ex8, h⟩ := bnd h
      refine pw_iald (pc := 51) F dX9_workOut_51 ex8 ?_
      obtain ⟨z9, ez9, h⟩ := bnd h
      refine pw_callV (pc := 52) (as := [vi p2, vi p3, vl x5, vi x8]) (st := []) (r := none) F 208 9 (by decide) rfl (fun l => m_X9_told l p0 p2 p3 x5 x8 z7.2 z9.1 z9.2 ez9) g_b31a41e5be g_bf9f77486a g_02988af58e g_2759d91faa g_fd92aa9107 hd_X9_told (rm_ok hf hl (by decide) (by decide)) rfl (vm_spec ez9).1 dX9_workOut_52 rfl (stk' := []) rfl ?_
      refine pw_iinc (pc := 55) F dX9_workOut_55 rfl (lt_nl hn (by decide)) [some (vr p0), some (vi p1), some (vi p2), some (vi (w32 (p3 + 1)))] rfl (by decide) ?_
      refine pw_goto (pc := 58) F 12 dX9_workOut_58 (by decide) ?_
      exact pw_mask [true, true, true, true] (ls' := [some (vr p0), some (vi p1), some (vi p2), some (vi (w32 (p3 + 1)))]) rfl (ih12 (w32 (p3 + 1)) z9.2 h)
def lX9_workOut_2 (p0 p1 : Int) (self2 : Int → PH → RO) (p2 : Int) (H : PH) : RO :=
  (ld 25 H p0 0).bind fun x1 => (if p2 ≥ x1 then lq1 (lX9_workOut_69 p0 p1) 6000 0 H
  else lq1 (lX9_workOut_12 self2 p0 p1 p2) 6000 0 H)
set_option maxHeartbeats 4000000 in
theorem lX9_workOut_2_ok {E : PE} {rr : Int} {HH : PH} (F : FX E cX9_workOut RX9) (q : QE E none HH none) (hn : nLof E = 4) (hf : (roomOf E).frames = 3) (hl : (roomOf E).locals = 76) (p0 p1 : Int) : ∀ (n : Nat) (p2 : Int) (H : PH), lq1 (lX9_workOut_2 p0 p1) n p2 H = some (rr, HH) → PW E 2 [some (vr p0), some (vi p1), some (vi p2), none] [] H := by
  refine lq1_ind (P := fun p2 H => PW E 2 [some (vr p0), some (vi p1), some (vi p2), none] [] H) ?_
  intro self2 ih2 p2 H h
  unfold lX9_workOut_2 at h
  refine pw_iload_n (pc := 2) F dX9_workOut_2 rfl ?_
  refine pw_aload_n (pc := 3) F dX9_workOut_3 rfl ?_
  obtain ⟨x1, ex1, h⟩ := bnd h
  refine pw_get (pc := 4) F 9 0 136 (by decide) (by decide) g_eb25be88a8 inl_9 0 rfl dX9_workOut_4 ex1 ?_
  refine pw_icmp_ge (pc := 7) F 67 dX9_workOut_7 (by decide) (fun hc => ?_) (fun hc => ?_)
  · have h := iteT hc h
    refine pw_iconst (pc := 67) F 0 dX9_workOut_67 (by decide) ?_
    refine pw_istore_n (pc := 68) F dX9_workOut_68 (lt_nl hn (by decide)) [some (vr p0), some (vi p1), some (vi 0), none] rfl ?_
    exact pw_mask [true, true, true, true] (ls' := [some (vr p0), some (vi p1), some (vi 0), none]) rfl (lX9_workOut_69_ok F q hn hf hl p0 p1  6000 0 H h)
  · have h := iteF hc h
    refine pw_iconst (pc := 10) F 0 dX9_workOut_10 (by decide) ?_
    refine pw_istore_n (pc := 11) F dX9_workOut_11 (lt_nl hn (by decide)) [some (vr p0), some (vi p1), some (vi p2), some (vi 0)] rfl ?_
    exact pw_mask [true, true, true, true] (ls' := [some (vr p0), some (vi p1), some (vi p2), some (vi 0)]) rfl (lX9_workOut_12_ok F q hn hf hl self2 p0 p1 p2 ih2  6000 0 H h)
def f_X9_workOut (a0 a1 : Int) (H : PH) : RO := vm 9 a0 H <|
  lq1 (lX9_workOut_2 a0 a1) 6000 0 H
set_option maxHeartbeats 4000000 in
theorem m_X9_workOut (l : Launch) (a0 a1 : Int) (H : PH) (rr : Int) (HH : PH) (h : f_X9_workOut a0 a1 H = some (rr, HH)) : CT l yX9_workOut cX9_workOut 4 none 3 76 [vr a0, vi a1] H none HH := by
  refine CT.of RX9 (by decide) rfl [some (vr a0), some (vi a1), none, none] rfl rfl ?_
  intro E F q hn hf hl hm
  unfold f_X9_workOut at h
  obtain ⟨hv, h⟩ := vm_spec h
  refine pw_iconst (pc := 0) F 0 dX9_workOut_0 (by decide) ?_
  refine pw_istore_n (pc := 1) F dX9_workOut_1 (lt_nl hn (by decide)) [some (vr a0), some (vi a1), some (vi 0), none] rfl ?_
  exact pw_mask [true, true, true, true] (ls' := [some (vr a0), some (vi a1), some (vi 0), none]) rfl (lX9_workOut_2_ok F q hn hf hl a0 a1  6000 0 H h)
/-! HouseholdVaultModel.value(III)J -/
theorem dX9_value_0 : decode cX9_value 0 = .ok (.aload_n 0, 1) := by decide +kernel
theorem dX9_value_1 : decode cX9_value 1 = .ok (.iload_n 1, 1) := by decide +kernel
theorem dX9_value_2 : decode cX9_value 2 = .ok (.iload_n 2, 1) := by decide +kernel
theorem dX9_value_3 : decode cX9_value 3 = .ok (.iload_n 3, 1) := by decide +kernel
theorem dX9_value_4 : decode cX9_value 4 = .ok (.invokevirtual 196, 3) := by decide +kernel
theorem dX9_value_7 : decode cX9_value 7 = .ok (.ifCond .ne 5, 3) := by decide +kernel
theorem dX9_value_10 : decode cX9_value 10 = .ok (.lconst 0, 1) := by decide +kernel
theorem dX9_value_11 : decode cX9_value 11 = .ok (.lreturn, 1) := by decide +kernel
theorem dX9_value_12 : decode cX9_value 12 = .ok (.aload_n 0, 1) := by decide +kernel
theorem dX9_value_13 : decode cX9_value 13 = .ok (.iload_n 1, 1) := by decide +kernel
theorem dX9_value_14 : decode cX9_value 14 = .ok (.invokevirtual 228, 3) := by decide +kernel
theorem dX9_value_17 : decode cX9_value 17 = .ok (.aload_n 0, 1) := by decide +kernel
theorem dX9_value_18 : decode cX9_value 18 = .ok (.getfield 118, 3) := by decide +kernel
theorem dX9_value_21 : decode cX9_value 21 = .ok (.bipush 6, 2) := by decide +kernel
theorem dX9_value_23 : decode cX9_value 23 = .ok (.iload_n 2, 1) := by decide +kernel
theorem dX9_value_24 : decode cX9_value 24 = .ok (.imul, 1) := by decide +kernel
theorem dX9_value_25 : decode cX9_value 25 = .ok (.iload_n 3, 1) := by decide +kernel
theorem dX9_value_26 : decode cX9_value 26 = .ok (.iadd, 1) := by decide +kernel
theorem dX9_value_27 : decode cX9_value 27 = .ok (.iconst 1, 1) := by decide +kernel
theorem dX9_value_28 : decode cX9_value 28 = .ok (.iadd, 1) := by decide +kernel
theorem dX9_value_29 : decode cX9_value 29 = .ok (.iaload, 1) := by decide +kernel
theorem dX9_value_30 : decode cX9_value 30 = .ok (.ifCond .le 7, 3) := by decide +kernel
theorem dX9_value_33 : decode cX9_value 33 = .ok (.lconst 0, 1) := by decide +kernel
theorem dX9_value_34 : decode cX9_value 34 = .ok (.goto 16, 3) := by decide +kernel
theorem dX9_value_37 : decode cX9_value 37 = .ok (.aload_n 0, 1) := by decide +kernel
theorem dX9_value_38 : decode cX9_value 38 = .ok (.getfield 115, 3) := by decide +kernel
theorem dX9_value_41 : decode cX9_value 41 = .ok (.bipush 6, 2) := by decide +kernel
theorem dX9_value_43 : decode cX9_value 43 = .ok (.iload_n 2, 1) := by decide +kernel
theorem dX9_value_44 : decode cX9_value 44 = .ok (.imul, 1) := by decide +kernel
theorem dX9_value_45 : decode cX9_value 45 = .ok (.iload_n 3, 1) := by decide +kernel
theorem dX9_value_46 : decode cX9_value 46 = .ok (.iadd, 1) := by decide +kernel
theorem dX9_value_47 : decode cX9_value 47 = .ok (.iconst 1, 1) := by decide +kernel
theorem dX9_value_48 : decode cX9_value 48 = .ok (.iadd, 1) := by decide +kernel
theorem dX9_value_49 : decode cX9_value 49 = .ok (.laload, 1) := by decide +kernel
theorem dX9_value_50 : decode cX9_value 50 = .ok (.lreturn, 1) := by decide +kernel
def f_X9_value (a0 a1 a2 a3 : Int) (H : PH) : RO := vm 9 a0 H <|
  (f_X9_isPlace a0 a1 a2 a3 H).bind fun z1 => (if z1.1 ≠ 0 then (f_X9_workOut a0 a1 z1.2).bind fun z2 => (ld 25 z2.2 a0 44).bind fun x3 => (ld 0 z2.2 x3 (w32 ((w32 ((w32 (6 * a2)) + a3)) + 1))).bind fun x4 => (if x4 ≤ 0 then (ld 25 z2.2 a0 43).bind fun x5 => (ld 1 z2.2 x5 (w32 ((w32 ((w32 (6 * a2)) + a3)) + 1))).bind fun x6 => some (x6, z2.2)
  else some (0, z2.2))
  else some (0, z1.2))
set_option maxHeartbeats 4000000 in
theorem m_X9_value (l : Launch) (a0 a1 a2 a3 : Int) (H : PH) (rr : Int) (HH : PH) (h : f_X9_value a0 a1 a2 a3 H = some (rr, HH)) : CT l yX9_value cX9_value 4 (some .long) 4 99 [vr a0, vi a1, vi a2, vi a3] H (some (vl rr)) HH := by
  refine CT.of RX9 (by decide) rfl [some (vr a0), some (vi a1), some (vi a2), some (vi a3)] rfl rfl ?_
  intro E F q hn hf hl hm
  unfold f_X9_value at h
  obtain ⟨hv, h⟩ := vm_spec h
  refine pw_aload_n (pc := 0) F dX9_value_0 rfl ?_
  refine pw_iload_n (pc := 1) F dX9_value_1 rfl ?_
  refine pw_iload_n (pc := 2) F dX9_value_2 rfl ?_
  refine pw_iload_n (pc := 3) F dX9_value_3 rfl ?_
  obtain ⟨z1, ez1, h⟩ := bnd h
  refine pw_callV (pc := 4) (as := [vi a1, vi a2, vi a3]) (st := []) (r := (some (vi z1.1))) F 196 9 (by decide) rfl (fun l => m_X9_isPlace l a0 a1 a2 a3 H z1.1 z1.2 ez1) g_4eaf5d5c79 g_c8b02f6700 g_d798c155f8 g_2759d91faa g_b17f622d62 hd_X9_isPlace (rm_ok hf hl (by decide) (by decide)) rfl (vm_spec ez1).1 dX9_value_4 rfl (stk' := [vi z1.1]) rfl ?_
  refine pw_if_ne (pc := 7) F 12 dX9_value_7 (by decide) (fun hc => ?_) (fun hc => ?_)
  · have h := iteT hc h
    refine pw_aload_n (pc := 12) F dX9_value_12 rfl ?_
    refine pw_iload_n (pc := 13) F dX9_value_13 rfl ?_
    obtain ⟨z2, ez2, h⟩ := bnd h
    refine pw_callV (pc := 14) (as := [vi a1]) (st := []) (r := none) F 228 9 (by decide) rfl (fun l => m_X9_workOut l a0 a1 z1.2 z2.1 z2.2 ez2) g_3818fe93c5 g_7e06b14cc4 g_7b1f6500ce g_2759d91faa g_717afd008d hd_X9_workOut (rm_ok hf hl (by decide) (by decide)) rfl (vm_spec ez2).1 dX9_value_14 rfl (stk' := []) rfl ?_
    refine pw_aload_n (pc := 17) F dX9_value_17 rfl ?_
    obtain ⟨x3, ex3, h⟩ := bnd h
    refine pw_get (pc := 18) F 9 44 118 (by decide) (by decide) g_5be5e353a9 inl_9 2 rfl dX9_value_18 ex3 ?_
    refine pw_bipush (pc := 21) F 6 dX9_value_21 (by decide) ?_
    refine pw_iload_n (pc := 23) F dX9_value_23 rfl ?_
    refine pw_imul (pc := 24) F dX9_value_24 ?_
    refine pw_iload_n (pc := 25) F dX9_value_25 rfl ?_
    refine pw_iadd (pc := 26) F dX9_value_26 ?_
    refine pw_iconst (pc := 27) F 1 dX9_value_27 (by decide) ?_
    refine pw_iadd (pc := 28) F dX9_value_28 ?_
    obtain ⟨x4, ex4, h⟩ := bnd h
    refine pw_iald (pc := 29) F dX9_value_29 ex4 ?_
    refine pw_if_le (pc := 30) F 37 dX9_value_30 (by decide) (fun hc => ?_) (fun hc => ?_)
    · have h := iteT hc h
      refine pw_aload_n (pc := 37) F dX9_value_37 rfl ?_
      obtain ⟨x5, ex5, h⟩ := bnd h
      refine pw_get (pc := 38) F 9 43 115 (by decide) (by decide) g_e8763ca537 inl_9 2 rfl dX9_value_38 ex5 ?_
      refine pw_bipush (pc := 41) F 6 dX9_value_41 (by decide) ?_
      refine pw_iload_n (pc := 43) F dX9_value_43 rfl ?_
      refine pw_imul (pc := 44) F dX9_value_44 ?_
      refine pw_iload_n (pc := 45) F dX9_value_45 rfl ?_
      refine pw_iadd (pc := 46) F dX9_value_46 ?_
      refine pw_iconst (pc := 47) F 1 dX9_value_47 (by decide) ?_
      refine pw_iadd (pc := 48) F dX9_value_48 ?_
      obtain ⟨x6, ex6, h⟩ := bnd h
      refine pw_lald (pc := 49) F dX9_value_49 ex6 ?_
      cases h
      exact pw_lret (pc := 50) F q dX9_value_50
    · have h := iteF hc h
      refine pw_lconst (pc := 33) F 0 dX9_value_33 (by decide) ?_
      refine pw_goto (pc := 34) F 50 dX9_value_34 (by decide) ?_
      cases h
      exact pw_lret (pc := 50) F q dX9_value_50
  · have h := iteF hc h
    refine pw_lconst (pc := 10) F 0 dX9_value_10 (by decide) ?_
    cases h
    exact pw_lret (pc := 11) F q dX9_value_11
/-! HouseholdVaultModel.reason(III)I -/
theorem dX9_reason_0 : decode cX9_reason 0 = .ok (.aload_n 0, 1) := by decide +kernel
theorem dX9_reason_1 : decode cX9_reason 1 = .ok (.iload_n 1, 1) := by decide +kernel
theorem dX9_reason_2 : decode cX9_reason 2 = .ok (.iload_n 2, 1) := by decide +kernel
theorem dX9_reason_3 : decode cX9_reason 3 = .ok (.iload_n 3, 1) := by decide +kernel
theorem dX9_reason_4 : decode cX9_reason 4 = .ok (.invokevirtual 196, 3) := by decide +kernel
theorem dX9_reason_7 : decode cX9_reason 7 = .ok (.ifCond .ne 5, 3) := by decide +kernel
theorem dX9_reason_10 : decode cX9_reason 10 = .ok (.iconst (-1), 1) := by decide +kernel
theorem dX9_reason_11 : decode cX9_reason 11 = .ok (.ireturn, 1) := by decide +kernel
theorem dX9_reason_12 : decode cX9_reason 12 = .ok (.aload_n 0, 1) := by decide +kernel
theorem dX9_reason_13 : decode cX9_reason 13 = .ok (.iload_n 1, 1) := by decide +kernel
theorem dX9_reason_14 : decode cX9_reason 14 = .ok (.invokevirtual 228, 3) := by decide +kernel
theorem dX9_reason_17 : decode cX9_reason 17 = .ok (.aload_n 0, 1) := by decide +kernel
theorem dX9_reason_18 : decode cX9_reason 18 = .ok (.getfield 118, 3) := by decide +kernel
theorem dX9_reason_21 : decode cX9_reason 21 = .ok (.bipush 6, 2) := by decide +kernel
theorem dX9_reason_23 : decode cX9_reason 23 = .ok (.iload_n 2, 1) := by decide +kernel
theorem dX9_reason_24 : decode cX9_reason 24 = .ok (.imul, 1) := by decide +kernel
theorem dX9_reason_25 : decode cX9_reason 25 = .ok (.iload_n 3, 1) := by decide +kernel
theorem dX9_reason_26 : decode cX9_reason 26 = .ok (.iadd, 1) := by decide +kernel
theorem dX9_reason_27 : decode cX9_reason 27 = .ok (.iconst 1, 1) := by decide +kernel
theorem dX9_reason_28 : decode cX9_reason 28 = .ok (.iadd, 1) := by decide +kernel
theorem dX9_reason_29 : decode cX9_reason 29 = .ok (.iaload, 1) := by decide +kernel
theorem dX9_reason_30 : decode cX9_reason 30 = .ok (.ireturn, 1) := by decide +kernel
def f_X9_reason (a0 a1 a2 a3 : Int) (H : PH) : RO := vm 9 a0 H <|
  (f_X9_isPlace a0 a1 a2 a3 H).bind fun z1 => (if z1.1 ≠ 0 then (f_X9_workOut a0 a1 z1.2).bind fun z2 => (ld 25 z2.2 a0 44).bind fun x3 => (ld 0 z2.2 x3 (w32 ((w32 ((w32 (6 * a2)) + a3)) + 1))).bind fun x4 => some (x4, z2.2)
  else some ((-1), z1.2))
set_option maxHeartbeats 4000000 in
theorem m_X9_reason (l : Launch) (a0 a1 a2 a3 : Int) (H : PH) (rr : Int) (HH : PH) (h : f_X9_reason a0 a1 a2 a3 H = some (rr, HH)) : CT l yX9_reason cX9_reason 4 (some .int) 4 99 [vr a0, vi a1, vi a2, vi a3] H (some (vi rr)) HH := by
  refine CT.of RX9 (by decide) rfl [some (vr a0), some (vi a1), some (vi a2), some (vi a3)] rfl rfl ?_
  intro E F q hn hf hl hm
  unfold f_X9_reason at h
  obtain ⟨hv, h⟩ := vm_spec h
  refine pw_aload_n (pc := 0) F dX9_reason_0 rfl ?_
  refine pw_iload_n (pc := 1) F dX9_reason_1 rfl ?_
  refine pw_iload_n (pc := 2) F dX9_reason_2 rfl ?_
  refine pw_iload_n (pc := 3) F dX9_reason_3 rfl ?_
  obtain ⟨z1, ez1, h⟩ := bnd h
  refine pw_callV (pc := 4) (as := [vi a1, vi a2, vi a3]) (st := []) (r := (some (vi z1.1))) F 196 9 (by decide) rfl (fun l => m_X9_isPlace l a0 a1 a2 a3 H z1.1 z1.2 ez1) g_4eaf5d5c79 g_c8b02f6700 g_d798c155f8 g_2759d91faa g_b17f622d62 hd_X9_isPlace (rm_ok hf hl (by decide) (by decide)) rfl (vm_spec ez1).1 dX9_reason_4 rfl (stk' := [vi z1.1]) rfl ?_
  refine pw_if_ne (pc := 7) F 12 dX9_reason_7 (by decide) (fun hc => ?_) (fun hc => ?_)
  · have h := iteT hc h
    refine pw_aload_n (pc := 12) F dX9_reason_12 rfl ?_
    refine pw_iload_n (pc := 13) F dX9_reason_13 rfl ?_
    obtain ⟨z2, ez2, h⟩ := bnd h
    refine pw_callV (pc := 14) (as := [vi a1]) (st := []) (r := none) F 228 9 (by decide) rfl (fun l => m_X9_workOut l a0 a1 z1.2 z2.1 z2.2 ez2) g_3818fe93c5 g_7e06b14cc4 g_7b1f6500ce g_2759d91faa g_717afd008d hd_X9_workOut (rm_ok hf hl (by decide) (by decide)) rfl (vm_spec ez2).1 dX9_reason_14 rfl (stk' := []) rfl ?_
    refine pw_aload_n (pc := 17) F dX9_reason_17 rfl ?_
    obtain ⟨x3, ex3, h⟩ := bnd h
    refine pw_get (pc := 18) F 9 44 118 (by decide) (by decide) g_5be5e353a9 inl_9 2 rfl dX9_reason_18 ex3 ?_
    refine pw_bipush (pc := 21) F 6 dX9_reason_21 (by decide) ?_
    refine pw_iload_n (pc := 23) F dX9_reason_23 rfl ?_
    refine pw_imul (pc := 24) F dX9_reason_24 ?_
    refine pw_iload_n (pc := 25) F dX9_reason_25 rfl ?_
    refine pw_iadd (pc := 26) F dX9_reason_26 ?_
    refine pw_iconst (pc := 27) F 1 dX9_reason_27 (by decide) ?_
    refine pw_iadd (pc := 28) F dX9_reason_28 ?_
    obtain ⟨x4, ex4, h⟩ := bnd h
    refine pw_iald (pc := 29) F dX9_reason_29 ex4 ?_
    cases h
    exact pw_iret (pc := 30) F q dX9_reason_30
  · have h := iteF hc h
    refine pw_iconst (pc := 10) F (-1) dX9_reason_10 (by decide) ?_
    cases h
    exact pw_iret (pc := 11) F q dX9_reason_11
/-! HouseholdVaultModel.condition(IIII)I -/
theorem dX9_condition_0 : decode cX9_condition 0 = .ok (.aload_n 0, 1) := by decide +kernel
theorem dX9_condition_1 : decode cX9_condition 1 = .ok (.getfield 147, 3) := by decide +kernel
theorem dX9_condition_4 : decode cX9_condition 4 = .ok (.istore 5, 2) := by decide +kernel
theorem dX9_condition_6 : decode cX9_condition 6 = .ok (.aload_n 0, 1) := by decide +kernel
theorem dX9_condition_7 : decode cX9_condition 7 = .ok (.getfield 60, 3) := by decide +kernel
theorem dX9_condition_10 : decode cX9_condition 10 = .ok (.iload 5, 2) := by decide +kernel
theorem dX9_condition_12 : decode cX9_condition 12 = .ok (.iload_n 1, 1) := by decide +kernel
theorem dX9_condition_13 : decode cX9_condition 13 = .ok (.iastore, 1) := by decide +kernel
theorem dX9_condition_14 : decode cX9_condition 14 = .ok (.aload_n 0, 1) := by decide +kernel
theorem dX9_condition_15 : decode cX9_condition 15 = .ok (.getfield 78, 3) := by decide +kernel
theorem dX9_condition_18 : decode cX9_condition 18 = .ok (.iload 5, 2) := by decide +kernel
theorem dX9_condition_20 : decode cX9_condition 20 = .ok (.iload_n 2, 1) := by decide +kernel
theorem dX9_condition_21 : decode cX9_condition 21 = .ok (.iastore, 1) := by decide +kernel
theorem dX9_condition_22 : decode cX9_condition 22 = .ok (.aload_n 0, 1) := by decide +kernel
theorem dX9_condition_23 : decode cX9_condition 23 = .ok (.getfield 81, 3) := by decide +kernel
theorem dX9_condition_26 : decode cX9_condition 26 = .ok (.iload 5, 2) := by decide +kernel
theorem dX9_condition_28 : decode cX9_condition 28 = .ok (.iload_n 3, 1) := by decide +kernel
theorem dX9_condition_29 : decode cX9_condition 29 = .ok (.iastore, 1) := by decide +kernel
theorem dX9_condition_30 : decode cX9_condition 30 = .ok (.aload_n 0, 1) := by decide +kernel
theorem dX9_condition_31 : decode cX9_condition 31 = .ok (.getfield 84, 3) := by decide +kernel
theorem dX9_condition_34 : decode cX9_condition 34 = .ok (.iload 5, 2) := by decide +kernel
theorem dX9_condition_36 : decode cX9_condition 36 = .ok (.iload 4, 2) := by decide +kernel
theorem dX9_condition_38 : decode cX9_condition 38 = .ok (.iastore, 1) := by decide +kernel
theorem dX9_condition_39 : decode cX9_condition 39 = .ok (.aload_n 0, 1) := by decide +kernel
theorem dX9_condition_40 : decode cX9_condition 40 = .ok (.getfield 87, 3) := by decide +kernel
theorem dX9_condition_43 : decode cX9_condition 43 = .ok (.aload_n 0, 1) := by decide +kernel
theorem dX9_condition_44 : decode cX9_condition 44 = .ok (.getfield 158, 3) := by decide +kernel
theorem dX9_condition_47 : decode cX9_condition 47 = .ok (.bipush 100, 2) := by decide +kernel
theorem dX9_condition_49 : decode cX9_condition 49 = .ok (.iload 5, 2) := by decide +kernel
theorem dX9_condition_51 : decode cX9_condition 51 = .ok (.iadd, 1) := by decide +kernel
theorem dX9_condition_52 : decode cX9_condition 52 = .ok (.iastore, 1) := by decide +kernel
theorem dX9_condition_53 : decode cX9_condition 53 = .ok (.aload_n 0, 1) := by decide +kernel
theorem dX9_condition_54 : decode cX9_condition 54 = .ok (.dup, 1) := by decide +kernel
theorem dX9_condition_55 : decode cX9_condition 55 = .ok (.getfield 158, 3) := by decide +kernel
theorem dX9_condition_58 : decode cX9_condition 58 = .ok (.iconst 1, 1) := by decide +kernel
theorem dX9_condition_59 : decode cX9_condition 59 = .ok (.iadd, 1) := by decide +kernel
theorem dX9_condition_60 : decode cX9_condition 60 = .ok (.putfield 158, 3) := by decide +kernel
theorem dX9_condition_63 : decode cX9_condition 63 = .ok (.aload_n 0, 1) := by decide +kernel
theorem dX9_condition_64 : decode cX9_condition 64 = .ok (.dup, 1) := by decide +kernel
theorem dX9_condition_65 : decode cX9_condition 65 = .ok (.getfield 147, 3) := by decide +kernel
theorem dX9_condition_68 : decode cX9_condition 68 = .ok (.iconst 1, 1) := by decide +kernel
theorem dX9_condition_69 : decode cX9_condition 69 = .ok (.iadd, 1) := by decide +kernel
theorem dX9_condition_70 : decode cX9_condition 70 = .ok (.putfield 147, 3) := by decide +kernel
theorem dX9_condition_73 : decode cX9_condition 73 = .ok (.iload 5, 2) := by decide +kernel
theorem dX9_condition_75 : decode cX9_condition 75 = .ok (.ireturn, 1) := by decide +kernel
def f_X9_condition (a0 a1 a2 a3 a4 : Int) (H : PH) : RO := vm 9 a0 H <|
  (ld 25 H a0 18).bind fun x1 => (ld 25 H a0 19).bind fun x2 => (stv 0 H x2 x1 a1).bind fun H3 => (ld 25 H3 a0 25).bind fun x4 => (stv 0 H3 x4 x1 a2).bind fun H5 => (ld 25 H5 a0 26).bind fun x6 => (stv 0 H5 x6 x1 a3).bind fun H7 => (ld 25 H7 a0 27).bind fun x8 => (stv 0 H7 x8 x1 a4).bind fun H9 => (ld 25 H9 a0 28).bind fun x10 => (ld 25 H9 a0 29).bind fun x11 => (stv 0 H9 x10 x11 (w32 (100 + x1))).bind fun H12 => (ld 25 H12 a0 29).bind fun x13 => (stv 25 H12 a0 29 (w32 (x13 + 1))).bind fun H14 => (ld 25 H14 a0 18).bind fun x15 => (stv 25 H14 a0 18 (w32 (x15 + 1))).bind fun H16 => some (x1, H16)
set_option maxHeartbeats 4000000 in
theorem m_X9_condition (l : Launch) (a0 a1 a2 a3 a4 : Int) (H : PH) (rr : Int) (HH : PH) (h : f_X9_condition a0 a1 a2 a3 a4 H = some (rr, HH)) : CT l yX9_condition cX9_condition 6 (some .int) 0 0 [vr a0, vi a1, vi a2, vi a3, vi a4] H (some (vi rr)) HH := by
  refine CT.of RX9 (by decide) rfl [some (vr a0), some (vi a1), some (vi a2), some (vi a3), some (vi a4), none] rfl rfl ?_
  intro E F q hn hf hl hm
  unfold f_X9_condition at h
  obtain ⟨hv, h⟩ := vm_spec h
  refine pw_aload_n (pc := 0) F dX9_condition_0 rfl ?_
  obtain ⟨x1, ex1, h⟩ := bnd h
  refine pw_get (pc := 1) F 9 18 147 (by decide) (by decide) g_98b4b1c18b inl_9 0 rfl dX9_condition_1 ex1 ?_
  refine pw_istore (pc := 4) F dX9_condition_4 (lt_nl hn (by decide)) [some (vr a0), some (vi a1), some (vi a2), some (vi a3), some (vi a4), some (vi x1)] rfl ?_
  refine pw_aload_n (pc := 6) F dX9_condition_6 rfl ?_
  obtain ⟨x2, ex2, h⟩ := bnd h
  refine pw_get (pc := 7) F 9 19 60 (by decide) (by decide) g_14ea23737e inl_9 2 rfl dX9_condition_7 ex2 ?_
  refine pw_iload (pc := 10) F dX9_condition_10 rfl ?_
  refine pw_iload_n (pc := 12) F dX9_condition_12 rfl ?_
  obtain ⟨H3, eH3, h⟩ := bnd h
  refine pw_iast (pc := 13) F dX9_condition_13 eH3 ?_
  refine pw_aload_n (pc := 14) F dX9_condition_14 rfl ?_
  obtain ⟨x4, ex4, h⟩ := bnd h
  refine pw_get (pc := 15) F 9 25 78 (by decide) (by decide) g_26e1dbdafb inl_9 2 rfl dX9_condition_15 ex4 ?_
  refine pw_iload (pc := 18) F dX9_condition_18 rfl ?_
  refine pw_iload_n (pc := 20) F dX9_condition_20 rfl ?_
  obtain ⟨H5, eH5, h⟩ := bnd h
  refine pw_iast (pc := 21) F dX9_condition_21 eH5 ?_
  refine pw_aload_n (pc := 22) F dX9_condition_22 rfl ?_
  obtain ⟨x6, ex6, h⟩ := bnd h
  refine pw_get (pc := 23) F 9 26 81 (by decide) (by decide) g_c6aa864b14 inl_9 2 rfl dX9_condition_23 ex6 ?_
  refine pw_iload (pc := 26) F dX9_condition_26 rfl ?_
  refine pw_iload_n (pc := 28) F dX9_condition_28 rfl ?_
  obtain ⟨H7, eH7, h⟩ := bnd h
  refine pw_iast (pc := 29) F dX9_condition_29 eH7 ?_
  refine pw_aload_n (pc := 30) F dX9_condition_30 rfl ?_
  obtain ⟨x8, ex8, h⟩ := bnd h
  refine pw_get (pc := 31) F 9 27 84 (by decide) (by decide) g_b1cbbee2b7 inl_9 2 rfl dX9_condition_31 ex8 ?_
  refine pw_iload (pc := 34) F dX9_condition_34 rfl ?_
  refine pw_iload (pc := 36) F dX9_condition_36 rfl ?_
  obtain ⟨H9, eH9, h⟩ := bnd h
  refine pw_iast (pc := 38) F dX9_condition_38 eH9 ?_
  refine pw_aload_n (pc := 39) F dX9_condition_39 rfl ?_
  obtain ⟨x10, ex10, h⟩ := bnd h
  refine pw_get (pc := 40) F 9 28 87 (by decide) (by decide) g_4cb92a74f5 inl_9 2 rfl dX9_condition_40 ex10 ?_
  refine pw_aload_n (pc := 43) F dX9_condition_43 rfl ?_
  obtain ⟨x11, ex11, h⟩ := bnd h
  refine pw_get (pc := 44) F 9 29 158 (by decide) (by decide) g_e9280b5cc2 inl_9 0 rfl dX9_condition_44 ex11 ?_
  refine pw_bipush (pc := 47) F 100 dX9_condition_47 (by decide) ?_
  refine pw_iload (pc := 49) F dX9_condition_49 rfl ?_
  refine pw_iadd (pc := 51) F dX9_condition_51 ?_
  obtain ⟨H12, eH12, h⟩ := bnd h
  refine pw_iast (pc := 52) F dX9_condition_52 eH12 ?_
  refine pw_aload_n (pc := 53) F dX9_condition_53 rfl ?_
  refine pw_dup (pc := 54) F dX9_condition_54 (pvne rfl) ?_
  obtain ⟨x13, ex13, h⟩ := bnd h
  refine pw_get (pc := 55) F 9 29 158 (by decide) (by decide) g_e9280b5cc2 inl_9 0 rfl dX9_condition_55 ex13 ?_
  refine pw_iconst (pc := 58) F 1 dX9_condition_58 (by decide) ?_
  refine pw_iadd (pc := 59) F dX9_condition_59 ?_
  obtain ⟨H14, eH14, h⟩ := bnd h
  refine pw_put (pc := 60) F 9 29 158 (by decide) (by decide) g_e9280b5cc2 inl_9 rfl 0 rfl dX9_condition_60 trivial eH14 ?_
  refine pw_aload_n (pc := 63) F dX9_condition_63 rfl ?_
  refine pw_dup (pc := 64) F dX9_condition_64 (pvne rfl) ?_
  obtain ⟨x15, ex15, h⟩ := bnd h
  refine pw_get (pc := 65) F 9 18 147 (by decide) (by decide) g_98b4b1c18b inl_9 0 rfl dX9_condition_65 ex15 ?_
  refine pw_iconst (pc := 68) F 1 dX9_condition_68 (by decide) ?_
  refine pw_iadd (pc := 69) F dX9_condition_69 ?_
  obtain ⟨H16, eH16, h⟩ := bnd h
  refine pw_put (pc := 70) F 9 18 147 (by decide) (by decide) g_98b4b1c18b inl_9 rfl 0 rfl dX9_condition_70 trivial eH16 ?_
  refine pw_iload (pc := 73) F dX9_condition_73 rfl ?_
  cases h
  exact pw_iret (pc := 75) F q dX9_condition_75
