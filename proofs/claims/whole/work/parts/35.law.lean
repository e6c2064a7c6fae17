def jL_law_1683 (X : List Int) (self18 : Int → PH → RO) (p1 p2 p3 : Int) (H : PH) : RO :=
  self18 (w32 (p3 + 7)) H
set_option maxHeartbeats 4000000 in
theorem jL_law_1683_ok {E : PE} {HH : PH} {X : List Int} {b : Nat} (F : FX E cL_law RL) (q : LQ E) (hX : SX E X b) (hn : nLof E = 4) (hf : (roomOf E).frames = 9) (hl : (roomOf E).locals = 340) (self18 : Int → PH → RO) (p1 p2 p3 : Int) (H : PH) (ih18 : ∀ (v3 : Int) (HV : PH), self18 v3 HV = some (1, HH) → PW E 18 [some (vsc (b : Int)), some (vr p1), some (vr p2), some (vi v3)] [] HV) (h : jL_law_1683 X self18 p1 p2 p3 H = some (1, HH)) : PW E 1683 [some (vsc (b : Int)), some (vr p1), some (vr p2), some (vi p3)] [] H := by
  unfold jL_law_1683 at h
  refine pw_iinc (pc := 1683) F dL_law_1683 rfl (lt_nl hn (by decide)) [some (vsc (b : Int)), some (vr p1), some (vr p2), some (vi (w32 (p3 + 7)))] rfl (by decide) ?_
  refine pw_goto (pc := 1686) F 18 dL_law_1686 (by decide) ?_
  exact pw_mask [true, true, true, true] (ls' := [some (vsc (b : Int)), some (vr p1), some (vr p2), some (vi (w32 (p3 + 7)))]) rfl (ih18 (w32 (p3 + 7)) H h)
def jL_law_204 (X : List Int) (self18 : Int → PH → RO) (p1 p2 p3 : Int) (H : PH) : RO :=
  (sld X (w32 (p3 + 1))).bind fun x1 => (sld X (w32 (p3 + 2))).bind fun x2 => (f_X8_question p1 x1 x2 H).bind fun z3 => (sld X (w32 (p3 + 1))).bind fun x4 => (sld X (w32 (p3 + 2))).bind fun x5 => (f_X9_question p2 x4 x5 z3.2).bind fun z6 => (if z3.1 = z6.1 then jL_law_1683 X self18 p1 p2 p3 z6.2
  else some (0, z6.2))
set_option maxHeartbeats 4000000 in
theorem jL_law_204_ok {E : PE} {HH : PH} {X : List Int} {b : Nat} (F : FX E cL_law RL) (q : LQ E) (hX : SX E X b) (hn : nLof E = 4) (hf : (roomOf E).frames = 9) (hl : (roomOf E).locals = 340) (self18 : Int → PH → RO) (p1 p2 p3 : Int) (H : PH) (ih18 : ∀ (v3 : Int) (HV : PH), self18 v3 HV = some (1, HH) → PW E 18 [some (vsc (b : Int)), some (vr p1), some (vr p2), some (vi v3)] [] HV) (h : jL_law_204 X self18 p1 p2 p3 H = some (1, HH)) : PW E 204 [some (vsc (b : Int)), some (vr p1), some (vr p2), some (vi p3)] [] H := by
  unfold jL_law_204 at h
  refine pw_aload_n (pc := 204) F dL_law_204 rfl ?_
  refine pw_sload_n (pc := 205) F dL_law_205 rfl ?_
  refine pw_iload_n (pc := 206) F dL_law_206 rfl ?_
  refine pw_iconst (pc := 207) F 1 dL_law_207 (by decide) ?_
  refine pw_iadd (pc := 208) F dL_law_208 ?_
  obtain ⟨x1, ex1, h⟩ := bnd h
  refine pw_sld (pc := 209) F hX dL_law_209 ex1 ?_
  refine pw_sload_n (pc := 210) F dL_law_210 rfl ?_
  refine pw_iload_n (pc := 211) F dL_law_211 rfl ?_
  refine pw_iconst (pc := 212) F 2 dL_law_212 (by decide) ?_
  refine pw_iadd (pc := 213) F dL_law_213 ?_
  obtain ⟨x2, ex2, h⟩ := bnd h
  refine pw_sld (pc := 214) F hX dL_law_214 ex2 ?_
  obtain ⟨z3, ez3, h⟩ := bnd h
  refine pw_callV (pc := 215) (as := [vi x1, vi x2]) (st := []) (r := (some (vi z3.1))) F 13 8 (by decide) rfl (fun l => m_X8_question l p1 x1 x2 H z3.1 z3.2 ez3) g_b9ef63c619 g_9c4b1ffc38 g_f1fcaeb9b4 g_99e03e18e2 g_8219869dad hd_X8_question (rm_ok hf hl (by decide) (by decide)) rfl (vm_spec ez3).1 dL_law_215 rfl (stk' := [vi z3.1]) rfl ?_
  refine pw_aload_n (pc := 218) F dL_law_218 rfl ?_
  refine pw_sload_n (pc := 219) F dL_law_219 rfl ?_
  refine pw_iload_n (pc := 220) F dL_law_220 rfl ?_
  refine pw_iconst (pc := 221) F 1 dL_law_221 (by decide) ?_
  refine pw_iadd (pc := 222) F dL_law_222 ?_
  obtain ⟨x4, ex4, h⟩ := bnd h
  refine pw_sld (pc := 223) F hX dL_law_223 ex4 ?_
  refine pw_sload_n (pc := 224) F dL_law_224 rfl ?_
  refine pw_iload_n (pc := 225) F dL_law_225 rfl ?_
  refine pw_iconst (pc := 226) F 2 dL_law_226 (by decide) ?_
  refine pw_iadd (pc := 227) F dL_law_227 ?_
  obtain ⟨x5, ex5, h⟩ := bnd h
  refine pw_sld (pc := 228) F hX dL_law_228 ex5 ?_
  obtain ⟨z6, ez6, h⟩ := bnd h
  refine pw_callV (pc := 229) (as := [vi x4, vi x5]) (st := [vi z3.1]) (r := (some (vi z6.1))) F 17 9 (by decide) rfl (fun l => m_X9_question l p2 x4 x5 z3.2 z6.1 z6.2 ez6) g_ebcb252742 g_2e37eea191 g_cd06b9c1a1 g_2759d91faa g_d80fae3f51 hd_X9_question (rm_ok hf hl (by decide) (by decide)) rfl (vm_spec ez6).1 dL_law_229 rfl (stk' := [vi z6.1, vi z3.1]) rfl ?_
  refine pw_icmp_eq (pc := 232) F 1683 dL_law_232 (by decide) (fun hc => ?_) (fun hc => ?_)
  · have h := iteT hc h
    exact pw_mask [true, true, true, true] (ls' := [some (vsc (b : Int)), some (vr p1), some (vr p2), some (vi p3)]) rfl (jL_law_1683_ok F q hX hn hf hl self18 p1 p2 p3 z6.2 ih18 h)
  · have h := iteF hc h
    refine pw_iconst (pc := 235) F 0 dL_law_235 (by decide) ?_
    exact absurd h (by simp)
def jL_law_237 (X : List Int) (self18 : Int → PH → RO) (p1 p2 p3 : Int) (H : PH) : RO :=
  (sld X (w32 (p3 + 1))).bind fun x1 => (sld X (w32 (p3 + 2))).bind fun x2 => (f_X8_code p1 x1 x2 H).bind fun z3 => (sld X (w32 (p3 + 1))).bind fun x4 => (sld X (w32 (p3 + 2))).bind fun x5 => (f_X9_code p2 x4 x5 z3.2).bind fun z6 => (if z3.1 = z6.1 then jL_law_1683 X self18 p1 p2 p3 z6.2
  else some (0, z6.2))
set_option maxHeartbeats 4000000 in
theorem jL_law_237_ok {E : PE} {HH : PH} {X : List Int} {b : Nat} (F : FX E cL_law RL) (q : LQ E) (hX : SX E X b) (hn : nLof E = 4) (hf : (roomOf E).frames = 9) (hl : (roomOf E).locals = 340) (self18 : Int → PH → RO) (p1 p2 p3 : Int) (H : PH) (ih18 : ∀ (v3 : Int) (HV : PH), self18 v3 HV = some (1, HH) → PW E 18 [some (vsc (b : Int)), some (vr p1), some (vr p2), some (vi v3)] [] HV) (h : jL_law_237 X self18 p1 p2 p3 H = some (1, HH)) : PW E 237 [some (vsc (b : Int)), some (vr p1), some (vr p2), some (vi p3)] [] H := by
  unfold jL_law_237 at h
  refine pw_aload_n (pc := 237) F dL_law_237 rfl ?_
  refine pw_sload_n (pc := 238) F dL_law_238 rfl ?_
  refine pw_iload_n (pc := 239) F dL_law_239 rfl ?_
  refine pw_iconst (pc := 240) F 1 dL_law_240 (by decide) ?_
  refine pw_iadd (pc := 241) F dL_law_241 ?_
  obtain ⟨x1, ex1, h⟩ := bnd h
  refine pw_sld (pc := 242) F hX dL_law_242 ex1 ?_
  refine pw_sload_n (pc := 243) F dL_law_243 rfl ?_
  refine pw_iload_n (pc := 244) F dL_law_244 rfl ?_
  refine pw_iconst (pc := 245) F 2 dL_law_245 (by decide) ?_
  refine pw_iadd (pc := 246) F dL_law_246 ?_
  obtain ⟨x2, ex2, h⟩ := bnd h
  refine pw_sld (pc := 247) F hX dL_law_247 ex2 ?_
  obtain ⟨z3, ez3, h⟩ := bnd h
  refine pw_callV (pc := 248) (as := [vi x1, vi x2]) (st := []) (r := (some (vi z3.1))) F 18 8 (by decide) rfl (fun l => m_X8_code l p1 x1 x2 H z3.1 z3.2 ez3) g_51459a3172 g_a4f9324fc9 g_07efb60914 g_99e03e18e2 g_353aefef7d hd_X8_code (rm_ok hf hl (by decide) (by decide)) rfl (vm_spec ez3).1 dL_law_248 rfl (stk' := [vi z3.1]) rfl ?_
  refine pw_aload_n (pc := 251) F dL_law_251 rfl ?_
  refine pw_sload_n (pc := 252) F dL_law_252 rfl ?_
  refine pw_iload_n (pc := 253) F dL_law_253 rfl ?_
  refine pw_iconst (pc := 254) F 1 dL_law_254 (by decide) ?_
  refine pw_iadd (pc := 255) F dL_law_255 ?_
  obtain ⟨x4, ex4, h⟩ := bnd h
  refine pw_sld (pc := 256) F hX dL_law_256 ex4 ?_
  refine pw_sload_n (pc := 257) F dL_law_257 rfl ?_
  refine pw_iload_n (pc := 258) F dL_law_258 rfl ?_
  refine pw_iconst (pc := 259) F 2 dL_law_259 (by decide) ?_
  refine pw_iadd (pc := 260) F dL_law_260 ?_
  obtain ⟨x5, ex5, h⟩ := bnd h
  refine pw_sld (pc := 261) F hX dL_law_261 ex5 ?_
  obtain ⟨z6, ez6, h⟩ := bnd h
  refine pw_callV (pc := 262) (as := [vi x4, vi x5]) (st := [vi z3.1]) (r := (some (vi z6.1))) F 21 9 (by decide) rfl (fun l => m_X9_code l p2 x4 x5 z3.2 z6.1 z6.2 ez6) g_1c37f14941 g_f0b76aa299 g_3773b611be g_2759d91faa g_01182bb9bf hd_X9_code (rm_ok hf hl (by decide) (by decide)) rfl (vm_spec ez6).1 dL_law_262 rfl (stk' := [vi z6.1, vi z3.1]) rfl ?_
  refine pw_icmp_eq (pc := 265) F 1683 dL_law_265 (by decide) (fun hc => ?_) (fun hc => ?_)
  · have h := iteT hc h
    exact pw_mask [true, true, true, true] (ls' := [some (vsc (b : Int)), some (vr p1), some (vr p2), some (vi p3)]) rfl (jL_law_1683_ok F q hX hn hf hl self18 p1 p2 p3 z6.2 ih18 h)
  · have h := iteF hc h
    refine pw_iconst (pc := 268) F 0 dL_law_268 (by decide) ?_
    exact absurd h (by simp)
def jL_law_270 (X : List Int) (self18 : Int → PH → RO) (p1 p2 p3 : Int) (H : PH) : RO :=
  (sld X (w32 (p3 + 1))).bind fun x1 => (f_X8_map p1 x1 H).bind fun z2 => (sld X (w32 (p3 + 1))).bind fun x3 => (f_X9_map p2 x3 z2.2).bind fun z4 => (if z2.1 = z4.1 then jL_law_1683 X self18 p1 p2 p3 z4.2
  else some (0, z4.2))
set_option maxHeartbeats 4000000 in
theorem jL_law_270_ok {E : PE} {HH : PH} {X : List Int} {b : Nat} (F : FX E cL_law RL) (q : LQ E) (hX : SX E X b) (hn : nLof E = 4) (hf : (roomOf E).frames = 9) (hl : (roomOf E).locals = 340) (self18 : Int → PH → RO) (p1 p2 p3 : Int) (H : PH) (ih18 : ∀ (v3 : Int) (HV : PH), self18 v3 HV = some (1, HH) → PW E 18 [some (vsc (b : Int)), some (vr p1), some (vr p2), some (vi v3)] [] HV) (h : jL_law_270 X self18 p1 p2 p3 H = some (1, HH)) : PW E 270 [some (vsc (b : Int)), some (vr p1), some (vr p2), some (vi p3)] [] H := by
  unfold jL_law_270 at h
  refine pw_aload_n (pc := 270) F dL_law_270 rfl ?_
  refine pw_sload_n (pc := 271) F dL_law_271 rfl ?_
  refine pw_iload_n (pc := 272) F dL_law_272 rfl ?_
  refine pw_iconst (pc := 273) F 1 dL_law_273 (by decide) ?_
  refine pw_iadd (pc := 274) F dL_law_274 ?_
  obtain ⟨x1, ex1, h⟩ := bnd h
  refine pw_sld (pc := 275) F hX dL_law_275 ex1 ?_
  obtain ⟨z2, ez2, h⟩ := bnd h
  refine pw_callV (pc := 276) (as := [vi x1]) (st := []) (r := (some (vi z2.1))) F 22 8 (by decide) rfl (fun l => m_X8_map l p1 x1 H z2.1 z2.2 ez2) g_9ff106b3b0 g_cf1d6626c9 g_457f06465e g_99e03e18e2 g_f6ec187804 hd_X8_map (rm_ok hf hl (by decide) (by decide)) rfl (vm_spec ez2).1 dL_law_276 rfl (stk' := [vi z2.1]) rfl ?_
  refine pw_aload_n (pc := 279) F dL_law_279 rfl ?_
  refine pw_sload_n (pc := 280) F dL_law_280 rfl ?_
  refine pw_iload_n (pc := 281) F dL_law_281 rfl ?_
  refine pw_iconst (pc := 282) F 1 dL_law_282 (by decide) ?_
  refine pw_iadd (pc := 283) F dL_law_283 ?_
  obtain ⟨x3, ex3, h⟩ := bnd h
  refine pw_sld (pc := 284) F hX dL_law_284 ex3 ?_
  obtain ⟨z4, ez4, h⟩ := bnd h
  refine pw_callV (pc := 285) (as := [vi x3]) (st := [vi z2.1]) (r := (some (vi z4.1))) F 26 9 (by decide) rfl (fun l => m_X9_map l p2 x3 z2.2 z4.1 z4.2 ez4) g_3aee4195e3 g_85c94c4c62 g_8dc5aa1b09 g_2759d91faa g_f074dd6393 hd_X9_map (rm_ok hf hl (by decide) (by decide)) rfl (vm_spec ez4).1 dL_law_285 rfl (stk' := [vi z4.1, vi z2.1]) rfl ?_
  refine pw_icmp_eq (pc := 288) F 1683 dL_law_288 (by decide) (fun hc => ?_) (fun hc => ?_)
  · have h := iteT hc h
    exact pw_mask [true, true, true, true] (ls' := [some (vsc (b : Int)), some (vr p1), some (vr p2), some (vi p3)]) rfl (jL_law_1683_ok F q hX hn hf hl self18 p1 p2 p3 z4.2 ih18 h)
  · have h := iteF hc h
    refine pw_iconst (pc := 291) F 0 dL_law_291 (by decide) ?_
    exact absurd h (by simp)
def jL_law_293 (X : List Int) (self18 : Int → PH → RO) (p1 p2 p3 : Int) (H : PH) : RO :=
  (sld X (w32 (p3 + 1))).bind fun x1 => (sld X (w32 (p3 + 2))).bind fun x2 => (sld X (w32 (p3 + 3))).bind fun x3 => (sld X (w32 (p3 + 4))).bind fun x4 => (sld X (w32 (p3 + 5))).bind fun x5 => (sld X (w32 (p3 + 6))).bind fun x6 => (f_X8_row p1 x1 (l_or (l_shl x2 32) (l_and x3 4294967295)) (l_or (l_shl x4 32) (l_and x5 4294967295)) x6 H).bind fun z7 => (sld X (w32 (p3 + 1))).bind fun x8 => (sld X (w32 (p3 + 2))).bind fun x9 => (sld X (w32 (p3 + 3))).bind fun x10 => (sld X (w32 (p3 + 4))).bind fun x11 => (sld X (w32 (p3 + 5))).bind fun x12 => (sld X (w32 (p3 + 6))).bind fun x13 => (f_X9_row p2 x8 (l_or (l_shl x9 32) (l_and x10 4294967295)) (l_or (l_shl x11 32) (l_and x12 4294967295)) x13 z7.2).bind fun z14 => (if z7.1 = z14.1 then jL_law_1683 X self18 p1 p2 p3 z14.2
  else some (0, z14.2))
set_option maxHeartbeats 4000000 in
theorem jL_law_293_ok {E : PE} {HH : PH} {X : List Int} {b : Nat} (F : FX E cL_law RL) (q : LQ E) (hX : SX E X b) (hn : nLof E = 4) (hf : (roomOf E).frames = 9) (hl : (roomOf E).locals = 340) (self18 : Int → PH → RO) (p1 p2 p3 : Int) (H : PH) (ih18 : ∀ (v3 : Int) (HV : PH), self18 v3 HV = some (1, HH) → PW E 18 [some (vsc (b : Int)), some (vr p1), some (vr p2), some (vi v3)] [] HV) (h : jL_law_293 X self18 p1 p2 p3 H = some (1, HH)) : PW E 293 [some (vsc (b : Int)), some (vr p1), some (vr p2), some (vi p3)] [] H := by
  unfold jL_law_293 at h
  refine pw_aload_n (pc := 293) F dL_law_293 rfl ?_
  refine pw_sload_n (pc := 294) F dL_law_294 rfl ?_
  refine pw_iload_n (pc := 295) F dL_law_295 rfl ?_
  refine pw_iconst (pc := 296) F 1 dL_law_296 (by decide) ?_
  refine pw_iadd (pc := 297) F dL_law_297 ?_
  obtain ⟨x1, ex1, h⟩ := bnd h
  refine pw_sld (pc := 298) F hX dL_law_298 ex1 ?_
  refine pw_sload_n (pc := 299) F dL_law_299 rfl ?_
  refine pw_iload_n (pc := 300) F dL_law_300 rfl ?_
  refine pw_iconst (pc := 301) F 2 dL_law_301 (by decide) ?_
  refine pw_iadd (pc := 302) F dL_law_302 ?_
  obtain ⟨x2, ex2, h⟩ := bnd h
  refine pw_sld (pc := 303) F hX dL_law_303 ex2 ?_
  refine pw_i2l (pc := 304) F dL_law_304 ?_
  refine pw_bipush (pc := 305) F 32 dL_law_305 (by decide) ?_
  refine pw_lshl (pc := 307) F dL_law_307 ?_
  refine pw_sload_n (pc := 308) F dL_law_308 rfl ?_
  refine pw_iload_n (pc := 309) F dL_law_309 rfl ?_
  refine pw_iconst (pc := 310) F 3 dL_law_310 (by decide) ?_
  refine pw_iadd (pc := 311) F dL_law_311 ?_
  obtain ⟨x3, ex3, h⟩ := bnd h
  refine pw_sld (pc := 312) F hX dL_law_312 ex3 ?_
  refine pw_i2l (pc := 313) F dL_law_313 ?_
  refine pw_ldc2 (pc := 314) F 4294967295 g_43fe78afc1 dL_law_314 (by decide) ?_
  refine pw_land (pc := 317) F dL_law_317 ?_
  refine pw_lor (pc := 318) F dL_law_318 ?_
  refine pw_sload_n (pc := 319) F dL_law_319 rfl ?_
  refine pw_iload_n (pc := 320) F dL_law_320 rfl ?_
  refine pw_iconst (pc := 321) F 4 dL_law_321 (by decide) ?_
  refine pw_iadd (pc := 322) F dL_law_322 ?_
  obtain ⟨x4, ex4, h⟩ := bnd h
  refine pw_sld (pc := 323) F hX dL_law_323 ex4 ?_
  refine pw_i2l (pc := 324) F dL_law_324 ?_
  refine pw_bipush (pc := 325) F 32 dL_law_325 (by decide) ?_
  refine pw_lshl (pc := 327) F dL_law_327 ?_
  refine pw_sload_n (pc := 328) F dL_law_328 rfl ?_
  refine pw_iload_n (pc := 329) F dL_law_329 rfl ?_
  refine pw_iconst (pc := 330) F 5 dL_law_330 (by decide) ?_
  refine pw_iadd (pc := 331) F dL_law_331 ?_
  obtain ⟨x5, ex5, h⟩ := bnd h
  refine pw_sld (pc := 332) F hX dL_law_332 ex5 ?_
  refine pw_i2l (pc := 333) F dL_law_333 ?_
  refine pw_ldc2 (pc := 334) F 4294967295 g_43fe78afc1 dL_law_334 (by decide) ?_
  refine pw_land (pc := 337) F dL_law_337 ?_
  refine pw_lor (pc := 338) F dL_law_338 ?_
  refine pw_sload_n (pc := 339) F dL_law_339 rfl ?_
  refine pw_iload_n (pc := 340) F dL_law_340 rfl ?_
  refine pw_bipush (pc := 341) F 6 dL_law_341 (by decide) ?_
  refine pw_iadd (pc := 343) F dL_law_343 ?_
  obtain ⟨x6, ex6, h⟩ := bnd h
  refine pw_sld (pc := 344) F hX dL_law_344 ex6 ?_
  obtain ⟨z7, ez7, h⟩ := bnd h
  refine pw_callV (pc := 345) (as := [vi x1, vl (l_or (l_shl x2 32) (l_and x3 4294967295)), vl (l_or (l_shl x4 32) (l_and x5 4294967295)), vi x6]) (st := []) (r := (some (vi z7.1))) F 29 8 (by decide) rfl (fun l => m_X8_row l p1 x1 (l_or (l_shl x2 32) (l_and x3 4294967295)) (l_or (l_shl x4 32) (l_and x5 4294967295)) x6 H z7.1 z7.2 ez7) g_7c048b336e g_e772ad9b30 g_2d5088c4ea g_99e03e18e2 g_6eabb2b94c hd_X8_row (rm_ok hf hl (by decide) (by decide)) rfl (vm_spec ez7).1 dL_law_345 rfl (stk' := [vi z7.1]) rfl ?_
  refine pw_aload_n (pc := 348) F dL_law_348 rfl ?_
  refine pw_sload_n (pc := 349) F dL_law_349 rfl ?_
  refine pw_iload_n (pc := 350) F dL_law_350 rfl ?_
  refine pw_iconst (pc := 351) F 1 dL_law_351 (by decide) ?_
  refine pw_iadd (pc := 352) F dL_law_352 ?_
  obtain ⟨x8, ex8, h⟩ := bnd h
  refine pw_sld (pc := 353) F hX dL_law_353 ex8 ?_
  refine pw_sload_n (pc := 354) F dL_law_354 rfl ?_
  refine pw_iload_n (pc := 355) F dL_law_355 rfl ?_
  refine pw_iconst (pc := 356) F 2 dL_law_356 (by decide) ?_
  refine pw_iadd (pc := 357) F dL_law_357 ?_
  obtain ⟨x9, ex9, h⟩ := bnd h
  refine pw_sld (pc := 358) F hX dL_law_358 ex9 ?_
  refine pw_i2l (pc := 359) F dL_law_359 ?_
  refine pw_bipush (pc := 360) F 32 dL_law_360 (by decide) ?_
  refine pw_lshl (pc := 362) F dL_law_362 ?_
  refine pw_sload_n (pc := 363) F dL_law_363 rfl ?_
  refine pw_iload_n (pc := 364) F dL_law_364 rfl ?_
  refine pw_iconst (pc := 365) F 3 dL_law_365 (by decide) ?_
  refine pw_iadd (pc := 366) F dL_law_366 ?_
  obtain ⟨x10, ex10, h⟩ := bnd h
  refine pw_sld (pc := 367) F hX dL_law_367 ex10 ?_
  refine pw_i2l (pc := 368) F dL_law_368 ?_
  refine pw_ldc2 (pc := 369) F 4294967295 g_43fe78afc1 dL_law_369 (by decide) ?_
  refine pw_land (pc := 372) F dL_law_372 ?_
  refine pw_lor (pc := 373) F dL_law_373 ?_
  refine pw_sload_n (pc := 374) F dL_law_374 rfl ?_
  refine pw_iload_n (pc := 375) F dL_law_375 rfl ?_
  refine pw_iconst (pc := 376) F 4 dL_law_376 (by decide) ?_
  refine pw_iadd (pc := 377) F dL_law_377 ?_
  obtain ⟨x11, ex11, h⟩ := bnd h
  refine pw_sld (pc := 378) F hX dL_law_378 ex11 ?_
  refine pw_i2l (pc := 379) F dL_law_379 ?_
  refine pw_bipush (pc := 380) F 32 dL_law_380 (by decide) ?_
  refine pw_lshl (pc := 382) F dL_law_382 ?_
  refine pw_sload_n (pc := 383) F dL_law_383 rfl ?_
  refine pw_iload_n (pc := 384) F dL_law_384 rfl ?_
  refine pw_iconst (pc := 385) F 5 dL_law_385 (by decide) ?_
  refine pw_iadd (pc := 386) F dL_law_386 ?_
  obtain ⟨x12, ex12, h⟩ := bnd h
  refine pw_sld (pc := 387) F hX dL_law_387 ex12 ?_
  refine pw_i2l (pc := 388) F dL_law_388 ?_
  refine pw_ldc2 (pc := 389) F 4294967295 g_43fe78afc1 dL_law_389 (by decide) ?_
  refine pw_land (pc := 392) F dL_law_392 ?_
  refine pw_lor (pc := 393) F dL_law_393 ?_
  refine pw_sload_n (pc := 394) F dL_law_394 rfl ?_
  refine pw_iload_n (pc := 395) F dL_law_395 rfl ?_
  refine pw_bipush (pc := 396) F 6 dL_law_396 (by decide) ?_
  refine pw_iadd (pc := 398) F dL_law_398 ?_
  obtain ⟨x13, ex13, h⟩ := bnd h
  refine pw_sld (pc := 399) F hX dL_law_399 ex13 ?_
  obtain ⟨z14, ez14, h⟩ := bnd h
  refine pw_callV (pc := 400) (as := [vi x8, vl (l_or (l_shl x9 32) (l_and x10 4294967295)), vl (l_or (l_shl x11 32) (l_and x12 4294967295)), vi x13]) (st := [vi z7.1]) (r := (some (vi z14.1))) F 33 9 (by decide) rfl (fun l => m_X9_row l p2 x8 (l_or (l_shl x9 32) (l_and x10 4294967295)) (l_or (l_shl x11 32) (l_and x12 4294967295)) x13 z7.2 z14.1 z14.2 ez14) g_0daeff380c g_5c3a1964c7 g_3e11c3cf6a g_2759d91faa g_fc3475c878 hd_X9_row (rm_ok hf hl (by decide) (by decide)) rfl (vm_spec ez14).1 dL_law_400 rfl (stk' := [vi z14.1, vi z7.1]) rfl ?_
  refine pw_icmp_eq (pc := 403) F 1683 dL_law_403 (by decide) (fun hc => ?_) (fun hc => ?_)
  · have h := iteT hc h
    exact pw_mask [true, true, true, true] (ls' := [some (vsc (b : Int)), some (vr p1), some (vr p2), some (vi p3)]) rfl (jL_law_1683_ok F q hX hn hf hl self18 p1 p2 p3 z14.2 ih18 h)
  · have h := iteF hc h
    refine pw_iconst (pc := 406) F 0 dL_law_406 (by decide) ?_
    exact absurd h (by simp)
def jL_law_408 (X : List Int) (self18 : Int → PH → RO) (p1 p2 p3 : Int) (H : PH) : RO :=
  (sld X (w32 (p3 + 1))).bind fun x1 => (sld X (w32 (p3 + 2))).bind fun x2 => (f_X8_howMany p1 x1 x2 H).bind fun z3 => (sld X (w32 (p3 + 1))).bind fun x4 => (sld X (w32 (p3 + 2))).bind fun x5 => (f_X9_howMany p2 x4 x5 z3.2).bind fun z6 => (if z3.1 = z6.1 then jL_law_1683 X self18 p1 p2 p3 z6.2
  else some (0, z6.2))
set_option maxHeartbeats 4000000 in
theorem jL_law_408_ok {E : PE} {HH : PH} {X : List Int} {b : Nat} (F : FX E cL_law RL) (q : LQ E) (hX : SX E X b) (hn : nLof E = 4) (hf : (roomOf E).frames = 9) (hl : (roomOf E).locals = 340) (self18 : Int → PH → RO) (p1 p2 p3 : Int) (H : PH) (ih18 : ∀ (v3 : Int) (HV : PH), self18 v3 HV = some (1, HH) → PW E 18 [some (vsc (b : Int)), some (vr p1), some (vr p2), some (vi v3)] [] HV) (h : jL_law_408 X self18 p1 p2 p3 H = some (1, HH)) : PW E 408 [some (vsc (b : Int)), some (vr p1), some (vr p2), some (vi p3)] [] H := by
  unfold jL_law_408 at h
  refine pw_aload_n (pc := 408) F dL_law_408 rfl ?_
  refine pw_sload_n (pc := 409) F dL_law_409 rfl ?_
  refine pw_iload_n (pc := 410) F dL_law_410 rfl ?_
  refine pw_iconst (pc := 411) F 1 dL_law_411 (by decide) ?_
  refine pw_iadd (pc := 412) F dL_law_412 ?_
  obtain ⟨x1, ex1, h⟩ := bnd h
  refine pw_sld (pc := 413) F hX dL_law_413 ex1 ?_
  refine pw_sload_n (pc := 414) F dL_law_414 rfl ?_
  refine pw_iload_n (pc := 415) F dL_law_415 rfl ?_
  refine pw_iconst (pc := 416) F 2 dL_law_416 (by decide) ?_
  refine pw_iadd (pc := 417) F dL_law_417 ?_
  obtain ⟨x2, ex2, h⟩ := bnd h
  refine pw_sld (pc := 418) F hX dL_law_418 ex2 ?_
  obtain ⟨z3, ez3, h⟩ := bnd h
  refine pw_callV (pc := 419) (as := [vi x1, vi x2]) (st := []) (r := (some (vi z3.1))) F 34 8 (by decide) rfl (fun l => m_X8_howMany l p1 x1 x2 H z3.1 z3.2 ez3) g_b69dc9c4b6 g_8ddf1cb354 g_34735d3792 g_99e03e18e2 g_a5bc2533ad hd_X8_howMany (rm_ok hf hl (by decide) (by decide)) rfl (vm_spec ez3).1 dL_law_419 rfl (stk' := [vi z3.1]) rfl ?_
  refine pw_aload_n (pc := 422) F dL_law_422 rfl ?_
  refine pw_sload_n (pc := 423) F dL_law_423 rfl ?_
  refine pw_iload_n (pc := 424) F dL_law_424 rfl ?_
  refine pw_iconst (pc := 425) F 1 dL_law_425 (by decide) ?_
  refine pw_iadd (pc := 426) F dL_law_426 ?_
  obtain ⟨x4, ex4, h⟩ := bnd h
  refine pw_sld (pc := 427) F hX dL_law_427 ex4 ?_
  refine pw_sload_n (pc := 428) F dL_law_428 rfl ?_
  refine pw_iload_n (pc := 429) F dL_law_429 rfl ?_
  refine pw_iconst (pc := 430) F 2 dL_law_430 (by decide) ?_
  refine pw_iadd (pc := 431) F dL_law_431 ?_
  obtain ⟨x5, ex5, h⟩ := bnd h
  refine pw_sld (pc := 432) F hX dL_law_432 ex5 ?_
  obtain ⟨z6, ez6, h⟩ := bnd h
  refine pw_callV (pc := 433) (as := [vi x4, vi x5]) (st := [vi z3.1]) (r := (some (vi z6.1))) F 37 9 (by decide) rfl (fun l => m_X9_howMany l p2 x4 x5 z3.2 z6.1 z6.2 ez6) g_278db470f1 g_b1dfbe4a48 g_863389ae9e g_2759d91faa g_dcf7c08615 hd_X9_howMany (rm_ok hf hl (by decide) (by decide)) rfl (vm_spec ez6).1 dL_law_433 rfl (stk' := [vi z6.1, vi z3.1]) rfl ?_
  refine pw_icmp_eq (pc := 436) F 1683 dL_law_436 (by decide) (fun hc => ?_) (fun hc => ?_)
  · have h := iteT hc h
    exact pw_mask [true, true, true, true] (ls' := [some (vsc (b : Int)), some (vr p1), some (vr p2), some (vi p3)]) rfl (jL_law_1683_ok F q hX hn hf hl self18 p1 p2 p3 z6.2 ih18 h)
  · have h := iteF hc h
    refine pw_iconst (pc := 439) F 0 dL_law_439 (by decide) ?_
    exact absurd h (by simp)
def jL_law_441 (X : List Int) (self18 : Int → PH → RO) (p1 p2 p3 : Int) (H : PH) : RO :=
  (sld X (w32 (p3 + 1))).bind fun x1 => (f_X8_sum p1 x1 H).bind fun z2 => (sld X (w32 (p3 + 1))).bind fun x3 => (f_X9_sum p2 x3 z2.2).bind fun z4 => (if z2.1 = z4.1 then jL_law_1683 X self18 p1 p2 p3 z4.2
  else some (0, z4.2))
set_option maxHeartbeats 4000000 in
theorem jL_law_441_ok {E : PE} {HH : PH} {X : List Int} {b : Nat} (F : FX E cL_law RL) (q : LQ E) (hX : SX E X b) (hn : nLof E = 4) (hf : (roomOf E).frames = 9) (hl : (roomOf E).locals = 340) (self18 : Int → PH → RO) (p1 p2 p3 : Int) (H : PH) (ih18 : ∀ (v3 : Int) (HV : PH), self18 v3 HV = some (1, HH) → PW E 18 [some (vsc (b : Int)), some (vr p1), some (vr p2), some (vi v3)] [] HV) (h : jL_law_441 X self18 p1 p2 p3 H = some (1, HH)) : PW E 441 [some (vsc (b : Int)), some (vr p1), some (vr p2), some (vi p3)] [] H := by
  unfold jL_law_441 at h
  refine pw_aload_n (pc := 441) F dL_law_441 rfl ?_
  refine pw_sload_n (pc := 442) F dL_law_442 rfl ?_
  refine pw_iload_n (pc := 443) F dL_law_443 rfl ?_
  refine pw_iconst (pc := 444) F 1 dL_law_444 (by decide) ?_
  refine pw_iadd (pc := 445) F dL_law_445 ?_
  obtain ⟨x1, ex1, h⟩ := bnd h
  refine pw_sld (pc := 446) F hX dL_law_446 ex1 ?_
  obtain ⟨z2, ez2, h⟩ := bnd h
  refine pw_callV (pc := 447) (as := [vi x1]) (st := []) (r := (some (vi z2.1))) F 38 8 (by decide) rfl (fun l => m_X8_sum l p1 x1 H z2.1 z2.2 ez2) g_c86c9bf0a0 g_77c9695c96 g_34456015e6 g_99e03e18e2 g_59a5c956b5 hd_X8_sum (rm_ok hf hl (by decide) (by decide)) rfl (vm_spec ez2).1 dL_law_447 rfl (stk' := [vi z2.1]) rfl ?_
  refine pw_aload_n (pc := 450) F dL_law_450 rfl ?_
  refine pw_sload_n (pc := 451) F dL_law_451 rfl ?_
  refine pw_iload_n (pc := 452) F dL_law_452 rfl ?_
  refine pw_iconst (pc := 453) F 1 dL_law_453 (by decide) ?_
  refine pw_iadd (pc := 454) F dL_law_454 ?_
  obtain ⟨x3, ex3, h⟩ := bnd h
  refine pw_sld (pc := 455) F hX dL_law_455 ex3 ?_
  obtain ⟨z4, ez4, h⟩ := bnd h
  refine pw_callV (pc := 456) (as := [vi x3]) (st := [vi z2.1]) (r := (some (vi z4.1))) F 41 9 (by decide) rfl (fun l => m_X9_sum l p2 x3 z2.2 z4.1 z4.2 ez4) g_76af7cb5d1 g_db63430ef8 g_6b9f322899 g_2759d91faa g_220b575e4c hd_X9_sum (rm_ok hf hl (by decide) (by decide)) rfl (vm_spec ez4).1 dL_law_456 rfl (stk' := [vi z4.1, vi z2.1]) rfl ?_
  refine pw_icmp_eq (pc := 459) F 1683 dL_law_459 (by decide) (fun hc => ?_) (fun hc => ?_)
  · have h := iteT hc h
    exact pw_mask [true, true, true, true] (ls' := [some (vsc (b : Int)), some (vr p1), some (vr p2), some (vi p3)]) rfl (jL_law_1683_ok F q hX hn hf hl self18 p1 p2 p3 z4.2 ih18 h)
  · have h := iteF hc h
    refine pw_iconst (pc := 462) F 0 dL_law_462 (by decide) ?_
    exact absurd h (by simp)
def jL_law_464 (X : List Int) (self18 : Int → PH → RO) (p1 p2 p3 : Int) (H : PH) : RO :=
  (sld X (w32 (p3 + 1))).bind fun x1 => (sld X (w32 (p3 + 2))).bind fun x2 => (f_X8_of p1 x1 x2 H).bind fun z3 => (sld X (w32 (p3 + 1))).bind fun x4 => (sld X (w32 (p3 + 2))).bind fun x5 => (f_X9_of p2 x4 x5 z3.2).bind fun z6 => (if z3.1 = z6.1 then jL_law_1683 X self18 p1 p2 p3 z6.2
  else some (0, z6.2))
set_option maxHeartbeats 4000000 in
theorem jL_law_464_ok {E : PE} {HH : PH} {X : List Int} {b : Nat} (F : FX E cL_law RL) (q : LQ E) (hX : SX E X b) (hn : nLof E = 4) (hf : (roomOf E).frames = 9) (hl : (roomOf E).locals = 340) (self18 : Int → PH → RO) (p1 p2 p3 : Int) (H : PH) (ih18 : ∀ (v3 : Int) (HV : PH), self18 v3 HV = some (1, HH) → PW E 18 [some (vsc (b : Int)), some (vr p1), some (vr p2), some (vi v3)] [] HV) (h : jL_law_464 X self18 p1 p2 p3 H = some (1, HH)) : PW E 464 [some (vsc (b : Int)), some (vr p1), some (vr p2), some (vi p3)] [] H := by
  unfold jL_law_464 at h
  refine pw_aload_n (pc := 464) F dL_law_464 rfl ?_
  refine pw_sload_n (pc := 465) F dL_law_465 rfl ?_
  refine pw_iload_n (pc := 466) F dL_law_466 rfl ?_
  refine pw_iconst (pc := 467) F 1 dL_law_467 (by decide) ?_
  refine pw_iadd (pc := 468) F dL_law_468 ?_
  obtain ⟨x1, ex1, h⟩ := bnd h
  refine pw_sld (pc := 469) F hX dL_law_469 ex1 ?_
  refine pw_sload_n (pc := 470) F dL_law_470 rfl ?_
  refine pw_iload_n (pc := 471) F dL_law_471 rfl ?_
  refine pw_iconst (pc := 472) F 2 dL_law_472 (by decide) ?_
  refine pw_iadd (pc := 473) F dL_law_473 ?_
  obtain ⟨x2, ex2, h⟩ := bnd h
  refine pw_sld (pc := 474) F hX dL_law_474 ex2 ?_
  obtain ⟨z3, ez3, h⟩ := bnd h
  refine pw_callV (pc := 475) (as := [vi x1, vi x2]) (st := []) (r := (some (vi z3.1))) F 42 8 (by decide) rfl (fun l => m_X8_of l p1 x1 x2 H z3.1 z3.2 ez3) g_a3f4122397 g_c700b942d7 g_2ced8736aa g_99e03e18e2 g_c0206da740 hd_X8_of (rm_ok hf hl (by decide) (by decide)) rfl (vm_spec ez3).1 dL_law_475 rfl (stk' := [vi z3.1]) rfl ?_
  refine pw_aload_n (pc := 478) F dL_law_478 rfl ?_
  refine pw_sload_n (pc := 479) F dL_law_479 rfl ?_
  refine pw_iload_n (pc := 480) F dL_law_480 rfl ?_
  refine pw_iconst (pc := 481) F 1 dL_law_481 (by decide) ?_
  refine pw_iadd (pc := 482) F dL_law_482 ?_
  obtain ⟨x4, ex4, h⟩ := bnd h
  refine pw_sld (pc := 483) F hX dL_law_483 ex4 ?_
  refine pw_sload_n (pc := 484) F dL_law_484 rfl ?_
  refine pw_iload_n (pc := 485) F dL_law_485 rfl ?_
  refine pw_iconst (pc := 486) F 2 dL_law_486 (by decide) ?_
  refine pw_iadd (pc := 487) F dL_law_487 ?_
  obtain ⟨x5, ex5, h⟩ := bnd h
  refine pw_sld (pc := 488) F hX dL_law_488 ex5 ?_
  obtain ⟨z6, ez6, h⟩ := bnd h
  refine pw_callV (pc := 489) (as := [vi x4, vi x5]) (st := [vi z3.1]) (r := (some (vi z6.1))) F 45 9 (by decide) rfl (fun l => m_X9_of l p2 x4 x5 z3.2 z6.1 z6.2 ez6) g_f05faf9c27 g_f074d3bf53 g_6e3bdc8150 g_2759d91faa g_3397f3daa4 hd_X9_of (rm_ok hf hl (by decide) (by decide)) rfl (vm_spec ez6).1 dL_law_489 rfl (stk' := [vi z6.1, vi z3.1]) rfl ?_
  refine pw_icmp_eq (pc := 492) F 1683 dL_law_492 (by decide) (fun hc => ?_) (fun hc => ?_)
  · have h := iteT hc h
    exact pw_mask [true, true, true, true] (ls' := [some (vsc (b : Int)), some (vr p1), some (vr p2), some (vi p3)]) rfl (jL_law_1683_ok F q hX hn hf hl self18 p1 p2 p3 z6.2 ih18 h)
  · have h := iteF hc h
    refine pw_iconst (pc := 495) F 0 dL_law_495 (by decide) ?_
    exact absurd h (by simp)
def jL_law_497 (X : List Int) (self18 : Int → PH → RO) (p1 p2 p3 : Int) (H : PH) : RO :=
  (sld X (w32 (p3 + 1))).bind fun x1 => (sld X (w32 (p3 + 2))).bind fun x2 => (f_X8_codeAt p1 x1 x2 H).bind fun z3 => (sld X (w32 (p3 + 1))).bind fun x4 => (sld X (w32 (p3 + 2))).bind fun x5 => (f_X9_codeAt p2 x4 x5 z3.2).bind fun z6 => (if z3.1 = z6.1 then jL_law_1683 X self18 p1 p2 p3 z6.2
  else some (0, z6.2))
set_option maxHeartbeats 4000000 in
theorem jL_law_497_ok {E : PE} {HH : PH} {X : List Int} {b : Nat} (F : FX E cL_law RL) (q : LQ E) (hX : SX E X b) (hn : nLof E = 4) (hf : (roomOf E).frames = 9) (hl : (roomOf E).locals = 340) (self18 : Int → PH → RO) (p1 p2 p3 : Int) (H : PH) (ih18 : ∀ (v3 : Int) (HV : PH), self18 v3 HV = some (1, HH) → PW E 18 [some (vsc (b : Int)), some (vr p1), some (vr p2), some (vi v3)] [] HV) (h : jL_law_497 X self18 p1 p2 p3 H = some (1, HH)) : PW E 497 [some (vsc (b : Int)), some (vr p1), some (vr p2), some (vi p3)] [] H := by
  unfold jL_law_497 at h
  refine pw_aload_n (pc := 497) F dL_law_497 rfl ?_
  refine pw_sload_n (pc := 498) F dL_law_498 rfl ?_
  refine pw_iload_n (pc := 499) F dL_law_499 rfl ?_
  refine pw_iconst (pc := 500) F 1 dL_law_500 (by decide) ?_
  refine pw_iadd (pc := 501) F dL_law_501 ?_
  obtain ⟨x1, ex1, h⟩ := bnd h
  refine pw_sld (pc := 502) F hX dL_law_502 ex1 ?_
  refine pw_sload_n (pc := 503) F dL_law_503 rfl ?_
  refine pw_iload_n (pc := 504) F dL_law_504 rfl ?_
  refine pw_iconst (pc := 505) F 2 dL_law_505 (by decide) ?_
  refine pw_iadd (pc := 506) F dL_law_506 ?_
  obtain ⟨x2, ex2, h⟩ := bnd h
  refine pw_sld (pc := 507) F hX dL_law_507 ex2 ?_
  obtain ⟨z3, ez3, h⟩ := bnd h
  refine pw_callV (pc := 508) (as := [vi x1, vi x2]) (st := []) (r := (some (vi z3.1))) F 46 8 (by decide) rfl (fun l => m_X8_codeAt l p1 x1 x2 H z3.1 z3.2 ez3) g_f8ffd9f5ca g_6cb7aaa1c8 g_7078e863e0 g_99e03e18e2 g_bd2a765198 hd_X8_codeAt (rm_ok hf hl (by decide) (by decide)) rfl (vm_spec ez3).1 dL_law_508 rfl (stk' := [vi z3.1]) rfl ?_
  refine pw_aload_n (pc := 511) F dL_law_511 rfl ?_
  refine pw_sload_n (pc := 512) F dL_law_512 rfl ?_
  refine pw_iload_n (pc := 513) F dL_law_513 rfl ?_
  refine pw_iconst (pc := 514) F 1 dL_law_514 (by decide) ?_
  refine pw_iadd (pc := 515) F dL_law_515 ?_
  obtain ⟨x4, ex4, h⟩ := bnd h
  refine pw_sld (pc := 516) F hX dL_law_516 ex4 ?_
  refine pw_sload_n (pc := 517) F dL_law_517 rfl ?_
  refine pw_iload_n (pc := 518) F dL_law_518 rfl ?_
  refine pw_iconst (pc := 519) F 2 dL_law_519 (by decide) ?_
  refine pw_iadd (pc := 520) F dL_law_520 ?_
  obtain ⟨x5, ex5, h⟩ := bnd h
  refine pw_sld (pc := 521) F hX dL_law_521 ex5 ?_
  obtain ⟨z6, ez6, h⟩ := bnd h
  refine pw_callV (pc := 522) (as := [vi x4, vi x5]) (st := [vi z3.1]) (r := (some (vi z6.1))) F 49 9 (by decide) rfl (fun l => m_X9_codeAt l p2 x4 x5 z3.2 z6.1 z6.2 ez6) g_ab9b13f194 g_759609eafa g_540ac93b49 g_2759d91faa g_7742e67ff0 hd_X9_codeAt (rm_ok hf hl (by decide) (by decide)) rfl (vm_spec ez6).1 dL_law_522 rfl (stk' := [vi z6.1, vi z3.1]) rfl ?_
  refine pw_icmp_eq (pc := 525) F 1683 dL_law_525 (by decide) (fun hc => ?_) (fun hc => ?_)
  · have h := iteT hc h
    exact pw_mask [true, true, true, true] (ls' := [some (vsc (b : Int)), some (vr p1), some (vr p2), some (vi p3)]) rfl (jL_law_1683_ok F q hX hn hf hl self18 p1 p2 p3 z6.2 ih18 h)
  · have h := iteF hc h
    refine pw_iconst (pc := 528) F 0 dL_law_528 (by decide) ?_
    exact absurd h (by simp)
def jL_law_530 (X : List Int) (self18 : Int → PH → RO) (p1 p2 p3 : Int) (H : PH) : RO :=
  (f_X8_household p1 H).bind fun z1 => (f_X9_household p2 z1.2).bind fun z2 => (if z1.1 = z2.1 then jL_law_1683 X self18 p1 p2 p3 z2.2
  else some (0, z2.2))
set_option maxHeartbeats 4000000 in
theorem jL_law_530_ok {E : PE} {HH : PH} {X : List Int} {b : Nat} (F : FX E cL_law RL) (q : LQ E) (hX : SX E X b) (hn : nLof E = 4) (hf : (roomOf E).frames = 9) (hl : (roomOf E).locals = 340) (self18 : Int → PH → RO) (p1 p2 p3 : Int) (H : PH) (ih18 : ∀ (v3 : Int) (HV : PH), self18 v3 HV = some (1, HH) → PW E 18 [some (vsc (b : Int)), some (vr p1), some (vr p2), some (vi v3)] [] HV) (h : jL_law_530 X self18 p1 p2 p3 H = some (1, HH)) : PW E 530 [some (vsc (b : Int)), some (vr p1), some (vr p2), some (vi p3)] [] H := by
  unfold jL_law_530 at h
  refine pw_aload_n (pc := 530) F dL_law_530 rfl ?_
  obtain ⟨z1, ez1, h⟩ := bnd h
  refine pw_callV (pc := 531) (as := []) (st := []) (r := (some (vi z1.1))) F 50 8 (by decide) rfl (fun l => m_X8_household l p1 H z1.1 z1.2 ez1) g_ccb0d51b94 g_382d6cc99a g_a3d875409a g_99e03e18e2 g_ffc987a674 hd_X8_household (rm_ok hf hl (by decide) (by decide)) rfl (vm_spec ez1).1 dL_law_531 rfl (stk' := [vi z1.1]) rfl ?_
  refine pw_aload_n (pc := 534) F dL_law_534 rfl ?_
  obtain ⟨z2, ez2, h⟩ := bnd h
  refine pw_callV (pc := 535) (as := []) (st := [vi z1.1]) (r := (some (vi z2.1))) F 54 9 (by decide) rfl (fun l => m_X9_household l p2 z1.2 z2.1 z2.2 ez2) g_b701a98322 g_fcaecaa078 g_2e9f054e56 g_2759d91faa g_7a4e1588f7 hd_X9_household (rm_ok hf hl (by decide) (by decide)) rfl (vm_spec ez2).1 dL_law_535 rfl (stk' := [vi z2.1, vi z1.1]) rfl ?_
  refine pw_icmp_eq (pc := 538) F 1683 dL_law_538 (by decide) (fun hc => ?_) (fun hc => ?_)
  · have h := iteT hc h
    exact pw_mask [true, true, true, true] (ls' := [some (vsc (b : Int)), some (vr p1), some (vr p2), some (vi p3)]) rfl (jL_law_1683_ok F q hX hn hf hl self18 p1 p2 p3 z2.2 ih18 h)
  · have h := iteF hc h
    refine pw_iconst (pc := 541) F 0 dL_law_541 (by decide) ?_
    exact absurd h (by simp)
def jL_law_543 (X : List Int) (self18 : Int → PH → RO) (p1 p2 p3 : Int) (H : PH) : RO :=
  (sld X (w32 (p3 + 1))).bind fun x1 => (sld X (w32 (p3 + 2))).bind fun x2 => (sld X (w32 (p3 + 3))).bind fun x3 => (sld X (w32 (p3 + 4))).bind fun x4 => (sld X (w32 (p3 + 5))).bind fun x5 => (f_X8_answer p1 x1 x2 x3 (l_or (l_shl x4 32) (l_and x5 4294967295)) H).bind fun z6 => (sld X (w32 (p3 + 1))).bind fun x7 => (sld X (w32 (p3 + 2))).bind fun x8 => (sld X (w32 (p3 + 3))).bind fun x9 => (sld X (w32 (p3 + 4))).bind fun x10 => (sld X (w32 (p3 + 5))).bind fun x11 => (f_X9_answer p2 x7 x8 x9 (l_or (l_shl x10 32) (l_and x11 4294967295)) z6.2).bind fun z12 => (if z6.1 = z12.1 then jL_law_1683 X self18 p1 p2 p3 z12.2
  else some (0, z12.2))
set_option maxHeartbeats 4000000 in
theorem jL_law_543_ok {E : PE} {HH : PH} {X : List Int} {b : Nat} (F : FX E cL_law RL) (q : LQ E) (hX : SX E X b) (hn : nLof E = 4) (hf : (roomOf E).frames = 9) (hl : (roomOf E).locals = 340) (self18 : Int → PH → RO) (p1 p2 p3 : Int) (H : PH) (ih18 : ∀ (v3 : Int) (HV : PH), self18 v3 HV = some (1, HH) → PW E 18 [some (vsc (b : Int)), some (vr p1), some (vr p2), some (vi v3)] [] HV) (h : jL_law_543 X self18 p1 p2 p3 H = some (1, HH)) : PW E 543 [some (vsc (b : Int)), some (vr p1), some (vr p2), some (vi p3)] [] H := by
  unfold jL_law_543 at h
  refine pw_aload_n (pc := 543) F dL_law_543 rfl ?_
  refine pw_sload_n (pc := 544) F dL_law_544 rfl ?_
  refine pw_iload_n (pc := 545) F dL_law_545 rfl ?_
  refine pw_iconst (pc := 546) F 1 dL_law_546 (by decide) ?_
  refine pw_iadd (pc := 547) F dL_law_547 ?_
  obtain ⟨x1, ex1, h⟩ := bnd h
  refine pw_sld (pc := 548) F hX dL_law_548 ex1 ?_
  refine pw_sload_n (pc := 549) F dL_law_549 rfl ?_
  refine pw_iload_n (pc := 550) F dL_law_550 rfl ?_
  refine pw_iconst (pc := 551) F 2 dL_law_551 (by decide) ?_
  refine pw_iadd (pc := 552) F dL_law_552 ?_
  obtain ⟨x2, ex2, h⟩ := bnd h
  refine pw_sld (pc := 553) F hX dL_law_553 ex2 ?_
  refine pw_sload_n (pc := 554) F dL_law_554 rfl ?_
  refine pw_iload_n (pc := 555) F dL_law_555 rfl ?_
  refine pw_iconst (pc := 556) F 3 dL_law_556 (by decide) ?_
  refine pw_iadd (pc := 557) F dL_law_557 ?_
  obtain ⟨x3, ex3, h⟩ := bnd h
  refine pw_sld (pc := 558) F hX dL_law_558 ex3 ?_
  refine pw_sload_n (pc := 559) F dL_law_559 rfl ?_
  refine pw_iload_n (pc := 560) F dL_law_560 rfl ?_
  refine pw_iconst (pc := 561) F 4 dL_law_561 (by decide) ?_
  refine pw_iadd (pc := 562) F dL_law_562 ?_
  obtain ⟨x4, ex4, h⟩ := bnd h
  refine pw_sld (pc := 563) F hX dL_law_563 ex4 ?_
  refine pw_i2l (pc := 564) F dL_law_564 ?_
  refine pw_bipush (pc := 565) F 32 dL_law_565 (by decide) ?_
  refine pw_lshl (pc := 567) F dL_law_567 ?_
  refine pw_sload_n (pc := 568) F dL_law_568 rfl ?_
  refine pw_iload_n (pc := 569) F dL_law_569 rfl ?_
  refine pw_iconst (pc := 570) F 5 dL_law_570 (by decide) ?_
  refine pw_iadd (pc := 571) F dL_law_571 ?_
  obtain ⟨x5, ex5, h⟩ := bnd h
  refine pw_sld (pc := 572) F hX dL_law_572 ex5 ?_
  refine pw_i2l (pc := 573) F dL_law_573 ?_
  refine pw_ldc2 (pc := 574) F 4294967295 g_43fe78afc1 dL_law_574 (by decide) ?_
  refine pw_land (pc := 577) F dL_law_577 ?_
  refine pw_lor (pc := 578) F dL_law_578 ?_
  obtain ⟨z6, ez6, h⟩ := bnd h
  refine pw_callV (pc := 579) (as := [vi x1, vi x2, vi x3, vl (l_or (l_shl x4 32) (l_and x5 4294967295))]) (st := []) (r := (some (vi z6.1))) F 55 8 (by decide) rfl (fun l => m_X8_answer l p1 x1 x2 x3 (l_or (l_shl x4 32) (l_and x5 4294967295)) H z6.1 z6.2 ez6) g_7595aaceb7 g_dc676d0b53 g_7b93b7eccd g_99e03e18e2 g_d00d8f8688 hd_X8_answer (rm_ok hf hl (by decide) (by decide)) rfl (vm_spec ez6).1 dL_law_579 rfl (stk' := [vi z6.1]) rfl ?_
  refine pw_aload_n (pc := 582) F dL_law_582 rfl ?_
  refine pw_sload_n (pc := 583) F dL_law_583 rfl ?_
  refine pw_iload_n (pc := 584) F dL_law_584 rfl ?_
  refine pw_iconst (pc := 585) F 1 dL_law_585 (by decide) ?_
  refine pw_iadd (pc := 586) F dL_law_586 ?_
  obtain ⟨x7, ex7, h⟩ := bnd h
  refine pw_sld (pc := 587) F hX dL_law_587 ex7 ?_
  refine pw_sload_n (pc := 588) F dL_law_588 rfl ?_
  refine pw_iload_n (pc := 589) F dL_law_589 rfl ?_
  refine pw_iconst (pc := 590) F 2 dL_law_590 (by decide) ?_
  refine pw_iadd (pc := 591) F dL_law_591 ?_
  obtain ⟨x8, ex8, h⟩ := bnd h
  refine pw_sld (pc := 592) F hX dL_law_592 ex8 ?_
  refine pw_sload_n (pc := 593) F dL_law_593 rfl ?_
  refine pw_iload_n (pc := 594) F dL_law_594 rfl ?_
  refine pw_iconst (pc := 595) F 3 dL_law_595 (by decide) ?_
  refine pw_iadd (pc := 596) F dL_law_596 ?_
  obtain ⟨x9, ex9, h⟩ := bnd h
  refine pw_sld (pc := 597) F hX dL_law_597 ex9 ?_
  refine pw_sload_n (pc := 598) F dL_law_598 rfl ?_
  refine pw_iload_n (pc := 599) F dL_law_599 rfl ?_
  refine pw_iconst (pc := 600) F 4 dL_law_600 (by decide) ?_
  refine pw_iadd (pc := 601) F dL_law_601 ?_
  obtain ⟨x10, ex10, h⟩ := bnd h
  refine pw_sld (pc := 602) F hX dL_law_602 ex10 ?_
  refine pw_i2l (pc := 603) F dL_law_603 ?_
  refine pw_bipush (pc := 604) F 32 dL_law_604 (by decide) ?_
  refine pw_lshl (pc := 606) F dL_law_606 ?_
  refine pw_sload_n (pc := 607) F dL_law_607 rfl ?_
  refine pw_iload_n (pc := 608) F dL_law_608 rfl ?_
  refine pw_iconst (pc := 609) F 5 dL_law_609 (by decide) ?_
  refine pw_iadd (pc := 610) F dL_law_610 ?_
  obtain ⟨x11, ex11, h⟩ := bnd h
  refine pw_sld (pc := 611) F hX dL_law_611 ex11 ?_
  refine pw_i2l (pc := 612) F dL_law_612 ?_
  refine pw_ldc2 (pc := 613) F 4294967295 g_43fe78afc1 dL_law_613 (by decide) ?_
  refine pw_land (pc := 616) F dL_law_616 ?_
  refine pw_lor (pc := 617) F dL_law_617 ?_
  obtain ⟨z12, ez12, h⟩ := bnd h
  refine pw_callV (pc := 618) (as := [vi x7, vi x8, vi x9, vl (l_or (l_shl x10 32) (l_and x11 4294967295))]) (st := [vi z6.1]) (r := (some (vi z12.1))) F 59 9 (by decide) rfl (fun l => m_X9_answer l p2 x7 x8 x9 (l_or (l_shl x10 32) (l_and x11 4294967295)) z6.2 z12.1 z12.2 ez12) g_6402dd8ac8 g_8e39c186cc g_d6ca9615b2 g_2759d91faa g_a7fcabc008 hd_X9_answer (rm_ok hf hl (by decide) (by decide)) rfl (vm_spec ez12).1 dL_law_618 rfl (stk' := [vi z12.1, vi z6.1]) rfl ?_
  refine pw_icmp_eq (pc := 621) F 1683 dL_law_621 (by decide) (fun hc => ?_) (fun hc => ?_)
  · have h := iteT hc h
    exact pw_mask [true, true, true, true] (ls' := [some (vsc (b : Int)), some (vr p1), some (vr p2), some (vi p3)]) rfl (jL_law_1683_ok F q hX hn hf hl self18 p1 p2 p3 z12.2 ih18 h)
  · have h := iteF hc h
    refine pw_iconst (pc := 624) F 0 dL_law_624 (by decide) ?_
    exact absurd h (by simp)
def jL_law_626 (X : List Int) (self18 : Int → PH → RO) (p1 p2 p3 : Int) (H : PH) : RO :=
  (sld X (w32 (p3 + 1))).bind fun x1 => (sld X (w32 (p3 + 2))).bind fun x2 => (sld X (w32 (p3 + 3))).bind fun x3 => (sld X (w32 (p3 + 4))).bind fun x4 => (f_X8_missing p1 x1 x2 x3 x4 H).bind fun z5 => (sld X (w32 (p3 + 1))).bind fun x6 => (sld X (w32 (p3 + 2))).bind fun x7 => (sld X (w32 (p3 + 3))).bind fun x8 => (sld X (w32 (p3 + 4))).bind fun x9 => (f_X9_missing p2 x6 x7 x8 x9 z5.2).bind fun z10 => (if z5.1 = z10.1 then jL_law_1683 X self18 p1 p2 p3 z10.2
  else some (0, z10.2))
set_option maxHeartbeats 4000000 in
theorem jL_law_626_ok {E : PE} {HH : PH} {X : List Int} {b : Nat} (F : FX E cL_law RL) (q : LQ E) (hX : SX E X b) (hn : nLof E = 4) (hf : (roomOf E).frames = 9) (hl : (roomOf E).locals = 340) (self18 : Int → PH → RO) (p1 p2 p3 : Int) (H : PH) (ih18 : ∀ (v3 : Int) (HV : PH), self18 v3 HV = some (1, HH) → PW E 18 [some (vsc (b : Int)), some (vr p1), some (vr p2), some (vi v3)] [] HV) (h : jL_law_626 X self18 p1 p2 p3 H = some (1, HH)) : PW E 626 [some (vsc (b : Int)), some (vr p1), some (vr p2), some (vi p3)] [] H := by
  unfold jL_law_626 at h
  refine pw_aload_n (pc := 626) F dL_law_626 rfl ?_
  refine pw_sload_n (pc := 627) F dL_law_627 rfl ?_
  refine pw_iload_n (pc := 628) F dL_law_628 rfl ?_
  refine pw_iconst (pc := 629) F 1 dL_law_629 (by decide) ?_
  refine pw_iadd (pc := 630) F dL_law_630 ?_
  obtain ⟨x1, ex1, h⟩ := bnd h
  refine pw_sld (pc := 631) F hX dL_law_631 ex1 ?_
  refine pw_sload_n (pc := 632) F dL_law_632 rfl ?_
  refine pw_iload_n (pc := 633) F dL_law_633 rfl ?_
  refine pw_iconst (pc := 634) F 2 dL_law_634 (by decide) ?_
  refine pw_iadd (pc := 635) F dL_law_635 ?_
  obtain ⟨x2, ex2, h⟩ := bnd h
  refine pw_sld (pc := 636) F hX dL_law_636 ex2 ?_
  refine pw_sload_n (pc := 637) F dL_law_637 rfl ?_
  refine pw_iload_n (pc := 638) F dL_law_638 rfl ?_
  refine pw_iconst (pc := 639) F 3 dL_law_639 (by decide) ?_
  refine pw_iadd (pc := 640) F dL_law_640 ?_
  obtain ⟨x3, ex3, h⟩ := bnd h
  refine pw_sld (pc := 641) F hX dL_law_641 ex3 ?_
  refine pw_sload_n (pc := 642) F dL_law_642 rfl ?_
  refine pw_iload_n (pc := 643) F dL_law_643 rfl ?_
  refine pw_iconst (pc := 644) F 4 dL_law_644 (by decide) ?_
  refine pw_iadd (pc := 645) F dL_law_645 ?_
  obtain ⟨x4, ex4, h⟩ := bnd h
  refine pw_sld (pc := 646) F hX dL_law_646 ex4 ?_
  obtain ⟨z5, ez5, h⟩ := bnd h
  refine pw_callV (pc := 647) (as := [vi x1, vi x2, vi x3, vi x4]) (st := []) (r := (some (vi z5.1))) F 60 8 (by decide) rfl (fun l => m_X8_missing l p1 x1 x2 x3 x4 H z5.1 z5.2 ez5) g_b30eb52de6 g_2f2afe3a8f g_eb571f0fd9 g_99e03e18e2 g_e11414d7e5 hd_X8_missing (rm_ok hf hl (by decide) (by decide)) rfl (vm_spec ez5).1 dL_law_647 rfl (stk' := [vi z5.1]) rfl ?_
  refine pw_aload_n (pc := 650) F dL_law_650 rfl ?_
  refine pw_sload_n (pc := 651) F dL_law_651 rfl ?_
  refine pw_iload_n (pc := 652) F dL_law_652 rfl ?_
  refine pw_iconst (pc := 653) F 1 dL_law_653 (by decide) ?_
  refine pw_iadd (pc := 654) F dL_law_654 ?_
  obtain ⟨x6, ex6, h⟩ := bnd h
  refine pw_sld (pc := 655) F hX dL_law_655 ex6 ?_
  refine pw_sload_n (pc := 656) F dL_law_656 rfl ?_
  refine pw_iload_n (pc := 657) F dL_law_657 rfl ?_
  refine pw_iconst (pc := 658) F 2 dL_law_658 (by decide) ?_
  refine pw_iadd (pc := 659) F dL_law_659 ?_
  obtain ⟨x7, ex7, h⟩ := bnd h
  refine pw_sld (pc := 660) F hX dL_law_660 ex7 ?_
  refine pw_sload_n (pc := 661) F dL_law_661 rfl ?_
  refine pw_iload_n (pc := 662) F dL_law_662 rfl ?_
  refine pw_iconst (pc := 663) F 3 dL_law_663 (by decide) ?_
  refine pw_iadd (pc := 664) F dL_law_664 ?_
  obtain ⟨x8, ex8, h⟩ := bnd h
  refine pw_sld (pc := 665) F hX dL_law_665 ex8 ?_
  refine pw_sload_n (pc := 666) F dL_law_666 rfl ?_
  refine pw_iload_n (pc := 667) F dL_law_667 rfl ?_
  refine pw_iconst (pc := 668) F 4 dL_law_668 (by decide) ?_
  refine pw_iadd (pc := 669) F dL_law_669 ?_
  obtain ⟨x9, ex9, h⟩ := bnd h
  refine pw_sld (pc := 670) F hX dL_law_670 ex9 ?_
  obtain ⟨z10, ez10, h⟩ := bnd h
  refine pw_callV (pc := 671) (as := [vi x6, vi x7, vi x8, vi x9]) (st := [vi z5.1]) (r := (some (vi z10.1))) F 64 9 (by decide) rfl (fun l => m_X9_missing l p2 x6 x7 x8 x9 z5.2 z10.1 z10.2 ez10) g_9147f10f83 g_28b26e7ba8 g_c3a386c4b3 g_2759d91faa g_f262072e8c hd_X9_missing (rm_ok hf hl (by decide) (by decide)) rfl (vm_spec ez10).1 dL_law_671 rfl (stk' := [vi z10.1, vi z5.1]) rfl ?_
  refine pw_icmp_eq (pc := 674) F 1683 dL_law_674 (by decide) (fun hc => ?_) (fun hc => ?_)
  · have h := iteT hc h
    exact pw_mask [true, true, true, true] (ls' := [some (vsc (b : Int)), some (vr p1), some (vr p2), some (vi p3)]) rfl (jL_law_1683_ok F q hX hn hf hl self18 p1 p2 p3 z10.2 ih18 h)
  · have h := iteF hc h
    refine pw_iconst (pc := 677) F 0 dL_law_677 (by decide) ?_
    exact absurd h (by simp)
def jL_law_679 (X : List Int) (self18 : Int → PH → RO) (p1 p2 p3 : Int) (H : PH) : RO :=
  (sld X (w32 (p3 + 1))).bind fun x1 => (sld X (w32 (p3 + 2))).bind fun x2 => (sld X (w32 (p3 + 3))).bind fun x3 => (f_X8_value p1 x1 x2 x3 H).bind fun z4 => (sld X (w32 (p3 + 1))).bind fun x5 => (sld X (w32 (p3 + 2))).bind fun x6 => (sld X (w32 (p3 + 3))).bind fun x7 => (f_X9_value p2 x5 x6 x7 z4.2).bind fun z8 => (if (lc z4.1 z8.1) = 0 then jL_law_1683 X self18 p1 p2 p3 z8.2
  else some (0, z8.2))
set_option maxHeartbeats 4000000 in
theorem jL_law_679_ok {E : PE} {HH : PH} {X : List Int} {b : Nat} (F : FX E cL_law RL) (q : LQ E) (hX : SX E X b) (hn : nLof E = 4) (hf : (roomOf E).frames = 9) (hl : (roomOf E).locals = 340) (self18 : Int → PH → RO) (p1 p2 p3 : Int) (H : PH) (ih18 : ∀ (v3 : Int) (HV : PH), self18 v3 HV = some (1, HH) → PW E 18 [some (vsc (b : Int)), some (vr p1), some (vr p2), some (vi v3)] [] HV) (h : jL_law_679 X self18 p1 p2 p3 H = some (1, HH)) : PW E 679 [some (vsc (b : Int)), some (vr p1), some (vr p2), some (vi p3)] [] H := by
  unfold jL_law_679 at h
  refine pw_aload_n (pc := 679) F dL_law_679 rfl ?_
  refine pw_sload_n (pc := 680) F dL_law_680 rfl ?_
  refine pw_iload_n (pc := 681) F dL_law_681 rfl ?_
  refine pw_iconst (pc := 682) F 1 dL_law_682 (by decide) ?_
  refine pw_iadd (pc := 683) F dL_law_683 ?_
  obtain ⟨x1, ex1, h⟩ := bnd h
  refine pw_sld (pc := 684) F hX dL_law_684 ex1 ?_
  refine pw_sload_n (pc := 685) F dL_law_685 rfl ?_
  refine pw_iload_n (pc := 686) F dL_law_686 rfl ?_
  refine pw_iconst (pc := 687) F 2 dL_law_687 (by decide) ?_
  refine pw_iadd (pc := 688) F dL_law_688 ?_
  obtain ⟨x2, ex2, h⟩ := bnd h
  refine pw_sld (pc := 689) F hX dL_law_689 ex2 ?_
  refine pw_sload_n (pc := 690) F dL_law_690 rfl ?_
  refine pw_iload_n (pc := 691) F dL_law_691 rfl ?_
  refine pw_iconst (pc := 692) F 3 dL_law_692 (by decide) ?_
  refine pw_iadd (pc := 693) F dL_law_693 ?_
  obtain ⟨x3, ex3, h⟩ := bnd h
  refine pw_sld (pc := 694) F hX dL_law_694 ex3 ?_
  obtain ⟨z4, ez4, h⟩ := bnd h
  refine pw_callV (pc := 695) (as := [vi x1, vi x2, vi x3]) (st := []) (r := (some (vl z4.1))) F 65 8 (by decide) rfl (fun l => m_X8_value l p1 x1 x2 x3 H z4.1 z4.2 ez4) g_2147dbed7a g_ead482e815 g_3154ed7155 g_99e03e18e2 g_b175eafde4 hd_X8_value (rm_ok hf hl (by decide) (by decide)) rfl (vm_spec ez4).1 dL_law_695 rfl (stk' := [vl z4.1]) rfl ?_
  refine pw_aload_n (pc := 698) F dL_law_698 rfl ?_
  refine pw_sload_n (pc := 699) F dL_law_699 rfl ?_
  refine pw_iload_n (pc := 700) F dL_law_700 rfl ?_
  refine pw_iconst (pc := 701) F 1 dL_law_701 (by decide) ?_
  refine pw_iadd (pc := 702) F dL_law_702 ?_
  obtain ⟨x5, ex5, h⟩ := bnd h
  refine pw_sld (pc := 703) F hX dL_law_703 ex5 ?_
  refine pw_sload_n (pc := 704) F dL_law_704 rfl ?_
  refine pw_iload_n (pc := 705) F dL_law_705 rfl ?_
  refine pw_iconst (pc := 706) F 2 dL_law_706 (by decide) ?_
  refine pw_iadd (pc := 707) F dL_law_707 ?_
  obtain ⟨x6, ex6, h⟩ := bnd h
  refine pw_sld (pc := 708) F hX dL_law_708 ex6 ?_
  refine pw_sload_n (pc := 709) F dL_law_709 rfl ?_
  refine pw_iload_n (pc := 710) F dL_law_710 rfl ?_
  refine pw_iconst (pc := 711) F 3 dL_law_711 (by decide) ?_
  refine pw_iadd (pc := 712) F dL_law_712 ?_
  obtain ⟨x7, ex7, h⟩ := bnd h
  refine pw_sld (pc := 713) F hX dL_law_713 ex7 ?_
  obtain ⟨z8, ez8, h⟩ := bnd h
  refine pw_callV (pc := 714) (as := [vi x5, vi x6, vi x7]) (st := [vl z4.1]) (r := (some (vl z8.1))) F 69 9 (by decide) rfl (fun l => m_X9_value l p2 x5 x6 x7 z4.2 z8.1 z8.2 ez8) g_ef33679ee3 g_048320dc9f g_0245f72d7e g_2759d91faa g_992cd4a7ec hd_X9_value (rm_ok hf hl (by decide) (by decide)) rfl (vm_spec ez8).1 dL_law_714 rfl (stk' := [vl z8.1, vl z4.1]) rfl ?_
  refine pw_lcmp (pc := 717) F dL_law_717 ?_
  refine pw_if_eq (pc := 718) F 1683 dL_law_718 (by decide) (fun hc => ?_) (fun hc => ?_)
  · have h := iteT hc h
    exact pw_mask [true, true, true, true] (ls' := [some (vsc (b : Int)), some (vr p1), some (vr p2), some (vi p3)]) rfl (jL_law_1683_ok F q hX hn hf hl self18 p1 p2 p3 z8.2 ih18 h)
  · have h := iteF hc h
    refine pw_iconst (pc := 721) F 0 dL_law_721 (by decide) ?_
    exact absurd h (by simp)
def jL_law_723 (X : List Int) (self18 : Int → PH → RO) (p1 p2 p3 : Int) (H : PH) : RO :=
  (sld X (w32 (p3 + 1))).bind fun x1 => (sld X (w32 (p3 + 2))).bind fun x2 => (sld X (w32 (p3 + 3))).bind fun x3 => (f_X8_reason p1 x1 x2 x3 H).bind fun z4 => (sld X (w32 (p3 + 1))).bind fun x5 => (sld X (w32 (p3 + 2))).bind fun x6 => (sld X (w32 (p3 + 3))).bind fun x7 => (f_X9_reason p2 x5 x6 x7 z4.2).bind fun z8 => (if z4.1 = z8.1 then jL_law_1683 X self18 p1 p2 p3 z8.2
  else some (0, z8.2))
set_option maxHeartbeats 4000000 in
theorem jL_law_723_ok {E : PE} {HH : PH} {X : List Int} {b : Nat} (F : FX E cL_law RL) (q : LQ E) (hX : SX E X b) (hn : nLof E = 4) (hf : (roomOf E).frames = 9) (hl : (roomOf E).locals = 340) (self18 : Int → PH → RO) (p1 p2 p3 : Int) (H : PH) (ih18 : ∀ (v3 : Int) (HV : PH), self18 v3 HV = some (1, HH) → PW E 18 [some (vsc (b : Int)), some (vr p1), some (vr p2), some (vi v3)] [] HV) (h : jL_law_723 X self18 p1 p2 p3 H = some (1, HH)) : PW E 723 [some (vsc (b : Int)), some (vr p1), some (vr p2), some (vi p3)] [] H := by
  unfold jL_law_723 at h
  refine pw_aload_n (pc := 723) F dL_law_723 rfl ?_
  refine pw_sload_n (pc := 724) F dL_law_724 rfl ?_
  refine pw_iload_n (pc := 725) F dL_law_725 rfl ?_
  refine pw_iconst (pc := 726) F 1 dL_law_726 (by decide) ?_
  refine pw_iadd (pc := 727) F dL_law_727 ?_
  obtain ⟨x1, ex1, h⟩ := bnd h
  refine pw_sld (pc := 728) F hX dL_law_728 ex1 ?_
  refine pw_sload_n (pc := 729) F dL_law_729 rfl ?_
  refine pw_iload_n (pc := 730) F dL_law_730 rfl ?_
  refine pw_iconst (pc := 731) F 2 dL_law_731 (by decide) ?_
  refine pw_iadd (pc := 732) F dL_law_732 ?_
  obtain ⟨x2, ex2, h⟩ := bnd h
  refine pw_sld (pc := 733) F hX dL_law_733 ex2 ?_
  refine pw_sload_n (pc := 734) F dL_law_734 rfl ?_
  refine pw_iload_n (pc := 735) F dL_law_735 rfl ?_
  refine pw_iconst (pc := 736) F 3 dL_law_736 (by decide) ?_
  refine pw_iadd (pc := 737) F dL_law_737 ?_
  obtain ⟨x3, ex3, h⟩ := bnd h
  refine pw_sld (pc := 738) F hX dL_law_738 ex3 ?_
  obtain ⟨z4, ez4, h⟩ := bnd h
  refine pw_callV (pc := 739) (as := [vi x1, vi x2, vi x3]) (st := []) (r := (some (vi z4.1))) F 70 8 (by decide) rfl (fun l => m_X8_reason l p1 x1 x2 x3 H z4.1 z4.2 ez4) g_8133151682 g_7144696cbe g_3479a24089 g_99e03e18e2 g_a3098498e9 hd_X8_reason (rm_ok hf hl (by decide) (by decide)) rfl (vm_spec ez4).1 dL_law_739 rfl (stk' := [vi z4.1]) rfl ?_
  refine pw_aload_n (pc := 742) F dL_law_742 rfl ?_
  refine pw_sload_n (pc := 743) F dL_law_743 rfl ?_
  refine pw_iload_n (pc := 744) F dL_law_744 rfl ?_
  refine pw_iconst (pc := 745) F 1 dL_law_745 (by decide) ?_
  refine pw_iadd (pc := 746) F dL_law_746 ?_
  obtain ⟨x5, ex5, h⟩ := bnd h
  refine pw_sld (pc := 747) F hX dL_law_747 ex5 ?_
  refine pw_sload_n (pc := 748) F dL_law_748 rfl ?_
  refine pw_iload_n (pc := 749) F dL_law_749 rfl ?_
  refine pw_iconst (pc := 750) F 2 dL_law_750 (by decide) ?_
  refine pw_iadd (pc := 751) F dL_law_751 ?_
  obtain ⟨x6, ex6, h⟩ := bnd h
  refine pw_sld (pc := 752) F hX dL_law_752 ex6 ?_
  refine pw_sload_n (pc := 753) F dL_law_753 rfl ?_
  refine pw_iload_n (pc := 754) F dL_law_754 rfl ?_
  refine pw_iconst (pc := 755) F 3 dL_law_755 (by decide) ?_
  refine pw_iadd (pc := 756) F dL_law_756 ?_
  obtain ⟨x7, ex7, h⟩ := bnd h
  refine pw_sld (pc := 757) F hX dL_law_757 ex7 ?_
  obtain ⟨z8, ez8, h⟩ := bnd h
  refine pw_callV (pc := 758) (as := [vi x5, vi x6, vi x7]) (st := [vi z4.1]) (r := (some (vi z8.1))) F 74 9 (by decide) rfl (fun l => m_X9_reason l p2 x5 x6 x7 z4.2 z8.1 z8.2 ez8) g_17b13cbb39 g_a3d48b501e g_517630615f g_2759d91faa g_ca9bcd27b5 hd_X9_reason (rm_ok hf hl (by decide) (by decide)) rfl (vm_spec ez8).1 dL_law_758 rfl (stk' := [vi z8.1, vi z4.1]) rfl ?_
  refine pw_icmp_eq (pc := 761) F 1683 dL_law_761 (by decide) (fun hc => ?_) (fun hc => ?_)
  · have h := iteT hc h
    exact pw_mask [true, true, true, true] (ls' := [some (vsc (b : Int)), some (vr p1), some (vr p2), some (vi p3)]) rfl (jL_law_1683_ok F q hX hn hf hl self18 p1 p2 p3 z8.2 ih18 h)
  · have h := iteF hc h
    refine pw_iconst (pc := 764) F 0 dL_law_764 (by decide) ?_
    exact absurd h (by simp)
def jL_law_766 (X : List Int) (self18 : Int → PH → RO) (p1 p2 p3 : Int) (H : PH) : RO :=
  (sld X (w32 (p3 + 1))).bind fun x1 => (sld X (w32 (p3 + 2))).bind fun x2 => (sld X (w32 (p3 + 3))).bind fun x3 => (sld X (w32 (p3 + 4))).bind fun x4 => (f_X8_ask p1 x1 x2 (l_or (l_shl x3 32) (l_and x4 4294967295)) H).bind fun z5 => (sld X (w32 (p3 + 1))).bind fun x6 => (sld X (w32 (p3 + 2))).bind fun x7 => (sld X (w32 (p3 + 3))).bind fun x8 => (sld X (w32 (p3 + 4))).bind fun x9 => (f_X9_ask p2 x6 x7 (l_or (l_shl x8 32) (l_and x9 4294967295)) z5.2).bind fun z10 => (if z5.1 = z10.1 then jL_law_1683 X self18 p1 p2 p3 z10.2
  else some (0, z10.2))
set_option maxHeartbeats 4000000 in
theorem jL_law_766_ok {E : PE} {HH : PH} {X : List Int} {b : Nat} (F : FX E cL_law RL) (q : LQ E) (hX : SX E X b) (hn : nLof E = 4) (hf : (roomOf E).frames = 9) (hl : (roomOf E).locals = 340) (self18 : Int → PH → RO) (p1 p2 p3 : Int) (H : PH) (ih18 : ∀ (v3 : Int) (HV : PH), self18 v3 HV = some (1, HH) → PW E 18 [some (vsc (b : Int)), some (vr p1), some (vr p2), some (vi v3)] [] HV) (h : jL_law_766 X self18 p1 p2 p3 H = some (1, HH)) : PW E 766 [some (vsc (b : Int)), some (vr p1), some (vr p2), some (vi p3)] [] H := by
  unfold jL_law_766 at h
  refine pw_aload_n (pc := 766) F dL_law_766 rfl ?_
  refine pw_sload_n (pc := 767) F dL_law_767 rfl ?_
  refine pw_iload_n (pc := 768) F dL_law_768 rfl ?_
  refine pw_iconst (pc := 769) F 1 dL_law_769 (by decide) ?_
  refine pw_iadd (pc := 770) F dL_law_770 ?_
  obtain ⟨x1, ex1, h⟩ := bnd h
  refine pw_sld (pc := 771) F hX dL_law_771 ex1 ?_
  refine pw_sload_n (pc := 772) F dL_law_772 rfl ?_
  refine pw_iload_n (pc := 773) F dL_law_773 rfl ?_
  refine pw_iconst (pc := 774) F 2 dL_law_774 (by decide) ?_
  refine pw_iadd (pc := 775) F dL_law_775 ?_
  obtain ⟨x2, ex2, h⟩ := bnd h
  refine pw_sld (pc := 776) F hX dL_law_776 ex2 ?_
  refine pw_sload_n (pc := 777) F dL_law_777 rfl ?_
  refine pw_iload_n (pc := 778) F dL_law_778 rfl ?_
  refine pw_iconst (pc := 779) F 3 dL_law_779 (by decide) ?_
  refine pw_iadd (pc := 780) F dL_law_780 ?_
  obtain ⟨x3, ex3, h⟩ := bnd h
  refine pw_sld (pc := 781) F hX dL_law_781 ex3 ?_
  refine pw_i2l (pc := 782) F dL_law_782 ?_
  refine pw_bipush (pc := 783) F 32 dL_law_783 (by decide) ?_
  refine pw_lshl (pc := 785) F dL_law_785 ?_
  refine pw_sload_n (pc := 786) F dL_law_786 rfl ?_
  refine pw_iload_n (pc := 787) F dL_law_787 rfl ?_
  refine pw_iconst (pc := 788) F 4 dL_law_788 (by decide) ?_
  refine pw_iadd (pc := 789) F dL_law_789 ?_
  obtain ⟨x4, ex4, h⟩ := bnd h
  refine pw_sld (pc := 790) F hX dL_law_790 ex4 ?_
  refine pw_i2l (pc := 791) F dL_law_791 ?_
  refine pw_ldc2 (pc := 792) F 4294967295 g_43fe78afc1 dL_law_792 (by decide) ?_
  refine pw_land (pc := 795) F dL_law_795 ?_
  refine pw_lor (pc := 796) F dL_law_796 ?_
  obtain ⟨z5, ez5, h⟩ := bnd h
  refine pw_callV (pc := 797) (as := [vi x1, vi x2, vl (l_or (l_shl x3 32) (l_and x4 4294967295))]) (st := []) (r := (some (vi z5.1))) F 75 8 (by decide) rfl (fun l => m_X8_ask l p1 x1 x2 (l_or (l_shl x3 32) (l_and x4 4294967295)) H z5.1 z5.2 ez5) g_32282cb9ca g_d55432d80b g_5149e515b1 g_99e03e18e2 g_c09e99af63 hd_X8_ask (rm_ok hf hl (by decide) (by decide)) rfl (vm_spec ez5).1 dL_law_797 rfl (stk' := [vi z5.1]) rfl ?_
  refine pw_aload_n (pc := 800) F dL_law_800 rfl ?_
  refine pw_sload_n (pc := 801) F dL_law_801 rfl ?_
  refine pw_iload_n (pc := 802) F dL_law_802 rfl ?_
  refine pw_iconst (pc := 803) F 1 dL_law_803 (by decide) ?_
  refine pw_iadd (pc := 804) F dL_law_804 ?_
  obtain ⟨x6, ex6, h⟩ := bnd h
  refine pw_sld (pc := 805) F hX dL_law_805 ex6 ?_
  refine pw_sload_n (pc := 806) F dL_law_806 rfl ?_
  refine pw_iload_n (pc := 807) F dL_law_807 rfl ?_
  refine pw_iconst (pc := 808) F 2 dL_law_808 (by decide) ?_
  refine pw_iadd (pc := 809) F dL_law_809 ?_
  obtain ⟨x7, ex7, h⟩ := bnd h
  refine pw_sld (pc := 810) F hX dL_law_810 ex7 ?_
  refine pw_sload_n (pc := 811) F dL_law_811 rfl ?_
  refine pw_iload_n (pc := 812) F dL_law_812 rfl ?_
  refine pw_iconst (pc := 813) F 3 dL_law_813 (by decide) ?_
  refine pw_iadd (pc := 814) F dL_law_814 ?_
  obtain ⟨x8, ex8, h⟩ := bnd h
  refine pw_sld (pc := 815) F hX dL_law_815 ex8 ?_
  refine pw_i2l (pc := 816) F dL_law_816 ?_
  refine pw_bipush (pc := 817) F 32 dL_law_817 (by decide) ?_
  refine pw_lshl (pc := 819) F dL_law_819 ?_
  refine pw_sload_n (pc := 820) F dL_law_820 rfl ?_
  refine pw_iload_n (pc := 821) F dL_law_821 rfl ?_
  refine pw_iconst (pc := 822) F 4 dL_law_822 (by decide) ?_
  refine pw_iadd (pc := 823) F dL_law_823 ?_
  obtain ⟨x9, ex9, h⟩ := bnd h
  refine pw_sld (pc := 824) F hX dL_law_824 ex9 ?_
  refine pw_i2l (pc := 825) F dL_law_825 ?_
  refine pw_ldc2 (pc := 826) F 4294967295 g_43fe78afc1 dL_law_826 (by decide) ?_
  refine pw_land (pc := 829) F dL_law_829 ?_
  refine pw_lor (pc := 830) F dL_law_830 ?_
  obtain ⟨z10, ez10, h⟩ := bnd h
  refine pw_callV (pc := 831) (as := [vi x6, vi x7, vl (l_or (l_shl x8 32) (l_and x9 4294967295))]) (st := [vi z5.1]) (r := (some (vi z10.1))) F 79 9 (by decide) rfl (fun l => m_X9_ask l p2 x6 x7 (l_or (l_shl x8 32) (l_and x9 4294967295)) z5.2 z10.1 z10.2 ez10) g_90abb03242 g_19ddbf76ec g_2569536e67 g_2759d91faa g_c51804cfff hd_X9_ask (rm_ok hf hl (by decide) (by decide)) rfl (vm_spec ez10).1 dL_law_831 rfl (stk' := [vi z10.1, vi z5.1]) rfl ?_
  refine pw_icmp_eq (pc := 834) F 1683 dL_law_834 (by decide) (fun hc => ?_) (fun hc => ?_)
  · have h := iteT hc h
    exact pw_mask [true, true, true, true] (ls' := [some (vsc (b : Int)), some (vr p1), some (vr p2), some (vi p3)]) rfl (jL_law_1683_ok F q hX hn hf hl self18 p1 p2 p3 z10.2 ih18 h)
  · have h := iteF hc h
    refine pw_iconst (pc := 837) F 0 dL_law_837 (by decide) ?_
    exact absurd h (by simp)
def jL_law_839 (X : List Int) (self18 : Int → PH → RO) (p1 p2 p3 : Int) (H : PH) : RO :=
  (sld X (w32 (p3 + 1))).bind fun x1 => (sld X (w32 (p3 + 2))).bind fun x2 => (sld X (w32 (p3 + 3))).bind fun x3 => (f_X8_logic p1 x1 x2 x3 H).bind fun z4 => (sld X (w32 (p3 + 1))).bind fun x5 => (sld X (w32 (p3 + 2))).bind fun x6 => (sld X (w32 (p3 + 3))).bind fun x7 => (f_X9_logic p2 x5 x6 x7 z4.2).bind fun z8 => (if z4.1 = z8.1 then jL_law_1683 X self18 p1 p2 p3 z8.2
  else some (0, z8.2))
set_option maxHeartbeats 4000000 in
theorem jL_law_839_ok {E : PE} {HH : PH} {X : List Int} {b : Nat} (F : FX E cL_law RL) (q : LQ E) (hX : SX E X b) (hn : nLof E = 4) (hf : (roomOf E).frames = 9) (hl : (roomOf E).locals = 340) (self18 : Int → PH → RO) (p1 p2 p3 : Int) (H : PH) (ih18 : ∀ (v3 : Int) (HV : PH), self18 v3 HV = some (1, HH) → PW E 18 [some (vsc (b : Int)), some (vr p1), some (vr p2), some (vi v3)] [] HV) (h : jL_law_839 X self18 p1 p2 p3 H = some (1, HH)) : PW E 839 [some (vsc (b : Int)), some (vr p1), some (vr p2), some (vi p3)] [] H := by
  unfold jL_law_839 at h
  refine pw_aload_n (pc := 839) F dL_law_839 rfl ?_
  refine pw_sload_n (pc := 840) F dL_law_840 rfl ?_
  refine pw_iload_n (pc := 841) F dL_law_841 rfl ?_
  refine pw_iconst (pc := 842) F 1 dL_law_842 (by decide) ?_
  refine pw_iadd (pc := 843) F dL_law_843 ?_
  obtain ⟨x1, ex1, h⟩ := bnd h
  refine pw_sld (pc := 844) F hX dL_law_844 ex1 ?_
  refine pw_sload_n (pc := 845) F dL_law_845 rfl ?_
  refine pw_iload_n (pc := 846) F dL_law_846 rfl ?_
  refine pw_iconst (pc := 847) F 2 dL_law_847 (by decide) ?_
  refine pw_iadd (pc := 848) F dL_law_848 ?_
  obtain ⟨x2, ex2, h⟩ := bnd h
  refine pw_sld (pc := 849) F hX dL_law_849 ex2 ?_
  refine pw_sload_n (pc := 850) F dL_law_850 rfl ?_
  refine pw_iload_n (pc := 851) F dL_law_851 rfl ?_
  refine pw_iconst (pc := 852) F 3 dL_law_852 (by decide) ?_
  refine pw_iadd (pc := 853) F dL_law_853 ?_
  obtain ⟨x3, ex3, h⟩ := bnd h
  refine pw_sld (pc := 854) F hX dL_law_854 ex3 ?_
  obtain ⟨z4, ez4, h⟩ := bnd h
  refine pw_callV (pc := 855) (as := [vi x1, vi x2, vi x3]) (st := []) (r := (some (vi z4.1))) F 80 8 (by decide) rfl (fun l => m_X8_logic l p1 x1 x2 x3 H z4.1 z4.2 ez4) g_d4ba0104f3 g_d3636836c8 g_a2dc2b74af g_99e03e18e2 g_80aa71fe17 hd_X8_logic (rm_ok hf hl (by decide) (by decide)) rfl (vm_spec ez4).1 dL_law_855 rfl (stk' := [vi z4.1]) rfl ?_
  refine pw_aload_n (pc := 858) F dL_law_858 rfl ?_
  refine pw_sload_n (pc := 859) F dL_law_859 rfl ?_
  refine pw_iload_n (pc := 860) F dL_law_860 rfl ?_
  refine pw_iconst (pc := 861) F 1 dL_law_861 (by decide) ?_
  refine pw_iadd (pc := 862) F dL_law_862 ?_
  obtain ⟨x5, ex5, h⟩ := bnd h
  refine pw_sld (pc := 863) F hX dL_law_863 ex5 ?_
  refine pw_sload_n (pc := 864) F dL_law_864 rfl ?_
  refine pw_iload_n (pc := 865) F dL_law_865 rfl ?_
  refine pw_iconst (pc := 866) F 2 dL_law_866 (by decide) ?_
  refine pw_iadd (pc := 867) F dL_law_867 ?_
  obtain ⟨x6, ex6, h⟩ := bnd h
  refine pw_sld (pc := 868) F hX dL_law_868 ex6 ?_
  refine pw_sload_n (pc := 869) F dL_law_869 rfl ?_
  refine pw_iload_n (pc := 870) F dL_law_870 rfl ?_
  refine pw_iconst (pc := 871) F 3 dL_law_871 (by decide) ?_
  refine pw_iadd (pc := 872) F dL_law_872 ?_
  obtain ⟨x7, ex7, h⟩ := bnd h
  refine pw_sld (pc := 873) F hX dL_law_873 ex7 ?_
  obtain ⟨z8, ez8, h⟩ := bnd h
  refine pw_callV (pc := 874) (as := [vi x5, vi x6, vi x7]) (st := [vi z4.1]) (r := (some (vi z8.1))) F 83 9 (by decide) rfl (fun l => m_X9_logic l p2 x5 x6 x7 z4.2 z8.1 z8.2 ez8) g_18314ef235 g_bcdd775117 g_d4325ef891 g_2759d91faa g_505537938c hd_X9_logic (rm_ok hf hl (by decide) (by decide)) rfl (vm_spec ez8).1 dL_law_874 rfl (stk' := [vi z8.1, vi z4.1]) rfl ?_
  refine pw_icmp_eq (pc := 877) F 1683 dL_law_877 (by decide) (fun hc => ?_) (fun hc => ?_)
  · have h := iteT hc h
    exact pw_mask [true, true, true, true] (ls' := [some (vsc (b : Int)), some (vr p1), some (vr p2), some (vi p3)]) rfl (jL_law_1683_ok F q hX hn hf hl self18 p1 p2 p3 z8.2 ih18 h)
  · have h := iteF hc h
    refine pw_iconst (pc := 880) F 0 dL_law_880 (by decide) ?_
    exact absurd h (by simp)
def jL_law_882 (X : List Int) (self18 : Int → PH → RO) (p1 p2 p3 : Int) (H : PH) : RO :=
  (sld X (w32 (p3 + 1))).bind fun x1 => (sld X (w32 (p3 + 2))).bind fun x2 => (f_X8_some p1 x1 x2 H).bind fun z3 => (sld X (w32 (p3 + 1))).bind fun x4 => (sld X (w32 (p3 + 2))).bind fun x5 => (f_X9_some p2 x4 x5 z3.2).bind fun z6 => (if z3.1 = z6.1 then jL_law_1683 X self18 p1 p2 p3 z6.2
  else some (0, z6.2))
set_option maxHeartbeats 4000000 in
theorem jL_law_882_ok {E : PE} {HH : PH} {X : List Int} {b : Nat} (F : FX E cL_law RL) (q : LQ E) (hX : SX E X b) (hn : nLof E = 4) (hf : (roomOf E).frames = 9) (hl : (roomOf E).locals = 340) (self18 : Int → PH → RO) (p1 p2 p3 : Int) (H : PH) (ih18 : ∀ (v3 : Int) (HV : PH), self18 v3 HV = some (1, HH) → PW E 18 [some (vsc (b : Int)), some (vr p1), some (vr p2), some (vi v3)] [] HV) (h : jL_law_882 X self18 p1 p2 p3 H = some (1, HH)) : PW E 882 [some (vsc (b : Int)), some (vr p1), some (vr p2), some (vi p3)] [] H := by
  unfold jL_law_882 at h
  refine pw_aload_n (pc := 882) F dL_law_882 rfl ?_
  refine pw_sload_n (pc := 883) F dL_law_883 rfl ?_
  refine pw_iload_n (pc := 884) F dL_law_884 rfl ?_
  refine pw_iconst (pc := 885) F 1 dL_law_885 (by decide) ?_
  refine pw_iadd (pc := 886) F dL_law_886 ?_
  obtain ⟨x1, ex1, h⟩ := bnd h
  refine pw_sld (pc := 887) F hX dL_law_887 ex1 ?_
  refine pw_sload_n (pc := 888) F dL_law_888 rfl ?_
  refine pw_iload_n (pc := 889) F dL_law_889 rfl ?_
  refine pw_iconst (pc := 890) F 2 dL_law_890 (by decide) ?_
  refine pw_iadd (pc := 891) F dL_law_891 ?_
  obtain ⟨x2, ex2, h⟩ := bnd h
  refine pw_sld (pc := 892) F hX dL_law_892 ex2 ?_
  obtain ⟨z3, ez3, h⟩ := bnd h
  refine pw_callV (pc := 893) (as := [vi x1, vi x2]) (st := []) (r := (some (vi z3.1))) F 84 8 (by decide) rfl (fun l => m_X8_some l p1 x1 x2 H z3.1 z3.2 ez3) g_a038f30057 g_55d2747cc0 g_3138a224c9 g_99e03e18e2 g_395b874517 hd_X8_some (rm_ok hf hl (by decide) (by decide)) rfl (vm_spec ez3).1 dL_law_893 rfl (stk' := [vi z3.1]) rfl ?_
  refine pw_aload_n (pc := 896) F dL_law_896 rfl ?_
  refine pw_sload_n (pc := 897) F dL_law_897 rfl ?_
  refine pw_iload_n (pc := 898) F dL_law_898 rfl ?_
  refine pw_iconst (pc := 899) F 1 dL_law_899 (by decide) ?_
  refine pw_iadd (pc := 900) F dL_law_900 ?_
  obtain ⟨x4, ex4, h⟩ := bnd h
  refine pw_sld (pc := 901) F hX dL_law_901 ex4 ?_
  refine pw_sload_n (pc := 902) F dL_law_902 rfl ?_
  refine pw_iload_n (pc := 903) F dL_law_903 rfl ?_
  refine pw_iconst (pc := 904) F 2 dL_law_904 (by decide) ?_
  refine pw_iadd (pc := 905) F dL_law_905 ?_
  obtain ⟨x5, ex5, h⟩ := bnd h
  refine pw_sld (pc := 906) F hX dL_law_906 ex5 ?_
  obtain ⟨z6, ez6, h⟩ := bnd h
  refine pw_callV (pc := 907) (as := [vi x4, vi x5]) (st := [vi z3.1]) (r := (some (vi z6.1))) F 87 9 (by decide) rfl (fun l => m_X9_some l p2 x4 x5 z3.2 z6.1 z6.2 ez6) g_2e62de9f69 g_4913ba7a76 g_53cf195a51 g_2759d91faa g_2cdcfb567d hd_X9_some (rm_ok hf hl (by decide) (by decide)) rfl (vm_spec ez6).1 dL_law_907 rfl (stk' := [vi z6.1, vi z3.1]) rfl ?_
  refine pw_icmp_eq (pc := 910) F 1683 dL_law_910 (by decide) (fun hc => ?_) (fun hc => ?_)
  · have h := iteT hc h
    exact pw_mask [true, true, true, true] (ls' := [some (vsc (b : Int)), some (vr p1), some (vr p2), some (vi p3)]) rfl (jL_law_1683_ok F q hX hn hf hl self18 p1 p2 p3 z6.2 ih18 h)
  · have h := iteF hc h
    refine pw_iconst (pc := 913) F 0 dL_law_913 (by decide) ?_
    exact absurd h (by simp)
def jL_law_915 (X : List Int) (self18 : Int → PH → RO) (p1 p2 p3 : Int) (H : PH) : RO :=
  (sld X (w32 (p3 + 1))).bind fun x1 => (sld X (w32 (p3 + 2))).bind fun x2 => (sld X (w32 (p3 + 3))).bind fun x3 => (f_X8_holds p1 x1 x2 x3 H).bind fun z4 => (sld X (w32 (p3 + 1))).bind fun x5 => (sld X (w32 (p3 + 2))).bind fun x6 => (sld X (w32 (p3 + 3))).bind fun x7 => (f_X9_holds p2 x5 x6 x7 z4.2).bind fun z8 => (if z4.1 = z8.1 then jL_law_1683 X self18 p1 p2 p3 z8.2
  else some (0, z8.2))
set_option maxHeartbeats 4000000 in
theorem jL_law_915_ok {E : PE} {HH : PH} {X : List Int} {b : Nat} (F : FX E cL_law RL) (q : LQ E) (hX : SX E X b) (hn : nLof E = 4) (hf : (roomOf E).frames = 9) (hl : (roomOf E).locals = 340) (self18 : Int → PH → RO) (p1 p2 p3 : Int) (H : PH) (ih18 : ∀ (v3 : Int) (HV : PH), self18 v3 HV = some (1, HH) → PW E 18 [some (vsc (b : Int)), some (vr p1), some (vr p2), some (vi v3)] [] HV) (h : jL_law_915 X self18 p1 p2 p3 H = some (1, HH)) : PW E 915 [some (vsc (b : Int)), some (vr p1), some (vr p2), some (vi p3)] [] H := by
  unfold jL_law_915 at h
  refine pw_aload_n (pc := 915) F dL_law_915 rfl ?_
  refine pw_sload_n (pc := 916) F dL_law_916 rfl ?_
  refine pw_iload_n (pc := 917) F dL_law_917 rfl ?_
  refine pw_iconst (pc := 918) F 1 dL_law_918 (by decide) ?_
  refine pw_iadd (pc := 919) F dL_law_919 ?_
  obtain ⟨x1, ex1, h⟩ := bnd h
  refine pw_sld (pc := 920) F hX dL_law_920 ex1 ?_
  refine pw_sload_n (pc := 921) F dL_law_921 rfl ?_
  refine pw_iload_n (pc := 922) F dL_law_922 rfl ?_
  refine pw_iconst (pc := 923) F 2 dL_law_923 (by decide) ?_
  refine pw_iadd (pc := 924) F dL_law_924 ?_
  obtain ⟨x2, ex2, h⟩ := bnd h
  refine pw_sld (pc := 925) F hX dL_law_925 ex2 ?_
  refine pw_sload_n (pc := 926) F dL_law_926 rfl ?_
  refine pw_iload_n (pc := 927) F dL_law_927 rfl ?_
  refine pw_iconst (pc := 928) F 3 dL_law_928 (by decide) ?_
  refine pw_iadd (pc := 929) F dL_law_929 ?_
  obtain ⟨x3, ex3, h⟩ := bnd h
  refine pw_sld (pc := 930) F hX dL_law_930 ex3 ?_
  obtain ⟨z4, ez4, h⟩ := bnd h
  refine pw_callV (pc := 931) (as := [vi x1, vi x2, vi x3]) (st := []) (r := (some (vi z4.1))) F 88 8 (by decide) rfl (fun l => m_X8_holds l p1 x1 x2 x3 H z4.1 z4.2 ez4) g_65b98a0096 g_d8848ef6a1 g_ffc28e9975 g_99e03e18e2 g_ec34c8af24 hd_X8_holds (rm_ok hf hl (by decide) (by decide)) rfl (vm_spec ez4).1 dL_law_931 rfl (stk' := [vi z4.1]) rfl ?_
  refine pw_aload_n (pc := 934) F dL_law_934 rfl ?_
  refine pw_sload_n (pc := 935) F dL_law_935 rfl ?_
  refine pw_iload_n (pc := 936) F dL_law_936 rfl ?_
  refine pw_iconst (pc := 937) F 1 dL_law_937 (by decide) ?_
  refine pw_iadd (pc := 938) F dL_law_938 ?_
  obtain ⟨x5, ex5, h⟩ := bnd h
  refine pw_sld (pc := 939) F hX dL_law_939 ex5 ?_
  refine pw_sload_n (pc := 940) F dL_law_940 rfl ?_
  refine pw_iload_n (pc := 941) F dL_law_941 rfl ?_
  refine pw_iconst (pc := 942) F 2 dL_law_942 (by decide) ?_
  refine pw_iadd (pc := 943) F dL_law_943 ?_
  obtain ⟨x6, ex6, h⟩ := bnd h
  refine pw_sld (pc := 944) F hX dL_law_944 ex6 ?_
  refine pw_sload_n (pc := 945) F dL_law_945 rfl ?_
  refine pw_iload_n (pc := 946) F dL_law_946 rfl ?_
  refine pw_iconst (pc := 947) F 3 dL_law_947 (by decide) ?_
  refine pw_iadd (pc := 948) F dL_law_948 ?_
  obtain ⟨x7, ex7, h⟩ := bnd h
  refine pw_sld (pc := 949) F hX dL_law_949 ex7 ?_
  obtain ⟨z8, ez8, h⟩ := bnd h
  refine pw_callV (pc := 950) (as := [vi x5, vi x6, vi x7]) (st := [vi z4.1]) (r := (some (vi z8.1))) F 91 9 (by decide) rfl (fun l => m_X9_holds l p2 x5 x6 x7 z4.2 z8.1 z8.2 ez8) g_edb1121098 g_b80d36cef2 g_3e4c73abd9 g_2759d91faa g_235e51f696 hd_X9_holds (rm_ok hf hl (by decide) (by decide)) rfl (vm_spec ez8).1 dL_law_950 rfl (stk' := [vi z8.1, vi z4.1]) rfl ?_
  refine pw_icmp_eq (pc := 953) F 1683 dL_law_953 (by decide) (fun hc => ?_) (fun hc => ?_)
  · have h := iteT hc h
    exact pw_mask [true, true, true, true] (ls' := [some (vsc (b : Int)), some (vr p1), some (vr p2), some (vi p3)]) rfl (jL_law_1683_ok F q hX hn hf hl self18 p1 p2 p3 z8.2 ih18 h)
  · have h := iteF hc h
    refine pw_iconst (pc := 956) F 0 dL_law_956 (by decide) ?_
    exact absurd h (by simp)
def jL_law_958 (X : List Int) (self18 : Int → PH → RO) (p1 p2 p3 : Int) (H : PH) : RO :=
  (sld X (w32 (p3 + 1))).bind fun x1 => (sld X (w32 (p3 + 2))).bind fun x2 => (f_X8_filter p1 x1 x2 H).bind fun z3 => (sld X (w32 (p3 + 1))).bind fun x4 => (sld X (w32 (p3 + 2))).bind fun x5 => (f_X9_filter p2 x4 x5 z3.2).bind fun z6 => (if z3.1 = z6.1 then jL_law_1683 X self18 p1 p2 p3 z6.2
  else some (0, z6.2))
set_option maxHeartbeats 4000000 in
theorem jL_law_958_ok {E : PE} {HH : PH} {X : List Int} {b : Nat} (F : FX E cL_law RL) (q : LQ E) (hX : SX E X b) (hn : nLof E = 4) (hf : (roomOf E).frames = 9) (hl : (roomOf E).locals = 340) (self18 : Int → PH → RO) (p1 p2 p3 : Int) (H : PH) (ih18 : ∀ (v3 : Int) (HV : PH), self18 v3 HV = some (1, HH) → PW E 18 [some (vsc (b : Int)), some (vr p1), some (vr p2), some (vi v3)] [] HV) (h : jL_law_958 X self18 p1 p2 p3 H = some (1, HH)) : PW E 958 [some (vsc (b : Int)), some (vr p1), some (vr p2), some (vi p3)] [] H := by
  unfold jL_law_958 at h
  refine pw_aload_n (pc := 958) F dL_law_958 rfl ?_
  refine pw_sload_n (pc := 959) F dL_law_959 rfl ?_
  refine pw_iload_n (pc := 960) F dL_law_960 rfl ?_
  refine pw_iconst (pc := 961) F 1 dL_law_961 (by decide) ?_
  refine pw_iadd (pc := 962) F dL_law_962 ?_
  obtain ⟨x1, ex1, h⟩ := bnd h
  refine pw_sld (pc := 963) F hX dL_law_963 ex1 ?_
  refine pw_sload_n (pc := 964) F dL_law_964 rfl ?_
  refine pw_iload_n (pc := 965) F dL_law_965 rfl ?_
  refine pw_iconst (pc := 966) F 2 dL_law_966 (by decide) ?_
  refine pw_iadd (pc := 967) F dL_law_967 ?_
  obtain ⟨x2, ex2, h⟩ := bnd h
  refine pw_sld (pc := 968) F hX dL_law_968 ex2 ?_
  obtain ⟨z3, ez3, h⟩ := bnd h
  refine pw_callV (pc := 969) (as := [vi x1, vi x2]) (st := []) (r := (some (vi z3.1))) F 92 8 (by decide) rfl (fun l => m_X8_filter l p1 x1 x2 H z3.1 z3.2 ez3) g_36a40b86e1 g_da23795dc8 g_0068d38f7a g_99e03e18e2 g_370a8b2480 hd_X8_filter (rm_ok hf hl (by decide) (by decide)) rfl (vm_spec ez3).1 dL_law_969 rfl (stk' := [vi z3.1]) rfl ?_
  refine pw_aload_n (pc := 972) F dL_law_972 rfl ?_
  refine pw_sload_n (pc := 973) F dL_law_973 rfl ?_
  refine pw_iload_n (pc := 974) F dL_law_974 rfl ?_
  refine pw_iconst (pc := 975) F 1 dL_law_975 (by decide) ?_
  refine pw_iadd (pc := 976) F dL_law_976 ?_
  obtain ⟨x4, ex4, h⟩ := bnd h
  refine pw_sld (pc := 977) F hX dL_law_977 ex4 ?_
  refine pw_sload_n (pc := 978) F dL_law_978 rfl ?_
  refine pw_iload_n (pc := 979) F dL_law_979 rfl ?_
  refine pw_iconst (pc := 980) F 2 dL_law_980 (by decide) ?_
  refine pw_iadd (pc := 981) F dL_law_981 ?_
  obtain ⟨x5, ex5, h⟩ := bnd h
  refine pw_sld (pc := 982) F hX dL_law_982 ex5 ?_
  obtain ⟨z6, ez6, h⟩ := bnd h
  refine pw_callV (pc := 983) (as := [vi x4, vi x5]) (st := [vi z3.1]) (r := (some (vi z6.1))) F 95 9 (by decide) rfl (fun l => m_X9_filter l p2 x4 x5 z3.2 z6.1 z6.2 ez6) g_5dba3a6eb7 g_2dd924b8ad g_52b204bd34 g_2759d91faa g_eb12520fdd hd_X9_filter (rm_ok hf hl (by decide) (by decide)) rfl (vm_spec ez6).1 dL_law_983 rfl (stk' := [vi z6.1, vi z3.1]) rfl ?_
  refine pw_icmp_eq (pc := 986) F 1683 dL_law_986 (by decide) (fun hc => ?_) (fun hc => ?_)
  · have h := iteT hc h
    exact pw_mask [true, true, true, true] (ls' := [some (vsc (b : Int)), some (vr p1), some (vr p2), some (vi p3)]) rfl (jL_law_1683_ok F q hX hn hf hl self18 p1 p2 p3 z6.2 ih18 h)
  · have h := iteF hc h
    refine pw_iconst (pc := 989) F 0 dL_law_989 (by decide) ?_
    exact absurd h (by simp)
def jL_law_991 (X : List Int) (self18 : Int → PH → RO) (p1 p2 p3 : Int) (H : PH) : RO :=
  (f_X8_against p1 H).bind fun z1 => (f_X9_against p2 z1.2).bind fun z2 => (if z1.1 = z2.1 then jL_law_1683 X self18 p1 p2 p3 z2.2
  else some (0, z2.2))
set_option maxHeartbeats 4000000 in
theorem jL_law_991_ok {E : PE} {HH : PH} {X : List Int} {b : Nat} (F : FX E cL_law RL) (q : LQ E) (hX : SX E X b) (hn : nLof E = 4) (hf : (roomOf E).frames = 9) (hl : (roomOf E).locals = 340) (self18 : Int → PH → RO) (p1 p2 p3 : Int) (H : PH) (ih18 : ∀ (v3 : Int) (HV : PH), self18 v3 HV = some (1, HH) → PW E 18 [some (vsc (b : Int)), some (vr p1), some (vr p2), some (vi v3)] [] HV) (h : jL_law_991 X self18 p1 p2 p3 H = some (1, HH)) : PW E 991 [some (vsc (b : Int)), some (vr p1), some (vr p2), some (vi p3)] [] H := by
  unfold jL_law_991 at h
  refine pw_aload_n (pc := 991) F dL_law_991 rfl ?_
  obtain ⟨z1, ez1, h⟩ := bnd h
  refine pw_callV (pc := 992) (as := []) (st := []) (r := (some (vi z1.1))) F 96 8 (by decide) rfl (fun l => m_X8_against l p1 H z1.1 z1.2 ez1) g_da59ccbcf5 g_b0a14eadcf g_4431d582f6 g_99e03e18e2 g_eec7f2c8b6 hd_X8_against (rm_ok hf hl (by decide) (by decide)) rfl (vm_spec ez1).1 dL_law_992 rfl (stk' := [vi z1.1]) rfl ?_
  refine pw_aload_n (pc := 995) F dL_law_995 rfl ?_
  obtain ⟨z2, ez2, h⟩ := bnd h
  refine pw_callV (pc := 996) (as := []) (st := [vi z1.1]) (r := (some (vi z2.1))) F 99 9 (by decide) rfl (fun l => m_X9_against l p2 z1.2 z2.1 z2.2 ez2) g_8fa28d6a8c g_7ab66c5d45 g_fae11b5f87 g_2759d91faa g_b92e9f90cd hd_X9_against (rm_ok hf hl (by decide) (by decide)) rfl (vm_spec ez2).1 dL_law_996 rfl (stk' := [vi z2.1, vi z1.1]) rfl ?_
  refine pw_icmp_eq (pc := 999) F 1683 dL_law_999 (by decide) (fun hc => ?_) (fun hc => ?_)
  · have h := iteT hc h
    exact pw_mask [true, true, true, true] (ls' := [some (vsc (b : Int)), some (vr p1), some (vr p2), some (vi p3)]) rfl (jL_law_1683_ok F q hX hn hf hl self18 p1 p2 p3 z2.2 ih18 h)
  · have h := iteF hc h
    refine pw_iconst (pc := 1002) F 0 dL_law_1002 (by decide) ?_
    exact absurd h (by simp)
def jL_law_1004 (X : List Int) (self18 : Int → PH → RO) (p1 p2 p3 : Int) (H : PH) : RO :=
  (sld X (w32 (p3 + 1))).bind fun x1 => (sld X (w32 (p3 + 2))).bind fun x2 => (f_X8_againstAt p1 x1 x2 H).bind fun z3 => (sld X (w32 (p3 + 1))).bind fun x4 => (sld X (w32 (p3 + 2))).bind fun x5 => (f_X9_againstAt p2 x4 x5 z3.2).bind fun z6 => (if z3.1 = z6.1 then jL_law_1683 X self18 p1 p2 p3 z6.2
  else some (0, z6.2))
set_option maxHeartbeats 4000000 in
theorem jL_law_1004_ok {E : PE} {HH : PH} {X : List Int} {b : Nat} (F : FX E cL_law RL) (q : LQ E) (hX : SX E X b) (hn : nLof E = 4) (hf : (roomOf E).frames = 9) (hl : (roomOf E).locals = 340) (self18 : Int → PH → RO) (p1 p2 p3 : Int) (H : PH) (ih18 : ∀ (v3 : Int) (HV : PH), self18 v3 HV = some (1, HH) → PW E 18 [some (vsc (b : Int)), some (vr p1), some (vr p2), some (vi v3)] [] HV) (h : jL_law_1004 X self18 p1 p2 p3 H = some (1, HH)) : PW E 1004 [some (vsc (b : Int)), some (vr p1), some (vr p2), some (vi p3)] [] H := by
  unfold jL_law_1004 at h
  refine pw_aload_n (pc := 1004) F dL_law_1004 rfl ?_
  refine pw_sload_n (pc := 1005) F dL_law_1005 rfl ?_
  refine pw_iload_n (pc := 1006) F dL_law_1006 rfl ?_
  refine pw_iconst (pc := 1007) F 1 dL_law_1007 (by decide) ?_
  refine pw_iadd (pc := 1008) F dL_law_1008 ?_
  obtain ⟨x1, ex1, h⟩ := bnd h
  refine pw_sld (pc := 1009) F hX dL_law_1009 ex1 ?_
  refine pw_sload_n (pc := 1010) F dL_law_1010 rfl ?_
  refine pw_iload_n (pc := 1011) F dL_law_1011 rfl ?_
  refine pw_iconst (pc := 1012) F 2 dL_law_1012 (by decide) ?_
  refine pw_iadd (pc := 1013) F dL_law_1013 ?_
  obtain ⟨x2, ex2, h⟩ := bnd h
  refine pw_sld (pc := 1014) F hX dL_law_1014 ex2 ?_
  obtain ⟨z3, ez3, h⟩ := bnd h
  refine pw_callV (pc := 1015) (as := [vi x1, vi x2]) (st := []) (r := (some (vi z3.1))) F 100 8 (by decide) rfl (fun l => m_X8_againstAt l p1 x1 x2 H z3.1 z3.2 ez3) g_3e5d51fce8 g_91b4076c56 g_a5c38880f2 g_99e03e18e2 g_3fbaf8c4ea hd_X8_againstAt (rm_ok hf hl (by decide) (by decide)) rfl (vm_spec ez3).1 dL_law_1015 rfl (stk' := [vi z3.1]) rfl ?_
  refine pw_aload_n (pc := 1018) F dL_law_1018 rfl ?_
  refine pw_sload_n (pc := 1019) F dL_law_1019 rfl ?_
  refine pw_iload_n (pc := 1020) F dL_law_1020 rfl ?_
  refine pw_iconst (pc := 1021) F 1 dL_law_1021 (by decide) ?_
  refine pw_iadd (pc := 1022) F dL_law_1022 ?_
  obtain ⟨x4, ex4, h⟩ := bnd h
  refine pw_sld (pc := 1023) F hX dL_law_1023 ex4 ?_
  refine pw_sload_n (pc := 1024) F dL_law_1024 rfl ?_
  refine pw_iload_n (pc := 1025) F dL_law_1025 rfl ?_
  refine pw_iconst (pc := 1026) F 2 dL_law_1026 (by decide) ?_
  refine pw_iadd (pc := 1027) F dL_law_1027 ?_
  obtain ⟨x5, ex5, h⟩ := bnd h
  refine pw_sld (pc := 1028) F hX dL_law_1028 ex5 ?_
  obtain ⟨z6, ez6, h⟩ := bnd h
  refine pw_callV (pc := 1029) (as := [vi x4, vi x5]) (st := [vi z3.1]) (r := (some (vi z6.1))) F 103 9 (by decide) rfl (fun l => m_X9_againstAt l p2 x4 x5 z3.2 z6.1 z6.2 ez6) g_5ce5c0a5c8 g_f936e7a0cd g_75a730c2d2 g_2759d91faa g_a33ac49655 hd_X9_againstAt (rm_ok hf hl (by decide) (by decide)) rfl (vm_spec ez6).1 dL_law_1029 rfl (stk' := [vi z6.1, vi z3.1]) rfl ?_
  refine pw_icmp_eq (pc := 1032) F 1683 dL_law_1032 (by decide) (fun hc => ?_) (fun hc => ?_)
  · have h := iteT hc h
    exact pw_mask [true, true, true, true] (ls' := [some (vsc (b : Int)), some (vr p1), some (vr p2), some (vi p3)]) rfl (jL_law_1683_ok F q hX hn hf hl self18 p1 p2 p3 z6.2 ih18 h)
  · have h := iteF hc h
    refine pw_iconst (pc := 1035) F 0 dL_law_1035 (by decide) ?_
    exact absurd h (by simp)
def jL_law_1037 (X : List Int) (self18 : Int → PH → RO) (p1 p2 p3 : Int) (H : PH) : RO :=
  (sld X (w32 (p3 + 1))).bind fun x1 => (sld X (w32 (p3 + 2))).bind fun x2 => (sld X (w32 (p3 + 3))).bind fun x3 => (f_X8_weight p1 x1 x2 x3 H).bind fun z4 => (sld X (w32 (p3 + 1))).bind fun x5 => (sld X (w32 (p3 + 2))).bind fun x6 => (sld X (w32 (p3 + 3))).bind fun x7 => (f_X9_weight p2 x5 x6 x7 z4.2).bind fun z8 => (if z4.1 = z8.1 then jL_law_1683 X self18 p1 p2 p3 z8.2
  else some (0, z8.2))
set_option maxHeartbeats 4000000 in
theorem jL_law_1037_ok {E : PE} {HH : PH} {X : List Int} {b : Nat} (F : FX E cL_law RL) (q : LQ E) (hX : SX E X b) (hn : nLof E = 4) (hf : (roomOf E).frames = 9) (hl : (roomOf E).locals = 340) (self18 : Int → PH → RO) (p1 p2 p3 : Int) (H : PH) (ih18 : ∀ (v3 : Int) (HV : PH), self18 v3 HV = some (1, HH) → PW E 18 [some (vsc (b : Int)), some (vr p1), some (vr p2), some (vi v3)] [] HV) (h : jL_law_1037 X self18 p1 p2 p3 H = some (1, HH)) : PW E 1037 [some (vsc (b : Int)), some (vr p1), some (vr p2), some (vi p3)] [] H := by
  unfold jL_law_1037 at h
  refine pw_aload_n (pc := 1037) F dL_law_1037 rfl ?_
  refine pw_sload_n (pc := 1038) F dL_law_1038 rfl ?_
  refine pw_iload_n (pc := 1039) F dL_law_1039 rfl ?_
  refine pw_iconst (pc := 1040) F 1 dL_law_1040 (by decide) ?_
  refine pw_iadd (pc := 1041) F dL_law_1041 ?_
  obtain ⟨x1, ex1, h⟩ := bnd h
  refine pw_sld (pc := 1042) F hX dL_law_1042 ex1 ?_
  refine pw_sload_n (pc := 1043) F dL_law_1043 rfl ?_
  refine pw_iload_n (pc := 1044) F dL_law_1044 rfl ?_
  refine pw_iconst (pc := 1045) F 2 dL_law_1045 (by decide) ?_
  refine pw_iadd (pc := 1046) F dL_law_1046 ?_
  obtain ⟨x2, ex2, h⟩ := bnd h
  refine pw_sld (pc := 1047) F hX dL_law_1047 ex2 ?_
  refine pw_sload_n (pc := 1048) F dL_law_1048 rfl ?_
  refine pw_iload_n (pc := 1049) F dL_law_1049 rfl ?_
  refine pw_iconst (pc := 1050) F 3 dL_law_1050 (by decide) ?_
  refine pw_iadd (pc := 1051) F dL_law_1051 ?_
  obtain ⟨x3, ex3, h⟩ := bnd h
  refine pw_sld (pc := 1052) F hX dL_law_1052 ex3 ?_
  obtain ⟨z4, ez4, h⟩ := bnd h
  refine pw_callV (pc := 1053) (as := [vi x1, vi x2, vi x3]) (st := []) (r := (some (vi z4.1))) F 104 8 (by decide) rfl (fun l => m_X8_weight l p1 x1 x2 x3 H z4.1 z4.2 ez4) g_dbd8ed0727 g_6aa265275d g_3e9f0ffe57 g_99e03e18e2 g_d52b4f77d7 hd_X8_weight (rm_ok hf hl (by decide) (by decide)) rfl (vm_spec ez4).1 dL_law_1053 rfl (stk' := [vi z4.1]) rfl ?_
  refine pw_aload_n (pc := 1056) F dL_law_1056 rfl ?_
  refine pw_sload_n (pc := 1057) F dL_law_1057 rfl ?_
  refine pw_iload_n (pc := 1058) F dL_law_1058 rfl ?_
  refine pw_iconst (pc := 1059) F 1 dL_law_1059 (by decide) ?_
  refine pw_iadd (pc := 1060) F dL_law_1060 ?_
  obtain ⟨x5, ex5, h⟩ := bnd h
  refine pw_sld (pc := 1061) F hX dL_law_1061 ex5 ?_
  refine pw_sload_n (pc := 1062) F dL_law_1062 rfl ?_
  refine pw_iload_n (pc := 1063) F dL_law_1063 rfl ?_
  refine pw_iconst (pc := 1064) F 2 dL_law_1064 (by decide) ?_
  refine pw_iadd (pc := 1065) F dL_law_1065 ?_
  obtain ⟨x6, ex6, h⟩ := bnd h
  refine pw_sld (pc := 1066) F hX dL_law_1066 ex6 ?_
  refine pw_sload_n (pc := 1067) F dL_law_1067 rfl ?_
  refine pw_iload_n (pc := 1068) F dL_law_1068 rfl ?_
  refine pw_iconst (pc := 1069) F 3 dL_law_1069 (by decide) ?_
  refine pw_iadd (pc := 1070) F dL_law_1070 ?_
  obtain ⟨x7, ex7, h⟩ := bnd h
  refine pw_sld (pc := 1071) F hX dL_law_1071 ex7 ?_
  obtain ⟨z8, ez8, h⟩ := bnd h
  refine pw_callV (pc := 1072) (as := [vi x5, vi x6, vi x7]) (st := [vi z4.1]) (r := (some (vi z8.1))) F 107 9 (by decide) rfl (fun l => m_X9_weight l p2 x5 x6 x7 z4.2 z8.1 z8.2 ez8) g_f770311ffa g_f6b84a64cf g_605c6c089d g_2759d91faa g_808e54b043 hd_X9_weight (rm_ok hf hl (by decide) (by decide)) rfl (vm_spec ez8).1 dL_law_1072 rfl (stk' := [vi z8.1, vi z4.1]) rfl ?_
  refine pw_icmp_eq (pc := 1075) F 1683 dL_law_1075 (by decide) (fun hc => ?_) (fun hc => ?_)
  · have h := iteT hc h
    exact pw_mask [true, true, true, true] (ls' := [some (vsc (b : Int)), some (vr p1), some (vr p2), some (vi p3)]) rfl (jL_law_1683_ok F q hX hn hf hl self18 p1 p2 p3 z8.2 ih18 h)
  · have h := iteF hc h
    refine pw_iconst (pc := 1078) F 0 dL_law_1078 (by decide) ?_
    exact absurd h (by simp)
def jL_law_1080 (X : List Int) (self18 : Int → PH → RO) (p1 p2 p3 : Int) (H : PH) : RO :=
  (sld X (w32 (p3 + 1))).bind fun x1 => (sld X (w32 (p3 + 2))).bind fun x2 => (f_X8_table p1 x1 x2 H).bind fun z3 => (sld X (w32 (p3 + 1))).bind fun x4 => (sld X (w32 (p3 + 2))).bind fun x5 => (f_X9_table p2 x4 x5 z3.2).bind fun z6 => (if z3.1 = z6.1 then jL_law_1683 X self18 p1 p2 p3 z6.2
  else some (0, z6.2))
set_option maxHeartbeats 4000000 in
theorem jL_law_1080_ok {E : PE} {HH : PH} {X : List Int} {b : Nat} (F : FX E cL_law RL) (q : LQ E) (hX : SX E X b) (hn : nLof E = 4) (hf : (roomOf E).frames = 9) (hl : (roomOf E).locals = 340) (self18 : Int → PH → RO) (p1 p2 p3 : Int) (H : PH) (ih18 : ∀ (v3 : Int) (HV : PH), self18 v3 HV = some (1, HH) → PW E 18 [some (vsc (b : Int)), some (vr p1), some (vr p2), some (vi v3)] [] HV) (h : jL_law_1080 X self18 p1 p2 p3 H = some (1, HH)) : PW E 1080 [some (vsc (b : Int)), some (vr p1), some (vr p2), some (vi p3)] [] H := by
  unfold jL_law_1080 at h
  refine pw_aload_n (pc := 1080) F dL_law_1080 rfl ?_
  refine pw_sload_n (pc := 1081) F dL_law_1081 rfl ?_
  refine pw_iload_n (pc := 1082) F dL_law_1082 rfl ?_
  refine pw_iconst (pc := 1083) F 1 dL_law_1083 (by decide) ?_
  refine pw_iadd (pc := 1084) F dL_law_1084 ?_
  obtain ⟨x1, ex1, h⟩ := bnd h
  refine pw_sld (pc := 1085) F hX dL_law_1085 ex1 ?_
  refine pw_sload_n (pc := 1086) F dL_law_1086 rfl ?_
  refine pw_iload_n (pc := 1087) F dL_law_1087 rfl ?_
  refine pw_iconst (pc := 1088) F 2 dL_law_1088 (by decide) ?_
  refine pw_iadd (pc := 1089) F dL_law_1089 ?_
  obtain ⟨x2, ex2, h⟩ := bnd h
  refine pw_sld (pc := 1090) F hX dL_law_1090 ex2 ?_
  obtain ⟨z3, ez3, h⟩ := bnd h
  refine pw_callV (pc := 1091) (as := [vi x1, vi x2]) (st := []) (r := (some (vi z3.1))) F 108 8 (by decide) rfl (fun l => m_X8_table l p1 x1 x2 H z3.1 z3.2 ez3) g_c1da6c3f1d g_bd9f71fbc6 g_140c760781 g_99e03e18e2 g_e7d4b21721 hd_X8_table (rm_ok hf hl (by decide) (by decide)) rfl (vm_spec ez3).1 dL_law_1091 rfl (stk' := [vi z3.1]) rfl ?_
  refine pw_aload_n (pc := 1094) F dL_law_1094 rfl ?_
  refine pw_sload_n (pc := 1095) F dL_law_1095 rfl ?_
  refine pw_iload_n (pc := 1096) F dL_law_1096 rfl ?_
  refine pw_iconst (pc := 1097) F 1 dL_law_1097 (by decide) ?_
  refine pw_iadd (pc := 1098) F dL_law_1098 ?_
  obtain ⟨x4, ex4, h⟩ := bnd h
  refine pw_sld (pc := 1099) F hX dL_law_1099 ex4 ?_
  refine pw_sload_n (pc := 1100) F dL_law_1100 rfl ?_
  refine pw_iload_n (pc := 1101) F dL_law_1101 rfl ?_
  refine pw_iconst (pc := 1102) F 2 dL_law_1102 (by decide) ?_
  refine pw_iadd (pc := 1103) F dL_law_1103 ?_
  obtain ⟨x5, ex5, h⟩ := bnd h
  refine pw_sld (pc := 1104) F hX dL_law_1104 ex5 ?_
  obtain ⟨z6, ez6, h⟩ := bnd h
  refine pw_callV (pc := 1105) (as := [vi x4, vi x5]) (st := [vi z3.1]) (r := (some (vi z6.1))) F 111 9 (by decide) rfl (fun l => m_X9_table l p2 x4 x5 z3.2 z6.1 z6.2 ez6) g_e5b9470af6 g_0412451731 g_00cfb1ddfe g_2759d91faa g_98ba0f4055 hd_X9_table (rm_ok hf hl (by decide) (by decide)) rfl (vm_spec ez6).1 dL_law_1105 rfl (stk' := [vi z6.1, vi z3.1]) rfl ?_
  refine pw_icmp_eq (pc := 1108) F 1683 dL_law_1108 (by decide) (fun hc => ?_) (fun hc => ?_)
  · have h := iteT hc h
    exact pw_mask [true, true, true, true] (ls' := [some (vsc (b : Int)), some (vr p1), some (vr p2), some (vi p3)]) rfl (jL_law_1683_ok F q hX hn hf hl self18 p1 p2 p3 z6.2 ih18 h)
  · have h := iteF hc h
    refine pw_iconst (pc := 1111) F 0 dL_law_1111 (by decide) ?_
    exact absurd h (by simp)
def jL_law_1113 (X : List Int) (self18 : Int → PH → RO) (p1 p2 p3 : Int) (H : PH) : RO :=
  (sld X (w32 (p3 + 1))).bind fun x1 => (sld X (w32 (p3 + 2))).bind fun x2 => (sld X (w32 (p3 + 3))).bind fun x3 => (f_X8_cell p1 x1 x2 x3 H).bind fun z4 => (sld X (w32 (p3 + 1))).bind fun x5 => (sld X (w32 (p3 + 2))).bind fun x6 => (sld X (w32 (p3 + 3))).bind fun x7 => (f_X9_cell p2 x5 x6 x7 z4.2).bind fun z8 => (if (lc z4.1 z8.1) = 0 then jL_law_1683 X self18 p1 p2 p3 z8.2
  else some (0, z8.2))
set_option maxHeartbeats 4000000 in
theorem jL_law_1113_ok {E : PE} {HH : PH} {X : List Int} {b : Nat} (F : FX E cL_law RL) (q : LQ E) (hX : SX E X b) (hn : nLof E = 4) (hf : (roomOf E).frames = 9) (hl : (roomOf E).locals = 340) (self18 : Int → PH → RO) (p1 p2 p3 : Int) (H : PH) (ih18 : ∀ (v3 : Int) (HV : PH), self18 v3 HV = some (1, HH) → PW E 18 [some (vsc (b : Int)), some (vr p1), some (vr p2), some (vi v3)] [] HV) (h : jL_law_1113 X self18 p1 p2 p3 H = some (1, HH)) : PW E 1113 [some (vsc (b : Int)), some (vr p1), some (vr p2), some (vi p3)] [] H := by
  unfold jL_law_1113 at h
  refine pw_aload_n (pc := 1113) F dL_law_1113 rfl ?_
  refine pw_sload_n (pc := 1114) F dL_law_1114 rfl ?_
  refine pw_iload_n (pc := 1115) F dL_law_1115 rfl ?_
  refine pw_iconst (pc := 1116) F 1 dL_law_1116 (by decide) ?_
  refine pw_iadd (pc := 1117) F dL_law_1117 ?_
  obtain ⟨x1, ex1, h⟩ := bnd h
  refine pw_sld (pc := 1118) F hX dL_law_1118 ex1 ?_
  refine pw_sload_n (pc := 1119) F dL_law_1119 rfl ?_
  refine pw_iload_n (pc := 1120) F dL_law_1120 rfl ?_
  refine pw_iconst (pc := 1121) F 2 dL_law_1121 (by decide) ?_
  refine pw_iadd (pc := 1122) F dL_law_1122 ?_
  obtain ⟨x2, ex2, h⟩ := bnd h
  refine pw_sld (pc := 1123) F hX dL_law_1123 ex2 ?_
  refine pw_sload_n (pc := 1124) F dL_law_1124 rfl ?_
  refine pw_iload_n (pc := 1125) F dL_law_1125 rfl ?_
  refine pw_iconst (pc := 1126) F 3 dL_law_1126 (by decide) ?_
  refine pw_iadd (pc := 1127) F dL_law_1127 ?_
  obtain ⟨x3, ex3, h⟩ := bnd h
  refine pw_sld (pc := 1128) F hX dL_law_1128 ex3 ?_
  obtain ⟨z4, ez4, h⟩ := bnd h
  refine pw_callV (pc := 1129) (as := [vi x1, vi x2, vi x3]) (st := []) (r := (some (vl z4.1))) F 112 8 (by decide) rfl (fun l => m_X8_cell l p1 x1 x2 x3 H z4.1 z4.2 ez4) g_d8702bc48f g_234f8b71c2 g_a601862f9c g_99e03e18e2 g_01a34bdce2 hd_X8_cell (rm_ok hf hl (by decide) (by decide)) rfl (vm_spec ez4).1 dL_law_1129 rfl (stk' := [vl z4.1]) rfl ?_
  refine pw_aload_n (pc := 1132) F dL_law_1132 rfl ?_
  refine pw_sload_n (pc := 1133) F dL_law_1133 rfl ?_
  refine pw_iload_n (pc := 1134) F dL_law_1134 rfl ?_
  refine pw_iconst (pc := 1135) F 1 dL_law_1135 (by decide) ?_
  refine pw_iadd (pc := 1136) F dL_law_1136 ?_
  obtain ⟨x5, ex5, h⟩ := bnd h
  refine pw_sld (pc := 1137) F hX dL_law_1137 ex5 ?_
  refine pw_sload_n (pc := 1138) F dL_law_1138 rfl ?_
  refine pw_iload_n (pc := 1139) F dL_law_1139 rfl ?_
  refine pw_iconst (pc := 1140) F 2 dL_law_1140 (by decide) ?_
  refine pw_iadd (pc := 1141) F dL_law_1141 ?_
  obtain ⟨x6, ex6, h⟩ := bnd h
  refine pw_sld (pc := 1142) F hX dL_law_1142 ex6 ?_
  refine pw_sload_n (pc := 1143) F dL_law_1143 rfl ?_
  refine pw_iload_n (pc := 1144) F dL_law_1144 rfl ?_
  refine pw_iconst (pc := 1145) F 3 dL_law_1145 (by decide) ?_
  refine pw_iadd (pc := 1146) F dL_law_1146 ?_
  obtain ⟨x7, ex7, h⟩ := bnd h
  refine pw_sld (pc := 1147) F hX dL_law_1147 ex7 ?_
  obtain ⟨z8, ez8, h⟩ := bnd h
  refine pw_callV (pc := 1148) (as := [vi x5, vi x6, vi x7]) (st := [vl z4.1]) (r := (some (vl z8.1))) F 115 9 (by decide) rfl (fun l => m_X9_cell l p2 x5 x6 x7 z4.2 z8.1 z8.2 ez8) g_4f910a492d g_21c98abb18 g_81a656ee98 g_2759d91faa g_2bd0775496 hd_X9_cell (rm_ok hf hl (by decide) (by decide)) rfl (vm_spec ez8).1 dL_law_1148 rfl (stk' := [vl z8.1, vl z4.1]) rfl ?_
  refine pw_lcmp (pc := 1151) F dL_law_1151 ?_
  refine pw_if_eq (pc := 1152) F 1683 dL_law_1152 (by decide) (fun hc => ?_) (fun hc => ?_)
  · have h := iteT hc h
    exact pw_mask [true, true, true, true] (ls' := [some (vsc (b : Int)), some (vr p1), some (vr p2), some (vi p3)]) rfl (jL_law_1683_ok F q hX hn hf hl self18 p1 p2 p3 z8.2 ih18 h)
  · have h := iteF hc h
    refine pw_iconst (pc := 1155) F 0 dL_law_1155 (by decide) ?_
    exact absurd h (by simp)
def jL_law_1157 (X : List Int) (self18 : Int → PH → RO) (p1 p2 p3 : Int) (H : PH) : RO :=
  (sld X (w32 (p3 + 1))).bind fun x1 => (f_X8_shares p1 x1 H).bind fun z2 => (sld X (w32 (p3 + 1))).bind fun x3 => (f_X9_shares p2 x3 z2.2).bind fun z4 => (if z2.1 = z4.1 then jL_law_1683 X self18 p1 p2 p3 z4.2
  else some (0, z4.2))
set_option maxHeartbeats 4000000 in
theorem jL_law_1157_ok {E : PE} {HH : PH} {X : List Int} {b : Nat} (F : FX E cL_law RL) (q : LQ E) (hX : SX E X b) (hn : nLof E = 4) (hf : (roomOf E).frames = 9) (hl : (roomOf E).locals = 340) (self18 : Int → PH → RO) (p1 p2 p3 : Int) (H : PH) (ih18 : ∀ (v3 : Int) (HV : PH), self18 v3 HV = some (1, HH) → PW E 18 [some (vsc (b : Int)), some (vr p1), some (vr p2), some (vi v3)] [] HV) (h : jL_law_1157 X self18 p1 p2 p3 H = some (1, HH)) : PW E 1157 [some (vsc (b : Int)), some (vr p1), some (vr p2), some (vi p3)] [] H := by
  unfold jL_law_1157 at h
  refine pw_aload_n (pc := 1157) F dL_law_1157 rfl ?_
  refine pw_sload_n (pc := 1158) F dL_law_1158 rfl ?_
  refine pw_iload_n (pc := 1159) F dL_law_1159 rfl ?_
  refine pw_iconst (pc := 1160) F 1 dL_law_1160 (by decide) ?_
  refine pw_iadd (pc := 1161) F dL_law_1161 ?_
  obtain ⟨x1, ex1, h⟩ := bnd h
  refine pw_sld (pc := 1162) F hX dL_law_1162 ex1 ?_
  obtain ⟨z2, ez2, h⟩ := bnd h
  refine pw_callV (pc := 1163) (as := [vi x1]) (st := []) (r := (some (vi z2.1))) F 116 8 (by decide) rfl (fun l => m_X8_shares l p1 x1 H z2.1 z2.2 ez2) g_60bb5163e0 g_3568af5a92 g_0f150a966b g_99e03e18e2 g_d07dfb8191 hd_X8_shares (rm_ok hf hl (by decide) (by decide)) rfl (vm_spec ez2).1 dL_law_1163 rfl (stk' := [vi z2.1]) rfl ?_
  refine pw_aload_n (pc := 1166) F dL_law_1166 rfl ?_
  refine pw_sload_n (pc := 1167) F dL_law_1167 rfl ?_
  refine pw_iload_n (pc := 1168) F dL_law_1168 rfl ?_
  refine pw_iconst (pc := 1169) F 1 dL_law_1169 (by decide) ?_
  refine pw_iadd (pc := 1170) F dL_law_1170 ?_
  obtain ⟨x3, ex3, h⟩ := bnd h
  refine pw_sld (pc := 1171) F hX dL_law_1171 ex3 ?_
  obtain ⟨z4, ez4, h⟩ := bnd h
  refine pw_callV (pc := 1172) (as := [vi x3]) (st := [vi z2.1]) (r := (some (vi z4.1))) F 119 9 (by decide) rfl (fun l => m_X9_shares l p2 x3 z2.2 z4.1 z4.2 ez4) g_69773db3be g_510f5f49aa g_cd0d7550bb g_2759d91faa g_b502710ec4 hd_X9_shares (rm_ok hf hl (by decide) (by decide)) rfl (vm_spec ez4).1 dL_law_1172 rfl (stk' := [vi z4.1, vi z2.1]) rfl ?_
  refine pw_icmp_eq (pc := 1175) F 1683 dL_law_1175 (by decide) (fun hc => ?_) (fun hc => ?_)
  · have h := iteT hc h
    exact pw_mask [true, true, true, true] (ls' := [some (vsc (b : Int)), some (vr p1), some (vr p2), some (vi p3)]) rfl (jL_law_1683_ok F q hX hn hf hl self18 p1 p2 p3 z4.2 ih18 h)
  · have h := iteF hc h
    refine pw_iconst (pc := 1178) F 0 dL_law_1178 (by decide) ?_
    exact absurd h (by simp)
def jL_law_1180 (X : List Int) (self18 : Int → PH → RO) (p1 p2 p3 : Int) (H : PH) : RO :=
  (sld X (w32 (p3 + 1))).bind fun x1 => (sld X (w32 (p3 + 2))).bind fun x2 => (f_X8_share p1 x1 x2 H).bind fun z3 => (sld X (w32 (p3 + 1))).bind fun x4 => (sld X (w32 (p3 + 2))).bind fun x5 => (f_X9_share p2 x4 x5 z3.2).bind fun z6 => (if z3.1 = z6.1 then jL_law_1683 X self18 p1 p2 p3 z6.2
  else some (0, z6.2))
set_option maxHeartbeats 4000000 in
theorem jL_law_1180_ok {E : PE} {HH : PH} {X : List Int} {b : Nat} (F : FX E cL_law RL) (q : LQ E) (hX : SX E X b) (hn : nLof E = 4) (hf : (roomOf E).frames = 9) (hl : (roomOf E).locals = 340) (self18 : Int → PH → RO) (p1 p2 p3 : Int) (H : PH) (ih18 : ∀ (v3 : Int) (HV : PH), self18 v3 HV = some (1, HH) → PW E 18 [some (vsc (b : Int)), some (vr p1), some (vr p2), some (vi v3)] [] HV) (h : jL_law_1180 X self18 p1 p2 p3 H = some (1, HH)) : PW E 1180 [some (vsc (b : Int)), some (vr p1), some (vr p2), some (vi p3)] [] H := by
  unfold jL_law_1180 at h
  refine pw_aload_n (pc := 1180) F dL_law_1180 rfl ?_
  refine pw_sload_n (pc := 1181) F dL_law_1181 rfl ?_
  refine pw_iload_n (pc := 1182) F dL_law_1182 rfl ?_
  refine pw_iconst (pc := 1183) F 1 dL_law_1183 (by decide) ?_
  refine pw_iadd (pc := 1184) F dL_law_1184 ?_
  obtain ⟨x1, ex1, h⟩ := bnd h
  refine pw_sld (pc := 1185) F hX dL_law_1185 ex1 ?_
  refine pw_sload_n (pc := 1186) F dL_law_1186 rfl ?_
  refine pw_iload_n (pc := 1187) F dL_law_1187 rfl ?_
  refine pw_iconst (pc := 1188) F 2 dL_law_1188 (by decide) ?_
  refine pw_iadd (pc := 1189) F dL_law_1189 ?_
  obtain ⟨x2, ex2, h⟩ := bnd h
  refine pw_sld (pc := 1190) F hX dL_law_1190 ex2 ?_
  obtain ⟨z3, ez3, h⟩ := bnd h
  refine pw_callV (pc := 1191) (as := [vi x1, vi x2]) (st := []) (r := (some (vi z3.1))) F 120 8 (by decide) rfl (fun l => m_X8_share l p1 x1 x2 H z3.1 z3.2 ez3) g_459f4788a5 g_834ac06cdf g_8518b61f60 g_99e03e18e2 g_63101ba933 hd_X8_share (rm_ok hf hl (by decide) (by decide)) rfl (vm_spec ez3).1 dL_law_1191 rfl (stk' := [vi z3.1]) rfl ?_
  refine pw_aload_n (pc := 1194) F dL_law_1194 rfl ?_
  refine pw_sload_n (pc := 1195) F dL_law_1195 rfl ?_
  refine pw_iload_n (pc := 1196) F dL_law_1196 rfl ?_
  refine pw_iconst (pc := 1197) F 1 dL_law_1197 (by decide) ?_
  refine pw_iadd (pc := 1198) F dL_law_1198 ?_
  obtain ⟨x4, ex4, h⟩ := bnd h
  refine pw_sld (pc := 1199) F hX dL_law_1199 ex4 ?_
  refine pw_sload_n (pc := 1200) F dL_law_1200 rfl ?_
  refine pw_iload_n (pc := 1201) F dL_law_1201 rfl ?_
  refine pw_iconst (pc := 1202) F 2 dL_law_1202 (by decide) ?_
  refine pw_iadd (pc := 1203) F dL_law_1203 ?_
  obtain ⟨x5, ex5, h⟩ := bnd h
  refine pw_sld (pc := 1204) F hX dL_law_1204 ex5 ?_
  obtain ⟨z6, ez6, h⟩ := bnd h
  refine pw_callV (pc := 1205) (as := [vi x4, vi x5]) (st := [vi z3.1]) (r := (some (vi z6.1))) F 123 9 (by decide) rfl (fun l => m_X9_share l p2 x4 x5 z3.2 z6.1 z6.2 ez6) g_655acc5cd1 g_4233b0b015 g_d84cd09a06 g_2759d91faa g_02f6575172 hd_X9_share (rm_ok hf hl (by decide) (by decide)) rfl (vm_spec ez6).1 dL_law_1205 rfl (stk' := [vi z6.1, vi z3.1]) rfl ?_
  refine pw_icmp_eq (pc := 1208) F 1683 dL_law_1208 (by decide) (fun hc => ?_) (fun hc => ?_)
  · have h := iteT hc h
    exact pw_mask [true, true, true, true] (ls' := [some (vsc (b : Int)), some (vr p1), some (vr p2), some (vi p3)]) rfl (jL_law_1683_ok F q hX hn hf hl self18 p1 p2 p3 z6.2 ih18 h)
  · have h := iteF hc h
    refine pw_iconst (pc := 1211) F 0 dL_law_1211 (by decide) ?_
    exact absurd h (by simp)
def jL_law_1213 (X : List Int) (self18 : Int → PH → RO) (p1 p2 p3 : Int) (H : PH) : RO :=
  (sld X (w32 (p3 + 1))).bind fun x1 => (f_X8_shown p1 x1 H).bind fun z2 => (sld X (w32 (p3 + 1))).bind fun x3 => (f_X9_shown p2 x3 z2.2).bind fun z4 => (if z2.1 = z4.1 then jL_law_1683 X self18 p1 p2 p3 z4.2
  else some (0, z4.2))
set_option maxHeartbeats 4000000 in
theorem jL_law_1213_ok {E : PE} {HH : PH} {X : List Int} {b : Nat} (F : FX E cL_law RL) (q : LQ E) (hX : SX E X b) (hn : nLof E = 4) (hf : (roomOf E).frames = 9) (hl : (roomOf E).locals = 340) (self18 : Int → PH → RO) (p1 p2 p3 : Int) (H : PH) (ih18 : ∀ (v3 : Int) (HV : PH), self18 v3 HV = some (1, HH) → PW E 18 [some (vsc (b : Int)), some (vr p1), some (vr p2), some (vi v3)] [] HV) (h : jL_law_1213 X self18 p1 p2 p3 H = some (1, HH)) : PW E 1213 [some (vsc (b : Int)), some (vr p1), some (vr p2), some (vi p3)] [] H := by
  unfold jL_law_1213 at h
  refine pw_aload_n (pc := 1213) F dL_law_1213 rfl ?_
  refine pw_sload_n (pc := 1214) F dL_law_1214 rfl ?_
  refine pw_iload_n (pc := 1215) F dL_law_1215 rfl ?_
  refine pw_iconst (pc := 1216) F 1 dL_law_1216 (by decide) ?_
  refine pw_iadd (pc := 1217) F dL_law_1217 ?_
  obtain ⟨x1, ex1, h⟩ := bnd h
  refine pw_sld (pc := 1218) F hX dL_law_1218 ex1 ?_
  obtain ⟨z2, ez2, h⟩ := bnd h
  refine pw_callV (pc := 1219) (as := [vi x1]) (st := []) (r := (some (vi z2.1))) F 124 8 (by decide) rfl (fun l => m_X8_shown l p1 x1 H z2.1 z2.2 ez2) g_b7214d37d1 g_32264cbaaa g_1db34ec8a9 g_99e03e18e2 g_937bd2d518 hd_X8_shown (rm_ok hf hl (by decide) (by decide)) rfl (vm_spec ez2).1 dL_law_1219 rfl (stk' := [vi z2.1]) rfl ?_
  refine pw_aload_n (pc := 1222) F dL_law_1222 rfl ?_
  refine pw_sload_n (pc := 1223) F dL_law_1223 rfl ?_
  refine pw_iload_n (pc := 1224) F dL_law_1224 rfl ?_
  refine pw_iconst (pc := 1225) F 1 dL_law_1225 (by decide) ?_
  refine pw_iadd (pc := 1226) F dL_law_1226 ?_
  obtain ⟨x3, ex3, h⟩ := bnd h
  refine pw_sld (pc := 1227) F hX dL_law_1227 ex3 ?_
  obtain ⟨z4, ez4, h⟩ := bnd h
  refine pw_callV (pc := 1228) (as := [vi x3]) (st := [vi z2.1]) (r := (some (vi z4.1))) F 127 9 (by decide) rfl (fun l => m_X9_shown l p2 x3 z2.2 z4.1 z4.2 ez4) g_1adf61f1ea g_547960ce84 g_19b4ced6da g_2759d91faa g_06413b62ba hd_X9_shown (rm_ok hf hl (by decide) (by decide)) rfl (vm_spec ez4).1 dL_law_1228 rfl (stk' := [vi z4.1, vi z2.1]) rfl ?_
  refine pw_icmp_eq (pc := 1231) F 1683 dL_law_1231 (by decide) (fun hc => ?_) (fun hc => ?_)
  · have h := iteT hc h
    exact pw_mask [true, true, true, true] (ls' := [some (vsc (b : Int)), some (vr p1), some (vr p2), some (vi p3)]) rfl (jL_law_1683_ok F q hX hn hf hl self18 p1 p2 p3 z4.2 ih18 h)
  · have h := iteF hc h
    refine pw_iconst (pc := 1234) F 0 dL_law_1234 (by decide) ?_
    exact absurd h (by simp)
def jL_law_1236 (X : List Int) (self18 : Int → PH → RO) (p1 p2 p3 : Int) (H : PH) : RO :=
  (f_X8_follows p1 H).bind fun z1 => (f_X9_follows p2 z1.2).bind fun z2 => (if z1.1 = z2.1 then jL_law_1683 X self18 p1 p2 p3 z2.2
  else some (0, z2.2))
set_option maxHeartbeats 4000000 in
theorem jL_law_1236_ok {E : PE} {HH : PH} {X : List Int} {b : Nat} (F : FX E cL_law RL) (q : LQ E) (hX : SX E X b) (hn : nLof E = 4) (hf : (roomOf E).frames = 9) (hl : (roomOf E).locals = 340) (self18 : Int → PH → RO) (p1 p2 p3 : Int) (H : PH) (ih18 : ∀ (v3 : Int) (HV : PH), self18 v3 HV = some (1, HH) → PW E 18 [some (vsc (b : Int)), some (vr p1), some (vr p2), some (vi v3)] [] HV) (h : jL_law_1236 X self18 p1 p2 p3 H = some (1, HH)) : PW E 1236 [some (vsc (b : Int)), some (vr p1), some (vr p2), some (vi p3)] [] H := by
  unfold jL_law_1236 at h
  refine pw_aload_n (pc := 1236) F dL_law_1236 rfl ?_
  obtain ⟨z1, ez1, h⟩ := bnd h
  refine pw_callV (pc := 1237) (as := []) (st := []) (r := (some (vi z1.1))) F 128 8 (by decide) rfl (fun l => m_X8_follows l p1 H z1.1 z1.2 ez1) g_91f493731d g_b76512008e g_d44d776350 g_99e03e18e2 g_656fce11e1 hd_X8_follows (rm_ok hf hl (by decide) (by decide)) rfl (vm_spec ez1).1 dL_law_1237 rfl (stk' := [vi z1.1]) rfl ?_
  refine pw_aload_n (pc := 1240) F dL_law_1240 rfl ?_
  obtain ⟨z2, ez2, h⟩ := bnd h
  refine pw_callV (pc := 1241) (as := []) (st := [vi z1.1]) (r := (some (vi z2.1))) F 131 9 (by decide) rfl (fun l => m_X9_follows l p2 z1.2 z2.1 z2.2 ez2) g_2089e863c6 g_bca2079efb g_a9b8d8f3df g_2759d91faa g_bbb142509a hd_X9_follows (rm_ok hf hl (by decide) (by decide)) rfl (vm_spec ez2).1 dL_law_1241 rfl (stk' := [vi z2.1, vi z1.1]) rfl ?_
  refine pw_icmp_eq (pc := 1244) F 1683 dL_law_1244 (by decide) (fun hc => ?_) (fun hc => ?_)
  · have h := iteT hc h
    exact pw_mask [true, true, true, true] (ls' := [some (vsc (b : Int)), some (vr p1), some (vr p2), some (vi p3)]) rfl (jL_law_1683_ok F q hX hn hf hl self18 p1 p2 p3 z2.2 ih18 h)
  · have h := iteF hc h
    refine pw_iconst (pc := 1247) F 0 dL_law_1247 (by decide) ?_
    exact absurd h (by simp)
def jL_law_1249 (X : List Int) (self18 : Int → PH → RO) (p1 p2 p3 : Int) (H : PH) : RO :=
  (sld X (w32 (p3 + 1))).bind fun x1 => (sld X (w32 (p3 + 2))).bind fun x2 => (f_X8_rank p1 x1 x2 H).bind fun z3 => (sld X (w32 (p3 + 1))).bind fun x4 => (sld X (w32 (p3 + 2))).bind fun x5 => (f_X9_rank p2 x4 x5 z3.2).bind fun z6 => (if z3.1 = z6.1 then jL_law_1683 X self18 p1 p2 p3 z6.2
  else some (0, z6.2))
set_option maxHeartbeats 4000000 in
theorem jL_law_1249_ok {E : PE} {HH : PH} {X : List Int} {b : Nat} (F : FX E cL_law RL) (q : LQ E) (hX : SX E X b) (hn : nLof E = 4) (hf : (roomOf E).frames = 9) (hl : (roomOf E).locals = 340) (self18 : Int → PH → RO) (p1 p2 p3 : Int) (H : PH) (ih18 : ∀ (v3 : Int) (HV : PH), self18 v3 HV = some (1, HH) → PW E 18 [some (vsc (b : Int)), some (vr p1), some (vr p2), some (vi v3)] [] HV) (h : jL_law_1249 X self18 p1 p2 p3 H = some (1, HH)) : PW E 1249 [some (vsc (b : Int)), some (vr p1), some (vr p2), some (vi p3)] [] H := by
  unfold jL_law_1249 at h
  refine pw_aload_n (pc := 1249) F dL_law_1249 rfl ?_
  refine pw_sload_n (pc := 1250) F dL_law_1250 rfl ?_
  refine pw_iload_n (pc := 1251) F dL_law_1251 rfl ?_
  refine pw_iconst (pc := 1252) F 1 dL_law_1252 (by decide) ?_
  refine pw_iadd (pc := 1253) F dL_law_1253 ?_
  obtain ⟨x1, ex1, h⟩ := bnd h
  refine pw_sld (pc := 1254) F hX dL_law_1254 ex1 ?_
  refine pw_sload_n (pc := 1255) F dL_law_1255 rfl ?_
  refine pw_iload_n (pc := 1256) F dL_law_1256 rfl ?_
  refine pw_iconst (pc := 1257) F 2 dL_law_1257 (by decide) ?_
  refine pw_iadd (pc := 1258) F dL_law_1258 ?_
  obtain ⟨x2, ex2, h⟩ := bnd h
  refine pw_sld (pc := 1259) F hX dL_law_1259 ex2 ?_
  obtain ⟨z3, ez3, h⟩ := bnd h
  refine pw_callV (pc := 1260) (as := [vi x1, vi x2]) (st := []) (r := (some (vi z3.1))) F 132 8 (by decide) rfl (fun l => m_X8_rank l p1 x1 x2 H z3.1 z3.2 ez3) g_93afb7234b g_86262ed416 g_fc9ba19cc9 g_99e03e18e2 g_9bbf829170 hd_X8_rank (rm_ok hf hl (by decide) (by decide)) rfl (vm_spec ez3).1 dL_law_1260 rfl (stk' := [vi z3.1]) rfl ?_
  refine pw_aload_n (pc := 1263) F dL_law_1263 rfl ?_
  refine pw_sload_n (pc := 1264) F dL_law_1264 rfl ?_
  refine pw_iload_n (pc := 1265) F dL_law_1265 rfl ?_
  refine pw_iconst (pc := 1266) F 1 dL_law_1266 (by decide) ?_
  refine pw_iadd (pc := 1267) F dL_law_1267 ?_
  obtain ⟨x4, ex4, h⟩ := bnd h
  refine pw_sld (pc := 1268) F hX dL_law_1268 ex4 ?_
  refine pw_sload_n (pc := 1269) F dL_law_1269 rfl ?_
  refine pw_iload_n (pc := 1270) F dL_law_1270 rfl ?_
  refine pw_iconst (pc := 1271) F 2 dL_law_1271 (by decide) ?_
  refine pw_iadd (pc := 1272) F dL_law_1272 ?_
  obtain ⟨x5, ex5, h⟩ := bnd h
  refine pw_sld (pc := 1273) F hX dL_law_1273 ex5 ?_
  obtain ⟨z6, ez6, h⟩ := bnd h
  refine pw_callV (pc := 1274) (as := [vi x4, vi x5]) (st := [vi z3.1]) (r := (some (vi z6.1))) F 135 9 (by decide) rfl (fun l => m_X9_rank l p2 x4 x5 z3.2 z6.1 z6.2 ez6) g_349063e80b g_27f1d6d1b6 g_67a779f538 g_2759d91faa g_ad1d42c615 hd_X9_rank (rm_ok hf hl (by decide) (by decide)) rfl (vm_spec ez6).1 dL_law_1274 rfl (stk' := [vi z6.1, vi z3.1]) rfl ?_
  refine pw_icmp_eq (pc := 1277) F 1683 dL_law_1277 (by decide) (fun hc => ?_) (fun hc => ?_)
  · have h := iteT hc h
    exact pw_mask [true, true, true, true] (ls' := [some (vsc (b : Int)), some (vr p1), some (vr p2), some (vi p3)]) rfl (jL_law_1683_ok F q hX hn hf hl self18 p1 p2 p3 z6.2 ih18 h)
  · have h := iteF hc h
    refine pw_iconst (pc := 1280) F 0 dL_law_1280 (by decide) ?_
    exact absurd h (by simp)
def jL_law_1282 (X : List Int) (self18 : Int → PH → RO) (p1 p2 p3 : Int) (H : PH) : RO :=
  (sld X (w32 (p3 + 1))).bind fun x1 => (sld X (w32 (p3 + 2))).bind fun x2 => (sld X (w32 (p3 + 3))).bind fun x3 => (sld X (w32 (p3 + 4))).bind fun x4 => (f_X8_part p1 x1 x2 x3 x4 H).bind fun z5 => (sld X (w32 (p3 + 1))).bind fun x6 => (sld X (w32 (p3 + 2))).bind fun x7 => (sld X (w32 (p3 + 3))).bind fun x8 => (sld X (w32 (p3 + 4))).bind fun x9 => (f_X9_part p2 x6 x7 x8 x9 z5.2).bind fun z10 => (if (lc z5.1 z10.1) = 0 then jL_law_1683 X self18 p1 p2 p3 z10.2
  else some (0, z10.2))
set_option maxHeartbeats 4000000 in
theorem jL_law_1282_ok {E : PE} {HH : PH} {X : List Int} {b : Nat} (F : FX E cL_law RL) (q : LQ E) (hX : SX E X b) (hn : nLof E = 4) (hf : (roomOf E).frames = 9) (hl : (roomOf E).locals = 340) (self18 : Int → PH → RO) (p1 p2 p3 : Int) (H : PH) (ih18 : ∀ (v3 : Int) (HV : PH), self18 v3 HV = some (1, HH) → PW E 18 [some (vsc (b : Int)), some (vr p1), some (vr p2), some (vi v3)] [] HV) (h : jL_law_1282 X self18 p1 p2 p3 H = some (1, HH)) : PW E 1282 [some (vsc (b : Int)), some (vr p1), some (vr p2), some (vi p3)] [] H := by
  unfold jL_law_1282 at h
  refine pw_aload_n (pc := 1282) F dL_law_1282 rfl ?_
  refine pw_sload_n (pc := 1283) F dL_law_1283 rfl ?_
  refine pw_iload_n (pc := 1284) F dL_law_1284 rfl ?_
  refine pw_iconst (pc := 1285) F 1 dL_law_1285 (by decide) ?_
  refine pw_iadd (pc := 1286) F dL_law_1286 ?_
  obtain ⟨x1, ex1, h⟩ := bnd h
  refine pw_sld (pc := 1287) F hX dL_law_1287 ex1 ?_
  refine pw_sload_n (pc := 1288) F dL_law_1288 rfl ?_
  refine pw_iload_n (pc := 1289) F dL_law_1289 rfl ?_
  refine pw_iconst (pc := 1290) F 2 dL_law_1290 (by decide) ?_
  refine pw_iadd (pc := 1291) F dL_law_1291 ?_
  obtain ⟨x2, ex2, h⟩ := bnd h
  refine pw_sld (pc := 1292) F hX dL_law_1292 ex2 ?_
  refine pw_sload_n (pc := 1293) F dL_law_1293 rfl ?_
  refine pw_iload_n (pc := 1294) F dL_law_1294 rfl ?_
  refine pw_iconst (pc := 1295) F 3 dL_law_1295 (by decide) ?_
  refine pw_iadd (pc := 1296) F dL_law_1296 ?_
  obtain ⟨x3, ex3, h⟩ := bnd h
  refine pw_sld (pc := 1297) F hX dL_law_1297 ex3 ?_
  refine pw_sload_n (pc := 1298) F dL_law_1298 rfl ?_
  refine pw_iload_n (pc := 1299) F dL_law_1299 rfl ?_
  refine pw_iconst (pc := 1300) F 4 dL_law_1300 (by decide) ?_
  refine pw_iadd (pc := 1301) F dL_law_1301 ?_
  obtain ⟨x4, ex4, h⟩ := bnd h
  refine pw_sld (pc := 1302) F hX dL_law_1302 ex4 ?_
  obtain ⟨z5, ez5, h⟩ := bnd h
  refine pw_callV (pc := 1303) (as := [vi x1, vi x2, vi x3, vi x4]) (st := []) (r := (some (vl z5.1))) F 136 8 (by decide) rfl (fun l => m_X8_part l p1 x1 x2 x3 x4 H z5.1 z5.2 ez5) g_a66a9adb94 g_a898bdb26a g_fcf5d04116 g_99e03e18e2 g_05515ce0bd hd_X8_part (rm_ok hf hl (by decide) (by decide)) rfl (vm_spec ez5).1 dL_law_1303 rfl (stk' := [vl z5.1]) rfl ?_
  refine pw_aload_n (pc := 1306) F dL_law_1306 rfl ?_
  refine pw_sload_n (pc := 1307) F dL_law_1307 rfl ?_
  refine pw_iload_n (pc := 1308) F dL_law_1308 rfl ?_
  refine pw_iconst (pc := 1309) F 1 dL_law_1309 (by decide) ?_
  refine pw_iadd (pc := 1310) F dL_law_1310 ?_
  obtain ⟨x6, ex6, h⟩ := bnd h
  refine pw_sld (pc := 1311) F hX dL_law_1311 ex6 ?_
  refine pw_sload_n (pc := 1312) F dL_law_1312 rfl ?_
  refine pw_iload_n (pc := 1313) F dL_law_1313 rfl ?_
  refine pw_iconst (pc := 1314) F 2 dL_law_1314 (by decide) ?_
  refine pw_iadd (pc := 1315) F dL_law_1315 ?_
  obtain ⟨x7, ex7, h⟩ := bnd h
  refine pw_sld (pc := 1316) F hX dL_law_1316 ex7 ?_
  refine pw_sload_n (pc := 1317) F dL_law_1317 rfl ?_
  refine pw_iload_n (pc := 1318) F dL_law_1318 rfl ?_
  refine pw_iconst (pc := 1319) F 3 dL_law_1319 (by decide) ?_
  refine pw_iadd (pc := 1320) F dL_law_1320 ?_
  obtain ⟨x8, ex8, h⟩ := bnd h
  refine pw_sld (pc := 1321) F hX dL_law_1321 ex8 ?_
  refine pw_sload_n (pc := 1322) F dL_law_1322 rfl ?_
  refine pw_iload_n (pc := 1323) F dL_law_1323 rfl ?_
  refine pw_iconst (pc := 1324) F 4 dL_law_1324 (by decide) ?_
  refine pw_iadd (pc := 1325) F dL_law_1325 ?_
  obtain ⟨x9, ex9, h⟩ := bnd h
  refine pw_sld (pc := 1326) F hX dL_law_1326 ex9 ?_
  obtain ⟨z10, ez10, h⟩ := bnd h
  refine pw_callV (pc := 1327) (as := [vi x6, vi x7, vi x8, vi x9]) (st := [vl z5.1]) (r := (some (vl z10.1))) F 140 9 (by decide) rfl (fun l => m_X9_part l p2 x6 x7 x8 x9 z5.2 z10.1 z10.2 ez10) g_58266b929b g_d01231e138 g_096049f814 g_2759d91faa g_e8cff54792 hd_X9_part (rm_ok hf hl (by decide) (by decide)) rfl (vm_spec ez10).1 dL_law_1327 rfl (stk' := [vl z10.1, vl z5.1]) rfl ?_
  refine pw_lcmp (pc := 1330) F dL_law_1330 ?_
  refine pw_if_eq (pc := 1331) F 1683 dL_law_1331 (by decide) (fun hc => ?_) (fun hc => ?_)
  · have h := iteT hc h
    exact pw_mask [true, true, true, true] (ls' := [some (vsc (b : Int)), some (vr p1), some (vr p2), some (vi p3)]) rfl (jL_law_1683_ok F q hX hn hf hl self18 p1 p2 p3 z10.2 ih18 h)
  · have h := iteF hc h
    refine pw_iconst (pc := 1334) F 0 dL_law_1334 (by decide) ?_
    exact absurd h (by simp)
def jL_law_1377 (X : List Int) (self18 : Int → PH → RO) (p1 p2 p3 s0 s1 s2 s3 : Int) (H : PH) : RO :=
  (f_X9_mark s1 s2 s3 H).bind fun z1 => (if s0 = z1.1 then jL_law_1683 X self18 p1 p2 p3 z1.2
  else some (0, z1.2))
set_option maxHeartbeats 4000000 in
theorem jL_law_1377_ok {E : PE} {HH : PH} {X : List Int} {b : Nat} (F : FX E cL_law RL) (q : LQ E) (hX : SX E X b) (hn : nLof E = 4) (hf : (roomOf E).frames = 9) (hl : (roomOf E).locals = 340) (self18 : Int → PH → RO) (p1 p2 p3 s0 s1 s2 s3 : Int) (H : PH) (ih18 : ∀ (v3 : Int) (HV : PH), self18 v3 HV = some (1, HH) → PW E 18 [some (vsc (b : Int)), some (vr p1), some (vr p2), some (vi v3)] [] HV) (h : jL_law_1377 X self18 p1 p2 p3 s0 s1 s2 s3 H = some (1, HH)) : PW E 1377 [some (vsc (b : Int)), some (vr p1), some (vr p2), some (vi p3)] [vi s3, vi s2, vr s1, vi s0] H := by
  unfold jL_law_1377 at h
  obtain ⟨z1, ez1, h⟩ := bnd h
  refine pw_callV (pc := 1377) (as := [vi s2, vi s3]) (st := [vi s0]) (r := (some (vi z1.1))) F 145 9 (by decide) rfl (fun l => m_X9_mark l s1 s2 s3 H z1.1 z1.2 ez1) g_187a126ff9 g_64a515f950 g_23e0c141ef g_2759d91faa g_fc5113c277 hd_X9_mark (rm_ok hf hl (by decide) (by decide)) rfl (vm_spec ez1).1 dL_law_1377 rfl (stk' := [vi z1.1, vi s0]) rfl ?_
  refine pw_icmp_eq (pc := 1380) F 1683 dL_law_1380 (by decide) (fun hc => ?_) (fun hc => ?_)
  · have h := iteT hc h
    exact pw_mask [true, true, true, true] (ls' := [some (vsc (b : Int)), some (vr p1), some (vr p2), some (vi p3)]) rfl (jL_law_1683_ok F q hX hn hf hl self18 p1 p2 p3 z1.2 ih18 h)
  · have h := iteF hc h
    refine pw_iconst (pc := 1383) F 0 dL_law_1383 (by decide) ?_
    exact absurd h (by simp)
def jL_law_1355 (X : List Int) (self18 : Int → PH → RO) (p1 p2 p3 s0 s1 s2 : Int) (H : PH) : RO :=
  (f_X8_mark s0 s1 s2 H).bind fun z1 => (sld X (w32 (p3 + 1))).bind fun x2 => (sld X (w32 (p3 + 2))).bind fun x3 => (if x3 = 0 then jL_law_1377 X self18 p1 p2 p3 z1.1 p2 x2 0 z1.2
  else jL_law_1377 X self18 p1 p2 p3 z1.1 p2 x2 1 z1.2)
set_option maxHeartbeats 4000000 in
theorem jL_law_1355_ok {E : PE} {HH : PH} {X : List Int} {b : Nat} (F : FX E cL_law RL) (q : LQ E) (hX : SX E X b) (hn : nLof E = 4) (hf : (roomOf E).frames = 9) (hl : (roomOf E).locals = 340) (self18 : Int → PH → RO) (p1 p2 p3 s0 s1 s2 : Int) (H : PH) (ih18 : ∀ (v3 : Int) (HV : PH), self18 v3 HV = some (1, HH) → PW E 18 [some (vsc (b : Int)), some (vr p1), some (vr p2), some (vi v3)] [] HV) (h : jL_law_1355 X self18 p1 p2 p3 s0 s1 s2 H = some (1, HH)) : PW E 1355 [some (vsc (b : Int)), some (vr p1), some (vr p2), some (vi p3)] [vi s2, vi s1, vr s0] H := by
  unfold jL_law_1355 at h
  obtain ⟨z1, ez1, h⟩ := bnd h
  refine pw_callV (pc := 1355) (as := [vi s1, vi s2]) (st := []) (r := (some (vi z1.1))) F 141 8 (by decide) rfl (fun l => m_X8_mark l s0 s1 s2 H z1.1 z1.2 ez1) g_26bf96fbe6 g_1c2750962f g_ac551cefac g_99e03e18e2 g_2179e2440e hd_X8_mark (rm_ok hf hl (by decide) (by decide)) rfl (vm_spec ez1).1 dL_law_1355 rfl (stk' := [vi z1.1]) rfl ?_
  refine pw_aload_n (pc := 1358) F dL_law_1358 rfl ?_
  refine pw_sload_n (pc := 1359) F dL_law_1359 rfl ?_
  refine pw_iload_n (pc := 1360) F dL_law_1360 rfl ?_
  refine pw_iconst (pc := 1361) F 1 dL_law_1361 (by decide) ?_
  refine pw_iadd (pc := 1362) F dL_law_1362 ?_
  obtain ⟨x2, ex2, h⟩ := bnd h
  refine pw_sld (pc := 1363) F hX dL_law_1363 ex2 ?_
  refine pw_sload_n (pc := 1364) F dL_law_1364 rfl ?_
  refine pw_iload_n (pc := 1365) F dL_law_1365 rfl ?_
  refine pw_iconst (pc := 1366) F 2 dL_law_1366 (by decide) ?_
  refine pw_iadd (pc := 1367) F dL_law_1367 ?_
  obtain ⟨x3, ex3, h⟩ := bnd h
  refine pw_sld (pc := 1368) F hX dL_law_1368 ex3 ?_
  refine pw_if_eq (pc := 1369) F 1376 dL_law_1369 (by decide) (fun hc => ?_) (fun hc => ?_)
  · have h := iteT hc h
    refine pw_iconst (pc := 1376) F 0 dL_law_1376 (by decide) ?_
    exact pw_mask [true, true, true, true] (ls' := [some (vsc (b : Int)), some (vr p1), some (vr p2), some (vi p3)]) rfl (jL_law_1377_ok F q hX hn hf hl self18 p1 p2 p3 z1.1 p2 x2 0 z1.2 ih18 h)
  · have h := iteF hc h
    refine pw_iconst (pc := 1372) F 1 dL_law_1372 (by decide) ?_
    refine pw_goto (pc := 1373) F 1377 dL_law_1373 (by decide) ?_
    exact pw_mask [true, true, true, true] (ls' := [some (vsc (b : Int)), some (vr p1), some (vr p2), some (vi p3)]) rfl (jL_law_1377_ok F q hX hn hf hl self18 p1 p2 p3 z1.1 p2 x2 1 z1.2 ih18 h)
def jL_law_1336 (X : List Int) (self18 : Int → PH → RO) (p1 p2 p3 : Int) (H : PH) : RO :=
  (sld X (w32 (p3 + 1))).bind fun x1 => (sld X (w32 (p3 + 2))).bind fun x2 => (if x2 = 0 then jL_law_1355 X self18 p1 p2 p3 p1 x1 0 H
  else jL_law_1355 X self18 p1 p2 p3 p1 x1 1 H)
set_option maxHeartbeats 4000000 in
theorem jL_law_1336_ok {E : PE} {HH : PH} {X : List Int} {b : Nat} (F : FX E cL_law RL) (q : LQ E) (hX : SX E X b) (hn : nLof E = 4) (hf : (roomOf E).frames = 9) (hl : (roomOf E).locals = 340) (self18 : Int → PH → RO) (p1 p2 p3 : Int) (H : PH) (ih18 : ∀ (v3 : Int) (HV : PH), self18 v3 HV = some (1, HH) → PW E 18 [some (vsc (b : Int)), some (vr p1), some (vr p2), some (vi v3)] [] HV) (h : jL_law_1336 X self18 p1 p2 p3 H = some (1, HH)) : PW E 1336 [some (vsc (b : Int)), some (vr p1), some (vr p2), some (vi p3)] [] H := by
  unfold jL_law_1336 at h
  refine pw_aload_n (pc := 1336) F dL_law_1336 rfl ?_
  refine pw_sload_n (pc := 1337) F dL_law_1337 rfl ?_
  refine pw_iload_n (pc := 1338) F dL_law_1338 rfl ?_
  refine pw_iconst (pc := 1339) F 1 dL_law_1339 (by decide) ?_
  refine pw_iadd (pc := 1340) F dL_law_1340 ?_
  obtain ⟨x1, ex1, h⟩ := bnd h
  refine pw_sld (pc := 1341) F hX dL_law_1341 ex1 ?_
  refine pw_sload_n (pc := 1342) F dL_law_1342 rfl ?_
  refine pw_iload_n (pc := 1343) F dL_law_1343 rfl ?_
  refine pw_iconst (pc := 1344) F 2 dL_law_1344 (by decide) ?_
  refine pw_iadd (pc := 1345) F dL_law_1345 ?_
  obtain ⟨x2, ex2, h⟩ := bnd h
  refine pw_sld (pc := 1346) F hX dL_law_1346 ex2 ?_
  refine pw_if_eq (pc := 1347) F 1354 dL_law_1347 (by decide) (fun hc => ?_) (fun hc => ?_)
  · have h := iteT hc h
    refine pw_iconst (pc := 1354) F 0 dL_law_1354 (by decide) ?_
    exact pw_mask [true, true, true, true] (ls' := [some (vsc (b : Int)), some (vr p1), some (vr p2), some (vi p3)]) rfl (jL_law_1355_ok F q hX hn hf hl self18 p1 p2 p3 p1 x1 0 H ih18 h)
  · have h := iteF hc h
    refine pw_iconst (pc := 1350) F 1 dL_law_1350 (by decide) ?_
    refine pw_goto (pc := 1351) F 1355 dL_law_1351 (by decide) ?_
    exact pw_mask [true, true, true, true] (ls' := [some (vsc (b : Int)), some (vr p1), some (vr p2), some (vi p3)]) rfl (jL_law_1355_ok F q hX hn hf hl self18 p1 p2 p3 p1 x1 1 H ih18 h)
def jL_law_1385 (X : List Int) (self18 : Int → PH → RO) (p1 p2 p3 : Int) (H : PH) : RO :=
  (f_X8_doubles p1 H).bind fun z1 => (f_X9_doubles p2 z1.2).bind fun z2 => (if z1.1 = z2.1 then jL_law_1683 X self18 p1 p2 p3 z2.2
  else some (0, z2.2))
set_option maxHeartbeats 4000000 in
theorem jL_law_1385_ok {E : PE} {HH : PH} {X : List Int} {b : Nat} (F : FX E cL_law RL) (q : LQ E) (hX : SX E X b) (hn : nLof E = 4) (hf : (roomOf E).frames = 9) (hl : (roomOf E).locals = 340) (self18 : Int → PH → RO) (p1 p2 p3 : Int) (H : PH) (ih18 : ∀ (v3 : Int) (HV : PH), self18 v3 HV = some (1, HH) → PW E 18 [some (vsc (b : Int)), some (vr p1), some (vr p2), some (vi v3)] [] HV) (h : jL_law_1385 X self18 p1 p2 p3 H = some (1, HH)) : PW E 1385 [some (vsc (b : Int)), some (vr p1), some (vr p2), some (vi p3)] [] H := by
  unfold jL_law_1385 at h
  refine pw_aload_n (pc := 1385) F dL_law_1385 rfl ?_
  obtain ⟨z1, ez1, h⟩ := bnd h
  refine pw_callV (pc := 1386) (as := []) (st := []) (r := (some (vi z1.1))) F 146 8 (by decide) rfl (fun l => m_X8_doubles l p1 H z1.1 z1.2 ez1) g_78f01af593 g_eaa438446f g_2b930b2918 g_99e03e18e2 g_a422a9ae41 hd_X8_doubles (rm_ok hf hl (by decide) (by decide)) rfl (vm_spec ez1).1 dL_law_1386 rfl (stk' := [vi z1.1]) rfl ?_
  refine pw_aload_n (pc := 1389) F dL_law_1389 rfl ?_
  obtain ⟨z2, ez2, h⟩ := bnd h
  refine pw_callV (pc := 1390) (as := []) (st := [vi z1.1]) (r := (some (vi z2.1))) F 149 9 (by decide) rfl (fun l => m_X9_doubles l p2 z1.2 z2.1 z2.2 ez2) g_aa3b99c8b3 g_234ec4d03f g_92f5a855ad g_2759d91faa g_d60f11ac3d hd_X9_doubles (rm_ok hf hl (by decide) (by decide)) rfl (vm_spec ez2).1 dL_law_1390 rfl (stk' := [vi z2.1, vi z1.1]) rfl ?_
  refine pw_icmp_eq (pc := 1393) F 1683 dL_law_1393 (by decide) (fun hc => ?_) (fun hc => ?_)
  · have h := iteT hc h
    exact pw_mask [true, true, true, true] (ls' := [some (vsc (b : Int)), some (vr p1), some (vr p2), some (vi p3)]) rfl (jL_law_1683_ok F q hX hn hf hl self18 p1 p2 p3 z2.2 ih18 h)
  · have h := iteF hc h
    refine pw_iconst (pc := 1396) F 0 dL_law_1396 (by decide) ?_
    exact absurd h (by simp)
def jL_law_1398 (X : List Int) (self18 : Int → PH → RO) (p1 p2 p3 : Int) (H : PH) : RO :=
  (sld X (w32 (p3 + 1))).bind fun x1 => (sld X (w32 (p3 + 2))).bind fun x2 => (f_X8_doubleAt p1 x1 x2 H).bind fun z3 => (sld X (w32 (p3 + 1))).bind fun x4 => (sld X (w32 (p3 + 2))).bind fun x5 => (f_X9_doubleAt p2 x4 x5 z3.2).bind fun z6 => (if z3.1 = z6.1 then jL_law_1683 X self18 p1 p2 p3 z6.2
  else some (0, z6.2))
set_option maxHeartbeats 4000000 in
theorem jL_law_1398_ok {E : PE} {HH : PH} {X : List Int} {b : Nat} (F : FX E cL_law RL) (q : LQ E) (hX : SX E X b) (hn : nLof E = 4) (hf : (roomOf E).frames = 9) (hl : (roomOf E).locals = 340) (self18 : Int → PH → RO) (p1 p2 p3 : Int) (H : PH) (ih18 : ∀ (v3 : Int) (HV : PH), self18 v3 HV = some (1, HH) → PW E 18 [some (vsc (b : Int)), some (vr p1), some (vr p2), some (vi v3)] [] HV) (h : jL_law_1398 X self18 p1 p2 p3 H = some (1, HH)) : PW E 1398 [some (vsc (b : Int)), some (vr p1), some (vr p2), some (vi p3)] [] H := by
  unfold jL_law_1398 at h
  refine pw_aload_n (pc := 1398) F dL_law_1398 rfl ?_
  refine pw_sload_n (pc := 1399) F dL_law_1399 rfl ?_
  refine pw_iload_n (pc := 1400) F dL_law_1400 rfl ?_
  refine pw_iconst (pc := 1401) F 1 dL_law_1401 (by decide) ?_
  refine pw_iadd (pc := 1402) F dL_law_1402 ?_
  obtain ⟨x1, ex1, h⟩ := bnd h
  refine pw_sld (pc := 1403) F hX dL_law_1403 ex1 ?_
  refine pw_sload_n (pc := 1404) F dL_law_1404 rfl ?_
  refine pw_iload_n (pc := 1405) F dL_law_1405 rfl ?_
  refine pw_iconst (pc := 1406) F 2 dL_law_1406 (by decide) ?_
  refine pw_iadd (pc := 1407) F dL_law_1407 ?_
  obtain ⟨x2, ex2, h⟩ := bnd h
  refine pw_sld (pc := 1408) F hX dL_law_1408 ex2 ?_
  obtain ⟨z3, ez3, h⟩ := bnd h
  refine pw_callV (pc := 1409) (as := [vi x1, vi x2]) (st := []) (r := (some (vi z3.1))) F 150 8 (by decide) rfl (fun l => m_X8_doubleAt l p1 x1 x2 H z3.1 z3.2 ez3) g_ea1e07a6fd g_08de0eee10 g_1237f0af02 g_99e03e18e2 g_2d5f441c50 hd_X8_doubleAt (rm_ok hf hl (by decide) (by decide)) rfl (vm_spec ez3).1 dL_law_1409 rfl (stk' := [vi z3.1]) rfl ?_
  refine pw_aload_n (pc := 1412) F dL_law_1412 rfl ?_
  refine pw_sload_n (pc := 1413) F dL_law_1413 rfl ?_
  refine pw_iload_n (pc := 1414) F dL_law_1414 rfl ?_
  refine pw_iconst (pc := 1415) F 1 dL_law_1415 (by decide) ?_
  refine pw_iadd (pc := 1416) F dL_law_1416 ?_
  obtain ⟨x4, ex4, h⟩ := bnd h
  refine pw_sld (pc := 1417) F hX dL_law_1417 ex4 ?_
  refine pw_sload_n (pc := 1418) F dL_law_1418 rfl ?_
  refine pw_iload_n (pc := 1419) F dL_law_1419 rfl ?_
  refine pw_iconst (pc := 1420) F 2 dL_law_1420 (by decide) ?_
  refine pw_iadd (pc := 1421) F dL_law_1421 ?_
  obtain ⟨x5, ex5, h⟩ := bnd h
  refine pw_sld (pc := 1422) F hX dL_law_1422 ex5 ?_
  obtain ⟨z6, ez6, h⟩ := bnd h
  refine pw_callV (pc := 1423) (as := [vi x4, vi x5]) (st := [vi z3.1]) (r := (some (vi z6.1))) F 153 9 (by decide) rfl (fun l => m_X9_doubleAt l p2 x4 x5 z3.2 z6.1 z6.2 ez6) g_d68de4174c g_0a0d3be2b0 g_fbf83a41ed g_2759d91faa g_a3b3a75779 hd_X9_doubleAt (rm_ok hf hl (by decide) (by decide)) rfl (vm_spec ez6).1 dL_law_1423 rfl (stk' := [vi z6.1, vi z3.1]) rfl ?_
  refine pw_icmp_eq (pc := 1426) F 1683 dL_law_1426 (by decide) (fun hc => ?_) (fun hc => ?_)
  · have h := iteT hc h
    exact pw_mask [true, true, true, true] (ls' := [some (vsc (b : Int)), some (vr p1), some (vr p2), some (vi p3)]) rfl (jL_law_1683_ok F q hX hn hf hl self18 p1 p2 p3 z6.2 ih18 h)
  · have h := iteF hc h
    refine pw_iconst (pc := 1429) F 0 dL_law_1429 (by decide) ?_
    exact absurd h (by simp)
def jL_law_1431 (X : List Int) (self18 : Int → PH → RO) (p1 p2 p3 : Int) (H : PH) : RO :=
  (f_X8_freeze p1 H).bind fun z1 => (f_X9_freeze p2 z1.2).bind fun z2 => (if z1.1 = z2.1 then jL_law_1683 X self18 p1 p2 p3 z2.2
  else some (0, z2.2))
set_option maxHeartbeats 4000000 in
theorem jL_law_1431_ok {E : PE} {HH : PH} {X : List Int} {b : Nat} (F : FX E cL_law RL) (q : LQ E) (hX : SX E X b) (hn : nLof E = 4) (hf : (roomOf E).frames = 9) (hl : (roomOf E).locals = 340) (self18 : Int → PH → RO) (p1 p2 p3 : Int) (H : PH) (ih18 : ∀ (v3 : Int) (HV : PH), self18 v3 HV = some (1, HH) → PW E 18 [some (vsc (b : Int)), some (vr p1), some (vr p2), some (vi v3)] [] HV) (h : jL_law_1431 X self18 p1 p2 p3 H = some (1, HH)) : PW E 1431 [some (vsc (b : Int)), some (vr p1), some (vr p2), some (vi p3)] [] H := by
  unfold jL_law_1431 at h
  refine pw_aload_n (pc := 1431) F dL_law_1431 rfl ?_
  obtain ⟨z1, ez1, h⟩ := bnd h
  refine pw_callV (pc := 1432) (as := []) (st := []) (r := (some (vi z1.1))) F 154 8 (by decide) rfl (fun l => m_X8_freeze l p1 H z1.1 z1.2 ez1) g_3ab0f2d937 g_4df56624e3 g_94133a3db3 g_99e03e18e2 g_89a26543b6 hd_X8_freeze (rm_ok hf hl (by decide) (by decide)) rfl (vm_spec ez1).1 dL_law_1432 rfl (stk' := [vi z1.1]) rfl ?_
  refine pw_aload_n (pc := 1435) F dL_law_1435 rfl ?_
  obtain ⟨z2, ez2, h⟩ := bnd h
  refine pw_callV (pc := 1436) (as := []) (st := [vi z1.1]) (r := (some (vi z2.1))) F 157 9 (by decide) rfl (fun l => m_X9_freeze l p2 z1.2 z2.1 z2.2 ez2) g_25553e2c12 g_4b40787dde g_cc111fd10c g_2759d91faa g_83c347bd91 hd_X9_freeze (rm_ok hf hl (by decide) (by decide)) rfl (vm_spec ez2).1 dL_law_1436 rfl (stk' := [vi z2.1, vi z1.1]) rfl ?_
  refine pw_icmp_eq (pc := 1439) F 1683 dL_law_1439 (by decide) (fun hc => ?_) (fun hc => ?_)
  · have h := iteT hc h
    exact pw_mask [true, true, true, true] (ls' := [some (vsc (b : Int)), some (vr p1), some (vr p2), some (vi p3)]) rfl (jL_law_1683_ok F q hX hn hf hl self18 p1 p2 p3 z2.2 ih18 h)
  · have h := iteF hc h
    refine pw_iconst (pc := 1442) F 0 dL_law_1442 (by decide) ?_
    exact absurd h (by simp)
def jL_law_1444 (X : List Int) (self18 : Int → PH → RO) (p1 p2 p3 : Int) (H : PH) : RO :=
  (sld X (w32 (p3 + 1))).bind fun x1 => (sld X (w32 (p3 + 2))).bind fun x2 => (sld X (w32 (p3 + 3))).bind fun x3 => (sld X (w32 (p3 + 4))).bind fun x4 => (f_X8_frozen p1 x1 x2 x3 x4 H).bind fun z5 => (sld X (w32 (p3 + 1))).bind fun x6 => (sld X (w32 (p3 + 2))).bind fun x7 => (sld X (w32 (p3 + 3))).bind fun x8 => (sld X (w32 (p3 + 4))).bind fun x9 => (f_X9_frozen p2 x6 x7 x8 x9 z5.2).bind fun z10 => (if (lc z5.1 z10.1) = 0 then jL_law_1683 X self18 p1 p2 p3 z10.2
  else some (0, z10.2))
set_option maxHeartbeats 4000000 in
theorem jL_law_1444_ok {E : PE} {HH : PH} {X : List Int} {b : Nat} (F : FX E cL_law RL) (q : LQ E) (hX : SX E X b) (hn : nLof E = 4) (hf : (roomOf E).frames = 9) (hl : (roomOf E).locals = 340) (self18 : Int → PH → RO) (p1 p2 p3 : Int) (H : PH) (ih18 : ∀ (v3 : Int) (HV : PH), self18 v3 HV = some (1, HH) → PW E 18 [some (vsc (b : Int)), some (vr p1), some (vr p2), some (vi v3)] [] HV) (h : jL_law_1444 X self18 p1 p2 p3 H = some (1, HH)) : PW E 1444 [some (vsc (b : Int)), some (vr p1), some (vr p2), some (vi p3)] [] H := by
  unfold jL_law_1444 at h
  refine pw_aload_n (pc := 1444) F dL_law_1444 rfl ?_
  refine pw_sload_n (pc := 1445) F dL_law_1445 rfl ?_
  refine pw_iload_n (pc := 1446) F dL_law_1446 rfl ?_
  refine pw_iconst (pc := 1447) F 1 dL_law_1447 (by decide) ?_
  refine pw_iadd (pc := 1448) F dL_law_1448 ?_
  obtain ⟨x1, ex1, h⟩ := bnd h
  refine pw_sld (pc := 1449) F hX dL_law_1449 ex1 ?_
  refine pw_sload_n (pc := 1450) F dL_law_1450 rfl ?_
  refine pw_iload_n (pc := 1451) F dL_law_1451 rfl ?_
  refine pw_iconst (pc := 1452) F 2 dL_law_1452 (by decide) ?_
  refine pw_iadd (pc := 1453) F dL_law_1453 ?_
  obtain ⟨x2, ex2, h⟩ := bnd h
  refine pw_sld (pc := 1454) F hX dL_law_1454 ex2 ?_
  refine pw_sload_n (pc := 1455) F dL_law_1455 rfl ?_
  refine pw_iload_n (pc := 1456) F dL_law_1456 rfl ?_
  refine pw_iconst (pc := 1457) F 3 dL_law_1457 (by decide) ?_
  refine pw_iadd (pc := 1458) F dL_law_1458 ?_
  obtain ⟨x3, ex3, h⟩ := bnd h
  refine pw_sld (pc := 1459) F hX dL_law_1459 ex3 ?_
  refine pw_sload_n (pc := 1460) F dL_law_1460 rfl ?_
  refine pw_iload_n (pc := 1461) F dL_law_1461 rfl ?_
  refine pw_iconst (pc := 1462) F 4 dL_law_1462 (by decide) ?_
  refine pw_iadd (pc := 1463) F dL_law_1463 ?_
  obtain ⟨x4, ex4, h⟩ := bnd h
  refine pw_sld (pc := 1464) F hX dL_law_1464 ex4 ?_
  obtain ⟨z5, ez5, h⟩ := bnd h
  refine pw_callV (pc := 1465) (as := [vi x1, vi x2, vi x3, vi x4]) (st := []) (r := (some (vl z5.1))) F 158 8 (by decide) rfl (fun l => m_X8_frozen l p1 x1 x2 x3 x4 H z5.1 z5.2 ez5) g_64c698aba2 g_4285dce7f5 g_064f29c987 g_99e03e18e2 g_e048a5854b hd_X8_frozen (rm_ok hf hl (by decide) (by decide)) rfl (vm_spec ez5).1 dL_law_1465 rfl (stk' := [vl z5.1]) rfl ?_
  refine pw_aload_n (pc := 1468) F dL_law_1468 rfl ?_
  refine pw_sload_n (pc := 1469) F dL_law_1469 rfl ?_
  refine pw_iload_n (pc := 1470) F dL_law_1470 rfl ?_
  refine pw_iconst (pc := 1471) F 1 dL_law_1471 (by decide) ?_
  refine pw_iadd (pc := 1472) F dL_law_1472 ?_
  obtain ⟨x6, ex6, h⟩ := bnd h
  refine pw_sld (pc := 1473) F hX dL_law_1473 ex6 ?_
  refine pw_sload_n (pc := 1474) F dL_law_1474 rfl ?_
  refine pw_iload_n (pc := 1475) F dL_law_1475 rfl ?_
  refine pw_iconst (pc := 1476) F 2 dL_law_1476 (by decide) ?_
  refine pw_iadd (pc := 1477) F dL_law_1477 ?_
  obtain ⟨x7, ex7, h⟩ := bnd h
  refine pw_sld (pc := 1478) F hX dL_law_1478 ex7 ?_
  refine pw_sload_n (pc := 1479) F dL_law_1479 rfl ?_
  refine pw_iload_n (pc := 1480) F dL_law_1480 rfl ?_
  refine pw_iconst (pc := 1481) F 3 dL_law_1481 (by decide) ?_
  refine pw_iadd (pc := 1482) F dL_law_1482 ?_
  obtain ⟨x8, ex8, h⟩ := bnd h
  refine pw_sld (pc := 1483) F hX dL_law_1483 ex8 ?_
  refine pw_sload_n (pc := 1484) F dL_law_1484 rfl ?_
  refine pw_iload_n (pc := 1485) F dL_law_1485 rfl ?_
  refine pw_iconst (pc := 1486) F 4 dL_law_1486 (by decide) ?_
  refine pw_iadd (pc := 1487) F dL_law_1487 ?_
  obtain ⟨x9, ex9, h⟩ := bnd h
  refine pw_sld (pc := 1488) F hX dL_law_1488 ex9 ?_
  obtain ⟨z10, ez10, h⟩ := bnd h
  refine pw_callV (pc := 1489) (as := [vi x6, vi x7, vi x8, vi x9]) (st := [vl z5.1]) (r := (some (vl z10.1))) F 161 9 (by decide) rfl (fun l => m_X9_frozen l p2 x6 x7 x8 x9 z5.2 z10.1 z10.2 ez10) g_6161c81bda g_10b74d9696 g_6932fa8e20 g_2759d91faa g_cf343aa32e hd_X9_frozen (rm_ok hf hl (by decide) (by decide)) rfl (vm_spec ez10).1 dL_law_1489 rfl (stk' := [vl z10.1, vl z5.1]) rfl ?_
  refine pw_lcmp (pc := 1492) F dL_law_1492 ?_
  refine pw_if_eq (pc := 1493) F 1683 dL_law_1493 (by decide) (fun hc => ?_) (fun hc => ?_)
  · have h := iteT hc h
    exact pw_mask [true, true, true, true] (ls' := [some (vsc (b : Int)), some (vr p1), some (vr p2), some (vi p3)]) rfl (jL_law_1683_ok F q hX hn hf hl self18 p1 p2 p3 z10.2 ih18 h)
  · have h := iteF hc h
    refine pw_iconst (pc := 1496) F 0 dL_law_1496 (by decide) ?_
    exact absurd h (by simp)
def jL_law_1498 (X : List Int) (self18 : Int → PH → RO) (p1 p2 p3 : Int) (H : PH) : RO :=
  (sld X (w32 (p3 + 1))).bind fun x1 => (sld X (w32 (p3 + 2))).bind fun x2 => (sld X (w32 (p3 + 3))).bind fun x3 => (sld X (w32 (p3 + 4))).bind fun x4 => (f_X8_frozenReason p1 x1 x2 x3 x4 H).bind fun z5 => (sld X (w32 (p3 + 1))).bind fun x6 => (sld X (w32 (p3 + 2))).bind fun x7 => (sld X (w32 (p3 + 3))).bind fun x8 => (sld X (w32 (p3 + 4))).bind fun x9 => (f_X9_frozenReason p2 x6 x7 x8 x9 z5.2).bind fun z10 => (if z5.1 = z10.1 then jL_law_1683 X self18 p1 p2 p3 z10.2
  else some (0, z10.2))
set_option maxHeartbeats 4000000 in
theorem jL_law_1498_ok {E : PE} {HH : PH} {X : List Int} {b : Nat} (F : FX E cL_law RL) (q : LQ E) (hX : SX E X b) (hn : nLof E = 4) (hf : (roomOf E).frames = 9) (hl : (roomOf E).locals = 340) (self18 : Int → PH → RO) (p1 p2 p3 : Int) (H : PH) (ih18 : ∀ (v3 : Int) (HV : PH), self18 v3 HV = some (1, HH) → PW E 18 [some (vsc (b : Int)), some (vr p1), some (vr p2), some (vi v3)] [] HV) (h : jL_law_1498 X self18 p1 p2 p3 H = some (1, HH)) : PW E 1498 [some (vsc (b : Int)), some (vr p1), some (vr p2), some (vi p3)] [] H := by
  unfold jL_law_1498 at h
  refine pw_aload_n (pc := 1498) F dL_law_1498 rfl ?_
  refine pw_sload_n (pc := 1499) F dL_law_1499 rfl ?_
  refine pw_iload_n (pc := 1500) F dL_law_1500 rfl ?_
  refine pw_iconst (pc := 1501) F 1 dL_law_1501 (by decide) ?_
  refine pw_iadd (pc := 1502) F dL_law_1502 ?_
  obtain ⟨x1, ex1, h⟩ := bnd h
  refine pw_sld (pc := 1503) F hX dL_law_1503 ex1 ?_
  refine pw_sload_n (pc := 1504) F dL_law_1504 rfl ?_
  refine pw_iload_n (pc := 1505) F dL_law_1505 rfl ?_
  refine pw_iconst (pc := 1506) F 2 dL_law_1506 (by decide) ?_
  refine pw_iadd (pc := 1507) F dL_law_1507 ?_
  obtain ⟨x2, ex2, h⟩ := bnd h
  refine pw_sld (pc := 1508) F hX dL_law_1508 ex2 ?_
  refine pw_sload_n (pc := 1509) F dL_law_1509 rfl ?_
  refine pw_iload_n (pc := 1510) F dL_law_1510 rfl ?_
  refine pw_iconst (pc := 1511) F 3 dL_law_1511 (by decide) ?_
  refine pw_iadd (pc := 1512) F dL_law_1512 ?_
  obtain ⟨x3, ex3, h⟩ := bnd h
  refine pw_sld (pc := 1513) F hX dL_law_1513 ex3 ?_
  refine pw_sload_n (pc := 1514) F dL_law_1514 rfl ?_
  refine pw_iload_n (pc := 1515) F dL_law_1515 rfl ?_
  refine pw_iconst (pc := 1516) F 4 dL_law_1516 (by decide) ?_
  refine pw_iadd (pc := 1517) F dL_law_1517 ?_
  obtain ⟨x4, ex4, h⟩ := bnd h
  refine pw_sld (pc := 1518) F hX dL_law_1518 ex4 ?_
  obtain ⟨z5, ez5, h⟩ := bnd h
  refine pw_callV (pc := 1519) (as := [vi x1, vi x2, vi x3, vi x4]) (st := []) (r := (some (vi z5.1))) F 162 8 (by decide) rfl (fun l => m_X8_frozenReason l p1 x1 x2 x3 x4 H z5.1 z5.2 ez5) g_ef2f71692b g_f9df20d40a g_eb97e45292 g_99e03e18e2 g_feb909d8e8 hd_X8_frozenReason (rm_ok hf hl (by decide) (by decide)) rfl (vm_spec ez5).1 dL_law_1519 rfl (stk' := [vi z5.1]) rfl ?_
  refine pw_aload_n (pc := 1522) F dL_law_1522 rfl ?_
  refine pw_sload_n (pc := 1523) F dL_law_1523 rfl ?_
  refine pw_iload_n (pc := 1524) F dL_law_1524 rfl ?_
  refine pw_iconst (pc := 1525) F 1 dL_law_1525 (by decide) ?_
  refine pw_iadd (pc := 1526) F dL_law_1526 ?_
  obtain ⟨x6, ex6, h⟩ := bnd h
  refine pw_sld (pc := 1527) F hX dL_law_1527 ex6 ?_
  refine pw_sload_n (pc := 1528) F dL_law_1528 rfl ?_
  refine pw_iload_n (pc := 1529) F dL_law_1529 rfl ?_
  refine pw_iconst (pc := 1530) F 2 dL_law_1530 (by decide) ?_
  refine pw_iadd (pc := 1531) F dL_law_1531 ?_
  obtain ⟨x7, ex7, h⟩ := bnd h
  refine pw_sld (pc := 1532) F hX dL_law_1532 ex7 ?_
  refine pw_sload_n (pc := 1533) F dL_law_1533 rfl ?_
  refine pw_iload_n (pc := 1534) F dL_law_1534 rfl ?_
  refine pw_iconst (pc := 1535) F 3 dL_law_1535 (by decide) ?_
  refine pw_iadd (pc := 1536) F dL_law_1536 ?_
  obtain ⟨x8, ex8, h⟩ := bnd h
  refine pw_sld (pc := 1537) F hX dL_law_1537 ex8 ?_
  refine pw_sload_n (pc := 1538) F dL_law_1538 rfl ?_
  refine pw_iload_n (pc := 1539) F dL_law_1539 rfl ?_
  refine pw_iconst (pc := 1540) F 4 dL_law_1540 (by decide) ?_
  refine pw_iadd (pc := 1541) F dL_law_1541 ?_
  obtain ⟨x9, ex9, h⟩ := bnd h
  refine pw_sld (pc := 1542) F hX dL_law_1542 ex9 ?_
  obtain ⟨z10, ez10, h⟩ := bnd h
  refine pw_callV (pc := 1543) (as := [vi x6, vi x7, vi x8, vi x9]) (st := [vi z5.1]) (r := (some (vi z10.1))) F 165 9 (by decide) rfl (fun l => m_X9_frozenReason l p2 x6 x7 x8 x9 z5.2 z10.1 z10.2 ez10) g_56df7dd08c g_48701dd6d0 g_ff4f32f3d9 g_2759d91faa g_92d71c680a hd_X9_frozenReason (rm_ok hf hl (by decide) (by decide)) rfl (vm_spec ez10).1 dL_law_1543 rfl (stk' := [vi z10.1, vi z5.1]) rfl ?_
  refine pw_icmp_eq (pc := 1546) F 1683 dL_law_1546 (by decide) (fun hc => ?_) (fun hc => ?_)
  · have h := iteT hc h
    exact pw_mask [true, true, true, true] (ls' := [some (vsc (b : Int)), some (vr p1), some (vr p2), some (vi p3)]) rfl (jL_law_1683_ok F q hX hn hf hl self18 p1 p2 p3 z10.2 ih18 h)
  · have h := iteF hc h
    refine pw_iconst (pc := 1549) F 0 dL_law_1549 (by decide) ?_
    exact absurd h (by simp)
def jL_law_1551 (X : List Int) (self18 : Int → PH → RO) (p1 p2 p3 : Int) (H : PH) : RO :=
  (sld X (w32 (p3 + 1))).bind fun x1 => (sld X (w32 (p3 + 2))).bind fun x2 => (f_X8_changes p1 x1 x2 H).bind fun z3 => (sld X (w32 (p3 + 1))).bind fun x4 => (sld X (w32 (p3 + 2))).bind fun x5 => (f_X9_changes p2 x4 x5 z3.2).bind fun z6 => (if z3.1 = z6.1 then jL_law_1683 X self18 p1 p2 p3 z6.2
  else some (0, z6.2))
set_option maxHeartbeats 4000000 in
theorem jL_law_1551_ok {E : PE} {HH : PH} {X : List Int} {b : Nat} (F : FX E cL_law RL) (q : LQ E) (hX : SX E X b) (hn : nLof E = 4) (hf : (roomOf E).frames = 9) (hl : (roomOf E).locals = 340) (self18 : Int → PH → RO) (p1 p2 p3 : Int) (H : PH) (ih18 : ∀ (v3 : Int) (HV : PH), self18 v3 HV = some (1, HH) → PW E 18 [some (vsc (b : Int)), some (vr p1), some (vr p2), some (vi v3)] [] HV) (h : jL_law_1551 X self18 p1 p2 p3 H = some (1, HH)) : PW E 1551 [some (vsc (b : Int)), some (vr p1), some (vr p2), some (vi p3)] [] H := by
  unfold jL_law_1551 at h
  refine pw_aload_n (pc := 1551) F dL_law_1551 rfl ?_
  refine pw_sload_n (pc := 1552) F dL_law_1552 rfl ?_
  refine pw_iload_n (pc := 1553) F dL_law_1553 rfl ?_
  refine pw_iconst (pc := 1554) F 1 dL_law_1554 (by decide) ?_
  refine pw_iadd (pc := 1555) F dL_law_1555 ?_
  obtain ⟨x1, ex1, h⟩ := bnd h
  refine pw_sld (pc := 1556) F hX dL_law_1556 ex1 ?_
  refine pw_sload_n (pc := 1557) F dL_law_1557 rfl ?_
  refine pw_iload_n (pc := 1558) F dL_law_1558 rfl ?_
  refine pw_iconst (pc := 1559) F 2 dL_law_1559 (by decide) ?_
  refine pw_iadd (pc := 1560) F dL_law_1560 ?_
  obtain ⟨x2, ex2, h⟩ := bnd h
  refine pw_sld (pc := 1561) F hX dL_law_1561 ex2 ?_
  obtain ⟨z3, ez3, h⟩ := bnd h
  refine pw_callV (pc := 1562) (as := [vi x1, vi x2]) (st := []) (r := (some (vi z3.1))) F 166 8 (by decide) rfl (fun l => m_X8_changes l p1 x1 x2 H z3.1 z3.2 ez3) g_47d669b09e g_734e226b48 g_21e240f3be g_99e03e18e2 g_49886004e1 hd_X8_changes (rm_ok hf hl (by decide) (by decide)) rfl (vm_spec ez3).1 dL_law_1562 rfl (stk' := [vi z3.1]) rfl ?_
  refine pw_aload_n (pc := 1565) F dL_law_1565 rfl ?_
  refine pw_sload_n (pc := 1566) F dL_law_1566 rfl ?_
  refine pw_iload_n (pc := 1567) F dL_law_1567 rfl ?_
  refine pw_iconst (pc := 1568) F 1 dL_law_1568 (by decide) ?_
  refine pw_iadd (pc := 1569) F dL_law_1569 ?_
  obtain ⟨x4, ex4, h⟩ := bnd h
  refine pw_sld (pc := 1570) F hX dL_law_1570 ex4 ?_
  refine pw_sload_n (pc := 1571) F dL_law_1571 rfl ?_
  refine pw_iload_n (pc := 1572) F dL_law_1572 rfl ?_
  refine pw_iconst (pc := 1573) F 2 dL_law_1573 (by decide) ?_
  refine pw_iadd (pc := 1574) F dL_law_1574 ?_
  obtain ⟨x5, ex5, h⟩ := bnd h
  refine pw_sld (pc := 1575) F hX dL_law_1575 ex5 ?_
  obtain ⟨z6, ez6, h⟩ := bnd h
  refine pw_callV (pc := 1576) (as := [vi x4, vi x5]) (st := [vi z3.1]) (r := (some (vi z6.1))) F 169 9 (by decide) rfl (fun l => m_X9_changes l p2 x4 x5 z3.2 z6.1 z6.2 ez6) g_7ccb2b0058 g_b00dad72c3 g_597dc38a9e g_2759d91faa g_ed3cfd54f3 hd_X9_changes (rm_ok hf hl (by decide) (by decide)) rfl (vm_spec ez6).1 dL_law_1576 rfl (stk' := [vi z6.1, vi z3.1]) rfl ?_
  refine pw_icmp_eq (pc := 1579) F 1683 dL_law_1579 (by decide) (fun hc => ?_) (fun hc => ?_)
  · have h := iteT hc h
    exact pw_mask [true, true, true, true] (ls' := [some (vsc (b : Int)), some (vr p1), some (vr p2), some (vi p3)]) rfl (jL_law_1683_ok F q hX hn hf hl self18 p1 p2 p3 z6.2 ih18 h)
  · have h := iteF hc h
    refine pw_iconst (pc := 1582) F 0 dL_law_1582 (by decide) ?_
    exact absurd h (by simp)
def jL_law_1584 (X : List Int) (self18 : Int → PH → RO) (p1 p2 p3 : Int) (H : PH) : RO :=
  (sld X (w32 (p3 + 1))).bind fun x1 => (sld X (w32 (p3 + 2))).bind fun x2 => (sld X (w32 (p3 + 3))).bind fun x3 => (sld X (w32 (p3 + 4))).bind fun x4 => (f_X8_changeAt p1 x1 x2 x3 x4 H).bind fun z5 => (sld X (w32 (p3 + 1))).bind fun x6 => (sld X (w32 (p3 + 2))).bind fun x7 => (sld X (w32 (p3 + 3))).bind fun x8 => (sld X (w32 (p3 + 4))).bind fun x9 => (f_X9_changeAt p2 x6 x7 x8 x9 z5.2).bind fun z10 => (if z5.1 = z10.1 then jL_law_1683 X self18 p1 p2 p3 z10.2
  else some (0, z10.2))
set_option maxHeartbeats 4000000 in
theorem jL_law_1584_ok {E : PE} {HH : PH} {X : List Int} {b : Nat} (F : FX E cL_law RL) (q : LQ E) (hX : SX E X b) (hn : nLof E = 4) (hf : (roomOf E).frames = 9) (hl : (roomOf E).locals = 340) (self18 : Int → PH → RO) (p1 p2 p3 : Int) (H : PH) (ih18 : ∀ (v3 : Int) (HV : PH), self18 v3 HV = some (1, HH) → PW E 18 [some (vsc (b : Int)), some (vr p1), some (vr p2), some (vi v3)] [] HV) (h : jL_law_1584 X self18 p1 p2 p3 H = some (1, HH)) : PW E 1584 [some (vsc (b : Int)), some (vr p1), some (vr p2), some (vi p3)] [] H := by
  unfold jL_law_1584 at h
  refine pw_aload_n (pc := 1584) F dL_law_1584 rfl ?_
  refine pw_sload_n (pc := 1585) F dL_law_1585 rfl ?_
  refine pw_iload_n (pc := 1586) F dL_law_1586 rfl ?_
  refine pw_iconst (pc := 1587) F 1 dL_law_1587 (by decide) ?_
  refine pw_iadd (pc := 1588) F dL_law_1588 ?_
  obtain ⟨x1, ex1, h⟩ := bnd h
  refine pw_sld (pc := 1589) F hX dL_law_1589 ex1 ?_
  refine pw_sload_n (pc := 1590) F dL_law_1590 rfl ?_
  refine pw_iload_n (pc := 1591) F dL_law_1591 rfl ?_
  refine pw_iconst (pc := 1592) F 2 dL_law_1592 (by decide) ?_
  refine pw_iadd (pc := 1593) F dL_law_1593 ?_
  obtain ⟨x2, ex2, h⟩ := bnd h
  refine pw_sld (pc := 1594) F hX dL_law_1594 ex2 ?_
  refine pw_sload_n (pc := 1595) F dL_law_1595 rfl ?_
  refine pw_iload_n (pc := 1596) F dL_law_1596 rfl ?_
  refine pw_iconst (pc := 1597) F 3 dL_law_1597 (by decide) ?_
  refine pw_iadd (pc := 1598) F dL_law_1598 ?_
  obtain ⟨x3, ex3, h⟩ := bnd h
  refine pw_sld (pc := 1599) F hX dL_law_1599 ex3 ?_
  refine pw_sload_n (pc := 1600) F dL_law_1600 rfl ?_
  refine pw_iload_n (pc := 1601) F dL_law_1601 rfl ?_
  refine pw_iconst (pc := 1602) F 4 dL_law_1602 (by decide) ?_
  refine pw_iadd (pc := 1603) F dL_law_1603 ?_
  obtain ⟨x4, ex4, h⟩ := bnd h
  refine pw_sld (pc := 1604) F hX dL_law_1604 ex4 ?_
  obtain ⟨z5, ez5, h⟩ := bnd h
  refine pw_callV (pc := 1605) (as := [vi x1, vi x2, vi x3, vi x4]) (st := []) (r := (some (vi z5.1))) F 170 8 (by decide) rfl (fun l => m_X8_changeAt l p1 x1 x2 x3 x4 H z5.1 z5.2 ez5) g_b841cd1207 g_20a5d4ebc4 g_20e5fb284d g_99e03e18e2 g_15d773e83a hd_X8_changeAt (rm_ok hf hl (by decide) (by decide)) rfl (vm_spec ez5).1 dL_law_1605 rfl (stk' := [vi z5.1]) rfl ?_
  refine pw_aload_n (pc := 1608) F dL_law_1608 rfl ?_
  refine pw_sload_n (pc := 1609) F dL_law_1609 rfl ?_
  refine pw_iload_n (pc := 1610) F dL_law_1610 rfl ?_
  refine pw_iconst (pc := 1611) F 1 dL_law_1611 (by decide) ?_
  refine pw_iadd (pc := 1612) F dL_law_1612 ?_
  obtain ⟨x6, ex6, h⟩ := bnd h
  refine pw_sld (pc := 1613) F hX dL_law_1613 ex6 ?_
  refine pw_sload_n (pc := 1614) F dL_law_1614 rfl ?_
  refine pw_iload_n (pc := 1615) F dL_law_1615 rfl ?_
  refine pw_iconst (pc := 1616) F 2 dL_law_1616 (by decide) ?_
  refine pw_iadd (pc := 1617) F dL_law_1617 ?_
  obtain ⟨x7, ex7, h⟩ := bnd h
  refine pw_sld (pc := 1618) F hX dL_law_1618 ex7 ?_
  refine pw_sload_n (pc := 1619) F dL_law_1619 rfl ?_
  refine pw_iload_n (pc := 1620) F dL_law_1620 rfl ?_
  refine pw_iconst (pc := 1621) F 3 dL_law_1621 (by decide) ?_
  refine pw_iadd (pc := 1622) F dL_law_1622 ?_
  obtain ⟨x8, ex8, h⟩ := bnd h
  refine pw_sld (pc := 1623) F hX dL_law_1623 ex8 ?_
  refine pw_sload_n (pc := 1624) F dL_law_1624 rfl ?_
  refine pw_iload_n (pc := 1625) F dL_law_1625 rfl ?_
  refine pw_iconst (pc := 1626) F 4 dL_law_1626 (by decide) ?_
  refine pw_iadd (pc := 1627) F dL_law_1627 ?_
  obtain ⟨x9, ex9, h⟩ := bnd h
  refine pw_sld (pc := 1628) F hX dL_law_1628 ex9 ?_
  obtain ⟨z10, ez10, h⟩ := bnd h
  refine pw_callV (pc := 1629) (as := [vi x6, vi x7, vi x8, vi x9]) (st := [vi z5.1]) (r := (some (vi z10.1))) F 173 9 (by decide) rfl (fun l => m_X9_changeAt l p2 x6 x7 x8 x9 z5.2 z10.1 z10.2 ez10) g_ec4fcc7262 g_7548eaa812 g_4473c341ea g_2759d91faa g_91c06f00a7 hd_X9_changeAt (rm_ok hf hl (by decide) (by decide)) rfl (vm_spec ez10).1 dL_law_1629 rfl (stk' := [vi z10.1, vi z5.1]) rfl ?_
  refine pw_icmp_eq (pc := 1632) F 1683 dL_law_1632 (by decide) (fun hc => ?_) (fun hc => ?_)
  · have h := iteT hc h
    exact pw_mask [true, true, true, true] (ls' := [some (vsc (b : Int)), some (vr p1), some (vr p2), some (vi p3)]) rfl (jL_law_1683_ok F q hX hn hf hl self18 p1 p2 p3 z10.2 ih18 h)
  · have h := iteF hc h
    refine pw_iconst (pc := 1635) F 0 dL_law_1635 (by decide) ?_
    exact absurd h (by simp)
def jL_law_1637 (X : List Int) (self18 : Int → PH → RO) (p1 p2 p3 : Int) (H : PH) : RO :=
  (sld X (w32 (p3 + 1))).bind fun x1 => (f_X8_merge p1 x1 H).bind fun z2 => (sld X (w32 (p3 + 1))).bind fun x3 => (f_X9_merge p2 x3 z2.2).bind fun z4 => (if z2.1 = z4.1 then jL_law_1683 X self18 p1 p2 p3 z4.2
  else some (0, z4.2))
set_option maxHeartbeats 4000000 in
theorem jL_law_1637_ok {E : PE} {HH : PH} {X : List Int} {b : Nat} (F : FX E cL_law RL) (q : LQ E) (hX : SX E X b) (hn : nLof E = 4) (hf : (roomOf E).frames = 9) (hl : (roomOf E).locals = 340) (self18 : Int → PH → RO) (p1 p2 p3 : Int) (H : PH) (ih18 : ∀ (v3 : Int) (HV : PH), self18 v3 HV = some (1, HH) → PW E 18 [some (vsc (b : Int)), some (vr p1), some (vr p2), some (vi v3)] [] HV) (h : jL_law_1637 X self18 p1 p2 p3 H = some (1, HH)) : PW E 1637 [some (vsc (b : Int)), some (vr p1), some (vr p2), some (vi p3)] [] H := by
  unfold jL_law_1637 at h
  refine pw_aload_n (pc := 1637) F dL_law_1637 rfl ?_
  refine pw_sload_n (pc := 1638) F dL_law_1638 rfl ?_
  refine pw_iload_n (pc := 1639) F dL_law_1639 rfl ?_
  refine pw_iconst (pc := 1640) F 1 dL_law_1640 (by decide) ?_
  refine pw_iadd (pc := 1641) F dL_law_1641 ?_
  obtain ⟨x1, ex1, h⟩ := bnd h
  refine pw_sld (pc := 1642) F hX dL_law_1642 ex1 ?_
  obtain ⟨z2, ez2, h⟩ := bnd h
  refine pw_callV (pc := 1643) (as := [vi x1]) (st := []) (r := (some (vi z2.1))) F 174 8 (by decide) rfl (fun l => m_X8_merge l p1 x1 H z2.1 z2.2 ez2) g_2911c56db7 g_0aefee1581 g_85a6f5a834 g_99e03e18e2 g_b007c2b699 hd_X8_merge (rm_ok hf hl (by decide) (by decide)) rfl (vm_spec ez2).1 dL_law_1643 rfl (stk' := [vi z2.1]) rfl ?_
  refine pw_aload_n (pc := 1646) F dL_law_1646 rfl ?_
  refine pw_sload_n (pc := 1647) F dL_law_1647 rfl ?_
  refine pw_iload_n (pc := 1648) F dL_law_1648 rfl ?_
  refine pw_iconst (pc := 1649) F 1 dL_law_1649 (by decide) ?_
  refine pw_iadd (pc := 1650) F dL_law_1650 ?_
  obtain ⟨x3, ex3, h⟩ := bnd h
  refine pw_sld (pc := 1651) F hX dL_law_1651 ex3 ?_
  obtain ⟨z4, ez4, h⟩ := bnd h
  refine pw_callV (pc := 1652) (as := [vi x3]) (st := [vi z2.1]) (r := (some (vi z4.1))) F 177 9 (by decide) rfl (fun l => m_X9_merge l p2 x3 z2.2 z4.1 z4.2 ez4) g_80f14d0d86 g_ae1872ff86 g_a5264c1cec g_2759d91faa g_3f6a6ed713 hd_X9_merge (rm_ok hf hl (by decide) (by decide)) rfl (vm_spec ez4).1 dL_law_1652 rfl (stk' := [vi z4.1, vi z2.1]) rfl ?_
  refine pw_icmp_eq (pc := 1655) F 1683 dL_law_1655 (by decide) (fun hc => ?_) (fun hc => ?_)
  · have h := iteT hc h
    exact pw_mask [true, true, true, true] (ls' := [some (vsc (b : Int)), some (vr p1), some (vr p2), some (vi p3)]) rfl (jL_law_1683_ok F q hX hn hf hl self18 p1 p2 p3 z4.2 ih18 h)
  · have h := iteF hc h
    refine pw_iconst (pc := 1658) F 0 dL_law_1658 (by decide) ?_
    exact absurd h (by simp)
def jL_law_1660 (X : List Int) (self18 : Int → PH → RO) (p1 p2 p3 : Int) (H : PH) : RO :=
  (sld X (w32 (p3 + 1))).bind fun x1 => (f_X8_count p1 x1 H).bind fun z2 => (sld X (w32 (p3 + 1))).bind fun x3 => (f_X9_count p2 x3 z2.2).bind fun z4 => (if z2.1 = z4.1 then jL_law_1683 X self18 p1 p2 p3 z4.2
  else some (0, z4.2))
set_option maxHeartbeats 4000000 in
theorem jL_law_1660_ok {E : PE} {HH : PH} {X : List Int} {b : Nat} (F : FX E cL_law RL) (q : LQ E) (hX : SX E X b) (hn : nLof E = 4) (hf : (roomOf E).frames = 9) (hl : (roomOf E).locals = 340) (self18 : Int → PH → RO) (p1 p2 p3 : Int) (H : PH) (ih18 : ∀ (v3 : Int) (HV : PH), self18 v3 HV = some (1, HH) → PW E 18 [some (vsc (b : Int)), some (vr p1), some (vr p2), some (vi v3)] [] HV) (h : jL_law_1660 X self18 p1 p2 p3 H = some (1, HH)) : PW E 1660 [some (vsc (b : Int)), some (vr p1), some (vr p2), some (vi p3)] [] H := by
  unfold jL_law_1660 at h
  refine pw_aload_n (pc := 1660) F dL_law_1660 rfl ?_
  refine pw_sload_n (pc := 1661) F dL_law_1661 rfl ?_
  refine pw_iload_n (pc := 1662) F dL_law_1662 rfl ?_
  refine pw_iconst (pc := 1663) F 1 dL_law_1663 (by decide) ?_
  refine pw_iadd (pc := 1664) F dL_law_1664 ?_
  obtain ⟨x1, ex1, h⟩ := bnd h
  refine pw_sld (pc := 1665) F hX dL_law_1665 ex1 ?_
  obtain ⟨z2, ez2, h⟩ := bnd h
  refine pw_callV (pc := 1666) (as := [vi x1]) (st := []) (r := (some (vi z2.1))) F 178 8 (by decide) rfl (fun l => m_X8_count l p1 x1 H z2.1 z2.2 ez2) g_9c4282cd86 g_9d6fcb290c g_e5283df040 g_99e03e18e2 g_4b3f90d29a hd_X8_count (rm_ok hf hl (by decide) (by decide)) rfl (vm_spec ez2).1 dL_law_1666 rfl (stk' := [vi z2.1]) rfl ?_
  refine pw_aload_n (pc := 1669) F dL_law_1669 rfl ?_
  refine pw_sload_n (pc := 1670) F dL_law_1670 rfl ?_
  refine pw_iload_n (pc := 1671) F dL_law_1671 rfl ?_
  refine pw_iconst (pc := 1672) F 1 dL_law_1672 (by decide) ?_
  refine pw_iadd (pc := 1673) F dL_law_1673 ?_
  obtain ⟨x3, ex3, h⟩ := bnd h
  refine pw_sld (pc := 1674) F hX dL_law_1674 ex3 ?_
  obtain ⟨z4, ez4, h⟩ := bnd h
  refine pw_callV (pc := 1675) (as := [vi x3]) (st := [vi z2.1]) (r := (some (vi z4.1))) F 181 9 (by decide) rfl (fun l => m_X9_count l p2 x3 z2.2 z4.1 z4.2 ez4) g_877bbc176c g_22d14adffb g_9bfc9c4df5 g_2759d91faa g_8236da8ff9 hd_X9_count (rm_ok hf hl (by decide) (by decide)) rfl (vm_spec ez4).1 dL_law_1675 rfl (stk' := [vi z4.1, vi z2.1]) rfl ?_
  refine pw_icmp_eq (pc := 1678) F 1683 dL_law_1678 (by decide) (fun hc => ?_) (fun hc => ?_)
  · have h := iteT hc h
    exact pw_mask [true, true, true, true] (ls' := [some (vsc (b : Int)), some (vr p1), some (vr p2), some (vi p3)]) rfl (jL_law_1683_ok F q hX hn hf hl self18 p1 p2 p3 z4.2 ih18 h)
  · have h := iteF hc h
    refine pw_iconst (pc := 1681) F 0 dL_law_1681 (by decide) ?_
    exact absurd h (by simp)
def lL_law_18 (X : List Int) (p1 p2 : Int) (self18 : Int → PH → RO) (p3 : Int) (H : PH) : RO :=
  (if p3 > (w32 ((X.length : Int) - 7)) then some (1, H)
  else (sld X p3).bind fun x2 => (if (i_and x2 63) < 0 ∨ 38 < (i_and x2 63) then jL_law_1683 X self18 p1 p2 p3 H
  else List.getD [jL_law_204 X self18 p1 p2 p3 H, jL_law_237 X self18 p1 p2 p3 H, jL_law_270 X self18 p1 p2 p3 H, jL_law_293 X self18 p1 p2 p3 H, jL_law_408 X self18 p1 p2 p3 H, jL_law_441 X self18 p1 p2 p3 H, jL_law_464 X self18 p1 p2 p3 H, jL_law_497 X self18 p1 p2 p3 H, jL_law_530 X self18 p1 p2 p3 H, jL_law_543 X self18 p1 p2 p3 H, jL_law_626 X self18 p1 p2 p3 H, jL_law_679 X self18 p1 p2 p3 H, jL_law_723 X self18 p1 p2 p3 H, jL_law_766 X self18 p1 p2 p3 H, jL_law_839 X self18 p1 p2 p3 H, jL_law_882 X self18 p1 p2 p3 H, jL_law_915 X self18 p1 p2 p3 H, jL_law_958 X self18 p1 p2 p3 H, jL_law_991 X self18 p1 p2 p3 H, jL_law_1004 X self18 p1 p2 p3 H, jL_law_1037 X self18 p1 p2 p3 H, jL_law_1080 X self18 p1 p2 p3 H, jL_law_1113 X self18 p1 p2 p3 H, jL_law_1157 X self18 p1 p2 p3 H, jL_law_1180 X self18 p1 p2 p3 H, jL_law_1213 X self18 p1 p2 p3 H, jL_law_1236 X self18 p1 p2 p3 H, jL_law_1249 X self18 p1 p2 p3 H, jL_law_1282 X self18 p1 p2 p3 H, jL_law_1336 X self18 p1 p2 p3 H, jL_law_1385 X self18 p1 p2 p3 H, jL_law_1398 X self18 p1 p2 p3 H, jL_law_1431 X self18 p1 p2 p3 H, jL_law_1444 X self18 p1 p2 p3 H, jL_law_1498 X self18 p1 p2 p3 H, jL_law_1551 X self18 p1 p2 p3 H, jL_law_1584 X self18 p1 p2 p3 H, jL_law_1637 X self18 p1 p2 p3 H, jL_law_1660 X self18 p1 p2 p3 H] ((i_and x2 63) - 0).toNat none))
set_option maxHeartbeats 4000000 in
theorem lL_law_18_ok {E : PE} {HH : PH} {X : List Int} {b : Nat} (F : FX E cL_law RL) (q : LQ E) (hX : SX E X b) (hn : nLof E = 4) (hf : (roomOf E).frames = 9) (hl : (roomOf E).locals = 340) (p1 p2 : Int) : ∀ (n : Nat) (p3 : Int) (H : PH), lq1 (lL_law_18 X p1 p2) n p3 H = some (1, HH) → PW E 18 [some (vsc (b : Int)), some (vr p1), some (vr p2), some (vi p3)] [] H := by
  refine lq1_ind (P := fun p3 H => PW E 18 [some (vsc (b : Int)), some (vr p1), some (vr p2), some (vi p3)] [] H) ?_
  intro self18 ih18 p3 H h
  unfold lL_law_18 at h
  refine pw_iload_n (pc := 18) F dL_law_18 rfl ?_
  refine pw_sload_n (pc := 19) F dL_law_19 rfl ?_
  refine pw_slen (pc := 20) F hX dL_law_20 ?_
  refine pw_bipush (pc := 21) F 7 dL_law_21 (by decide) ?_
  refine pw_isub (pc := 23) F dL_law_23 ?_
  refine pw_icmp_gt (pc := 24) F 1689 dL_law_24 (by decide) (fun hc => ?_) (fun hc => ?_)
  · have h := iteT hc h
    refine pw_iconst (pc := 1689) F 1 dL_law_1689 (by decide) ?_
    exact pw_lawret (pc := 1690) F q dL_law_1690
  · have h := iteF hc h
    refine pw_sload_n (pc := 27) F dL_law_27 rfl ?_
    refine pw_iload_n (pc := 28) F dL_law_28 rfl ?_
    obtain ⟨x2, ex2, h⟩ := bnd h
    refine pw_sld (pc := 29) F hX dL_law_29 ex2 ?_
    refine pw_bipush (pc := 30) F 63 dL_law_30 (by decide) ?_
    refine pw_iand (pc := 32) F dL_law_32 ?_
    refine pw_table (pc := 33) F dL_law_33 1683 (by decide) [204, 237, 270, 293, 408, 441, 464, 497, 530, 543, 626, 679, 723, 766, 839, 882, 915, 958, 991, 1004, 1037, 1080, 1113, 1157, 1180, 1213, 1236, 1249, 1282, 1336, 1385, 1398, 1431, 1444, 1498, 1551, 1584, 1637, 1660] (by decide) (by decide) (fun hc => ?_) (fun i t ht ha => ?_)
    · have h := iteT hc h
      exact pw_mask [true, true, true, true] (ls' := [some (vsc (b : Int)), some (vr p1), some (vr p2), some (vi p3)]) rfl (jL_law_1683_ok F q hX hn hf hl self18 p1 p2 p3 H ih18 h)
    · have hc : ¬ ((i_and x2 63) < 0 ∨ 38 < (i_and x2 63)) := sw_in 39 ht ha (by decide) (by decide)
      have h := iteF hc h
      have h := sw_at ha h
      match i, ht, h with
      | 0, ht, h =>
        obtain rfl : 204 = t := Option.some.inj ht
        have h : (jL_law_204 X self18 p1 p2 p3 H : RO) = some (1, HH) := h
        exact pw_mask [true, true, true, true] (ls' := [some (vsc (b : Int)), some (vr p1), some (vr p2), some (vi p3)]) rfl (jL_law_204_ok F q hX hn hf hl self18 p1 p2 p3 H ih18 h)
      | 1, ht, h =>
        obtain rfl : 237 = t := Option.some.inj ht
        have h : (jL_law_237 X self18 p1 p2 p3 H : RO) = some (1, HH) := h
        exact pw_mask [true, true, true, true] (ls' := [some (vsc (b : Int)), some (vr p1), some (vr p2), some (vi p3)]) rfl (jL_law_237_ok F q hX hn hf hl self18 p1 p2 p3 H ih18 h)
      | 2, ht, h =>
        obtain rfl : 270 = t := Option.some.inj ht
        have h : (jL_law_270 X self18 p1 p2 p3 H : RO) = some (1, HH) := h
        exact pw_mask [true, true, true, true] (ls' := [some (vsc (b : Int)), some (vr p1), some (vr p2), some (vi p3)]) rfl (jL_law_270_ok F q hX hn hf hl self18 p1 p2 p3 H ih18 h)
      | 3, ht, h =>
        obtain rfl : 293 = t := Option.some.inj ht
        have h : (jL_law_293 X self18 p1 p2 p3 H : RO) = some (1, HH) := h
        exact pw_mask [true, true, true, true] (ls' := [some (vsc (b : Int)), some (vr p1), some (vr p2), some (vi p3)]) rfl (jL_law_293_ok F q hX hn hf hl self18 p1 p2 p3 H ih18 h)
      | 4, ht, h =>
        obtain rfl : 408 = t := Option.some.inj ht
        have h : (jL_law_408 X self18 p1 p2 p3 H : RO) = some (1, HH) := h
        exact pw_mask [true, true, true, true] (ls' := [some (vsc (b : Int)), some (vr p1), some (vr p2), some (vi p3)]) rfl (jL_law_408_ok F q hX hn hf hl self18 p1 p2 p3 H ih18 h)
      | 5, ht, h =>
        obtain rfl : 441 = t := Option.some.inj ht
        have h : (jL_law_441 X self18 p1 p2 p3 H : RO) = some (1, HH) := h
        exact pw_mask [true, true, true, true] (ls' := [some (vsc (b : Int)), some (vr p1), some (vr p2), some (vi p3)]) rfl (jL_law_441_ok F q hX hn hf hl self18 p1 p2 p3 H ih18 h)
      | 6, ht, h =>
        obtain rfl : 464 = t := Option.some.inj ht
        have h : (jL_law_464 X self18 p1 p2 p3 H : RO) = some (1, HH) := h
        exact pw_mask [true, true, true, true] (ls' := [some (vsc (b : Int)), some (vr p1), some (vr p2), some (vi p3)]) rfl (jL_law_464_ok F q hX hn hf hl self18 p1 p2 p3 H ih18 h)
      | 7, ht, h =>
        obtain rfl : 497 = t := Option.some.inj ht
        have h : (jL_law_497 X self18 p1 p2 p3 H : RO) = some (1, HH) := h
        exact pw_mask [true, true, true, true] (ls' := [some (vsc (b : Int)), some (vr p1), some (vr p2), some (vi p3)]) rfl (jL_law_497_ok F q hX hn hf hl self18 p1 p2 p3 H ih18 h)
      | 8, ht, h =>
        obtain rfl : 530 = t := Option.some.inj ht
        have h : (jL_law_530 X self18 p1 p2 p3 H : RO) = some (1, HH) := h
        exact pw_mask [true, true, true, true] (ls' := [some (vsc (b : Int)), some (vr p1), some (vr p2), some (vi p3)]) rfl (jL_law_530_ok F q hX hn hf hl self18 p1 p2 p3 H ih18 h)
      | 9, ht, h =>
        obtain rfl : 543 = t := Option.some.inj ht
        have h : (jL_law_543 X self18 p1 p2 p3 H : RO) = some (1, HH) := h
        exact pw_mask [true, true, true, true] (ls' := [some (vsc (b : Int)), some (vr p1), some (vr p2), some (vi p3)]) rfl (jL_law_543_ok F q hX hn hf hl self18 p1 p2 p3 H ih18 h)
      | 10, ht, h =>
        obtain rfl : 626 = t := Option.some.inj ht
        have h : (jL_law_626 X self18 p1 p2 p3 H : RO) = some (1, HH) := h
        exact pw_mask [true, true, true, true] (ls' := [some (vsc (b : Int)), some (vr p1), some (vr p2), some (vi p3)]) rfl (jL_law_626_ok F q hX hn hf hl self18 p1 p2 p3 H ih18 h)
      | 11, ht, h =>
        obtain rfl : 679 = t := Option.some.inj ht
        have h : (jL_law_679 X self18 p1 p2 p3 H : RO) = some (1, HH) := h
        exact pw_mask [true, true, true, true] (ls' := [some (vsc (b : Int)), some (vr p1), some (vr p2), some (vi p3)]) rfl (jL_law_679_ok F q hX hn hf hl self18 p1 p2 p3 H ih18 h)
      | 12, ht, h =>
        obtain rfl : 723 = t := Option.some.inj ht
        have h : (jL_law_723 X self18 p1 p2 p3 H : RO) = some (1, HH) := h
        exact pw_mask [true, true, true, true] (ls' := [some (vsc (b : Int)), some (vr p1), some (vr p2), some (vi p3)]) rfl (jL_law_723_ok F q hX hn hf hl self18 p1 p2 p3 H ih18 h)
      | 13, ht, h =>
        obtain rfl : 766 = t := Option.some.inj ht
        have h : (jL_law_766 X self18 p1 p2 p3 H : RO) = some (1, HH) := h
        exact pw_mask [true, true, true, true] (ls' := [some (vsc (b : Int)), some (vr p1), some (vr p2), some (vi p3)]) rfl (jL_law_766_ok F q hX hn hf hl self18 p1 p2 p3 H ih18 h)
      | 14, ht, h =>
        obtain rfl : 839 = t := Option.some.inj ht
        have h : (jL_law_839 X self18 p1 p2 p3 H : RO) = some (1, HH) := h
        exact pw_mask [true, true, true, true] (ls' := [some (vsc (b : Int)), some (vr p1), some (vr p2), some (vi p3)]) rfl (jL_law_839_ok F q hX hn hf hl self18 p1 p2 p3 H ih18 h)
      | 15, ht, h =>
        obtain rfl : 882 = t := Option.some.inj ht
        have h : (jL_law_882 X self18 p1 p2 p3 H : RO) = some (1, HH) := h
        exact pw_mask [true, true, true, true] (ls' := [some (vsc (b : Int)), some (vr p1), some (vr p2), some (vi p3)]) rfl (jL_law_882_ok F q hX hn hf hl self18 p1 p2 p3 H ih18 h)
      | 16, ht, h =>
        obtain rfl : 915 = t := Option.some.inj ht
        have h : (jL_law_915 X self18 p1 p2 p3 H : RO) = some (1, HH) := h
        exact pw_mask [true, true, true, true] (ls' := [some (vsc (b : Int)), some (vr p1), some (vr p2), some (vi p3)]) rfl (jL_law_915_ok F q hX hn hf hl self18 p1 p2 p3 H ih18 h)
      | 17, ht, h =>
        obtain rfl : 958 = t := Option.some.inj ht
        have h : (jL_law_958 X self18 p1 p2 p3 H : RO) = some (1, HH) := h
        exact pw_mask [true, true, true, true] (ls' := [some (vsc (b : Int)), some (vr p1), some (vr p2), some (vi p3)]) rfl (jL_law_958_ok F q hX hn hf hl self18 p1 p2 p3 H ih18 h)
      | 18, ht, h =>
        obtain rfl : 991 = t := Option.some.inj ht
        have h : (jL_law_991 X self18 p1 p2 p3 H : RO) = some (1, HH) := h
        exact pw_mask [true, true, true, true] (ls' := [some (vsc (b : Int)), some (vr p1), some (vr p2), some (vi p3)]) rfl (jL_law_991_ok F q hX hn hf hl self18 p1 p2 p3 H ih18 h)
      | 19, ht, h =>
        obtain rfl : 1004 = t := Option.some.inj ht
        have h : (jL_law_1004 X self18 p1 p2 p3 H : RO) = some (1, HH) := h
        exact pw_mask [true, true, true, true] (ls' := [some (vsc (b : Int)), some (vr p1), some (vr p2), some (vi p3)]) rfl (jL_law_1004_ok F q hX hn hf hl self18 p1 p2 p3 H ih18 h)
      | 20, ht, h =>
        obtain rfl : 1037 = t := Option.some.inj ht
        have h : (jL_law_1037 X self18 p1 p2 p3 H : RO) = some (1, HH) := h
        exact pw_mask [true, true, true, true] (ls' := [some (vsc (b : Int)), some (vr p1), some (vr p2), some (vi p3)]) rfl (jL_law_1037_ok F q hX hn hf hl self18 p1 p2 p3 H ih18 h)
      | 21, ht, h =>
        obtain rfl : 1080 = t := Option.some.inj ht
        have h : (jL_law_1080 X self18 p1 p2 p3 H : RO) = some (1, HH) := h
        exact pw_mask [true, true, true, true] (ls' := [some (vsc (b : Int)), some (vr p1), some (vr p2), some (vi p3)]) rfl (jL_law_1080_ok F q hX hn hf hl self18 p1 p2 p3 H ih18 h)
      | 22, ht, h =>
        obtain rfl : 1113 = t := Option.some.inj ht
        have h : (jL_law_1113 X self18 p1 p2 p3 H : RO) = some (1, HH) := h
        exact pw_mask [true, true, true, true] (ls' := [some (vsc (b : Int)), some (vr p1), some (vr p2), some (vi p3)]) rfl (jL_law_1113_ok F q hX hn hf hl self18 p1 p2 p3 H ih18 h)
      | 23, ht, h =>
        obtain rfl : 1157 = t := Option.some.inj ht
        have h : (jL_law_1157 X self18 p1 p2 p3 H : RO) = some (1, HH) := h
        exact pw_mask [true, true, true, true] (ls' := [some (vsc (b : Int)), some (vr p1), some (vr p2), some (vi p3)]) rfl (jL_law_1157_ok F q hX hn hf hl self18 p1 p2 p3 H ih18 h)
      | 24, ht, h =>
        obtain rfl : 1180 = t := Option.some.inj ht
        have h : (jL_law_1180 X self18 p1 p2 p3 H : RO) = some (1, HH) := h
        exact pw_mask [true, true, true, true] (ls' := [some (vsc (b : Int)), some (vr p1), some (vr p2), some (vi p3)]) rfl (jL_law_1180_ok F q hX hn hf hl self18 p1 p2 p3 H ih18 h)
      | 25, ht, h =>
        obtain rfl : 1213 = t := Option.some.inj ht
        have h : (jL_law_1213 X self18 p1 p2 p3 H : RO) = some (1, HH) := h
        exact pw_mask [true, true, true, true] (ls' := [some (vsc (b : Int)), some (vr p1), some (vr p2), some (vi p3)]) rfl (jL_law_1213_ok F q hX hn hf hl self18 p1 p2 p3 H ih18 h)
      | 26, ht, h =>
        obtain rfl : 1236 = t := Option.some.inj ht
        have h : (jL_law_1236 X self18 p1 p2 p3 H : RO) = some (1, HH) := h
        exact pw_mask [true, true, true, true] (ls' := [some (vsc (b : Int)), some (vr p1), some (vr p2), some (vi p3)]) rfl (jL_law_1236_ok F q hX hn hf hl self18 p1 p2 p3 H ih18 h)
      | 27, ht, h =>
        obtain rfl : 1249 = t := Option.some.inj ht
        have h : (jL_law_1249 X self18 p1 p2 p3 H : RO) = some (1, HH) := h
        exact pw_mask [true, true, true, true] (ls' := [some (vsc (b : Int)), some (vr p1), some (vr p2), some (vi p3)]) rfl (jL_law_1249_ok F q hX hn hf hl self18 p1 p2 p3 H ih18 h)
      | 28, ht, h =>
        obtain rfl : 1282 = t := Option.some.inj ht
        have h : (jL_law_1282 X self18 p1 p2 p3 H : RO) = some (1, HH) := h
        exact pw_mask [true, true, true, true] (ls' := [some (vsc (b : Int)), some (vr p1), some (vr p2), some (vi p3)]) rfl (jL_law_1282_ok F q hX hn hf hl self18 p1 p2 p3 H ih18 h)
      | 29, ht, h =>
        obtain rfl : 1336 = t := Option.some.inj ht
        have h : (jL_law_1336 X self18 p1 p2 p3 H : RO) = some (1, HH) := h
        exact pw_mask [true, true, true, true] (ls' := [some (vsc (b : Int)), some (vr p1), some (vr p2), some (vi p3)]) rfl (jL_law_1336_ok F q hX hn hf hl self18 p1 p2 p3 H ih18 h)
      | 30, ht, h =>
        obtain rfl : 1385 = t := Option.some.inj ht
        have h : (jL_law_1385 X self18 p1 p2 p3 H : RO) = some (1, HH) := h
        exact pw_mask [true, true, true, true] (ls' := [some (vsc (b : Int)), some (vr p1), some (vr p2), some (vi p3)]) rfl (jL_law_1385_ok F q hX hn hf hl self18 p1 p2 p3 H ih18 h)
      | 31, ht, h =>
        obtain rfl : 1398 = t := Option.some.inj ht
        have h : (jL_law_1398 X self18 p1 p2 p3 H : RO) = some (1, HH) := h
        exact pw_mask [true, true, true, true] (ls' := [some (vsc (b : Int)), some (vr p1), some (vr p2), some (vi p3)]) rfl (jL_law_1398_ok F q hX hn hf hl self18 p1 p2 p3 H ih18 h)
      | 32, ht, h =>
        obtain rfl : 1431 = t := Option.some.inj ht
        have h : (jL_law_1431 X self18 p1 p2 p3 H : RO) = some (1, HH) := h
        exact pw_mask [true, true, true, true] (ls' := [some (vsc (b : Int)), some (vr p1), some (vr p2), some (vi p3)]) rfl (jL_law_1431_ok F q hX hn hf hl self18 p1 p2 p3 H ih18 h)
      | 33, ht, h =>
        obtain rfl : 1444 = t := Option.some.inj ht
        have h : (jL_law_1444 X self18 p1 p2 p3 H : RO) = some (1, HH) := h
        exact pw_mask [true, true, true, true] (ls' := [some (vsc (b : Int)), some (vr p1), some (vr p2), some (vi p3)]) rfl (jL_law_1444_ok F q hX hn hf hl self18 p1 p2 p3 H ih18 h)
      | 34, ht, h =>
        obtain rfl : 1498 = t := Option.some.inj ht
        have h : (jL_law_1498 X self18 p1 p2 p3 H : RO) = some (1, HH) := h
        exact pw_mask [true, true, true, true] (ls' := [some (vsc (b : Int)), some (vr p1), some (vr p2), some (vi p3)]) rfl (jL_law_1498_ok F q hX hn hf hl self18 p1 p2 p3 H ih18 h)
      | 35, ht, h =>
        obtain rfl : 1551 = t := Option.some.inj ht
        have h : (jL_law_1551 X self18 p1 p2 p3 H : RO) = some (1, HH) := h
        exact pw_mask [true, true, true, true] (ls' := [some (vsc (b : Int)), some (vr p1), some (vr p2), some (vi p3)]) rfl (jL_law_1551_ok F q hX hn hf hl self18 p1 p2 p3 H ih18 h)
      | 36, ht, h =>
        obtain rfl : 1584 = t := Option.some.inj ht
        have h : (jL_law_1584 X self18 p1 p2 p3 H : RO) = some (1, HH) := h
        exact pw_mask [true, true, true, true] (ls' := [some (vsc (b : Int)), some (vr p1), some (vr p2), some (vi p3)]) rfl (jL_law_1584_ok F q hX hn hf hl self18 p1 p2 p3 H ih18 h)
      | 37, ht, h =>
        obtain rfl : 1637 = t := Option.some.inj ht
        have h : (jL_law_1637 X self18 p1 p2 p3 H : RO) = some (1, HH) := h
        exact pw_mask [true, true, true, true] (ls' := [some (vsc (b : Int)), some (vr p1), some (vr p2), some (vi p3)]) rfl (jL_law_1637_ok F q hX hn hf hl self18 p1 p2 p3 H ih18 h)
      | 38, ht, h =>
        obtain rfl : 1660 = t := Option.some.inj ht
        have h : (jL_law_1660 X self18 p1 p2 p3 H : RO) = some (1, HH) := h
        exact pw_mask [true, true, true, true] (ls' := [some (vsc (b : Int)), some (vr p1), some (vr p2), some (vi p3)]) rfl (jL_law_1660_ok F q hX hn hf hl self18 p1 p2 p3 H ih18 h)
      | i + 39, ht, h => simp at ht
def f_L_law (X : List Int) (H : PH) : RO :=
  (newo 8 H).bind fun z1 => (f_X8_init z1.1 z1.2).bind fun z2 => (newo 9 z2.2).bind fun z3 => (f_X9_init z3.1 z3.2).bind fun z4 => lq1 (lL_law_18 X z1.1 z3.1) 6000 0 z4.2
set_option maxHeartbeats 4000000 in
theorem m_L_law {E : PE} {HH : PH} {X : List Int} {b : Nat} (F : FX E cL_law RL) (q : LQ E) (hX : SX E X b) (hn : nLof E = 4) (hf : (roomOf E).frames = 9) (hl : (roomOf E).locals = 340) (H : PH) (h : f_L_law X H = some (1, HH)) : PW E 0 [some (vsc (b : Int)), none, none, none] [] H := by
  unfold f_L_law at h
  obtain ⟨z1, ez1, h⟩ := bnd h
  refine pw_new (pc := 0) F 8 7 (by decide) g_6944120dbf g_aff2defb93 g_966e9bb002 inl_8 dL_law_0 ez1 ?_
  refine pw_dup (pc := 3) F dL_law_3 (pvne rfl) ?_
  obtain ⟨z2, ez2, h⟩ := bnd h
  refine pw_callI (pc := 4) (as := []) (st := [vr z1.1]) F 9 (vm_nn (vm_spec ez2).1) (fun l => m_X8_init l z1.1 z1.2 z2.1 z2.2 ez2) rfl g_e650373c3b g_b4cc6bd494 g_99e03e18e2 g_a82382c217 hd_X8_init (rm_ok hf hl (by decide) (by decide)) rfl dL_law_4 rfl ?_
  refine pw_astore_n (pc := 7) F dL_law_7 (lt_nl hn (by decide)) [some (vsc (b : Int)), some (vr z1.1), none, none] rfl ?_
  obtain ⟨z3, ez3, h⟩ := bnd h
  refine pw_new (pc := 8) F 9 10 (by decide) g_0e10bad355 g_e7a5501bd4 g_a0d21267a3 inl_9 dL_law_8 ez3 ?_
  refine pw_dup (pc := 11) F dL_law_11 (pvne rfl) ?_
  obtain ⟨z4, ez4, h⟩ := bnd h
  refine pw_callI (pc := 12) (as := []) (st := [vr z3.1]) F 12 (vm_nn (vm_spec ez4).1) (fun l => m_X9_init l z3.1 z3.2 z4.1 z4.2 ez4) rfl g_5f502381c6 g_961faeffa8 g_2759d91faa g_a1417c7580 hd_X9_init (rm_ok hf hl (by decide) (by decide)) rfl dL_law_12 rfl ?_
  refine pw_astore_n (pc := 15) F dL_law_15 (lt_nl hn (by decide)) [some (vsc (b : Int)), some (vr z1.1), some (vr z3.1), none] rfl ?_
  refine pw_iconst (pc := 16) F 0 dL_law_16 (by decide) ?_
  refine pw_istore_n (pc := 17) F dL_law_17 (lt_nl hn (by decide)) [some (vsc (b : Int)), some (vr z1.1), some (vr z3.1), some (vi 0)] rfl ?_
  exact pw_mask [true, true, true, true] (ls' := [some (vsc (b : Int)), some (vr z1.1), some (vr z3.1), some (vi 0)]) rfl (lL_law_18_ok F q hX hn hf hl z1.1 z3.1  6000 0 z4.2 h)
