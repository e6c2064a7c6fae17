/-! HouseholdVault.logic(III)I -/
theorem dX8_logic_0 : decode cX8_logic 0 = .ok (.aload_n 0, 1) := by decide +kernel
theorem dX8_logic_1 : decode cX8_logic 1 = .ok (.getfield 12, 3) := by decide +kernel
theorem dX8_logic_4 : decode cX8_logic 4 = .ok (.iload_n 2, 1) := by decide +kernel
theorem dX8_logic_5 : decode cX8_logic 5 = .ok (.invokevirtual 107, 3) := by decide +kernel
theorem dX8_logic_8 : decode cX8_logic 8 = .ok (.astore 4, 2) := by decide +kernel
theorem dX8_logic_10 : decode cX8_logic 10 = .ok (.iload_n 1, 1) := by decide +kernel
theorem dX8_logic_11 : decode cX8_logic 11 = .ok (.ifCond .lt 13, 3) := by decide +kernel
theorem dX8_logic_14 : decode cX8_logic 14 = .ok (.iload_n 1, 1) := by decide +kernel
theorem dX8_logic_15 : decode cX8_logic 15 = .ok (.iconst 2, 1) := by decide +kernel
theorem dX8_logic_16 : decode cX8_logic 16 = .ok (.if_icmp .gt 8, 3) := by decide +kernel
theorem dX8_logic_19 : decode cX8_logic 19 = .ok (.aload 4, 2) := by decide +kernel
theorem dX8_logic_21 : decode cX8_logic 21 = .ok (.ifnonnull 5, 3) := by decide +kernel
theorem dX8_logic_24 : decode cX8_logic 24 = .ok (.iconst (-1), 1) := by decide +kernel
theorem dX8_logic_25 : decode cX8_logic 25 = .ok (.ireturn, 1) := by decide +kernel
theorem dX8_logic_26 : decode cX8_logic 26 = .ok (.iconst 4, 1) := by decide +kernel
theorem dX8_logic_27 : decode cX8_logic 27 = .ok (.iload_n 1, 1) := by decide +kernel
theorem dX8_logic_28 : decode cX8_logic 28 = .ok (.iadd, 1) := by decide +kernel
theorem dX8_logic_29 : decode cX8_logic 29 = .ok (.bipush 6, 2) := by decide +kernel
theorem dX8_logic_31 : decode cX8_logic 31 = .ok (.if_icmp .ne 59, 3) := by decide +kernel
theorem dX8_logic_34 : decode cX8_logic 34 = .ok (.aload 4, 2) := by decide +kernel
theorem dX8_logic_36 : decode cX8_logic 36 = .ok (.getfield 199, 3) := by decide +kernel
theorem dX8_logic_39 : decode cX8_logic 39 = .ok (.iconst 1, 1) := by decide +kernel
theorem dX8_logic_40 : decode cX8_logic 40 = .ok (.iadd, 1) := by decide +kernel
theorem dX8_logic_41 : decode cX8_logic 41 = .ok (.istore 5, 2) := by decide +kernel
theorem dX8_logic_43 : decode cX8_logic 43 = .ok (.aload_n 0, 1) := by decide +kernel
theorem dX8_logic_44 : decode cX8_logic 44 = .ok (.getfield 12, 3) := by decide +kernel
theorem dX8_logic_47 : decode cX8_logic 47 = .ok (.iload 5, 2) := by decide +kernel
theorem dX8_logic_49 : decode cX8_logic 49 = .ok (.invokevirtual 189, 3) := by decide +kernel
theorem dX8_logic_52 : decode cX8_logic 52 = .ok (.ifCond .eq 6, 3) := by decide +kernel
theorem dX8_logic_55 : decode cX8_logic 55 = .ok (.bipush (-4), 2) := by decide +kernel
theorem dX8_logic_57 : decode cX8_logic 57 = .ok (.ireturn, 1) := by decide +kernel
theorem dX8_logic_58 : decode cX8_logic 58 = .ok (.aload_n 0, 1) := by decide +kernel
theorem dX8_logic_59 : decode cX8_logic 59 = .ok (.getfield 12, 3) := by decide +kernel
theorem dX8_logic_62 : decode cX8_logic 62 = .ok (.new 112, 3) := by decide +kernel
theorem dX8_logic_65 : decode cX8_logic 65 = .ok (.dup, 1) := by decide +kernel
theorem dX8_logic_66 : decode cX8_logic 66 = .ok (.bipush 6, 2) := by decide +kernel
theorem dX8_logic_68 : decode cX8_logic 68 = .ok (.iload_n 2, 1) := by decide +kernel
theorem dX8_logic_69 : decode cX8_logic 69 = .ok (.iconst (-1), 1) := by decide +kernel
theorem dX8_logic_70 : decode cX8_logic 70 = .ok (.lconst 0, 1) := by decide +kernel
theorem dX8_logic_71 : decode cX8_logic 71 = .ok (.aload 4, 2) := by decide +kernel
theorem dX8_logic_73 : decode cX8_logic 73 = .ok (.getfield 111, 3) := by decide +kernel
theorem dX8_logic_76 : decode cX8_logic 76 = .ok (.iload 5, 2) := by decide +kernel
theorem dX8_logic_78 : decode cX8_logic 78 = .ok (.aload 4, 2) := by decide +kernel
theorem dX8_logic_80 : decode cX8_logic 80 = .ok (.getfield 202, 3) := by decide +kernel
theorem dX8_logic_83 : decode cX8_logic 83 = .ok (.invokespecial 192, 3) := by decide +kernel
theorem dX8_logic_86 : decode cX8_logic 86 = .ok (.invokevirtual 195, 3) := by decide +kernel
theorem dX8_logic_89 : decode cX8_logic 89 = .ok (.ireturn, 1) := by decide +kernel
theorem dX8_logic_90 : decode cX8_logic 90 = .ok (.aload_n 0, 1) := by decide +kernel
theorem dX8_logic_91 : decode cX8_logic 91 = .ok (.getfield 12, 3) := by decide +kernel
theorem dX8_logic_94 : decode cX8_logic 94 = .ok (.iload_n 3, 1) := by decide +kernel
theorem dX8_logic_95 : decode cX8_logic 95 = .ok (.invokevirtual 107, 3) := by decide +kernel
theorem dX8_logic_98 : decode cX8_logic 98 = .ok (.astore 5, 2) := by decide +kernel
theorem dX8_logic_100 : decode cX8_logic 100 = .ok (.aload 5, 2) := by decide +kernel
theorem dX8_logic_102 : decode cX8_logic 102 = .ok (.ifnonnull 5, 3) := by decide +kernel
theorem dX8_logic_105 : decode cX8_logic 105 = .ok (.iconst (-1), 1) := by decide +kernel
theorem dX8_logic_106 : decode cX8_logic 106 = .ok (.ireturn, 1) := by decide +kernel
theorem dX8_logic_107 : decode cX8_logic 107 = .ok (.aload 4, 2) := by decide +kernel
theorem dX8_logic_109 : decode cX8_logic 109 = .ok (.getfield 111, 3) := by decide +kernel
theorem dX8_logic_112 : decode cX8_logic 112 = .ok (.iconst (-1), 1) := by decide +kernel
theorem dX8_logic_113 : decode cX8_logic 113 = .ok (.if_icmp .eq 28, 3) := by decide +kernel
theorem dX8_logic_116 : decode cX8_logic 116 = .ok (.aload 5, 2) := by decide +kernel
theorem dX8_logic_118 : decode cX8_logic 118 = .ok (.getfield 111, 3) := by decide +kernel
theorem dX8_logic_121 : decode cX8_logic 121 = .ok (.iconst (-1), 1) := by decide +kernel
theorem dX8_logic_122 : decode cX8_logic 122 = .ok (.if_icmp .eq 19, 3) := by decide +kernel
theorem dX8_logic_125 : decode cX8_logic 125 = .ok (.aload 4, 2) := by decide +kernel
theorem dX8_logic_127 : decode cX8_logic 127 = .ok (.getfield 111, 3) := by decide +kernel
theorem dX8_logic_130 : decode cX8_logic 130 = .ok (.aload 5, 2) := by decide +kernel
theorem dX8_logic_132 : decode cX8_logic 132 = .ok (.getfield 111, 3) := by decide +kernel
theorem dX8_logic_135 : decode cX8_logic 135 = .ok (.if_icmp .eq 6, 3) := by decide +kernel
theorem dX8_logic_138 : decode cX8_logic 138 = .ok (.bipush (-2), 2) := by decide +kernel
theorem dX8_logic_140 : decode cX8_logic 140 = .ok (.ireturn, 1) := by decide +kernel
theorem dX8_logic_141 : decode cX8_logic 141 = .ok (.aload 4, 2) := by decide +kernel
theorem dX8_logic_143 : decode cX8_logic 143 = .ok (.getfield 199, 3) := by decide +kernel
theorem dX8_logic_146 : decode cX8_logic 146 = .ok (.aload 5, 2) := by decide +kernel
theorem dX8_logic_148 : decode cX8_logic 148 = .ok (.getfield 199, 3) := by decide +kernel
theorem dX8_logic_151 : decode cX8_logic 151 = .ok (.iadd, 1) := by decide +kernel
theorem dX8_logic_152 : decode cX8_logic 152 = .ok (.iconst 1, 1) := by decide +kernel
theorem dX8_logic_153 : decode cX8_logic 153 = .ok (.iadd, 1) := by decide +kernel
theorem dX8_logic_154 : decode cX8_logic 154 = .ok (.istore 6, 2) := by decide +kernel
theorem dX8_logic_156 : decode cX8_logic 156 = .ok (.aload_n 0, 1) := by decide +kernel
theorem dX8_logic_157 : decode cX8_logic 157 = .ok (.getfield 12, 3) := by decide +kernel
theorem dX8_logic_160 : decode cX8_logic 160 = .ok (.iload 6, 2) := by decide +kernel
theorem dX8_logic_162 : decode cX8_logic 162 = .ok (.invokevirtual 189, 3) := by decide +kernel
theorem dX8_logic_165 : decode cX8_logic 165 = .ok (.ifCond .eq 6, 3) := by decide +kernel
theorem dX8_logic_168 : decode cX8_logic 168 = .ok (.bipush (-4), 2) := by decide +kernel
theorem dX8_logic_170 : decode cX8_logic 170 = .ok (.ireturn, 1) := by decide +kernel
theorem dX8_logic_171 : decode cX8_logic 171 = .ok (.aload 4, 2) := by decide +kernel
theorem dX8_logic_173 : decode cX8_logic 173 = .ok (.getfield 111, 3) := by decide +kernel
theorem dX8_logic_176 : decode cX8_logic 176 = .ok (.iconst (-1), 1) := by decide +kernel
theorem dX8_logic_177 : decode cX8_logic 177 = .ok (.if_icmp .ne 11, 3) := by decide +kernel
theorem dX8_logic_180 : decode cX8_logic 180 = .ok (.aload 5, 2) := by decide +kernel
theorem dX8_logic_182 : decode cX8_logic 182 = .ok (.getfield 111, 3) := by decide +kernel
theorem dX8_logic_185 : decode cX8_logic 185 = .ok (.goto 8, 3) := by decide +kernel
theorem dX8_logic_188 : decode cX8_logic 188 = .ok (.aload 4, 2) := by decide +kernel
theorem dX8_logic_190 : decode cX8_logic 190 = .ok (.getfield 111, 3) := by decide +kernel
theorem dX8_logic_193 : decode cX8_logic 193 = .ok (.istore 7, 2) := by decide +kernel
theorem dX8_logic_195 : decode cX8_logic 195 = .ok (.aload 4, 2) := by decide +kernel
theorem dX8_logic_197 : decode cX8_logic 197 = .ok (.getfield 202, 3) := by decide +kernel
theorem dX8_logic_200 : decode cX8_logic 200 = .ok (.aload 5, 2) := by decide +kernel
theorem dX8_logic_202 : decode cX8_logic 202 = .ok (.getfield 202, 3) := by decide +kernel
theorem dX8_logic_205 : decode cX8_logic 205 = .ok (.invokestatic 205, 3) := by decide +kernel
theorem dX8_logic_208 : decode cX8_logic 208 = .ok (.istore 8, 2) := by decide +kernel
theorem dX8_logic_210 : decode cX8_logic 210 = .ok (.aload_n 0, 1) := by decide +kernel
theorem dX8_logic_211 : decode cX8_logic 211 = .ok (.getfield 12, 3) := by decide +kernel
theorem dX8_logic_214 : decode cX8_logic 214 = .ok (.new 112, 3) := by decide +kernel
theorem dX8_logic_217 : decode cX8_logic 217 = .ok (.dup, 1) := by decide +kernel
theorem dX8_logic_218 : decode cX8_logic 218 = .ok (.iconst 4, 1) := by decide +kernel
theorem dX8_logic_219 : decode cX8_logic 219 = .ok (.iload_n 1, 1) := by decide +kernel
theorem dX8_logic_220 : decode cX8_logic 220 = .ok (.iadd, 1) := by decide +kernel
theorem dX8_logic_221 : decode cX8_logic 221 = .ok (.iload_n 2, 1) := by decide +kernel
theorem dX8_logic_222 : decode cX8_logic 222 = .ok (.iload_n 3, 1) := by decide +kernel
theorem dX8_logic_223 : decode cX8_logic 223 = .ok (.lconst 0, 1) := by decide +kernel
theorem dX8_logic_224 : decode cX8_logic 224 = .ok (.iload 7, 2) := by decide +kernel
theorem dX8_logic_226 : decode cX8_logic 226 = .ok (.iload 6, 2) := by decide +kernel
theorem dX8_logic_228 : decode cX8_logic 228 = .ok (.iload 8, 2) := by decide +kernel
theorem dX8_logic_230 : decode cX8_logic 230 = .ok (.invokespecial 192, 3) := by decide +kernel
theorem dX8_logic_233 : decode cX8_logic 233 = .ok (.invokevirtual 195, 3) := by decide +kernel
theorem dX8_logic_236 : decode cX8_logic 236 = .ok (.ireturn, 1) := by decide +kernel
def jX8_logic_193 (p0 p1 p2 p3 p4 p5 p6 s0 : Int) (H : PH) : RO :=
  (ld 16 H p4 6).bind fun x1 => (ld 16 H p5 6).bind fun x2 => (ld 24 H p0 0).bind fun x3 => (newo 0 H).bind fun z4 => (f_X0_init z4.1 (w32 (4 + p1)) p2 p3 0 s0 p6 (imax x1 x2) z4.2).bind fun z5 => (f_X3_addCondition x3 z4.1 z5.2).bind fun z6 => some (z6.1, z6.2)
set_option maxHeartbeats 4000000 in
theorem jX8_logic_193_ok {E : PE} {rr : Int} {HH : PH} (F : FX E cX8_logic RX8) (q : QE E (some (vi rr)) HH (some .int)) (hn : nLof E = 9) (hf : (roomOf E).frames = 2) (hl : (roomOf E).locals = 42) (p0 p1 p2 p3 p4 p5 p6 s0 : Int) (H : PH) (h : jX8_logic_193 p0 p1 p2 p3 p4 p5 p6 s0 H = some (rr, HH)) : PW E 193 [some (vr p0), some (vi p1), some (vi p2), some (vi p3), some (vr p4), some (vr p5), some (vi p6), none, none] [vi s0] H := by
  unfold jX8_logic_193 at h
  refine pw_istore (pc := 193) F dX8_logic_193 (lt_nl hn (by decide)) [some (vr p0), some (vi p1), some (vi p2), some (vi p3), some (vr p4), some (vr p5), some (vi p6), some (vi s0), none] rfl ?_
  refine pw_aload (pc := 195) F dX8_logic_195 rfl ?_
  obtain ⟨x1, ex1, h⟩ := bnd h
  refine pw_get (pc := 197) F 0 6 202 (by decide) (by decide) g_f8fbfc4672 inl_0 0 rfl dX8_logic_197 ex1 ?_
  refine pw_aload (pc := 200) F dX8_logic_200 rfl ?_
  obtain ⟨x2, ex2, h⟩ := bnd h
  refine pw_get (pc := 202) F 0 6 202 (by decide) (by decide) g_f8fbfc4672 inl_0 0 rfl dX8_logic_202 ex2 ?_
  refine pw_mmax (pc := 205) F 205 g_ca8853aa87 g_8b9497d0c0 g_544deca7c6 g_7292adb7fd (rm_ok hf hl (by decide) (by decide)) rfl dX8_logic_205 ?_
  refine pw_istore (pc := 208) F dX8_logic_208 (lt_nl hn (by decide)) [some (vr p0), some (vi p1), some (vi p2), some (vi p3), some (vr p4), some (vr p5), some (vi p6), some (vi s0), some (vi (imax x1 x2))] rfl ?_
  refine pw_aload_n (pc := 210) F dX8_logic_210 rfl ?_
  obtain ⟨x3, ex3, h⟩ := bnd h
  refine pw_get (pc := 211) F 8 0 12 (by decide) (by decide) g_955d9610dc inl_8 2 rfl dX8_logic_211 ex3 ?_
  obtain ⟨z4, ez4, h⟩ := bnd h
  refine pw_new (pc := 214) F 0 112 (by decide) g_4523d8d8bf g_854bb96d1c g_ef07f9ccec inl_0 dX8_logic_214 ez4 ?_
  refine pw_dup (pc := 217) F dX8_logic_217 (pvne rfl) ?_
  refine pw_iconst (pc := 218) F 4 dX8_logic_218 (by decide) ?_
  refine pw_iload_n (pc := 219) F dX8_logic_219 rfl ?_
  refine pw_iadd (pc := 220) F dX8_logic_220 ?_
  refine pw_iload_n (pc := 221) F dX8_logic_221 rfl ?_
  refine pw_iload_n (pc := 222) F dX8_logic_222 rfl ?_
  refine pw_lconst (pc := 223) F 0 dX8_logic_223 (by decide) ?_
  refine pw_iload (pc := 224) F dX8_logic_224 rfl ?_
  refine pw_iload (pc := 226) F dX8_logic_226 rfl ?_
  refine pw_iload (pc := 228) F dX8_logic_228 rfl ?_
  obtain ⟨z5, ez5, h⟩ := bnd h
  refine pw_callI (pc := 230) (as := [vi (w32 (4 + p1)), vi p2, vi p3, vl 0, vi s0, vi p6, vi (imax x1 x2)]) (st := [vr z4.1, vr x3]) F 192 (vm_nn (vm_spec ez5).1) (fun l => m_X0_init l z4.1 (w32 (4 + p1)) p2 p3 0 s0 p6 (imax x1 x2) z4.2 z5.1 z5.2 ez5) rfl g_4a4e33672b g_203a6b265c g_82b0ef516c g_d8fbc76a87 hd_X0_init (rm_ok hf hl (by decide) (by decide)) rfl dX8_logic_230 rfl ?_
  obtain ⟨z6, ez6, h⟩ := bnd h
  refine pw_callV (pc := 233) (as := [vr z4.1]) (st := []) (r := (some (vi z6.1))) F 195 3 (by decide) rfl (fun l => m_X3_addCondition l x3 z4.1 z5.2 z6.1 z6.2 ez6) g_cb4e5a548a g_63018e7056 g_d894aaa55a g_106b72596f g_e04be68bc8 hd_X3_addCondition (rm_ok hf hl (by decide) (by decide)) rfl (vm_spec ez6).1 dX8_logic_233 rfl (stk' := [vi z6.1]) rfl ?_
  cases h
  exact pw_iret (pc := 236) F q dX8_logic_236
def jX8_logic_141 (p0 p1 p2 p3 p4 p5 : Int) (H : PH) : RO :=
  (ld 16 H p4 5).bind fun x1 => (ld 16 H p5 5).bind fun x2 => (ld 24 H p0 0).bind fun x3 => (f_X3_conditionsAreFull x3 (w32 ((w32 (x1 + x2)) + 1)) H).bind fun z4 => (if z4.1 = 0 then (ld 16 z4.2 p4 4).bind fun x5 => (if x5 ≠ (-1) then (ld 16 z4.2 p4 4).bind fun x6 => jX8_logic_193 p0 p1 p2 p3 p4 p5 (w32 ((w32 (x1 + x2)) + 1)) x6 z4.2
  else (ld 16 z4.2 p5 4).bind fun x7 => jX8_logic_193 p0 p1 p2 p3 p4 p5 (w32 ((w32 (x1 + x2)) + 1)) x7 z4.2)
  else some ((-4), z4.2))
set_option maxHeartbeats 4000000 in
theorem jX8_logic_141_ok {E : PE} {rr : Int} {HH : PH} (F : FX E cX8_logic RX8) (q : QE E (some (vi rr)) HH (some .int)) (hn : nLof E = 9) (hf : (roomOf E).frames = 2) (hl : (roomOf E).locals = 42) (p0 p1 p2 p3 p4 p5 : Int) (H : PH) (h : jX8_logic_141 p0 p1 p2 p3 p4 p5 H = some (rr, HH)) : PW E 141 [some (vr p0), some (vi p1), some (vi p2), some (vi p3), some (vr p4), some (vr p5), none, none, none] [] H := by
  unfold jX8_logic_141 at h
  refine pw_aload (pc := 141) F dX8_logic_141 rfl ?_
  obtain ⟨x1, ex1, h⟩ := bnd h
  refine pw_get (pc := 143) F 0 5 199 (by decide) (by decide) g_d5ad117c5f inl_0 0 rfl dX8_logic_143 ex1 ?_
  refine pw_aload (pc := 146) F dX8_logic_146 rfl ?_
  obtain ⟨x2, ex2, h⟩ := bnd h
  refine pw_get (pc := 148) F 0 5 199 (by decide) (by decide) g_d5ad117c5f inl_0 0 rfl dX8_logic_148 ex2 ?_
  refine pw_iadd (pc := 151) F dX8_logic_151 ?_
  refine pw_iconst (pc := 152) F 1 dX8_logic_152 (by decide) ?_
  refine pw_iadd (pc := 153) F dX8_logic_153 ?_
  refine pw_istore (pc := 154) F dX8_logic_154 (lt_nl hn (by decide)) [some (vr p0), some (vi p1), some (vi p2), some (vi p3), some (vr p4), some (vr p5), some (vi (w32 ((w32 (x1 + x2)) + 1))), none, none] rfl ?_
  refine pw_aload_n (pc := 156) F dX8_logic_156 rfl ?_
  obtain ⟨x3, ex3, h⟩ := bnd h
  refine pw_get (pc := 157) F 8 0 12 (by decide) (by decide) g_955d9610dc inl_8 2 rfl dX8_logic_157 ex3 ?_
  refine pw_iload (pc := 160) F dX8_logic_160 rfl ?_
  obtain ⟨z4, ez4, h⟩ := bnd h
  refine pw_callV (pc := 162) (as := [vi (w32 ((w32 (x1 + x2)) + 1))]) (st := []) (r := (some (vi z4.1))) F 189 3 (by decide) rfl (fun l => m_X3_conditionsAreFull l x3 (w32 ((w32 (x1 + x2)) + 1)) H z4.1 z4.2 ez4) g_7417c9af48 g_bb5e9f492c g_c1a0ce728c g_106b72596f g_018437c032 hd_X3_conditionsAreFull (rm_ok hf hl (by decide) (by decide)) rfl (vm_spec ez4).1 dX8_logic_162 rfl (stk' := [vi z4.1]) rfl ?_
  refine pw_if_eq (pc := 165) F 171 dX8_logic_165 (by decide) (fun hc => ?_) (fun hc => ?_)
  · have h := iteT hc h
    refine pw_aload (pc := 171) F dX8_logic_171 rfl ?_
    obtain ⟨x5, ex5, h⟩ := bnd h
    refine pw_get (pc := 173) F 0 4 111 (by decide) (by decide) g_1ba1e534e4 inl_0 0 rfl dX8_logic_173 ex5 ?_
    refine pw_iconst (pc := 176) F (-1) dX8_logic_176 (by decide) ?_
    refine pw_icmp_ne (pc := 177) F 188 dX8_logic_177 (by decide) (fun hc => ?_) (fun hc => ?_)
    · have h := iteT hc h
      refine pw_aload (pc := 188) F dX8_logic_188 rfl ?_
      obtain ⟨x6, ex6, h⟩ := bnd h
      refine pw_get (pc := 190) F 0 4 111 (by decide) (by decide) g_1ba1e534e4 inl_0 0 rfl dX8_logic_190 ex6 ?_
      exact pw_mask [true, true, true, true, true, true, true, true, true] (ls' := [some (vr p0), some (vi p1), some (vi p2), some (vi p3), some (vr p4), some (vr p5), some (vi (w32 ((w32 (x1 + x2)) + 1))), none, none]) rfl (jX8_logic_193_ok F q hn hf hl p0 p1 p2 p3 p4 p5 (w32 ((w32 (x1 + x2)) + 1)) x6 z4.2 h)
    · have h := iteF hc h
      refine pw_aload (pc := 180) F dX8_logic_180 rfl ?_
      obtain ⟨x7, ex7, h⟩ := bnd h
      refine pw_get (pc := 182) F 0 4 111 (by decide) (by decide) g_1ba1e534e4 inl_0 0 rfl dX8_logic_182 ex7 ?_
      refine pw_goto (pc := 185) F 193 dX8_logic_185 (by decide) ?_
      exact pw_mask [true, true, true, true, true, true, true, true, true] (ls' := [some (vr p0), some (vi p1), some (vi p2), some (vi p3), some (vr p4), some (vr p5), some (vi (w32 ((w32 (x1 + x2)) + 1))), none, none]) rfl (jX8_logic_193_ok F q hn hf hl p0 p1 p2 p3 p4 p5 (w32 ((w32 (x1 + x2)) + 1)) x7 z4.2 h)
  · have h := iteF hc h
    refine pw_bipush (pc := 168) F (-4) dX8_logic_168 (by decide) ?_
    cases h
    exact pw_iret (pc := 170) F q dX8_logic_170
def f_X8_logic (a0 a1 a2 a3 : Int) (H : PH) : RO := vm 8 a0 H <|
  (ld 24 H a0 0).bind fun x1 => (f_X3_conditionOf x1 a2 H).bind fun z2 => (if a1 < 0 then some ((-1), z2.2)
  else (if a1 > 2 then some ((-1), z2.2)
  else (if z2.1 ≠ -1 then (if (w32 (4 + a1)) ≠ 6 then (ld 24 z2.2 a0 0).bind fun x3 => (f_X3_conditionOf x3 a3 z2.2).bind fun z4 => (if z4.1 ≠ -1 then (ld 16 z4.2 z2.1 4).bind fun x5 => (if x5 = (-1) then jX8_logic_141 a0 a1 a2 a3 z2.1 z4.1 z4.2
  else (ld 16 z4.2 z4.1 4).bind fun x6 => (if x6 = (-1) then jX8_logic_141 a0 a1 a2 a3 z2.1 z4.1 z4.2
  else (ld 16 z4.2 z2.1 4).bind fun x7 => (ld 16 z4.2 z4.1 4).bind fun x8 => (if x7 = x8 then jX8_logic_141 a0 a1 a2 a3 z2.1 z4.1 z4.2
  else some ((-2), z4.2))))
  else some ((-1), z4.2))
  else (ld 16 z2.2 z2.1 5).bind fun x9 => (ld 24 z2.2 a0 0).bind fun x10 => (f_X3_conditionsAreFull x10 (w32 (x9 + 1)) z2.2).bind fun z11 => (if z11.1 = 0 then (ld 24 z11.2 a0 0).bind fun x12 => (newo 0 z11.2).bind fun z13 => (ld 16 z13.2 z2.1 4).bind fun x14 => (ld 16 z13.2 z2.1 6).bind fun x15 => (f_X0_init z13.1 6 a2 (-1) 0 x14 (w32 (x9 + 1)) x15 z13.2).bind fun z16 => (f_X3_addCondition x12 z13.1 z16.2).bind fun z17 => some (z17.1, z17.2)
  else some ((-4), z11.2)))
  else some ((-1), z2.2))))
set_option maxHeartbeats 4000000 in
theorem m_X8_logic (l : Launch) (a0 a1 a2 a3 : Int) (H : PH) (rr : Int) (HH : PH) (h : f_X8_logic a0 a1 a2 a3 H = some (rr, HH)) : CT l yX8_logic cX8_logic 9 (some .int) 2 42 [vr a0, vi a1, vi a2, vi a3] H (some (vi rr)) HH := by
  refine CT.of RX8 (by decide) rfl [some (vr a0), some (vi a1), some (vi a2), some (vi a3), none, none, none, none, none] rfl rfl ?_
  intro E F q hn hf hl hm
  unfold f_X8_logic at h
  obtain ⟨hv, h⟩ := vm_spec h
  refine pw_aload_n (pc := 0) F dX8_logic_0 rfl ?_
  obtain ⟨x1, ex1, h⟩ := bnd h
  refine pw_get (pc := 1) F 8 0 12 (by decide) (by decide) g_955d9610dc inl_8 2 rfl dX8_logic_1 ex1 ?_
  refine pw_iload_n (pc := 4) F dX8_logic_4 rfl ?_
  obtain ⟨z2, ez2, h⟩ := bnd h
  refine pw_callV (pc := 5) (as := [vi a2]) (st := []) (r := (some (vr z2.1))) F 107 3 (by decide) rfl (fun l => m_X3_conditionOf l x1 a2 H z2.1 z2.2 ez2) g_49928f6725 g_b00562ac61 g_8e73955a14 g_106b72596f g_f065878191 hd_X3_conditionOf (rm_ok hf hl (by decide) (by decide)) rfl (vm_spec ez2).1 dX8_logic_5 rfl (stk' := [vr z2.1]) rfl ?_
  refine pw_astore (pc := 8) F dX8_logic_8 (lt_nl hn (by decide)) [some (vr a0), some (vi a1), some (vi a2), some (vi a3), some (vr z2.1), none, none, none, none] rfl ?_
  refine pw_iload_n (pc := 10) F dX8_logic_10 rfl ?_
  refine pw_if_lt (pc := 11) F 24 dX8_logic_11 (by decide) (fun hc => ?_) (fun hc => ?_)
  · have h := iteT hc h
    refine pw_iconst (pc := 24) F (-1) dX8_logic_24 (by decide) ?_
    cases h
    exact pw_iret (pc := 25) F q dX8_logic_25
  · have h := iteF hc h
    refine pw_iload_n (pc := 14) F dX8_logic_14 rfl ?_
    refine pw_iconst (pc := 15) F 2 dX8_logic_15 (by decide) ?_
    refine pw_icmp_gt (pc := 16) F 24 dX8_logic_16 (by decide) (fun hc => ?_) (fun hc => ?_)
    · have h := iteT hc h
      refine pw_iconst (pc := 24) F (-1) dX8_logic_24 (by decide) ?_
      cases h
      exact pw_iret (pc := 25) F q dX8_logic_25
    · have h := iteF hc h
      refine pw_aload (pc := 19) F dX8_logic_19 rfl ?_
      refine pw_ifnonnull (pc := 21) F 26 dX8_logic_21 (by decide) (fun hc => ?_) (fun hc => ?_)
      · have h := iteT hc h
        refine pw_iconst (pc := 26) F 4 dX8_logic_26 (by decide) ?_
        refine pw_iload_n (pc := 27) F dX8_logic_27 rfl ?_
        refine pw_iadd (pc := 28) F dX8_logic_28 ?_
        refine pw_bipush (pc := 29) F 6 dX8_logic_29 (by decide) ?_
        refine pw_icmp_ne (pc := 31) F 90 dX8_logic_31 (by decide) (fun hc => ?_) (fun hc => ?_)
        · have h := iteT hc h
          refine pw_aload_n (pc := 90) F dX8_logic_90 rfl ?_
          obtain ⟨x3, ex3, h⟩ := bnd h
          refine pw_get (pc := 91) F 8 0 12 (by decide) (by decide) g_955d9610dc inl_8 2 rfl dX8_logic_91 ex3 ?_
          refine pw_iload_n (pc := 94) F dX8_logic_94 rfl ?_
          obtain ⟨z4, ez4, h⟩ := bnd h
          refine pw_callV (pc := 95) (as := [vi a3]) (st := []) (r := (some (vr z4.1))) F 107 3 (by decide) rfl (fun l => m_X3_conditionOf l x3 a3 z2.2 z4.1 z4.2 ez4) g_49928f6725 g_b00562ac61 g_8e73955a14 g_106b72596f g_f065878191 hd_X3_conditionOf (rm_ok hf hl (by decide) (by decide)) rfl (vm_spec ez4).1 dX8_logic_95 rfl (stk' := [vr z4.1]) rfl ?_
          refine pw_astore (pc := 98) F dX8_logic_98 (lt_nl hn (by decide)) [some (vr a0), some (vi a1), some (vi a2), some (vi a3), some (vr z2.1), some (vr z4.1), none, none, none] rfl ?_
          refine pw_aload (pc := 100) F dX8_logic_100 rfl ?_
          refine pw_ifnonnull (pc := 102) F 107 dX8_logic_102 (by decide) (fun hc => ?_) (fun hc => ?_)
          · have h := iteT hc h
            refine pw_aload (pc := 107) F dX8_logic_107 rfl ?_
            obtain ⟨x5, ex5, h⟩ := bnd h
            refine pw_get (pc := 109) F 0 4 111 (by decide) (by decide) g_1ba1e534e4 inl_0 0 rfl dX8_logic_109 ex5 ?_
            refine pw_iconst (pc := 112) F (-1) dX8_logic_112 (by decide) ?_
            refine pw_icmp_eq (pc := 113) F 141 dX8_logic_113 (by decide) (fun hc => ?_) (fun hc => ?_)
            · have h := iteT hc h
              exact pw_mask [true, true, true, true, true, true, true, true, true] (ls' := [some (vr a0), some (vi a1), some (vi a2), some (vi a3), some (vr z2.1), some (vr z4.1), none, none, none]) rfl (jX8_logic_141_ok F q hn hf hl a0 a1 a2 a3 z2.1 z4.1 z4.2 h)
            · have h := iteF hc h
              refine pw_aload (pc := 116) F dX8_logic_116 rfl ?_
              obtain ⟨x6, ex6, h⟩ := bnd h
              refine pw_get (pc := 118) F 0 4 111 (by decide) (by decide) g_1ba1e534e4 inl_0 0 rfl dX8_logic_118 ex6 ?_
              refine pw_iconst (pc := 121) F (-1) dX8_logic_121 (by decide) ?_
              refine pw_icmp_eq (pc := 122) F 141 dX8_logic_122 (by decide) (fun hc => ?_) (fun hc => ?_)
              · have h := iteT hc h
                exact pw_mask [true, true, true, true, true, true, true, true, true] (ls' := [some (vr a0), some (vi a1), some (vi a2), some (vi a3), some (vr z2.1), some (vr z4.1), none, none, none]) rfl (jX8_logic_141_ok F q hn hf hl a0 a1 a2 a3 z2.1 z4.1 z4.2 h)
              · have h := iteF hc h
                refine pw_aload (pc := 125) F dX8_logic_125 rfl ?_
                obtain ⟨x7, ex7, h⟩ := bnd h
                refine pw_get (pc := 127) F 0 4 111 (by decide) (by decide) g_1ba1e534e4 inl_0 0 rfl dX8_logic_127 ex7 ?_
                refine pw_aload (pc := 130) F dX8_logic_130 rfl ?_
                obtain ⟨x8, ex8, h⟩ := bnd h
                refine pw_get (pc := 132) F 0 4 111 (by decide) (by decide) g_1ba1e534e4 inl_0 0 rfl dX8_logic_132 ex8 ?_
                refine pw_icmp_eq (pc := 135) F 141 dX8_logic_135 (by decide) (fun hc => ?_) (fun hc => ?_)
                · have h := iteT hc h
                  exact pw_mask [true, true, true, true, true, true, true, true, true] (ls' := [some (vr a0), some (vi a1), some (vi a2), some (vi a3), some (vr z2.1), some (vr z4.1), none, none, none]) rfl (jX8_logic_141_ok F q hn hf hl a0 a1 a2 a3 z2.1 z4.1 z4.2 h)
                · have h := iteF hc h
                  refine pw_bipush (pc := 138) F (-2) dX8_logic_138 (by decide) ?_
                  cases h
                  exact pw_iret (pc := 140) F q dX8_logic_140
          · have h := iteF hc h
            refine pw_iconst (pc := 105) F (-1) dX8_logic_105 (by decide) ?_
            cases h
            exact pw_iret (pc := 106) F q dX8_logic_106
        · have h := iteF hc h
          refine pw_aload (pc := 34) F dX8_logic_34 rfl ?_
          obtain ⟨x9, ex9, h⟩ := bnd h
          refine pw_get (pc := 36) F 0 5 199 (by decide) (by decide) g_d5ad117c5f inl_0 0 rfl dX8_logic_36 ex9 ?_
          refine pw_iconst (pc := 39) F 1 dX8_logic_39 (by decide) ?_
          refine pw_iadd (pc := 40) F dX8_logic_40 ?_
          refine pw_istore (pc := 41) F dX8_logic_41 (lt_nl hn (by decide)) [some (vr a0), some (vi a1), some (vi a2), some (vi a3), some (vr z2.1), some (vi (w32 (x9 + 1))), none, none, none] rfl ?_
          refine pw_aload_n (pc := 43) F dX8_logic_43 rfl ?_
          obtain ⟨x10, ex10, h⟩ := bnd h
          refine pw_get (pc := 44) F 8 0 12 (by decide) (by decide) g_955d9610dc inl_8 2 rfl dX8_logic_44 ex10 ?_
          refine pw_iload (pc := 47) F dX8_logic_47 rfl ?_
          obtain ⟨z11, ez11, h⟩ := bnd h
          refine pw_callV (pc := 49) (as := [vi (w32 (x9 + 1))]) (st := []) (r := (some (vi z11.1))) F 189 3 (by decide) rfl (fun l => m_X3_conditionsAreFull l x10 (w32 (x9 + 1)) z2.2 z11.1 z11.2 ez11) g_7417c9af48 g_bb5e9f492c g_c1a0ce728c g_106b72596f g_018437c032 hd_X3_conditionsAreFull (rm_ok hf hl (by decide) (by decide)) rfl (vm_spec ez11).1 dX8_logic_49 rfl (stk' := [vi z11.1]) rfl ?_
          refine pw_if_eq (pc := 52) F 58 dX8_logic_52 (by decide) (fun hc => ?_) (fun hc => ?_)
          · have h := iteT hc h
            refine pw_aload_n (pc := 58) F dX8_logic_58 rfl ?_
            obtain ⟨x12, ex12, h⟩ := bnd h
            refine pw_get (pc := 59) F 8 0 12 (by decide) (by decide) g_955d9610dc inl_8 2 rfl dX8_logic_59 ex12 ?_
            obtain ⟨z13, ez13, h⟩ := bnd h
            refine pw_new (pc := 62) F 0 112 (by decide) g_4523d8d8bf g_854bb96d1c g_ef07f9ccec inl_0 dX8_logic_62 ez13 ?_
            refine pw_dup (pc := 65) F dX8_logic_65 (pvne rfl) ?_
            refine pw_bipush (pc := 66) F 6 dX8_logic_66 (by decide) ?_
            refine pw_iload_n (pc := 68) F dX8_logic_68 rfl ?_
            refine pw_iconst (pc := 69) F (-1) dX8_logic_69 (by decide) ?_
            refine pw_lconst (pc := 70) F 0 dX8_logic_70 (by decide) ?_
            refine pw_aload (pc := 71) F dX8_logic_71 rfl ?_
            obtain ⟨x14, ex14, h⟩ := bnd h
            refine pw_get (pc := 73) F 0 4 111 (by decide) (by decide) g_1ba1e534e4 inl_0 0 rfl dX8_logic_73 ex14 ?_
            refine pw_iload (pc := 76) F dX8_logic_76 rfl ?_
            refine pw_aload (pc := 78) F dX8_logic_78 rfl ?_
            obtain ⟨x15, ex15, h⟩ := bnd h
            refine pw_get (pc := 80) F 0 6 202 (by decide) (by decide) g_f8fbfc4672 inl_0 0 rfl dX8_logic_80 ex15 ?_
            obtain ⟨z16, ez16, h⟩ := bnd h
            refine pw_callI (pc := 83) (as := [vi 6, vi a2, vi (-1), vl 0, vi x14, vi (w32 (x9 + 1)), vi x15]) (st := [vr z13.1, vr x12]) F 192 (vm_nn (vm_spec ez16).1) (fun l => m_X0_init l z13.1 6 a2 (-1) 0 x14 (w32 (x9 + 1)) x15 z13.2 z16.1 z16.2 ez16) rfl g_4a4e33672b g_203a6b265c g_82b0ef516c g_d8fbc76a87 hd_X0_init (rm_ok hf hl (by decide) (by decide)) rfl dX8_logic_83 rfl ?_
            obtain ⟨z17, ez17, h⟩ := bnd h
            refine pw_callV (pc := 86) (as := [vr z13.1]) (st := []) (r := (some (vi z17.1))) F 195 3 (by decide) rfl (fun l => m_X3_addCondition l x12 z13.1 z16.2 z17.1 z17.2 ez17) g_cb4e5a548a g_63018e7056 g_d894aaa55a g_106b72596f g_e04be68bc8 hd_X3_addCondition (rm_ok hf hl (by decide) (by decide)) rfl (vm_spec ez17).1 dX8_logic_86 rfl (stk' := [vi z17.1]) rfl ?_
            cases h
            exact pw_iret (pc := 89) F q dX8_logic_89
          · have h := iteF hc h
            refine pw_bipush (pc := 55) F (-4) dX8_logic_55 (by decide) ?_
            cases h
            exact pw_iret (pc := 57) F q dX8_logic_57
      · have h := iteF hc h
        refine pw_iconst (pc := 24) F (-1) dX8_logic_24 (by decide) ?_
        cases h
        exact pw_iret (pc := 25) F q dX8_logic_25
/-! HouseholdVault.some(II)I -/
theorem dX8_some_0 : decode cX8_some 0 = .ok (.aload_n 0, 1) := by decide +kernel
theorem dX8_some_1 : decode cX8_some 1 = .ok (.getfield 12, 3) := by decide +kernel
theorem dX8_some_4 : decode cX8_some 4 = .ok (.iload_n 1, 1) := by decide +kernel
theorem dX8_some_5 : decode cX8_some 5 = .ok (.invokevirtual 107, 3) := by decide +kernel
theorem dX8_some_8 : decode cX8_some 8 = .ok (.astore_n 3, 1) := by decide +kernel
theorem dX8_some_9 : decode cX8_some 9 = .ok (.aload_n 3, 1) := by decide +kernel
theorem dX8_some_10 : decode cX8_some 10 = .ok (.ifnull 12, 3) := by decide +kernel
theorem dX8_some_13 : decode cX8_some 13 = .ok (.iload_n 2, 1) := by decide +kernel
theorem dX8_some_14 : decode cX8_some 14 = .ok (.ifCond .lt 8, 3) := by decide +kernel
theorem dX8_some_17 : decode cX8_some 17 = .ok (.iload_n 2, 1) := by decide +kernel
theorem dX8_some_18 : decode cX8_some 18 = .ok (.iconst 5, 1) := by decide +kernel
theorem dX8_some_19 : decode cX8_some 19 = .ok (.if_icmp .le 5, 3) := by decide +kernel
theorem dX8_some_22 : decode cX8_some 22 = .ok (.iconst (-1), 1) := by decide +kernel
theorem dX8_some_23 : decode cX8_some 23 = .ok (.ireturn, 1) := by decide +kernel
theorem dX8_some_24 : decode cX8_some 24 = .ok (.aload_n 3, 1) := by decide +kernel
theorem dX8_some_25 : decode cX8_some 25 = .ok (.getfield 111, 3) := by decide +kernel
theorem dX8_some_28 : decode cX8_some 28 = .ok (.iconst (-1), 1) := by decide +kernel
theorem dX8_some_29 : decode cX8_some 29 = .ok (.if_icmp .ne 6, 3) := by decide +kernel
theorem dX8_some_32 : decode cX8_some 32 = .ok (.bipush (-2), 2) := by decide +kernel
theorem dX8_some_34 : decode cX8_some 34 = .ok (.ireturn, 1) := by decide +kernel
theorem dX8_some_35 : decode cX8_some 35 = .ok (.aload_n 3, 1) := by decide +kernel
theorem dX8_some_36 : decode cX8_some 36 = .ok (.getfield 199, 3) := by decide +kernel
theorem dX8_some_39 : decode cX8_some 39 = .ok (.iconst 1, 1) := by decide +kernel
theorem dX8_some_40 : decode cX8_some 40 = .ok (.iadd, 1) := by decide +kernel
theorem dX8_some_41 : decode cX8_some 41 = .ok (.istore 4, 2) := by decide +kernel
theorem dX8_some_43 : decode cX8_some 43 = .ok (.aload_n 0, 1) := by decide +kernel
theorem dX8_some_44 : decode cX8_some 44 = .ok (.getfield 12, 3) := by decide +kernel
theorem dX8_some_47 : decode cX8_some 47 = .ok (.iload 4, 2) := by decide +kernel
theorem dX8_some_49 : decode cX8_some 49 = .ok (.invokevirtual 189, 3) := by decide +kernel
theorem dX8_some_52 : decode cX8_some 52 = .ok (.ifCond .eq 6, 3) := by decide +kernel
theorem dX8_some_55 : decode cX8_some 55 = .ok (.bipush (-4), 2) := by decide +kernel
theorem dX8_some_57 : decode cX8_some 57 = .ok (.ireturn, 1) := by decide +kernel
theorem dX8_some_58 : decode cX8_some 58 = .ok (.aload_n 0, 1) := by decide +kernel
theorem dX8_some_59 : decode cX8_some 59 = .ok (.getfield 12, 3) := by decide +kernel
theorem dX8_some_62 : decode cX8_some 62 = .ok (.new 112, 3) := by decide +kernel
theorem dX8_some_65 : decode cX8_some 65 = .ok (.dup, 1) := by decide +kernel
theorem dX8_some_66 : decode cX8_some 66 = .ok (.bipush 7, 2) := by decide +kernel
theorem dX8_some_68 : decode cX8_some 68 = .ok (.iload_n 1, 1) := by decide +kernel
theorem dX8_some_69 : decode cX8_some 69 = .ok (.iconst (-1), 1) := by decide +kernel
theorem dX8_some_70 : decode cX8_some 70 = .ok (.iload_n 2, 1) := by decide +kernel
theorem dX8_some_71 : decode cX8_some 71 = .ok (.i2l, 1) := by decide +kernel
theorem dX8_some_72 : decode cX8_some 72 = .ok (.iconst (-1), 1) := by decide +kernel
theorem dX8_some_73 : decode cX8_some 73 = .ok (.iload 4, 2) := by decide +kernel
theorem dX8_some_75 : decode cX8_some 75 = .ok (.aload_n 3, 1) := by decide +kernel
theorem dX8_some_76 : decode cX8_some 76 = .ok (.getfield 202, 3) := by decide +kernel
theorem dX8_some_79 : decode cX8_some 79 = .ok (.invokespecial 192, 3) := by decide +kernel
theorem dX8_some_82 : decode cX8_some 82 = .ok (.invokevirtual 195, 3) := by decide +kernel
theorem dX8_some_85 : decode cX8_some 85 = .ok (.ireturn, 1) := by decide +kernel
def f_X8_some (a0 a1 a2 : Int) (H : PH) : RO := vm 8 a0 H <|
  (ld 24 H a0 0).bind fun x1 => (f_X3_conditionOf x1 a1 H).bind fun z2 => (if z2.1 = -1 then some ((-1), z2.2)
  else (if a2 < 0 then some ((-1), z2.2)
  else (if a2 ≤ 5 then (ld 16 z2.2 z2.1 4).bind fun x3 => (if x3 ≠ (-1) then (ld 16 z2.2 z2.1 5).bind fun x4 => (ld 24 z2.2 a0 0).bind fun x5 => (f_X3_conditionsAreFull x5 (w32 (x4 + 1)) z2.2).bind fun z6 => (if z6.1 = 0 then (ld 24 z6.2 a0 0).bind fun x7 => (newo 0 z6.2).bind fun z8 => (ld 16 z8.2 z2.1 6).bind fun x9 => (f_X0_init z8.1 7 a1 (-1) a2 (-1) (w32 (x4 + 1)) x9 z8.2).bind fun z10 => (f_X3_addCondition x7 z8.1 z10.2).bind fun z11 => some (z11.1, z11.2)
  else some ((-4), z6.2))
  else some ((-2), z2.2))
  else some ((-1), z2.2))))
set_option maxHeartbeats 4000000 in
theorem m_X8_some (l : Launch) (a0 a1 a2 : Int) (H : PH) (rr : Int) (HH : PH) (h : f_X8_some a0 a1 a2 H = some (rr, HH)) : CT l yX8_some cX8_some 5 (some .int) 2 42 [vr a0, vi a1, vi a2] H (some (vi rr)) HH := by
  refine CT.of RX8 (by decide) rfl [some (vr a0), some (vi a1), some (vi a2), none, none] rfl rfl ?_
  intro E F q hn hf hl hm
  unfold f_X8_some at h
  obtain ⟨hv, h⟩ := vm_spec h
  refine pw_aload_n (pc := 0) F dX8_some_0 rfl ?_
  obtain ⟨x1, ex1, h⟩ := bnd h
  refine pw_get (pc := 1) F 8 0 12 (by decide) (by decide) g_955d9610dc inl_8 2 rfl dX8_some_1 ex1 ?_
  refine pw_iload_n (pc := 4) F dX8_some_4 rfl ?_
  obtain ⟨z2, ez2, h⟩ := bnd h
  refine pw_callV (pc := 5) (as := [vi a1]) (st := []) (r := (some (vr z2.1))) F 107 3 (by decide) rfl (fun l => m_X3_conditionOf l x1 a1 H z2.1 z2.2 ez2) g_49928f6725 g_b00562ac61 g_8e73955a14 g_106b72596f g_f065878191 hd_X3_conditionOf (rm_ok hf hl (by decide) (by decide)) rfl (vm_spec ez2).1 dX8_some_5 rfl (stk' := [vr z2.1]) rfl ?_
  refine pw_astore_n (pc := 8) F dX8_some_8 (lt_nl hn (by decide)) [some (vr a0), some (vi a1), some (vi a2), some (vr z2.1), none] rfl ?_
  refine pw_aload_n (pc := 9) F dX8_some_9 rfl ?_
  refine pw_ifnull (pc := 10) F 22 dX8_some_10 (by decide) (fun hc => ?_) (fun hc => ?_)
  · have h := iteT hc h
    refine pw_iconst (pc := 22) F (-1) dX8_some_22 (by decide) ?_
    cases h
    exact pw_iret (pc := 23) F q dX8_some_23
  · have h := iteF hc h
    refine pw_iload_n (pc := 13) F dX8_some_13 rfl ?_
    refine pw_if_lt (pc := 14) F 22 dX8_some_14 (by decide) (fun hc => ?_) (fun hc => ?_)
    · have h := iteT hc h
      refine pw_iconst (pc := 22) F (-1) dX8_some_22 (by decide) ?_
      cases h
      exact pw_iret (pc := 23) F q dX8_some_23
    · have h := iteF hc h
      refine pw_iload_n (pc := 17) F dX8_some_17 rfl ?_
      refine pw_iconst (pc := 18) F 5 dX8_some_18 (by decide) ?_
      refine pw_icmp_le (pc := 19) F 24 dX8_some_19 (by decide) (fun hc => ?_) (fun hc => ?_)
      · have h := iteT hc h
        refine pw_aload_n (pc := 24) F dX8_some_24 rfl ?_
        obtain ⟨x3, ex3, h⟩ := bnd h
        refine pw_get (pc := 25) F 0 4 111 (by decide) (by decide) g_1ba1e534e4 inl_0 0 rfl dX8_some_25 ex3 ?_
        refine pw_iconst (pc := 28) F (-1) dX8_some_28 (by decide) ?_
        refine pw_icmp_ne (pc := 29) F 35 dX8_some_29 (by decide) (fun hc => ?_) (fun hc => ?_)
        · have h := iteT hc h
          refine pw_aload_n (pc := 35) F dX8_some_35 rfl ?_
          obtain ⟨x4, ex4, h⟩ := bnd h
          refine pw_get (pc := 36) F 0 5 199 (by decide) (by decide) g_d5ad117c5f inl_0 0 rfl dX8_some_36 ex4 ?_
          refine pw_iconst (pc := 39) F 1 dX8_some_39 (by decide) ?_
          refine pw_iadd (pc := 40) F dX8_some_40 ?_
          refine pw_istore (pc := 41) F dX8_some_41 (lt_nl hn (by decide)) [some (vr a0), some (vi a1), some (vi a2), some (vr z2.1), some (vi (w32 (x4 + 1)))] rfl ?_
          refine pw_aload_n (pc := 43) F dX8_some_43 rfl ?_
          obtain ⟨x5, ex5, h⟩ := bnd h
          refine pw_get (pc := 44) F 8 0 12 (by decide) (by decide) g_955d9610dc inl_8 2 rfl dX8_some_44 ex5 ?_
          refine pw_iload (pc := 47) F dX8_some_47 rfl ?_
          obtain ⟨z6, ez6, h⟩ := bnd h
          refine pw_callV (pc := 49) (as := [vi (w32 (x4 + 1))]) (st := []) (r := (some (vi z6.1))) F 189 3 (by decide) rfl (fun l => m_X3_conditionsAreFull l x5 (w32 (x4 + 1)) z2.2 z6.1 z6.2 ez6) g_7417c9af48 g_bb5e9f492c g_c1a0ce728c g_106b72596f g_018437c032 hd_X3_conditionsAreFull (rm_ok hf hl (by decide) (by decide)) rfl (vm_spec ez6).1 dX8_some_49 rfl (stk' := [vi z6.1]) rfl ?_
          refine pw_if_eq (pc := 52) F 58 dX8_some_52 (by decide) (fun hc => ?_) (fun hc => ?_)
          · have h := iteT hc h
            refine pw_aload_n (pc := 58) F dX8_some_58 rfl ?_
            obtain ⟨x7, ex7, h⟩ := bnd h
            refine pw_get (pc := 59) F 8 0 12 (by decide) (by decide) g_955d9610dc inl_8 2 rfl dX8_some_59 ex7 ?_
            obtain ⟨z8, ez8, h⟩ := bnd h
            refine pw_new (pc := 62) F 0 112 (by decide) g_4523d8d8bf g_854bb96d1c g_ef07f9ccec inl_0 dX8_some_62 ez8 ?_
            refine pw_dup (pc := 65) F dX8_some_65 (pvne rfl) ?_
            refine pw_bipush (pc := 66) F 7 dX8_some_66 (by decide) ?_
            refine pw_iload_n (pc := 68) F dX8_some_68 rfl ?_
            refine pw_iconst (pc := 69) F (-1) dX8_some_69 (by decide) ?_
            refine pw_iload_n (pc := 70) F dX8_some_70 rfl ?_
            refine pw_i2l (pc := 71) F dX8_some_71 ?_
            refine pw_iconst (pc := 72) F (-1) dX8_some_72 (by decide) ?_
            refine pw_iload (pc := 73) F dX8_some_73 rfl ?_
            refine pw_aload_n (pc := 75) F dX8_some_75 rfl ?_
            obtain ⟨x9, ex9, h⟩ := bnd h
            refine pw_get (pc := 76) F 0 6 202 (by decide) (by decide) g_f8fbfc4672 inl_0 0 rfl dX8_some_76 ex9 ?_
            obtain ⟨z10, ez10, h⟩ := bnd h
            refine pw_callI (pc := 79) (as := [vi 7, vi a1, vi (-1), vl a2, vi (-1), vi (w32 (x4 + 1)), vi x9]) (st := [vr z8.1, vr x7]) F 192 (vm_nn (vm_spec ez10).1) (fun l => m_X0_init l z8.1 7 a1 (-1) a2 (-1) (w32 (x4 + 1)) x9 z8.2 z10.1 z10.2 ez10) rfl g_4a4e33672b g_203a6b265c g_82b0ef516c g_d8fbc76a87 hd_X0_init (rm_ok hf hl (by decide) (by decide)) rfl dX8_some_79 rfl ?_
            obtain ⟨z11, ez11, h⟩ := bnd h
            refine pw_callV (pc := 82) (as := [vr z8.1]) (st := []) (r := (some (vi z11.1))) F 195 3 (by decide) rfl (fun l => m_X3_addCondition l x7 z8.1 z10.2 z11.1 z11.2 ez11) g_cb4e5a548a g_63018e7056 g_d894aaa55a g_106b72596f g_e04be68bc8 hd_X3_addCondition (rm_ok hf hl (by decide) (by decide)) rfl (vm_spec ez11).1 dX8_some_82 rfl (stk' := [vi z11.1]) rfl ?_
            cases h
            exact pw_iret (pc := 85) F q dX8_some_85
          · have h := iteF hc h
            refine pw_bipush (pc := 55) F (-4) dX8_some_55 (by decide) ?_
            cases h
            exact pw_iret (pc := 57) F q dX8_some_57
        · have h := iteF hc h
          refine pw_bipush (pc := 32) F (-2) dX8_some_32 (by decide) ?_
          cases h
          exact pw_iret (pc := 34) F q dX8_some_34
      · have h := iteF hc h
        refine pw_iconst (pc := 22) F (-1) dX8_some_22 (by decide) ?_
        cases h
        exact pw_iret (pc := 23) F q dX8_some_23
/-! HouseholdVault.holds(III)I -/
theorem dX8_holds_0 : decode cX8_holds 0 = .ok (.aload_n 0, 1) := by decide +kernel
theorem dX8_holds_1 : decode cX8_holds 1 = .ok (.getfield 12, 3) := by decide +kernel
theorem dX8_holds_4 : decode cX8_holds 4 = .ok (.iload_n 1, 1) := by decide +kernel
theorem dX8_holds_5 : decode cX8_holds 5 = .ok (.invokevirtual 107, 3) := by decide +kernel
theorem dX8_holds_8 : decode cX8_holds 8 = .ok (.astore 4, 2) := by decide +kernel
theorem dX8_holds_10 : decode cX8_holds 10 = .ok (.aload_n 0, 1) := by decide +kernel
theorem dX8_holds_11 : decode cX8_holds 11 = .ok (.iload_n 2, 1) := by decide +kernel
theorem dX8_holds_12 : decode cX8_holds 12 = .ok (.invokevirtual 148, 3) := by decide +kernel
theorem dX8_holds_15 : decode cX8_holds 15 = .ok (.astore 5, 2) := by decide +kernel
theorem dX8_holds_17 : decode cX8_holds 17 = .ok (.aload 4, 2) := by decide +kernel
theorem dX8_holds_19 : decode cX8_holds 19 = .ok (.ifnull 25, 3) := by decide +kernel
theorem dX8_holds_22 : decode cX8_holds 22 = .ok (.aload 5, 2) := by decide +kernel
theorem dX8_holds_24 : decode cX8_holds 24 = .ok (.ifnull 20, 3) := by decide +kernel
theorem dX8_holds_27 : decode cX8_holds 27 = .ok (.aload 5, 2) := by decide +kernel
theorem dX8_holds_29 : decode cX8_holds 29 = .ok (.getfield 126, 3) := by decide +kernel
theorem dX8_holds_32 : decode cX8_holds 32 = .ok (.aload 4, 2) := by decide +kernel
theorem dX8_holds_34 : decode cX8_holds 34 = .ok (.getfield 111, 3) := by decide +kernel
theorem dX8_holds_37 : decode cX8_holds 37 = .ok (.iload_n 3, 1) := by decide +kernel
theorem dX8_holds_38 : decode cX8_holds 38 = .ok (.invokestatic 152, 3) := by decide +kernel
theorem dX8_holds_41 : decode cX8_holds 41 = .ok (.ifCond .ne 5, 3) := by decide +kernel
theorem dX8_holds_44 : decode cX8_holds 44 = .ok (.iconst (-1), 1) := by decide +kernel
theorem dX8_holds_45 : decode cX8_holds 45 = .ok (.ireturn, 1) := by decide +kernel
theorem dX8_holds_46 : decode cX8_holds 46 = .ok (.aload_n 0, 1) := by decide +kernel
theorem dX8_holds_47 : decode cX8_holds 47 = .ok (.getfield 12, 3) := by decide +kernel
theorem dX8_holds_50 : decode cX8_holds 50 = .ok (.aload 5, 2) := by decide +kernel
theorem dX8_holds_52 : decode cX8_holds 52 = .ok (.invokevirtual 179, 3) := by decide +kernel
theorem dX8_holds_55 : decode cX8_holds 55 = .ok (.aload 5, 2) := by decide +kernel
theorem dX8_holds_57 : decode cX8_holds 57 = .ok (.iload_n 1, 1) := by decide +kernel
theorem dX8_holds_58 : decode cX8_holds 58 = .ok (.aload 4, 2) := by decide +kernel
theorem dX8_holds_60 : decode cX8_holds 60 = .ok (.getfield 111, 3) := by decide +kernel
theorem dX8_holds_63 : decode cX8_holds 63 = .ok (.iload_n 3, 1) := by decide +kernel
theorem dX8_holds_64 : decode cX8_holds 64 = .ok (.iconst 0, 1) := by decide +kernel
theorem dX8_holds_65 : decode cX8_holds 65 = .ok (.invokestatic 205, 3) := by decide +kernel
theorem dX8_holds_68 : decode cX8_holds 68 = .ok (.invokevirtual 210, 3) := by decide +kernel
theorem dX8_holds_71 : decode cX8_holds 71 = .ok (.ifCond .eq 7, 3) := by decide +kernel
theorem dX8_holds_74 : decode cX8_holds 74 = .ok (.iconst 1, 1) := by decide +kernel
theorem dX8_holds_75 : decode cX8_holds 75 = .ok (.goto 4, 3) := by decide +kernel
theorem dX8_holds_78 : decode cX8_holds 78 = .ok (.iconst 0, 1) := by decide +kernel
theorem dX8_holds_79 : decode cX8_holds 79 = .ok (.ireturn, 1) := by decide +kernel
def f_X8_holds (a0 a1 a2 a3 : Int) (H : PH) : RO := vm 8 a0 H <|
  (ld 24 H a0 0).bind fun x1 => (f_X3_conditionOf x1 a1 H).bind fun z2 => (f_X8_homeOf a0 a2 z2.2).bind fun z3 => (if z2.1 = -1 then some ((-1), z3.2)
  else (if z3.1 = -1 then some ((-1), z3.2)
  else (ld 20 z3.2 z3.1 0).bind fun x4 => (ld 16 z3.2 z2.1 4).bind fun x5 => (f_X8_isPlace x4 x5 a3 z3.2).bind fun z6 => (if z6.1 ≠ 0 then (ld 24 z6.2 a0 0).bind fun x7 => (f_X3_settle x7 z3.1 z6.2).bind fun z8 => (ld 16 z8.2 z2.1 4).bind fun x9 => (f_X4_isSo z3.1 a1 x9 (imax a3 0) z8.2).bind fun z10 => (if z10.1 = 0 then some (0, z10.2)
  else some (1, z10.2))
  else some ((-1), z6.2))))
set_option maxHeartbeats 4000000 in
theorem m_X8_holds (l : Launch) (a0 a1 a2 a3 : Int) (H : PH) (rr : Int) (HH : PH) (h : f_X8_holds a0 a1 a2 a3 H = some (rr, HH)) : CT l yX8_holds cX8_holds 6 (some .int) 5 114 [vr a0, vi a1, vi a2, vi a3] H (some (vi rr)) HH := by
  refine CT.of RX8 (by decide) rfl [some (vr a0), some (vi a1), some (vi a2), some (vi a3), none, none] rfl rfl ?_
  intro E F q hn hf hl hm
  unfold f_X8_holds at h
  obtain ⟨hv, h⟩ := vm_spec h
  refine pw_aload_n (pc := 0) F dX8_holds_0 rfl ?_
  obtain ⟨x1, ex1, h⟩ := bnd h
  refine pw_get (pc := 1) F 8 0 12 (by decide) (by decide) g_955d9610dc inl_8 2 rfl dX8_holds_1 ex1 ?_
  refine pw_iload_n (pc := 4) F dX8_holds_4 rfl ?_
  obtain ⟨z2, ez2, h⟩ := bnd h
  refine pw_callV (pc := 5) (as := [vi a1]) (st := []) (r := (some (vr z2.1))) F 107 3 (by decide) rfl (fun l => m_X3_conditionOf l x1 a1 H z2.1 z2.2 ez2) g_49928f6725 g_b00562ac61 g_8e73955a14 g_106b72596f g_f065878191 hd_X3_conditionOf (rm_ok hf hl (by decide) (by decide)) rfl (vm_spec ez2).1 dX8_holds_5 rfl (stk' := [vr z2.1]) rfl ?_
  refine pw_astore (pc := 8) F dX8_holds_8 (lt_nl hn (by decide)) [some (vr a0), some (vi a1), some (vi a2), some (vi a3), some (vr z2.1), none] rfl ?_
  refine pw_aload_n (pc := 10) F dX8_holds_10 rfl ?_
  refine pw_iload_n (pc := 11) F dX8_holds_11 rfl ?_
  obtain ⟨z3, ez3, h⟩ := bnd h
  refine pw_callV (pc := 12) (as := [vi a2]) (st := []) (r := (some (vr z3.1))) F 148 8 (by decide) rfl (fun l => m_X8_homeOf l a0 a2 z2.2 z3.1 z3.2 ez3) g_71dc4d703e g_171138aae7 g_757aa7485e g_99e03e18e2 g_d22af8c66c hd_X8_homeOf (rm_ok hf hl (by decide) (by decide)) rfl (vm_spec ez3).1 dX8_holds_12 rfl (stk' := [vr z3.1]) rfl ?_
  refine pw_astore (pc := 15) F dX8_holds_15 (lt_nl hn (by decide)) [some (vr a0), some (vi a1), some (vi a2), some (vi a3), some (vr z2.1), some (vr z3.1)] rfl ?_
  refine pw_aload (pc := 17) F dX8_holds_17 rfl ?_
  refine pw_ifnull (pc := 19) F 44 dX8_holds_19 (by decide) (fun hc => ?_) (fun hc => ?_)
  · have h := iteT hc h
    refine pw_iconst (pc := 44) F (-1) dX8_holds_44 (by decide) ?_
    cases h
    exact pw_iret (pc := 45) F q dX8_holds_45
  · have h := iteF hc h
    refine pw_aload (pc := 22) F dX8_holds_22 rfl ?_
    refine pw_ifnull (pc := 24) F 44 dX8_holds_24 (by decide) (fun hc => ?_) (fun hc => ?_)
    · have h := iteT hc h
      refine pw_iconst (pc := 44) F (-1) dX8_holds_44 (by decide) ?_
      cases h
      exact pw_iret (pc := 45) F q dX8_holds_45
    · have h := iteF hc h
      refine pw_aload (pc := 27) F dX8_holds_27 rfl ?_
      obtain ⟨x4, ex4, h⟩ := bnd h
      refine pw_get (pc := 29) F 4 0 126 (by decide) (by decide) g_8ec333b1d7 inl_4 2 rfl dX8_holds_29 ex4 ?_
      refine pw_aload (pc := 32) F dX8_holds_32 rfl ?_
      obtain ⟨x5, ex5, h⟩ := bnd h
      refine pw_get (pc := 34) F 0 4 111 (by decide) (by decide) g_1ba1e534e4 inl_0 0 rfl dX8_holds_34 ex5 ?_
      refine pw_iload_n (pc := 37) F dX8_holds_37 rfl ?_
      obtain ⟨z6, ez6, h⟩ := bnd h
      refine pw_callS (pc := 38) (as := [vr x4, vi x5, vi a3]) (st := []) (r := (some (vi z6.1))) F 152 (fun l => m_X8_isPlace l x4 x5 a3 z3.2 z6.1 z6.2 ez6) g_f22e7a095c g_0137baa7bf g_99e03e18e2 g_4c36b6c4cd hd_X8_isPlace (rm_ok hf hl (by decide) (by decide)) rfl dX8_holds_38 rfl (stk' := [vi z6.1]) rfl ?_
      refine pw_if_ne (pc := 41) F 46 dX8_holds_41 (by decide) (fun hc => ?_) (fun hc => ?_)
      · have h := iteT hc h
        refine pw_aload_n (pc := 46) F dX8_holds_46 rfl ?_
        obtain ⟨x7, ex7, h⟩ := bnd h
        refine pw_get (pc := 47) F 8 0 12 (by decide) (by decide) g_955d9610dc inl_8 2 rfl dX8_holds_47 ex7 ?_
        refine pw_aload (pc := 50) F dX8_holds_50 rfl ?_
        obtain ⟨z8, ez8, h⟩ := bnd h
        refine pw_callV (pc := 52) (as := [vr z3.1]) (st := []) (r := none) F 179 3 (by decide) rfl (fun l => m_X3_settle l x7 z3.1 z6.2 z8.1 z8.2 ez8) g_9494b7b84e g_25b0bd7147 g_67c8dc0219 g_106b72596f g_d1a08fcf56 hd_X3_settle (rm_ok hf hl (by decide) (by decide)) rfl (vm_spec ez8).1 dX8_holds_52 rfl (stk' := []) rfl ?_
        refine pw_aload (pc := 55) F dX8_holds_55 rfl ?_
        refine pw_iload_n (pc := 57) F dX8_holds_57 rfl ?_
        refine pw_aload (pc := 58) F dX8_holds_58 rfl ?_
        obtain ⟨x9, ex9, h⟩ := bnd h
        refine pw_get (pc := 60) F 0 4 111 (by decide) (by decide) g_1ba1e534e4 inl_0 0 rfl dX8_holds_60 ex9 ?_
        refine pw_iload_n (pc := 63) F dX8_holds_63 rfl ?_
        refine pw_iconst (pc := 64) F 0 dX8_holds_64 (by decide) ?_
        refine pw_mmax (pc := 65) F 205 g_ca8853aa87 g_8b9497d0c0 g_544deca7c6 g_7292adb7fd (rm_ok hf hl (by decide) (by decide)) rfl dX8_holds_65 ?_
        obtain ⟨z10, ez10, h⟩ := bnd h
        refine pw_callV (pc := 68) (as := [vi a1, vi x9, vi (imax a3 0)]) (st := []) (r := (some (vi z10.1))) F 210 4 (by decide) rfl (fun l => m_X4_isSo l z3.1 a1 x9 (imax a3 0) z8.2 z10.1 z10.2 ez10) g_98099921aa g_6c53eda5c7 g_f0127809a2 g_2b384744dc g_01f876b9a6 hd_X4_isSo (rm_ok hf hl (by decide) (by decide)) rfl (vm_spec ez10).1 dX8_holds_68 rfl (stk' := [vi z10.1]) rfl ?_
        refine pw_if_eq (pc := 71) F 78 dX8_holds_71 (by decide) (fun hc => ?_) (fun hc => ?_)
        · have h := iteT hc h
          refine pw_iconst (pc := 78) F 0 dX8_holds_78 (by decide) ?_
          cases h
          exact pw_iret (pc := 79) F q dX8_holds_79
        · have h := iteF hc h
          refine pw_iconst (pc := 74) F 1 dX8_holds_74 (by decide) ?_
          refine pw_goto (pc := 75) F 79 dX8_holds_75 (by decide) ?_
          cases h
          exact pw_iret (pc := 79) F q dX8_holds_79
      · have h := iteF hc h
        refine pw_iconst (pc := 44) F (-1) dX8_holds_44 (by decide) ?_
        cases h
        exact pw_iret (pc := 45) F q dX8_holds_45
/-! HouseholdVault.filter(II)I -/
theorem dX8_filter_0 : decode cX8_filter 0 = .ok (.aload_n 0, 1) := by decide +kernel
theorem dX8_filter_1 : decode cX8_filter 1 = .ok (.getfield 12, 3) := by decide +kernel
theorem dX8_filter_4 : decode cX8_filter 4 = .ok (.iload_n 1, 1) := by decide +kernel
theorem dX8_filter_5 : decode cX8_filter 5 = .ok (.invokevirtual 46, 3) := by decide +kernel
theorem dX8_filter_8 : decode cX8_filter 8 = .ok (.astore_n 3, 1) := by decide +kernel
theorem dX8_filter_9 : decode cX8_filter 9 = .ok (.aload_n 0, 1) := by decide +kernel
theorem dX8_filter_10 : decode cX8_filter 10 = .ok (.getfield 12, 3) := by decide +kernel
theorem dX8_filter_13 : decode cX8_filter 13 = .ok (.iload_n 2, 1) := by decide +kernel
theorem dX8_filter_14 : decode cX8_filter 14 = .ok (.invokevirtual 107, 3) := by decide +kernel
theorem dX8_filter_17 : decode cX8_filter 17 = .ok (.astore 4, 2) := by decide +kernel
theorem dX8_filter_19 : decode cX8_filter 19 = .ok (.aload_n 3, 1) := by decide +kernel
theorem dX8_filter_20 : decode cX8_filter 20 = .ok (.ifnull 13, 3) := by decide +kernel
theorem dX8_filter_23 : decode cX8_filter 23 = .ok (.iload_n 2, 1) := by decide +kernel
theorem dX8_filter_24 : decode cX8_filter 24 = .ok (.iconst (-1), 1) := by decide +kernel
theorem dX8_filter_25 : decode cX8_filter 25 = .ok (.if_icmp .eq 10, 3) := by decide +kernel
theorem dX8_filter_28 : decode cX8_filter 28 = .ok (.aload 4, 2) := by decide +kernel
theorem dX8_filter_30 : decode cX8_filter 30 = .ok (.ifnonnull 5, 3) := by decide +kernel
theorem dX8_filter_33 : decode cX8_filter 33 = .ok (.iconst (-1), 1) := by decide +kernel
theorem dX8_filter_34 : decode cX8_filter 34 = .ok (.ireturn, 1) := by decide +kernel
theorem dX8_filter_35 : decode cX8_filter 35 = .ok (.aload_n 3, 1) := by decide +kernel
theorem dX8_filter_36 : decode cX8_filter 36 = .ok (.getfield 75, 3) := by decide +kernel
theorem dX8_filter_39 : decode cX8_filter 39 = .ok (.ifCond .eq 6, 3) := by decide +kernel
theorem dX8_filter_42 : decode cX8_filter 42 = .ok (.bipush (-2), 2) := by decide +kernel
theorem dX8_filter_44 : decode cX8_filter 44 = .ok (.ireturn, 1) := by decide +kernel
theorem dX8_filter_45 : decode cX8_filter 45 = .ok (.aload 4, 2) := by decide +kernel
theorem dX8_filter_47 : decode cX8_filter 47 = .ok (.ifnull 39, 3) := by decide +kernel
theorem dX8_filter_50 : decode cX8_filter 50 = .ok (.aload 4, 2) := by decide +kernel
theorem dX8_filter_52 : decode cX8_filter 52 = .ok (.getfield 111, 3) := by decide +kernel
theorem dX8_filter_55 : decode cX8_filter 55 = .ok (.iconst (-1), 1) := by decide +kernel
theorem dX8_filter_56 : decode cX8_filter 56 = .ok (.if_icmp .eq 18, 3) := by decide +kernel
theorem dX8_filter_59 : decode cX8_filter 59 = .ok (.aload 4, 2) := by decide +kernel
theorem dX8_filter_61 : decode cX8_filter 61 = .ok (.getfield 111, 3) := by decide +kernel
theorem dX8_filter_64 : decode cX8_filter 64 = .ok (.aload_n 3, 1) := by decide +kernel
theorem dX8_filter_65 : decode cX8_filter 65 = .ok (.getfield 88, 3) := by decide +kernel
theorem dX8_filter_68 : decode cX8_filter 68 = .ok (.if_icmp .eq 6, 3) := by decide +kernel
theorem dX8_filter_71 : decode cX8_filter 71 = .ok (.bipush (-2), 2) := by decide +kernel
theorem dX8_filter_73 : decode cX8_filter 73 = .ok (.ireturn, 1) := by decide +kernel
theorem dX8_filter_74 : decode cX8_filter 74 = .ok (.aload 4, 2) := by decide +kernel
theorem dX8_filter_76 : decode cX8_filter 76 = .ok (.getfield 202, 3) := by decide +kernel
theorem dX8_filter_79 : decode cX8_filter 79 = .ok (.iload_n 1, 1) := by decide +kernel
theorem dX8_filter_80 : decode cX8_filter 80 = .ok (.if_icmp .lt 6, 3) := by decide +kernel
theorem dX8_filter_83 : decode cX8_filter 83 = .ok (.bipush (-2), 2) := by decide +kernel
theorem dX8_filter_85 : decode cX8_filter 85 = .ok (.ireturn, 1) := by decide +kernel
theorem dX8_filter_86 : decode cX8_filter 86 = .ok (.aload_n 3, 1) := by decide +kernel
theorem dX8_filter_87 : decode cX8_filter 87 = .ok (.iload_n 2, 1) := by decide +kernel
theorem dX8_filter_88 : decode cX8_filter 88 = .ok (.putfield 116, 3) := by decide +kernel
theorem dX8_filter_91 : decode cX8_filter 91 = .ok (.iconst 1, 1) := by decide +kernel
theorem dX8_filter_92 : decode cX8_filter 92 = .ok (.ireturn, 1) := by decide +kernel
def jX8_filter_86 (p2 p3 : Int) (H : PH) : RO :=
  (stv 21 H p3 10 p2).bind fun H1 => some (1, H1)
set_option maxHeartbeats 4000000 in
theorem jX8_filter_86_ok {E : PE} {rr : Int} {HH : PH} (F : FX E cX8_filter RX8) (q : QE E (some (vi rr)) HH (some .int)) (hn : nLof E = 5) (hf : (roomOf E).frames = 1) (hl : (roomOf E).locals = 21) (p2 p3 : Int) (H : PH) (h : jX8_filter_86 p2 p3 H = some (rr, HH)) : PW E 86 [none, none, some (vi p2), some (vr p3), none] [] H := by
  unfold jX8_filter_86 at h
  refine pw_aload_n (pc := 86) F dX8_filter_86 rfl ?_
  refine pw_iload_n (pc := 87) F dX8_filter_87 rfl ?_
  obtain ⟨H1, eH1, h⟩ := bnd h
  refine pw_put (pc := 88) F 5 10 116 (by decide) (by decide) g_490b7fc7fe inl_5 rfl 0 rfl dX8_filter_88 trivial eH1 ?_
  refine pw_iconst (pc := 91) F 1 dX8_filter_91 (by decide) ?_
  cases h
  exact pw_iret (pc := 92) F q dX8_filter_92
def jX8_filter_74 (p1 p2 p3 p4 : Int) (H : PH) : RO :=
  (ld 16 H p4 6).bind fun x1 => (if x1 < p1 then jX8_filter_86 p2 p3 H
  else some ((-2), H))
set_option maxHeartbeats 4000000 in
theorem jX8_filter_74_ok {E : PE} {rr : Int} {HH : PH} (F : FX E cX8_filter RX8) (q : QE E (some (vi rr)) HH (some .int)) (hn : nLof E = 5) (hf : (roomOf E).frames = 1) (hl : (roomOf E).locals = 21) (p1 p2 p3 p4 : Int) (H : PH) (h : jX8_filter_74 p1 p2 p3 p4 H = some (rr, HH)) : PW E 74 [none, some (vi p1), some (vi p2), some (vr p3), some (vr p4)] [] H := by
  unfold jX8_filter_74 at h
  refine pw_aload (pc := 74) F dX8_filter_74 rfl ?_
  obtain ⟨x1, ex1, h⟩ := bnd h
  refine pw_get (pc := 76) F 0 6 202 (by decide) (by decide) g_f8fbfc4672 inl_0 0 rfl dX8_filter_76 ex1 ?_
  refine pw_iload_n (pc := 79) F dX8_filter_79 rfl ?_
  refine pw_icmp_lt (pc := 80) F 86 dX8_filter_80 (by decide) (fun hc => ?_) (fun hc => ?_)
  · have h := iteT hc h
    exact pw_mask [true, false, true, true, false] (ls' := [none, none, some (vi p2), some (vr p3), none]) rfl (jX8_filter_86_ok F q hn hf hl p2 p3 H h)
  · have h := iteF hc h
    refine pw_bipush (pc := 83) F (-2) dX8_filter_83 (by decide) ?_
    cases h
    exact pw_iret (pc := 85) F q dX8_filter_85
def jX8_filter_35 (p1 p2 p3 p4 : Int) (H : PH) : RO :=
  (ld 21 H p3 2).bind fun x1 => (if x1 = 0 then (if p4 = -1 then jX8_filter_86 p2 p3 H
  else (ld 16 H p4 4).bind fun x2 => (if x2 = (-1) then jX8_filter_74 p1 p2 p3 p4 H
  else (ld 16 H p4 4).bind fun x3 => (ld 21 H p3 1).bind fun x4 => (if x3 = x4 then jX8_filter_74 p1 p2 p3 p4 H
  else some ((-2), H))))
  else some ((-2), H))
set_option maxHeartbeats 4000000 in
theorem jX8_filter_35_ok {E : PE} {rr : Int} {HH : PH} (F : FX E cX8_filter RX8) (q : QE E (some (vi rr)) HH (some .int)) (hn : nLof E = 5) (hf : (roomOf E).frames = 1) (hl : (roomOf E).locals = 21) (p1 p2 p3 p4 : Int) (H : PH) (h : jX8_filter_35 p1 p2 p3 p4 H = some (rr, HH)) : PW E 35 [none, some (vi p1), some (vi p2), some (vr p3), some (vr p4)] [] H := by
  unfold jX8_filter_35 at h
  refine pw_aload_n (pc := 35) F dX8_filter_35 rfl ?_
  obtain ⟨x1, ex1, h⟩ := bnd h
  refine pw_get (pc := 36) F 5 2 75 (by decide) (by decide) g_3884a6eb9d inl_5 0 rfl dX8_filter_36 ex1 ?_
  refine pw_if_eq (pc := 39) F 45 dX8_filter_39 (by decide) (fun hc => ?_) (fun hc => ?_)
  · have h := iteT hc h
    refine pw_aload (pc := 45) F dX8_filter_45 rfl ?_
    refine pw_ifnull (pc := 47) F 86 dX8_filter_47 (by decide) (fun hc => ?_) (fun hc => ?_)
    · have h := iteT hc h
      exact pw_mask [true, false, true, true, false] (ls' := [none, none, some (vi p2), some (vr p3), none]) rfl (jX8_filter_86_ok F q hn hf hl p2 p3 H h)
    · have h := iteF hc h
      refine pw_aload (pc := 50) F dX8_filter_50 rfl ?_
      obtain ⟨x2, ex2, h⟩ := bnd h
      refine pw_get (pc := 52) F 0 4 111 (by decide) (by decide) g_1ba1e534e4 inl_0 0 rfl dX8_filter_52 ex2 ?_
      refine pw_iconst (pc := 55) F (-1) dX8_filter_55 (by decide) ?_
      refine pw_icmp_eq (pc := 56) F 74 dX8_filter_56 (by decide) (fun hc => ?_) (fun hc => ?_)
      · have h := iteT hc h
        exact pw_mask [true, true, true, true, true] (ls' := [none, some (vi p1), some (vi p2), some (vr p3), some (vr p4)]) rfl (jX8_filter_74_ok F q hn hf hl p1 p2 p3 p4 H h)
      · have h := iteF hc h
        refine pw_aload (pc := 59) F dX8_filter_59 rfl ?_
        obtain ⟨x3, ex3, h⟩ := bnd h
        refine pw_get (pc := 61) F 0 4 111 (by decide) (by decide) g_1ba1e534e4 inl_0 0 rfl dX8_filter_61 ex3 ?_
        refine pw_aload_n (pc := 64) F dX8_filter_64 rfl ?_
        obtain ⟨x4, ex4, h⟩ := bnd h
        refine pw_get (pc := 65) F 5 1 88 (by decide) (by decide) g_3644918d03 inl_5 0 rfl dX8_filter_65 ex4 ?_
        refine pw_icmp_eq (pc := 68) F 74 dX8_filter_68 (by decide) (fun hc => ?_) (fun hc => ?_)
        · have h := iteT hc h
          exact pw_mask [true, true, true, true, true] (ls' := [none, some (vi p1), some (vi p2), some (vr p3), some (vr p4)]) rfl (jX8_filter_74_ok F q hn hf hl p1 p2 p3 p4 H h)
        · have h := iteF hc h
          refine pw_bipush (pc := 71) F (-2) dX8_filter_71 (by decide) ?_
          cases h
          exact pw_iret (pc := 73) F q dX8_filter_73
  · have h := iteF hc h
    refine pw_bipush (pc := 42) F (-2) dX8_filter_42 (by decide) ?_
    cases h
    exact pw_iret (pc := 44) F q dX8_filter_44
def f_X8_filter (a0 a1 a2 : Int) (H : PH) : RO := vm 8 a0 H <|
  (ld 24 H a0 0).bind fun x1 => (f_X3_questionOf x1 a1 H).bind fun z2 => (ld 24 z2.2 a0 0).bind fun x3 => (f_X3_conditionOf x3 a2 z2.2).bind fun z4 => (if z2.1 = -1 then some ((-1), z4.2)
  else (if a2 = (-1) then jX8_filter_35 a1 a2 z2.1 z4.1 z4.2
  else (if z4.1 ≠ -1 then jX8_filter_35 a1 a2 z2.1 z4.1 z4.2
  else some ((-1), z4.2))))
set_option maxHeartbeats 4000000 in
theorem m_X8_filter (l : Launch) (a0 a1 a2 : Int) (H : PH) (rr : Int) (HH : PH) (h : f_X8_filter a0 a1 a2 H = some (rr, HH)) : CT l yX8_filter cX8_filter 5 (some .int) 1 21 [vr a0, vi a1, vi a2] H (some (vi rr)) HH := by
  refine CT.of RX8 (by decide) rfl [some (vr a0), some (vi a1), some (vi a2), none, none] rfl rfl ?_
  intro E F q hn hf hl hm
  unfold f_X8_filter at h
  obtain ⟨hv, h⟩ := vm_spec h
  refine pw_aload_n (pc := 0) F dX8_filter_0 rfl ?_
  obtain ⟨x1, ex1, h⟩ := bnd h
  refine pw_get (pc := 1) F 8 0 12 (by decide) (by decide) g_955d9610dc inl_8 2 rfl dX8_filter_1 ex1 ?_
  refine pw_iload_n (pc := 4) F dX8_filter_4 rfl ?_
  obtain ⟨z2, ez2, h⟩ := bnd h
  refine pw_callV (pc := 5) (as := [vi a1]) (st := []) (r := (some (vr z2.1))) F 46 3 (by decide) rfl (fun l => m_X3_questionOf l x1 a1 H z2.1 z2.2 ez2) g_babc17a83a g_e6ef547307 g_4b42450d0b g_106b72596f g_1cf8e31489 hd_X3_questionOf (rm_ok hf hl (by decide) (by decide)) rfl (vm_spec ez2).1 dX8_filter_5 rfl (stk' := [vr z2.1]) rfl ?_
  refine pw_astore_n (pc := 8) F dX8_filter_8 (lt_nl hn (by decide)) [some (vr a0), some (vi a1), some (vi a2), some (vr z2.1), none] rfl ?_
  refine pw_aload_n (pc := 9) F dX8_filter_9 rfl ?_
  obtain ⟨x3, ex3, h⟩ := bnd h
  refine pw_get (pc := 10) F 8 0 12 (by decide) (by decide) g_955d9610dc inl_8 2 rfl dX8_filter_10 ex3 ?_
  refine pw_iload_n (pc := 13) F dX8_filter_13 rfl ?_
  obtain ⟨z4, ez4, h⟩ := bnd h
  refine pw_callV (pc := 14) (as := [vi a2]) (st := []) (r := (some (vr z4.1))) F 107 3 (by decide) rfl (fun l => m_X3_conditionOf l x3 a2 z2.2 z4.1 z4.2 ez4) g_49928f6725 g_b00562ac61 g_8e73955a14 g_106b72596f g_f065878191 hd_X3_conditionOf (rm_ok hf hl (by decide) (by decide)) rfl (vm_spec ez4).1 dX8_filter_14 rfl (stk' := [vr z4.1]) rfl ?_
  refine pw_astore (pc := 17) F dX8_filter_17 (lt_nl hn (by decide)) [some (vr a0), some (vi a1), some (vi a2), some (vr z2.1), some (vr z4.1)] rfl ?_
  refine pw_aload_n (pc := 19) F dX8_filter_19 rfl ?_
  refine pw_ifnull (pc := 20) F 33 dX8_filter_20 (by decide) (fun hc => ?_) (fun hc => ?_)
  · have h := iteT hc h
    refine pw_iconst (pc := 33) F (-1) dX8_filter_33 (by decide) ?_
    cases h
    exact pw_iret (pc := 34) F q dX8_filter_34
  · have h := iteF hc h
    refine pw_iload_n (pc := 23) F dX8_filter_23 rfl ?_
    refine pw_iconst (pc := 24) F (-1) dX8_filter_24 (by decide) ?_
    refine pw_icmp_eq (pc := 25) F 35 dX8_filter_25 (by decide) (fun hc => ?_) (fun hc => ?_)
    · have h := iteT hc h
      exact pw_mask [false, true, true, true, true] (ls' := [none, some (vi a1), some (vi a2), some (vr z2.1), some (vr z4.1)]) rfl (jX8_filter_35_ok F q hn hf hl a1 a2 z2.1 z4.1 z4.2 h)
    · have h := iteF hc h
      refine pw_aload (pc := 28) F dX8_filter_28 rfl ?_
      refine pw_ifnonnull (pc := 30) F 35 dX8_filter_30 (by decide) (fun hc => ?_) (fun hc => ?_)
      · have h := iteT hc h
        exact pw_mask [false, true, true, true, true] (ls' := [none, some (vi a1), some (vi a2), some (vr z2.1), some (vr z4.1)]) rfl (jX8_filter_35_ok F q hn hf hl a1 a2 z2.1 z4.1 z4.2 h)
      · have h := iteF hc h
        refine pw_iconst (pc := 33) F (-1) dX8_filter_33 (by decide) ?_
        cases h
        exact pw_iret (pc := 34) F q dX8_filter_34
/-! HouseholdVault.isGiven(LHouseholdVault$Sheet;LHouseholdVault$Question;I)Z -/
theorem dX8_isGiven_0 : decode cX8_isGiven 0 = .ok (.aload_n 1, 1) := by decide +kernel
theorem dX8_isGiven_1 : decode cX8_isGiven 1 = .ok (.getfield 50, 3) := by decide +kernel
theorem dX8_isGiven_4 : decode cX8_isGiven 4 = .ok (.iconst 5, 1) := by decide +kernel
theorem dX8_isGiven_5 : decode cX8_isGiven 5 = .ok (.if_icmp .ne 20, 3) := by decide +kernel
theorem dX8_isGiven_8 : decode cX8_isGiven 8 = .ok (.aload_n 0, 1) := by decide +kernel
theorem dX8_isGiven_9 : decode cX8_isGiven 9 = .ok (.getfield 172, 3) := by decide +kernel
theorem dX8_isGiven_12 : decode cX8_isGiven 12 = .ok (.iload_n 2, 1) := by decide +kernel
theorem dX8_isGiven_13 : decode cX8_isGiven 13 = .ok (.laload, 1) := by decide +kernel
theorem dX8_isGiven_14 : decode cX8_isGiven 14 = .ok (.lconst 0, 1) := by decide +kernel
theorem dX8_isGiven_15 : decode cX8_isGiven 15 = .ok (.lcmp, 1) := by decide +kernel
theorem dX8_isGiven_16 : decode cX8_isGiven 16 = .ok (.ifCond .eq 7, 3) := by decide +kernel
theorem dX8_isGiven_19 : decode cX8_isGiven 19 = .ok (.iconst 1, 1) := by decide +kernel
theorem dX8_isGiven_20 : decode cX8_isGiven 20 = .ok (.goto 4, 3) := by decide +kernel
theorem dX8_isGiven_23 : decode cX8_isGiven 23 = .ok (.iconst 0, 1) := by decide +kernel
theorem dX8_isGiven_24 : decode cX8_isGiven 24 = .ok (.ireturn, 1) := by decide +kernel
theorem dX8_isGiven_25 : decode cX8_isGiven 25 = .ok (.aload_n 0, 1) := by decide +kernel
theorem dX8_isGiven_26 : decode cX8_isGiven 26 = .ok (.getfield 176, 3) := by decide +kernel
theorem dX8_isGiven_29 : decode cX8_isGiven 29 = .ok (.iload_n 2, 1) := by decide +kernel
theorem dX8_isGiven_30 : decode cX8_isGiven 30 = .ok (.iaload, 1) := by decide +kernel
theorem dX8_isGiven_31 : decode cX8_isGiven 31 = .ok (.ifCond .ne 7, 3) := by decide +kernel
theorem dX8_isGiven_34 : decode cX8_isGiven 34 = .ok (.iconst 1, 1) := by decide +kernel
theorem dX8_isGiven_35 : decode cX8_isGiven 35 = .ok (.goto 4, 3) := by decide +kernel
theorem dX8_isGiven_38 : decode cX8_isGiven 38 = .ok (.iconst 0, 1) := by decide +kernel
theorem dX8_isGiven_39 : decode cX8_isGiven 39 = .ok (.ireturn, 1) := by decide +kernel
def f_X8_isGiven (a0 a1 a2 : Int) (H : PH) : RO :=
  (ld 21 H a1 0).bind fun x1 => (if x1 ≠ 5 then (ld 22 H a0 1).bind fun x2 => (ld 0 H x2 a2).bind fun x3 => (if x3 ≠ 0 then some (0, H)
  else some (1, H))
  else (ld 22 H a0 0).bind fun x4 => (ld 1 H x4 a2).bind fun x5 => (if (lc x5 0) = 0 then some (0, H)
  else some (1, H)))
set_option maxHeartbeats 4000000 in
theorem m_X8_isGiven (l : Launch) (a0 a1 a2 : Int) (H : PH) (rr : Int) (HH : PH) (h : f_X8_isGiven a0 a1 a2 H = some (rr, HH)) : CT l yX8_isGiven cX8_isGiven 3 (some .boolean) 0 0 [vr a0, vr a1, vi a2] H (some (vi rr)) HH := by
  refine CT.of RX8 (by decide) rfl [some (vr a0), some (vr a1), some (vi a2)] rfl rfl ?_
  intro E F q hn hf hl hm
  unfold f_X8_isGiven at h
  refine pw_aload_n (pc := 0) F dX8_isGiven_0 rfl ?_
  obtain ⟨x1, ex1, h⟩ := bnd h
  refine pw_get (pc := 1) F 5 0 50 (by decide) (by decide) g_89512a4092 inl_5 0 rfl dX8_isGiven_1 ex1 ?_
  refine pw_iconst (pc := 4) F 5 dX8_isGiven_4 (by decide) ?_
  refine pw_icmp_ne (pc := 5) F 25 dX8_isGiven_5 (by decide) (fun hc => ?_) (fun hc => ?_)
  · have h := iteT hc h
    refine pw_aload_n (pc := 25) F dX8_isGiven_25 rfl ?_
    obtain ⟨x2, ex2, h⟩ := bnd h
    refine pw_get (pc := 26) F 6 1 176 (by decide) (by decide) g_47f3fc4b56 inl_6 2 rfl dX8_isGiven_26 ex2 ?_
    refine pw_iload_n (pc := 29) F dX8_isGiven_29 rfl ?_
    obtain ⟨x3, ex3, h⟩ := bnd h
    refine pw_iald (pc := 30) F dX8_isGiven_30 ex3 ?_
    refine pw_if_ne (pc := 31) F 38 dX8_isGiven_31 (by decide) (fun hc => ?_) (fun hc => ?_)
    · have h := iteT hc h
      refine pw_iconst (pc := 38) F 0 dX8_isGiven_38 (by decide) ?_
      cases h
      exact pw_zret (pc := 39) F q (by decide) dX8_isGiven_39
    · have h := iteF hc h
      refine pw_iconst (pc := 34) F 1 dX8_isGiven_34 (by decide) ?_
      refine pw_goto (pc := 35) F 39 dX8_isGiven_35 (by decide) ?_
      cases h
      exact pw_zret (pc := 39) F q (by decide) dX8_isGiven_39
  · have h := iteF hc h
    refine pw_aload_n (pc := 8) F dX8_isGiven_8 rfl ?_
    obtain ⟨x4, ex4, h⟩ := bnd h
    refine pw_get (pc := 9) F 6 0 172 (by decide) (by decide) g_6a853c1f58 inl_6 2 rfl dX8_isGiven_9 ex4 ?_
    refine pw_iload_n (pc := 12) F dX8_isGiven_12 rfl ?_
    obtain ⟨x5, ex5, h⟩ := bnd h
    refine pw_lald (pc := 13) F dX8_isGiven_13 ex5 ?_
    refine pw_lconst (pc := 14) F 0 dX8_isGiven_14 (by decide) ?_
    refine pw_lcmp (pc := 15) F dX8_isGiven_15 ?_
    refine pw_if_eq (pc := 16) F 23 dX8_isGiven_16 (by decide) (fun hc => ?_) (fun hc => ?_)
    · have h := iteT hc h
      refine pw_iconst (pc := 23) F 0 dX8_isGiven_23 (by decide) ?_
      cases h
      exact pw_zret (pc := 24) F q (by decide) dX8_isGiven_24
    · have h := iteF hc h
      refine pw_iconst (pc := 19) F 1 dX8_isGiven_19 (by decide) ?_
      refine pw_goto (pc := 20) F 24 dX8_isGiven_20 (by decide) ?_
      cases h
      exact pw_zret (pc := 24) F q (by decide) dX8_isGiven_24
/-! HouseholdVault.meetAgainst(II)V -/
theorem dX8_meetAgainst_0 : decode cX8_meetAgainst 0 = .ok (.aload_n 0, 1) := by decide +kernel
theorem dX8_meetAgainst_1 : decode cX8_meetAgainst 1 = .ok (.getfield 18, 3) := by decide +kernel
theorem dX8_meetAgainst_4 : decode cX8_meetAgainst 4 = .ok (.iload_n 1, 1) := by decide +kernel
theorem dX8_meetAgainst_5 : decode cX8_meetAgainst 5 = .ok (.aaload, 1) := by decide +kernel
theorem dX8_meetAgainst_6 : decode cX8_meetAgainst 6 = .ok (.astore_n 3, 1) := by decide +kernel
theorem dX8_meetAgainst_7 : decode cX8_meetAgainst 7 = .ok (.aload_n 0, 1) := by decide +kernel
theorem dX8_meetAgainst_8 : decode cX8_meetAgainst 8 = .ok (.getfield 12, 3) := by decide +kernel
theorem dX8_meetAgainst_11 : decode cX8_meetAgainst 11 = .ok (.getfield 144, 3) := by decide +kernel
theorem dX8_meetAgainst_14 : decode cX8_meetAgainst 14 = .ok (.iload_n 2, 1) := by decide +kernel
theorem dX8_meetAgainst_15 : decode cX8_meetAgainst 15 = .ok (.aaload, 1) := by decide +kernel
theorem dX8_meetAgainst_16 : decode cX8_meetAgainst 16 = .ok (.astore 4, 2) := by decide +kernel
theorem dX8_meetAgainst_18 : decode cX8_meetAgainst 18 = .ok (.aload_n 0, 1) := by decide +kernel
theorem dX8_meetAgainst_19 : decode cX8_meetAgainst 19 = .ok (.getfield 12, 3) := by decide +kernel
theorem dX8_meetAgainst_22 : decode cX8_meetAgainst 22 = .ok (.aload 4, 2) := by decide +kernel
theorem dX8_meetAgainst_24 : decode cX8_meetAgainst 24 = .ok (.getfield 116, 3) := by decide +kernel
theorem dX8_meetAgainst_27 : decode cX8_meetAgainst 27 = .ok (.invokevirtual 107, 3) := by decide +kernel
theorem dX8_meetAgainst_30 : decode cX8_meetAgainst 30 = .ok (.astore 5, 2) := by decide +kernel
theorem dX8_meetAgainst_32 : decode cX8_meetAgainst 32 = .ok (.aload 5, 2) := by decide +kernel
theorem dX8_meetAgainst_34 : decode cX8_meetAgainst 34 = .ok (.ifnonnull 4, 3) := by decide +kernel
theorem dX8_meetAgainst_37 : decode cX8_meetAgainst 37 = .ok (.return_, 1) := by decide +kernel
theorem dX8_meetAgainst_38 : decode cX8_meetAgainst 38 = .ok (.aload_n 3, 1) := by decide +kernel
theorem dX8_meetAgainst_39 : decode cX8_meetAgainst 39 = .ok (.getfield 126, 3) := by decide +kernel
theorem dX8_meetAgainst_42 : decode cX8_meetAgainst 42 = .ok (.aload 4, 2) := by decide +kernel
theorem dX8_meetAgainst_44 : decode cX8_meetAgainst 44 = .ok (.getfield 88, 3) := by decide +kernel
theorem dX8_meetAgainst_47 : decode cX8_meetAgainst 47 = .ok (.invokestatic 230, 3) := by decide +kernel
theorem dX8_meetAgainst_50 : decode cX8_meetAgainst 50 = .ok (.istore 6, 2) := by decide +kernel
theorem dX8_meetAgainst_52 : decode cX8_meetAgainst 52 = .ok (.iconst 0, 1) := by decide +kernel
theorem dX8_meetAgainst_53 : decode cX8_meetAgainst 53 = .ok (.istore 7, 2) := by decide +kernel
theorem dX8_meetAgainst_55 : decode cX8_meetAgainst 55 = .ok (.iload 7, 2) := by decide +kernel
theorem dX8_meetAgainst_57 : decode cX8_meetAgainst 57 = .ok (.iload 6, 2) := by decide +kernel
theorem dX8_meetAgainst_59 : decode cX8_meetAgainst 59 = .ok (.if_icmp .ge 71, 3) := by decide +kernel
theorem dX8_meetAgainst_62 : decode cX8_meetAgainst 62 = .ok (.aload_n 3, 1) := by decide +kernel
theorem dX8_meetAgainst_63 : decode cX8_meetAgainst 63 = .ok (.getfield 126, 3) := by decide +kernel
theorem dX8_meetAgainst_66 : decode cX8_meetAgainst 66 = .ok (.aload 4, 2) := by decide +kernel
theorem dX8_meetAgainst_68 : decode cX8_meetAgainst 68 = .ok (.iload_n 2, 1) := by decide +kernel
theorem dX8_meetAgainst_69 : decode cX8_meetAgainst 69 = .ok (.iload 7, 2) := by decide +kernel
theorem dX8_meetAgainst_71 : decode cX8_meetAgainst 71 = .ok (.invokestatic 130, 3) := by decide +kernel
theorem dX8_meetAgainst_74 : decode cX8_meetAgainst 74 = .ok (.invokestatic 234, 3) := by decide +kernel
theorem dX8_meetAgainst_77 : decode cX8_meetAgainst 77 = .ok (.ifCond .ne 6, 3) := by decide +kernel
theorem dX8_meetAgainst_80 : decode cX8_meetAgainst 80 = .ok (.goto 44, 3) := by decide +kernel
theorem dX8_meetAgainst_83 : decode cX8_meetAgainst 83 = .ok (.aload_n 3, 1) := by decide +kernel
theorem dX8_meetAgainst_84 : decode cX8_meetAgainst 84 = .ok (.aload 4, 2) := by decide +kernel
theorem dX8_meetAgainst_86 : decode cX8_meetAgainst 86 = .ok (.getfield 116, 3) := by decide +kernel
theorem dX8_meetAgainst_89 : decode cX8_meetAgainst 89 = .ok (.aload 5, 2) := by decide +kernel
theorem dX8_meetAgainst_91 : decode cX8_meetAgainst 91 = .ok (.getfield 111, 3) := by decide +kernel
theorem dX8_meetAgainst_94 : decode cX8_meetAgainst 94 = .ok (.iload 7, 2) := by decide +kernel
theorem dX8_meetAgainst_96 : decode cX8_meetAgainst 96 = .ok (.invokevirtual 210, 3) := by decide +kernel
theorem dX8_meetAgainst_99 : decode cX8_meetAgainst 99 = .ok (.ifCond .eq 6, 3) := by decide +kernel
theorem dX8_meetAgainst_102 : decode cX8_meetAgainst 102 = .ok (.goto 22, 3) := by decide +kernel
theorem dX8_meetAgainst_105 : decode cX8_meetAgainst 105 = .ok (.aload_n 0, 1) := by decide +kernel
theorem dX8_meetAgainst_106 : decode cX8_meetAgainst 106 = .ok (.getfield 38, 3) := by decide +kernel
theorem dX8_meetAgainst_109 : decode cX8_meetAgainst 109 = .ok (.iload_n 1, 1) := by decide +kernel
theorem dX8_meetAgainst_110 : decode cX8_meetAgainst 110 = .ok (.iload_n 2, 1) := by decide +kernel
theorem dX8_meetAgainst_111 : decode cX8_meetAgainst 111 = .ok (.aload 4, 2) := by decide +kernel
theorem dX8_meetAgainst_113 : decode cX8_meetAgainst 113 = .ok (.getfield 88, 3) := by decide +kernel
theorem dX8_meetAgainst_116 : decode cX8_meetAgainst 116 = .ok (.iload 7, 2) := by decide +kernel
theorem dX8_meetAgainst_118 : decode cX8_meetAgainst 118 = .ok (.invokestatic 238, 3) := by decide +kernel
theorem dX8_meetAgainst_121 : decode cX8_meetAgainst 121 = .ok (.invokevirtual 241, 3) := by decide +kernel
theorem dX8_meetAgainst_124 : decode cX8_meetAgainst 124 = .ok (.iinc 7 1, 3) := by decide +kernel
theorem dX8_meetAgainst_127 : decode cX8_meetAgainst 127 = .ok (.goto (-72), 3) := by decide +kernel
theorem dX8_meetAgainst_130 : decode cX8_meetAgainst 130 = .ok (.return_, 1) := by decide +kernel
def jX8_meetAgainst_124 (self55 : Int → PH → RO) (p0 p1 p2 p3 p4 p5 p6 p7 : Int) (H : PH) : RO :=
  self55 (w32 (p7 + 1)) H
set_option maxHeartbeats 4000000 in
theorem jX8_meetAgainst_124_ok {E : PE} {rr : Int} {HH : PH} (F : FX E cX8_meetAgainst RX8) (q : QE E none HH none) (hn : nLof E = 8) (hf : (roomOf E).frames = 3) (hl : (roomOf E).locals = 63) (self55 : Int → PH → RO) (p0 p1 p2 p3 p4 p5 p6 p7 : Int) (H : PH) (ih55 : ∀ (v7 : Int) (HV : PH), self55 v7 HV = some (rr, HH) → PW E 55 [some (vr p0), some (vi p1), some (vi p2), some (vr p3), some (vr p4), some (vr p5), some (vi p6), some (vi v7)] [] HV) (h : jX8_meetAgainst_124 self55 p0 p1 p2 p3 p4 p5 p6 p7 H = some (rr, HH)) : PW E 124 [some (vr p0), some (vi p1), some (vi p2), some (vr p3), some (vr p4), some (vr p5), some (vi p6), some (vi p7)] [] H := by
  unfold jX8_meetAgainst_124 at h
  refine pw_iinc (pc := 124) F dX8_meetAgainst_124 rfl (lt_nl hn (by decide)) [some (vr p0), some (vi p1), some (vi p2), some (vr p3), some (vr p4), some (vr p5), some (vi p6), some (vi (w32 (p7 + 1)))] rfl (by decide) ?_
  refine pw_goto (pc := 127) F 55 dX8_meetAgainst_127 (by decide) ?_
  exact pw_mask [true, true, true, true, true, true, true, true] (ls' := [some (vr p0), some (vi p1), some (vi p2), some (vr p3), some (vr p4), some (vr p5), some (vi p6), some (vi (w32 (p7 + 1)))]) rfl (ih55 (w32 (p7 + 1)) H h)
def lX8_meetAgainst_55 (p0 p1 p2 p3 p4 p5 p6 : Int) (self55 : Int → PH → RO) (p7 : Int) (H : PH) : RO :=
  (if p7 ≥ p6 then some (0, H)
  else (ld 20 H p3 0).bind fun x1 => (f_X8_spot p2 p7 H).bind fun z2 => (f_X8_isGiven x1 p4 z2.1 z2.2).bind fun z3 => (if z3.1 ≠ 0 then (ld 21 z3.2 p4 10).bind fun x4 => (ld 16 z3.2 p5 4).bind fun x5 => (f_X4_isSo p3 x4 x5 p7 z3.2).bind fun z6 => (if z6.1 = 0 then (ld 24 z6.2 p0 6).bind fun x7 => (ld 21 z6.2 p4 1).bind fun x8 => (f_X8_personOf x8 p7 z6.2).bind fun z9 => (f_X2_meet x7 p1 p2 z9.1 z9.2).bind fun z10 => jX8_meetAgainst_124 self55 p0 p1 p2 p3 p4 p5 p6 p7 z10.2
  else jX8_meetAgainst_124 self55 p0 p1 p2 p3 p4 p5 p6 p7 z6.2)
  else jX8_meetAgainst_124 self55 p0 p1 p2 p3 p4 p5 p6 p7 z3.2))
set_option maxHeartbeats 4000000 in
theorem lX8_meetAgainst_55_ok {E : PE} {rr : Int} {HH : PH} (F : FX E cX8_meetAgainst RX8) (q : QE E none HH none) (hn : nLof E = 8) (hf : (roomOf E).frames = 3) (hl : (roomOf E).locals = 63) (p0 p1 p2 p3 p4 p5 p6 : Int) : ∀ (n : Nat) (p7 : Int) (H : PH), lq1 (lX8_meetAgainst_55 p0 p1 p2 p3 p4 p5 p6) n p7 H = some (rr, HH) → PW E 55 [some (vr p0), some (vi p1), some (vi p2), some (vr p3), some (vr p4), some (vr p5), some (vi p6), some (vi p7)] [] H := by
  refine lq1_ind (P := fun p7 H => PW E 55 [some (vr p0), some (vi p1), some (vi p2), some (vr p3), some (vr p4), some (vr p5), some (vi p6), some (vi p7)] [] H) ?_
  intro self55 ih55 p7 H h
  unfold lX8_meetAgainst_55 at h
  refine pw_iload (pc := 55) F dX8_meetAgainst_55 rfl ?_
  refine pw_iload (pc := 57) F dX8_meetAgainst_57 rfl ?_
  refine pw_icmp_ge (pc := 59) F 130 dX8_meetAgainst_59 (by decide) (fun hc => ?_) (fun hc => ?_)
  · have h := iteT hc h
    cases h
    exact pw_vret (pc := 130) F q dX8_meetAgainst_130
  · have h := iteF hc h
    refine pw_aload_n (pc := 62) F dX8_meetAgainst_62 rfl ?_
    obtain ⟨x1, ex1, h⟩ := bnd h
    refine pw_get (pc := 63) F 4 0 126 (by decide) (by decide) g_8ec333b1d7 inl_4 2 rfl dX8_meetAgainst_63 ex1 ?_
    refine pw_aload (pc := 66) F dX8_meetAgainst_66 rfl ?_
    refine pw_iload_n (pc := 68) F dX8_meetAgainst_68 rfl ?_
    refine pw_iload (pc := 69) F dX8_meetAgainst_69 rfl ?_
    obtain ⟨z2, ez2, h⟩ := bnd h
    refine pw_callS (pc := 71) (as := [vi p2, vi p7]) (st := [vr p4, vr x1]) (r := (some (vi z2.1))) F 130 (fun l => m_X8_spot l p2 p7 H z2.1 z2.2 ez2) g_3d0f1a9b86 g_aa0997f699 g_99e03e18e2 g_0d0469f624 hd_X8_spot (rm_ok hf hl (by decide) (by decide)) rfl dX8_meetAgainst_71 rfl (stk' := [vi z2.1, vr p4, vr x1]) rfl ?_
    obtain ⟨z3, ez3, h⟩ := bnd h
    refine pw_callS (pc := 74) (as := [vr x1, vr p4, vi z2.1]) (st := []) (r := (some (vi z3.1))) F 234 (fun l => m_X8_isGiven l x1 p4 z2.1 z2.2 z3.1 z3.2 ez3) g_92947af114 g_1c0bf922d7 g_99e03e18e2 g_9e6f92d260 hd_X8_isGiven (rm_ok hf hl (by decide) (by decide)) rfl dX8_meetAgainst_74 rfl (stk' := [vi z3.1]) rfl ?_
    refine pw_if_ne (pc := 77) F 83 dX8_meetAgainst_77 (by decide) (fun hc => ?_) (fun hc => ?_)
    · have h := iteT hc h
      refine pw_aload_n (pc := 83) F dX8_meetAgainst_83 rfl ?_
      refine pw_aload (pc := 84) F dX8_meetAgainst_84 rfl ?_
      obtain ⟨x4, ex4, h⟩ := bnd h
      refine pw_get (pc := 86) F 5 10 116 (by decide) (by decide) g_490b7fc7fe inl_5 0 rfl dX8_meetAgainst_86 ex4 ?_
      refine pw_aload (pc := 89) F dX8_meetAgainst_89 rfl ?_
      obtain ⟨x5, ex5, h⟩ := bnd h
      refine pw_get (pc := 91) F 0 4 111 (by decide) (by decide) g_1ba1e534e4 inl_0 0 rfl dX8_meetAgainst_91 ex5 ?_
      refine pw_iload (pc := 94) F dX8_meetAgainst_94 rfl ?_
      obtain ⟨z6, ez6, h⟩ := bnd h
      refine pw_callV (pc := 96) (as := [vi x4, vi x5, vi p7]) (st := []) (r := (some (vi z6.1))) F 210 4 (by decide) rfl (fun l => m_X4_isSo l p3 x4 x5 p7 z3.2 z6.1 z6.2 ez6) g_98099921aa g_6c53eda5c7 g_f0127809a2 g_2b384744dc g_01f876b9a6 hd_X4_isSo (rm_ok hf hl (by decide) (by decide)) rfl (vm_spec ez6).1 dX8_meetAgainst_96 rfl (stk' := [vi z6.1]) rfl ?_
      refine pw_if_eq (pc := 99) F 105 dX8_meetAgainst_99 (by decide) (fun hc => ?_) (fun hc => ?_)
      · have h := iteT hc h
        refine pw_aload_n (pc := 105) F dX8_meetAgainst_105 rfl ?_
        obtain ⟨x7, ex7, h⟩ := bnd h
        refine pw_get (pc := 106) F 8 6 38 (by decide) (by decide) g_f8de3d2cc6 inl_8 2 rfl dX8_meetAgainst_106 ex7 ?_
        refine pw_iload_n (pc := 109) F dX8_meetAgainst_109 rfl ?_
        refine pw_iload_n (pc := 110) F dX8_meetAgainst_110 rfl ?_
        refine pw_aload (pc := 111) F dX8_meetAgainst_111 rfl ?_
        obtain ⟨x8, ex8, h⟩ := bnd h
        refine pw_get (pc := 113) F 5 1 88 (by decide) (by decide) g_3644918d03 inl_5 0 rfl dX8_meetAgainst_113 ex8 ?_
        refine pw_iload (pc := 116) F dX8_meetAgainst_116 rfl ?_
        obtain ⟨z9, ez9, h⟩ := bnd h
        refine pw_callS (pc := 118) (as := [vi x8, vi p7]) (st := [vi p2, vi p1, vr x7]) (r := (some (vi z9.1))) F 238 (fun l => m_X8_personOf l x8 p7 z6.2 z9.1 z9.2 ez9) g_7cfdbc0380 g_0456d19d5b g_99e03e18e2 g_b67ca90755 hd_X8_personOf (rm_ok hf hl (by decide) (by decide)) rfl dX8_meetAgainst_118 rfl (stk' := [vi z9.1, vi p2, vi p1, vr x7]) rfl ?_
        obtain ⟨z10, ez10, h⟩ := bnd h
        refine pw_callV (pc := 121) (as := [vi p1, vi p2, vi z9.1]) (st := []) (r := none) F 241 2 (by decide) rfl (fun l => m_X2_meet l x7 p1 p2 z9.1 z9.2 z10.1 z10.2 ez10) g_9536165261 g_271e0cfd5d g_53b8e75756 g_d27e9d3e51 g_4a28ae1195 hd_X2_meet (rm_ok hf hl (by decide) (by decide)) rfl (vm_spec ez10).1 dX8_meetAgainst_121 rfl (stk' := []) rfl ?_
        exact pw_mask [true, true, true, true, true, true, true, true] (ls' := [some (vr p0), some (vi p1), some (vi p2), some (vr p3), some (vr p4), some (vr p5), some (vi p6), some (vi p7)]) rfl (jX8_meetAgainst_124_ok F q hn hf hl self55 p0 p1 p2 p3 p4 p5 p6 p7 z10.2 ih55 h)
      · have h := iteF hc h
        refine pw_goto (pc := 102) F 124 dX8_meetAgainst_102 (by decide) ?_
        exact pw_mask [true, true, true, true, true, true, true, true] (ls' := [some (vr p0), some (vi p1), some (vi p2), some (vr p3), some (vr p4), some (vr p5), some (vi p6), some (vi p7)]) rfl (jX8_meetAgainst_124_ok F q hn hf hl self55 p0 p1 p2 p3 p4 p5 p6 p7 z6.2 ih55 h)
    · have h := iteF hc h
      refine pw_goto (pc := 80) F 124 dX8_meetAgainst_80 (by decide) ?_
      exact pw_mask [true, true, true, true, true, true, true, true] (ls' := [some (vr p0), some (vi p1), some (vi p2), some (vr p3), some (vr p4), some (vr p5), some (vi p6), some (vi p7)]) rfl (jX8_meetAgainst_124_ok F q hn hf hl self55 p0 p1 p2 p3 p4 p5 p6 p7 z3.2 ih55 h)
def f_X8_meetAgainst (a0 a1 a2 : Int) (H : PH) : RO := vm 8 a0 H <|
  (ld 24 H a0 1).bind fun x1 => (ld 5 H x1 a1).bind fun x2 => (ld 24 H a0 0).bind fun x3 => (ld 19 H x3 0).bind fun x4 => (ld 6 H x4 a2).bind fun x5 => (ld 24 H a0 0).bind fun x6 => (ld 21 H x5 10).bind fun x7 => (f_X3_conditionOf x6 x7 H).bind fun z8 => (if z8.1 ≠ -1 then (ld 20 z8.2 x2 0).bind fun x9 => (ld 21 z8.2 x5 1).bind fun x10 => (f_X8_placesOf x9 x10 z8.2).bind fun z11 => lq1 (lX8_meetAgainst_55 a0 a1 a2 x2 x5 z8.1 z11.1) 6000 0 z11.2
  else some (0, z8.2))
set_option maxHeartbeats 4000000 in
theorem m_X8_meetAgainst (l : Launch) (a0 a1 a2 : Int) (H : PH) (rr : Int) (HH : PH) (h : f_X8_meetAgainst a0 a1 a2 H = some (rr, HH)) : CT l yX8_meetAgainst cX8_meetAgainst 8 none 3 63 [vr a0, vi a1, vi a2] H none HH := by
  refine CT.of RX8 (by decide) rfl [some (vr a0), some (vi a1), some (vi a2), none, none, none, none, none] rfl rfl ?_
  intro E F q hn hf hl hm
  unfold f_X8_meetAgainst at h
  obtain ⟨hv, h⟩ := vm_spec h
  refine pw_aload_n (pc := 0) F dX8_meetAgainst_0 rfl ?_
  obtain ⟨x1, ex1, h⟩ := bnd h
  refine pw_get (pc := 1) F 8 1 18 (by decide) (by decide) g_0efda17134 inl_8 2 rfl dX8_meetAgainst_1 ex1 ?_
  refine pw_iload_n (pc := 4) F dX8_meetAgainst_4 rfl ?_
  obtain ⟨x2, ex2, h⟩ := bnd h
  refine pw_aald (pc := 5) F 5 (by decide) dX8_meetAgainst_5 ex2 ?_
  refine pw_astore_n (pc := 6) F dX8_meetAgainst_6 (lt_nl hn (by decide)) [some (vr a0), some (vi a1), some (vi a2), some (vr x2), none, none, none, none] rfl ?_
  refine pw_aload_n (pc := 7) F dX8_meetAgainst_7 rfl ?_
  obtain ⟨x3, ex3, h⟩ := bnd h
  refine pw_get (pc := 8) F 8 0 12 (by decide) (by decide) g_955d9610dc inl_8 2 rfl dX8_meetAgainst_8 ex3 ?_
  obtain ⟨x4, ex4, h⟩ := bnd h
  refine pw_get (pc := 11) F 3 0 144 (by decide) (by decide) g_78df9fc092 inl_3 2 rfl dX8_meetAgainst_11 ex4 ?_
  refine pw_iload_n (pc := 14) F dX8_meetAgainst_14 rfl ?_
  obtain ⟨x5, ex5, h⟩ := bnd h
  refine pw_aald (pc := 15) F 6 (by decide) dX8_meetAgainst_15 ex5 ?_
  refine pw_astore (pc := 16) F dX8_meetAgainst_16 (lt_nl hn (by decide)) [some (vr a0), some (vi a1), some (vi a2), some (vr x2), some (vr x5), none, none, none] rfl ?_
  refine pw_aload_n (pc := 18) F dX8_meetAgainst_18 rfl ?_
  obtain ⟨x6, ex6, h⟩ := bnd h
  refine pw_get (pc := 19) F 8 0 12 (by decide) (by decide) g_955d9610dc inl_8 2 rfl dX8_meetAgainst_19 ex6 ?_
  refine pw_aload (pc := 22) F dX8_meetAgainst_22 rfl ?_
  obtain ⟨x7, ex7, h⟩ := bnd h
  refine pw_get (pc := 24) F 5 10 116 (by decide) (by decide) g_490b7fc7fe inl_5 0 rfl dX8_meetAgainst_24 ex7 ?_
  obtain ⟨z8, ez8, h⟩ := bnd h
  refine pw_callV (pc := 27) (as := [vi x7]) (st := []) (r := (some (vr z8.1))) F 107 3 (by decide) rfl (fun l => m_X3_conditionOf l x6 x7 H z8.1 z8.2 ez8) g_49928f6725 g_b00562ac61 g_8e73955a14 g_106b72596f g_f065878191 hd_X3_conditionOf (rm_ok hf hl (by decide) (by decide)) rfl (vm_spec ez8).1 dX8_meetAgainst_27 rfl (stk' := [vr z8.1]) rfl ?_
  refine pw_astore (pc := 30) F dX8_meetAgainst_30 (lt_nl hn (by decide)) [some (vr a0), some (vi a1), some (vi a2), some (vr x2), some (vr x5), some (vr z8.1), none, none] rfl ?_
  refine pw_aload (pc := 32) F dX8_meetAgainst_32 rfl ?_
  refine pw_ifnonnull (pc := 34) F 38 dX8_meetAgainst_34 (by decide) (fun hc => ?_) (fun hc => ?_)
  · have h := iteT hc h
    refine pw_aload_n (pc := 38) F dX8_meetAgainst_38 rfl ?_
    obtain ⟨x9, ex9, h⟩ := bnd h
    refine pw_get (pc := 39) F 4 0 126 (by decide) (by decide) g_8ec333b1d7 inl_4 2 rfl dX8_meetAgainst_39 ex9 ?_
    refine pw_aload (pc := 42) F dX8_meetAgainst_42 rfl ?_
    obtain ⟨x10, ex10, h⟩ := bnd h
    refine pw_get (pc := 44) F 5 1 88 (by decide) (by decide) g_3644918d03 inl_5 0 rfl dX8_meetAgainst_44 ex10 ?_
    obtain ⟨z11, ez11, h⟩ := bnd h
    refine pw_callS (pc := 47) (as := [vr x9, vi x10]) (st := []) (r := (some (vi z11.1))) F 230 (fun l => m_X8_placesOf l x9 x10 z8.2 z11.1 z11.2 ez11) g_337a394b58 g_4eaddf5732 g_99e03e18e2 g_b1b540d8aa hd_X8_placesOf (rm_ok hf hl (by decide) (by decide)) rfl dX8_meetAgainst_47 rfl (stk' := [vi z11.1]) rfl ?_
    refine pw_istore (pc := 50) F dX8_meetAgainst_50 (lt_nl hn (by decide)) [some (vr a0), some (vi a1), some (vi a2), some (vr x2), some (vr x5), some (vr z8.1), some (vi z11.1), none] rfl ?_
    refine pw_iconst (pc := 52) F 0 dX8_meetAgainst_52 (by decide) ?_
    refine pw_istore (pc := 53) F dX8_meetAgainst_53 (lt_nl hn (by decide)) [some (vr a0), some (vi a1), some (vi a2), some (vr x2), some (vr x5), some (vr z8.1), some (vi z11.1), some (vi 0)] rfl ?_
    exact pw_mask [true, true, true, true, true, true, true, true] (ls' := [some (vr a0), some (vi a1), some (vi a2), some (vr x2), some (vr x5), some (vr z8.1), some (vi z11.1), some (vi 0)]) rfl (lX8_meetAgainst_55_ok F q hn hf hl a0 a1 a2 x2 x5 z8.1 z11.1  6000 0 z11.2 h)
  · have h := iteF hc h
    cases h
    exact pw_vret (pc := 37) F q dX8_meetAgainst_37
/-! HouseholdVault.findAgainst(I)V -/
theorem dX8_findAgainst_0 : decode cX8_findAgainst 0 = .ok (.aload_n 0, 1) := by decide +kernel
theorem dX8_findAgainst_1 : decode cX8_findAgainst 1 = .ok (.getfield 38, 3) := by decide +kernel
theorem dX8_findAgainst_4 : decode cX8_findAgainst 4 = .ok (.iload_n 1, 1) := by decide +kernel
theorem dX8_findAgainst_5 : decode cX8_findAgainst 5 = .ok (.invokevirtual 224, 3) := by decide +kernel
theorem dX8_findAgainst_8 : decode cX8_findAgainst 8 = .ok (.iconst 0, 1) := by decide +kernel
theorem dX8_findAgainst_9 : decode cX8_findAgainst 9 = .ok (.istore_n 2, 1) := by decide +kernel
theorem dX8_findAgainst_10 : decode cX8_findAgainst 10 = .ok (.iload_n 2, 1) := by decide +kernel
theorem dX8_findAgainst_11 : decode cX8_findAgainst 11 = .ok (.aload_n 0, 1) := by decide +kernel
theorem dX8_findAgainst_12 : decode cX8_findAgainst 12 = .ok (.getfield 98, 3) := by decide +kernel
theorem dX8_findAgainst_15 : decode cX8_findAgainst 15 = .ok (.if_icmp .ge 63, 3) := by decide +kernel
theorem dX8_findAgainst_18 : decode cX8_findAgainst 18 = .ok (.aload_n 0, 1) := by decide +kernel
theorem dX8_findAgainst_19 : decode cX8_findAgainst 19 = .ok (.getfield 12, 3) := by decide +kernel
theorem dX8_findAgainst_22 : decode cX8_findAgainst 22 = .ok (.aload_n 0, 1) := by decide +kernel
theorem dX8_findAgainst_23 : decode cX8_findAgainst 23 = .ok (.getfield 18, 3) := by decide +kernel
theorem dX8_findAgainst_26 : decode cX8_findAgainst 26 = .ok (.iload_n 2, 1) := by decide +kernel
theorem dX8_findAgainst_27 : decode cX8_findAgainst 27 = .ok (.aaload, 1) := by decide +kernel
theorem dX8_findAgainst_28 : decode cX8_findAgainst 28 = .ok (.invokevirtual 179, 3) := by decide +kernel
theorem dX8_findAgainst_31 : decode cX8_findAgainst 31 = .ok (.iconst 0, 1) := by decide +kernel
theorem dX8_findAgainst_32 : decode cX8_findAgainst 32 = .ok (.istore_n 3, 1) := by decide +kernel
theorem dX8_findAgainst_33 : decode cX8_findAgainst 33 = .ok (.iload_n 3, 1) := by decide +kernel
theorem dX8_findAgainst_34 : decode cX8_findAgainst 34 = .ok (.aload_n 0, 1) := by decide +kernel
theorem dX8_findAgainst_35 : decode cX8_findAgainst 35 = .ok (.getfield 12, 3) := by decide +kernel
theorem dX8_findAgainst_38 : decode cX8_findAgainst 38 = .ok (.getfield 141, 3) := by decide +kernel
theorem dX8_findAgainst_41 : decode cX8_findAgainst 41 = .ok (.if_icmp .ge 31, 3) := by decide +kernel
theorem dX8_findAgainst_44 : decode cX8_findAgainst 44 = .ok (.aload_n 0, 1) := by decide +kernel
theorem dX8_findAgainst_45 : decode cX8_findAgainst 45 = .ok (.getfield 12, 3) := by decide +kernel
theorem dX8_findAgainst_48 : decode cX8_findAgainst 48 = .ok (.getfield 144, 3) := by decide +kernel
theorem dX8_findAgainst_51 : decode cX8_findAgainst 51 = .ok (.iload_n 3, 1) := by decide +kernel
theorem dX8_findAgainst_52 : decode cX8_findAgainst 52 = .ok (.aaload, 1) := by decide +kernel
theorem dX8_findAgainst_53 : decode cX8_findAgainst 53 = .ok (.getfield 116, 3) := by decide +kernel
theorem dX8_findAgainst_56 : decode cX8_findAgainst 56 = .ok (.iconst (-1), 1) := by decide +kernel
theorem dX8_findAgainst_57 : decode cX8_findAgainst 57 = .ok (.if_icmp .eq 9, 3) := by decide +kernel
theorem dX8_findAgainst_60 : decode cX8_findAgainst 60 = .ok (.aload_n 0, 1) := by decide +kernel
theorem dX8_findAgainst_61 : decode cX8_findAgainst 61 = .ok (.iload_n 2, 1) := by decide +kernel
theorem dX8_findAgainst_62 : decode cX8_findAgainst 62 = .ok (.iload_n 3, 1) := by decide +kernel
theorem dX8_findAgainst_63 : decode cX8_findAgainst 63 = .ok (.invokevirtual 227, 3) := by decide +kernel
theorem dX8_findAgainst_66 : decode cX8_findAgainst 66 = .ok (.iinc 3 1, 3) := by decide +kernel
theorem dX8_findAgainst_69 : decode cX8_findAgainst 69 = .ok (.goto (-36), 3) := by decide +kernel
theorem dX8_findAgainst_72 : decode cX8_findAgainst 72 = .ok (.iinc 2 1, 3) := by decide +kernel
theorem dX8_findAgainst_75 : decode cX8_findAgainst 75 = .ok (.goto (-65), 3) := by decide +kernel
theorem dX8_findAgainst_78 : decode cX8_findAgainst 78 = .ok (.return_, 1) := by decide +kernel
def jX8_findAgainst_66 (self10 : Int → PH → RO) (self33 : Int → PH → RO) (p0 p2 p3 : Int) (H : PH) : RO :=
  self33 (w32 (p3 + 1)) H
set_option maxHeartbeats 4000000 in
theorem jX8_findAgainst_66_ok {E : PE} {rr : Int} {HH : PH} (F : FX E cX8_findAgainst RX8) (q : QE E none HH none) (hn : nLof E = 4) (hf : (roomOf E).frames = 5) (hl : (roomOf E).locals = 114) (self10 : Int → PH → RO) (self33 : Int → PH → RO) (p0 p2 p3 : Int) (H : PH) (ih10 : ∀ (v2 : Int) (HV : PH), self10 v2 HV = some (rr, HH) → PW E 10 [some (vr p0), none, some (vi v2), none] [] HV) (ih33 : ∀ (v3 : Int) (HV : PH), self33 v3 HV = some (rr, HH) → PW E 33 [some (vr p0), none, some (vi p2), some (vi v3)] [] HV) (h : jX8_findAgainst_66 self10 self33 p0 p2 p3 H = some (rr, HH)) : PW E 66 [some (vr p0), none, some (vi p2), some (vi p3)] [] H := by
  unfold jX8_findAgainst_66 at h
  refine pw_iinc (pc := 66) F dX8_findAgainst_66 rfl (lt_nl hn (by decide)) [some (vr p0), none, some (vi p2), some (vi (w32 (p3 + 1)))] rfl (by decide) ?_
  refine pw_goto (pc := 69) F 33 dX8_findAgainst_69 (by decide) ?_
  exact pw_mask [true, true, true, true] (ls' := [some (vr p0), none, some (vi p2), some (vi (w32 (p3 + 1)))]) rfl (ih33 (w32 (p3 + 1)) H h)
def lX8_findAgainst_33 (self10 : Int → PH → RO) (p0 p2 : Int) (self33 : Int → PH → RO) (p3 : Int) (H : PH) : RO :=
  (ld 24 H p0 0).bind fun x1 => (ld 19 H x1 1).bind fun x2 => (if p3 ≥ x2 then self10 (w32 (p2 + 1)) H
  else (ld 24 H p0 0).bind fun x3 => (ld 19 H x3 0).bind fun x4 => (ld 6 H x4 p3).bind fun x5 => (ld 21 H x5 10).bind fun x6 => (if x6 = (-1) then jX8_findAgainst_66 self10 self33 p0 p2 p3 H
  else (f_X8_meetAgainst p0 p2 p3 H).bind fun z7 => jX8_findAgainst_66 self10 self33 p0 p2 p3 z7.2))
set_option maxHeartbeats 4000000 in
theorem lX8_findAgainst_33_ok {E : PE} {rr : Int} {HH : PH} (F : FX E cX8_findAgainst RX8) (q : QE E none HH none) (hn : nLof E = 4) (hf : (roomOf E).frames = 5) (hl : (roomOf E).locals = 114) (self10 : Int → PH → RO) (p0 p2 : Int) (ih10 : ∀ (v2 : Int) (HV : PH), self10 v2 HV = some (rr, HH) → PW E 10 [some (vr p0), none, some (vi v2), none] [] HV) : ∀ (n : Nat) (p3 : Int) (H : PH), lq1 (lX8_findAgainst_33 self10 p0 p2) n p3 H = some (rr, HH) → PW E 33 [some (vr p0), none, some (vi p2), some (vi p3)] [] H := by
  refine lq1_ind (P := fun p3 H => PW E 33 [some (vr p0), none, some (vi p2), some (vi p3)] [] H) ?_
  intro self33 ih33 p3 H h
  unfold lX8_findAgainst_33 at h
  refine pw_iload_n (pc := 33) F dX8_findAgainst_33 rfl ?_
  refine pw_aload_n (pc := 34) F dX8_findAgainst_34 rfl ?_
  obtain ⟨x1, ex1, h⟩ := bnd h
  refine pw_get (pc := 35) F 8 0 12 (by decide) (by decide) g_955d9610dc inl_8 2 rfl dX8_findAgainst_35 ex1 ?_
  obtain ⟨x2, ex2, h⟩ := bnd h
  refine pw_get (pc := 38) F 3 1 141 (by decide) (by decide) g_4a788c66ef inl_3 0 rfl dX8_findAgainst_38 ex2 ?_
  refine pw_icmp_ge (pc := 41) F 72 dX8_findAgainst_41 (by decide) (fun hc => ?_) (fun hc => ?_)
  · have h := iteT hc h
    refine pw_iinc (pc := 72) F dX8_findAgainst_72 rfl (lt_nl hn (by decide)) [some (vr p0), none, some (vi (w32 (p2 + 1))), some (vi p3)] rfl (by decide) ?_
    refine pw_goto (pc := 75) F 10 dX8_findAgainst_75 (by decide) ?_
    exact pw_mask [true, true, true, false] (ls' := [some (vr p0), none, some (vi (w32 (p2 + 1))), none]) rfl (ih10 (w32 (p2 + 1)) H h)
  · have h := iteF hc h
    refine pw_aload_n (pc := 44) F dX8_findAgainst_44 rfl ?_
    obtain ⟨x3, ex3, h⟩ := bnd h
    refine pw_get (pc := 45) F 8 0 12 (by decide) (by decide) g_955d9610dc inl_8 2 rfl dX8_findAgainst_45 ex3 ?_
    obtain ⟨x4, ex4, h⟩ := bnd h
    refine pw_get (pc := 48) F 3 0 144 (by decide) (by decide) g_78df9fc092 inl_3 2 rfl dX8_findAgainst_48 ex4 ?_
    refine pw_iload_n (pc := 51) F dX8_findAgainst_51 rfl ?_
    obtain ⟨x5, ex5, h⟩ := bnd h
    refine pw_aald (pc := 52) F 6 (by decide) dX8_findAgainst_52 ex5 ?_
    obtain ⟨x6, ex6, h⟩ := bnd h
    refine pw_get (pc := 53) F 5 10 116 (by decide) (by decide) g_490b7fc7fe inl_5 0 rfl dX8_findAgainst_53 ex6 ?_
    refine pw_iconst (pc := 56) F (-1) dX8_findAgainst_56 (by decide) ?_
    refine pw_icmp_eq (pc := 57) F 66 dX8_findAgainst_57 (by decide) (fun hc => ?_) (fun hc => ?_)
    · have h := iteT hc h
      exact pw_mask [true, true, true, true] (ls' := [some (vr p0), none, some (vi p2), some (vi p3)]) rfl (jX8_findAgainst_66_ok F q hn hf hl self10 self33 p0 p2 p3 H ih10 ih33 h)
    · have h := iteF hc h
      refine pw_aload_n (pc := 60) F dX8_findAgainst_60 rfl ?_
      refine pw_iload_n (pc := 61) F dX8_findAgainst_61 rfl ?_
      refine pw_iload_n (pc := 62) F dX8_findAgainst_62 rfl ?_
      obtain ⟨z7, ez7, h⟩ := bnd h
      refine pw_callV (pc := 63) (as := [vi p2, vi p3]) (st := []) (r := none) F 227 8 (by decide) rfl (fun l => m_X8_meetAgainst l p0 p2 p3 H z7.1 z7.2 ez7) g_498b5d809c g_860c5b16a1 g_381c3614cd g_99e03e18e2 g_849a60cb0f hd_X8_meetAgainst (rm_ok hf hl (by decide) (by decide)) rfl (vm_spec ez7).1 dX8_findAgainst_63 rfl (stk' := []) rfl ?_
      exact pw_mask [true, true, true, true] (ls' := [some (vr p0), none, some (vi p2), some (vi p3)]) rfl (jX8_findAgainst_66_ok F q hn hf hl self10 self33 p0 p2 p3 z7.2 ih10 ih33 h)
def lX8_findAgainst_10 (p0 : Int) (self10 : Int → PH → RO) (p2 : Int) (H : PH) : RO :=
  (ld 24 H p0 2).bind fun x1 => (if p2 ≥ x1 then some (0, H)
  else (ld 24 H p0 0).bind fun x2 => (ld 24 H p0 1).bind fun x3 => (ld 5 H x3 p2).bind fun x4 => (f_X3_settle x2 x4 H).bind fun z5 => lq1 (lX8_findAgainst_33 self10 p0 p2) 6000 0 z5.2)
set_option maxHeartbeats 4000000 in
theorem lX8_findAgainst_10_ok {E : PE} {rr : Int} {HH : PH} (F : FX E cX8_findAgainst RX8) (q : QE E none HH none) (hn : nLof E = 4) (hf : (roomOf E).frames = 5) (hl : (roomOf E).locals = 114) (p0 : Int) : ∀ (n : Nat) (p2 : Int) (H : PH), lq1 (lX8_findAgainst_10 p0) n p2 H = some (rr, HH) → PW E 10 [some (vr p0), none, some (vi p2), none] [] H := by
  refine lq1_ind (P := fun p2 H => PW E 10 [some (vr p0), none, some (vi p2), none] [] H) ?_
  intro self10 ih10 p2 H h
  unfold lX8_findAgainst_10 at h
  refine pw_iload_n (pc := 10) F dX8_findAgainst_10 rfl ?_
  refine pw_aload_n (pc := 11) F dX8_findAgainst_11 rfl ?_
  obtain ⟨x1, ex1, h⟩ := bnd h
  refine pw_get (pc := 12) F 8 2 98 (by decide) (by decide) g_51d983fb79 inl_8 0 rfl dX8_findAgainst_12 ex1 ?_
  refine pw_icmp_ge (pc := 15) F 78 dX8_findAgainst_15 (by decide) (fun hc => ?_) (fun hc => ?_)
  · have h := iteT hc h
    cases h
    exact pw_vret (pc := 78) F q dX8_findAgainst_78
  · have h := iteF hc h
    refine pw_aload_n (pc := 18) F dX8_findAgainst_18 rfl ?_
    obtain ⟨x2, ex2, h⟩ := bnd h
    refine pw_get (pc := 19) F 8 0 12 (by decide) (by decide) g_955d9610dc inl_8 2 rfl dX8_findAgainst_19 ex2 ?_
    refine pw_aload_n (pc := 22) F dX8_findAgainst_22 rfl ?_
    obtain ⟨x3, ex3, h⟩ := bnd h
    refine pw_get (pc := 23) F 8 1 18 (by decide) (by decide) g_0efda17134 inl_8 2 rfl dX8_findAgainst_23 ex3 ?_
    refine pw_iload_n (pc := 26) F dX8_findAgainst_26 rfl ?_
    obtain ⟨x4, ex4, h⟩ := bnd h
    refine pw_aald (pc := 27) F 5 (by decide) dX8_findAgainst_27 ex4 ?_
    obtain ⟨z5, ez5, h⟩ := bnd h
    refine pw_callV (pc := 28) (as := [vr x4]) (st := []) (r := none) F 179 3 (by decide) rfl (fun l => m_X3_settle l x2 x4 H z5.1 z5.2 ez5) g_9494b7b84e g_25b0bd7147 g_67c8dc0219 g_106b72596f g_d1a08fcf56 hd_X3_settle (rm_ok hf hl (by decide) (by decide)) rfl (vm_spec ez5).1 dX8_findAgainst_28 rfl (stk' := []) rfl ?_
    refine pw_iconst (pc := 31) F 0 dX8_findAgainst_31 (by decide) ?_
    refine pw_istore_n (pc := 32) F dX8_findAgainst_32 (lt_nl hn (by decide)) [some (vr p0), none, some (vi p2), some (vi 0)] rfl ?_
    exact pw_mask [true, true, true, true] (ls' := [some (vr p0), none, some (vi p2), some (vi 0)]) rfl (lX8_findAgainst_33_ok F q hn hf hl self10 p0 p2 ih10  6000 0 z5.2 h)
def f_X8_findAgainst (a0 a1 : Int) (H : PH) : RO := vm 8 a0 H <|
  (ld 24 H a0 6).bind fun x1 => (f_X2_start x1 a1 H).bind fun z2 => lq1 (lX8_findAgainst_10 a0) 6000 0 z2.2
set_option maxHeartbeats 4000000 in
theorem m_X8_findAgainst (l : Launch) (a0 a1 : Int) (H : PH) (rr : Int) (HH : PH) (h : f_X8_findAgainst a0 a1 H = some (rr, HH)) : CT l yX8_findAgainst cX8_findAgainst 4 none 5 114 [vr a0, vi a1] H none HH := by
  refine CT.of RX8 (by decide) rfl [some (vr a0), some (vi a1), none, none] rfl rfl ?_
  intro E F q hn hf hl hm
  unfold f_X8_findAgainst at h
  obtain ⟨hv, h⟩ := vm_spec h
  refine pw_aload_n (pc := 0) F dX8_findAgainst_0 rfl ?_
  obtain ⟨x1, ex1, h⟩ := bnd h
  refine pw_get (pc := 1) F 8 6 38 (by decide) (by decide) g_f8de3d2cc6 inl_8 2 rfl dX8_findAgainst_1 ex1 ?_
  refine pw_iload_n (pc := 4) F dX8_findAgainst_4 rfl ?_
  obtain ⟨z2, ez2, h⟩ := bnd h
  refine pw_callV (pc := 5) (as := [vi a1]) (st := []) (r := none) F 224 2 (by decide) rfl (fun l => m_X2_start l x1 a1 H z2.1 z2.2 ez2) g_379c302b23 g_69fe0f0b64 g_fa02ca82da g_d27e9d3e51 g_e6b26bf678 hd_X2_start (rm_ok hf hl (by decide) (by decide)) rfl (vm_spec ez2).1 dX8_findAgainst_5 rfl (stk' := []) rfl ?_
  refine pw_iconst (pc := 8) F 0 dX8_findAgainst_8 (by decide) ?_
  refine pw_istore_n (pc := 9) F dX8_findAgainst_9 (lt_nl hn (by decide)) [some (vr a0), some (vi a1), some (vi 0), none] rfl ?_
  exact pw_mask [true, false, true, true] (ls' := [some (vr a0), none, some (vi 0), none]) rfl (lX8_findAgainst_10_ok F q hn hf hl a0  6000 0 z2.2 h)
/-! HouseholdVault.against()I -/
theorem dX8_against_0 : decode cX8_against 0 = .ok (.aload_n 0, 1) := by decide +kernel
theorem dX8_against_1 : decode cX8_against 1 = .ok (.iconst (-1), 1) := by decide +kernel
theorem dX8_against_2 : decode cX8_against 2 = .ok (.invokevirtual 214, 3) := by decide +kernel
theorem dX8_against_5 : decode cX8_against 5 = .ok (.aload_n 0, 1) := by decide +kernel
theorem dX8_against_6 : decode cX8_against 6 = .ok (.getfield 38, 3) := by decide +kernel
theorem dX8_against_9 : decode cX8_against 9 = .ok (.getfield 217, 3) := by decide +kernel
theorem dX8_against_12 : decode cX8_against 12 = .ok (.ireturn, 1) := by decide +kernel
def f_X8_against (a0 : Int) (H : PH) : RO := vm 8 a0 H <|
  (f_X8_findAgainst a0 (-1) H).bind fun z1 => (ld 24 z1.2 a0 6).bind fun x2 => (ld 18 z1.2 x2 1).bind fun x3 => some (x3, z1.2)
set_option maxHeartbeats 4000000 in
theorem m_X8_against (l : Launch) (a0 : Int) (H : PH) (rr : Int) (HH : PH) (h : f_X8_against a0 H = some (rr, HH)) : CT l yX8_against cX8_against 1 (some .int) 6 137 [vr a0] H (some (vi rr)) HH := by
  refine CT.of RX8 (by decide) rfl [some (vr a0)] rfl rfl ?_
  intro E F q hn hf hl hm
  unfold f_X8_against at h
  obtain ⟨hv, h⟩ := vm_spec h
  refine pw_aload_n (pc := 0) F dX8_against_0 rfl ?_
  refine pw_iconst (pc := 1) F (-1) dX8_against_1 (by decide) ?_
  obtain ⟨z1, ez1, h⟩ := bnd h
  refine pw_callV (pc := 2) (as := [vi (-1)]) (st := []) (r := none) F 214 8 (by decide) rfl (fun l => m_X8_findAgainst l a0 (-1) H z1.1 z1.2 ez1) g_e0282a4e76 g_b346e4ee6a g_a48630b731 g_99e03e18e2 g_da5cd22226 hd_X8_findAgainst (rm_ok hf hl (by decide) (by decide)) rfl (vm_spec ez1).1 dX8_against_2 rfl (stk' := []) rfl ?_
  refine pw_aload_n (pc := 5) F dX8_against_5 rfl ?_
  obtain ⟨x2, ex2, h⟩ := bnd h
  refine pw_get (pc := 6) F 8 6 38 (by decide) (by decide) g_f8de3d2cc6 inl_8 2 rfl dX8_against_6 ex2 ?_
  obtain ⟨x3, ex3, h⟩ := bnd h
  refine pw_get (pc := 9) F 2 1 217 (by decide) (by decide) g_c45e5dcd85 inl_2 0 rfl dX8_against_9 ex3 ?_
  cases h
  exact pw_iret (pc := 12) F q dX8_against_12
/-! HouseholdVault.againstAt(II)I -/
theorem dX8_againstAt_0 : decode cX8_againstAt 0 = .ok (.iload_n 1, 1) := by decide +kernel
theorem dX8_againstAt_1 : decode cX8_againstAt 1 = .ok (.ifCond .ge 6, 3) := by decide +kernel
theorem dX8_againstAt_4 : decode cX8_againstAt 4 = .ok (.bipush (-2), 2) := by decide +kernel
theorem dX8_againstAt_6 : decode cX8_againstAt 6 = .ok (.ireturn, 1) := by decide +kernel
theorem dX8_againstAt_7 : decode cX8_againstAt 7 = .ok (.aload_n 0, 1) := by decide +kernel
theorem dX8_againstAt_8 : decode cX8_againstAt 8 = .ok (.iload_n 1, 1) := by decide +kernel
theorem dX8_againstAt_9 : decode cX8_againstAt 9 = .ok (.invokevirtual 214, 3) := by decide +kernel
theorem dX8_againstAt_12 : decode cX8_againstAt 12 = .ok (.aload_n 0, 1) := by decide +kernel
theorem dX8_againstAt_13 : decode cX8_againstAt 13 = .ok (.getfield 38, 3) := by decide +kernel
theorem dX8_againstAt_16 : decode cX8_againstAt 16 = .ok (.iload_n 2, 1) := by decide +kernel
theorem dX8_againstAt_17 : decode cX8_againstAt 17 = .ok (.iconst 3, 1) := by decide +kernel
theorem dX8_againstAt_18 : decode cX8_againstAt 18 = .ok (.bipush (-2), 2) := by decide +kernel
theorem dX8_againstAt_20 : decode cX8_againstAt 20 = .ok (.invokevirtual 220, 3) := by decide +kernel
theorem dX8_againstAt_23 : decode cX8_againstAt 23 = .ok (.ireturn, 1) := by decide +kernel
def f_X8_againstAt (a0 a1 a2 : Int) (H : PH) : RO := vm 8 a0 H <|
  (if a1 ≥ 0 then (f_X8_findAgainst a0 a1 H).bind fun z1 => (ld 24 z1.2 a0 6).bind fun x2 => (f_X2_told x2 a2 3 (-2) z1.2).bind fun z3 => some (z3.1, z3.2)
  else some ((-2), H))
set_option maxHeartbeats 4000000 in
theorem m_X8_againstAt (l : Launch) (a0 a1 a2 : Int) (H : PH) (rr : Int) (HH : PH) (h : f_X8_againstAt a0 a1 a2 H = some (rr, HH)) : CT l yX8_againstAt cX8_againstAt 3 (some .int) 6 137 [vr a0, vi a1, vi a2] H (some (vi rr)) HH := by
  refine CT.of RX8 (by decide) rfl [some (vr a0), some (vi a1), some (vi a2)] rfl rfl ?_
  intro E F q hn hf hl hm
  unfold f_X8_againstAt at h
  obtain ⟨hv, h⟩ := vm_spec h
  refine pw_iload_n (pc := 0) F dX8_againstAt_0 rfl ?_
  refine pw_if_ge (pc := 1) F 7 dX8_againstAt_1 (by decide) (fun hc => ?_) (fun hc => ?_)
  · have h := iteT hc h
    refine pw_aload_n (pc := 7) F dX8_againstAt_7 rfl ?_
    refine pw_iload_n (pc := 8) F dX8_againstAt_8 rfl ?_
    obtain ⟨z1, ez1, h⟩ := bnd h
    refine pw_callV (pc := 9) (as := [vi a1]) (st := []) (r := none) F 214 8 (by decide) rfl (fun l => m_X8_findAgainst l a0 a1 H z1.1 z1.2 ez1) g_e0282a4e76 g_b346e4ee6a g_a48630b731 g_99e03e18e2 g_da5cd22226 hd_X8_findAgainst (rm_ok hf hl (by decide) (by decide)) rfl (vm_spec ez1).1 dX8_againstAt_9 rfl (stk' := []) rfl ?_
    refine pw_aload_n (pc := 12) F dX8_againstAt_12 rfl ?_
    obtain ⟨x2, ex2, h⟩ := bnd h
    refine pw_get (pc := 13) F 8 6 38 (by decide) (by decide) g_f8de3d2cc6 inl_8 2 rfl dX8_againstAt_13 ex2 ?_
    refine pw_iload_n (pc := 16) F dX8_againstAt_16 rfl ?_
    refine pw_iconst (pc := 17) F 3 dX8_againstAt_17 (by decide) ?_
    refine pw_bipush (pc := 18) F (-2) dX8_againstAt_18 (by decide) ?_
    obtain ⟨z3, ez3, h⟩ := bnd h
    refine pw_callV (pc := 20) (as := [vi a2, vi 3, vi (-2)]) (st := []) (r := (some (vi z3.1))) F 220 2 (by decide) rfl (fun l => m_X2_told l x2 a2 3 (-2) z1.2 z3.1 z3.2 ez3) g_975d610aae g_2ddf4c4420 g_c1c0e76a98 g_d27e9d3e51 g_e0ef5765d2 hd_X2_told (rm_ok hf hl (by decide) (by decide)) rfl (vm_spec ez3).1 dX8_againstAt_20 rfl (stk' := [vi z3.1]) rfl ?_
    cases h
    exact pw_iret (pc := 23) F q dX8_againstAt_23
  · have h := iteF hc h
    refine pw_bipush (pc := 4) F (-2) dX8_againstAt_4 (by decide) ?_
    cases h
    exact pw_iret (pc := 6) F q dX8_againstAt_6
/-! HouseholdVault.weight(III)I -/
theorem dX8_weight_0 : decode cX8_weight 0 = .ok (.aload_n 0, 1) := by decide +kernel
theorem dX8_weight_1 : decode cX8_weight 1 = .ok (.iload_n 1, 1) := by decide +kernel
theorem dX8_weight_2 : decode cX8_weight 2 = .ok (.invokevirtual 148, 3) := by decide +kernel
theorem dX8_weight_5 : decode cX8_weight 5 = .ok (.astore 4, 2) := by decide +kernel
theorem dX8_weight_7 : decode cX8_weight 7 = .ok (.aload 4, 2) := by decide +kernel
theorem dX8_weight_9 : decode cX8_weight 9 = .ok (.ifnull 25, 3) := by decide +kernel
theorem dX8_weight_12 : decode cX8_weight 12 = .ok (.iload_n 2, 1) := by decide +kernel
theorem dX8_weight_13 : decode cX8_weight 13 = .ok (.ifCond .lt 21, 3) := by decide +kernel
theorem dX8_weight_16 : decode cX8_weight 16 = .ok (.iload_n 2, 1) := by decide +kernel
theorem dX8_weight_17 : decode cX8_weight 17 = .ok (.sipush 1000, 3) := by decide +kernel
theorem dX8_weight_20 : decode cX8_weight 20 = .ok (.if_icmp .gt 14, 3) := by decide +kernel
theorem dX8_weight_23 : decode cX8_weight 23 = .ok (.iload_n 3, 1) := by decide +kernel
theorem dX8_weight_24 : decode cX8_weight 24 = .ok (.iconst 1, 1) := by decide +kernel
theorem dX8_weight_25 : decode cX8_weight 25 = .ok (.if_icmp .lt 9, 3) := by decide +kernel
theorem dX8_weight_28 : decode cX8_weight 28 = .ok (.iload_n 3, 1) := by decide +kernel
theorem dX8_weight_29 : decode cX8_weight 29 = .ok (.bipush 10, 2) := by decide +kernel
theorem dX8_weight_31 : decode cX8_weight 31 = .ok (.if_icmp .le 5, 3) := by decide +kernel
theorem dX8_weight_34 : decode cX8_weight 34 = .ok (.iconst (-1), 1) := by decide +kernel
theorem dX8_weight_35 : decode cX8_weight 35 = .ok (.ireturn, 1) := by decide +kernel
theorem dX8_weight_36 : decode cX8_weight 36 = .ok (.aload 4, 2) := by decide +kernel
theorem dX8_weight_38 : decode cX8_weight 38 = .ok (.iload_n 2, 1) := by decide +kernel
theorem dX8_weight_39 : decode cX8_weight 39 = .ok (.sipush 2520, 3) := by decide +kernel
theorem dX8_weight_42 : decode cX8_weight 42 = .ok (.iload_n 3, 1) := by decide +kernel
theorem dX8_weight_43 : decode cX8_weight 43 = .ok (.idiv, 1) := by decide +kernel
theorem dX8_weight_44 : decode cX8_weight 44 = .ok (.imul, 1) := by decide +kernel
theorem dX8_weight_45 : decode cX8_weight 45 = .ok (.putfield 245, 3) := by decide +kernel
theorem dX8_weight_48 : decode cX8_weight 48 = .ok (.iconst 1, 1) := by decide +kernel
theorem dX8_weight_49 : decode cX8_weight 49 = .ok (.ireturn, 1) := by decide +kernel
def f_X8_weight (a0 a1 a2 a3 : Int) (H : PH) : RO := vm 8 a0 H <|
  (f_X8_homeOf a0 a1 H).bind fun z1 => (if z1.1 = -1 then some ((-1), z1.2)
  else (if a2 < 0 then some ((-1), z1.2)
  else (if a2 > 1000 then some ((-1), z1.2)
  else (if a3 < 1 then some ((-1), z1.2)
  else (if a3 ≤ 10 then (if a3 = 0 then none else (stv 20 z1.2 z1.1 3 (w32 (a2 * (w32 (Int.tdiv 2520 a3))))).bind fun H2 => some (1, H2))
  else some ((-1), z1.2))))))
set_option maxHeartbeats 4000000 in
theorem m_X8_weight (l : Launch) (a0 a1 a2 a3 : Int) (H : PH) (rr : Int) (HH : PH) (h : f_X8_weight a0 a1 a2 a3 H = some (rr, HH)) : CT l yX8_weight cX8_weight 5 (some .int) 1 21 [vr a0, vi a1, vi a2, vi a3] H (some (vi rr)) HH := by
  refine CT.of RX8 (by decide) rfl [some (vr a0), some (vi a1), some (vi a2), some (vi a3), none] rfl rfl ?_
  intro E F q hn hf hl hm
  unfold f_X8_weight at h
  obtain ⟨hv, h⟩ := vm_spec h
  refine pw_aload_n (pc := 0) F dX8_weight_0 rfl ?_
  refine pw_iload_n (pc := 1) F dX8_weight_1 rfl ?_
  obtain ⟨z1, ez1, h⟩ := bnd h
  refine pw_callV (pc := 2) (as := [vi a1]) (st := []) (r := (some (vr z1.1))) F 148 8 (by decide) rfl (fun l => m_X8_homeOf l a0 a1 H z1.1 z1.2 ez1) g_71dc4d703e g_171138aae7 g_757aa7485e g_99e03e18e2 g_d22af8c66c hd_X8_homeOf (rm_ok hf hl (by decide) (by decide)) rfl (vm_spec ez1).1 dX8_weight_2 rfl (stk' := [vr z1.1]) rfl ?_
  refine pw_astore (pc := 5) F dX8_weight_5 (lt_nl hn (by decide)) [some (vr a0), some (vi a1), some (vi a2), some (vi a3), some (vr z1.1)] rfl ?_
  refine pw_aload (pc := 7) F dX8_weight_7 rfl ?_
  refine pw_ifnull (pc := 9) F 34 dX8_weight_9 (by decide) (fun hc => ?_) (fun hc => ?_)
  · have h := iteT hc h
    refine pw_iconst (pc := 34) F (-1) dX8_weight_34 (by decide) ?_
    cases h
    exact pw_iret (pc := 35) F q dX8_weight_35
  · have h := iteF hc h
    refine pw_iload_n (pc := 12) F dX8_weight_12 rfl ?_
    refine pw_if_lt (pc := 13) F 34 dX8_weight_13 (by decide) (fun hc => ?_) (fun hc => ?_)
    · have h := iteT hc h
      refine pw_iconst (pc := 34) F (-1) dX8_weight_34 (by decide) ?_
      cases h
      exact pw_iret (pc := 35) F q dX8_weight_35
    · have h := iteF hc h
      refine pw_iload_n (pc := 16) F dX8_weight_16 rfl ?_
      refine pw_sipush (pc := 17) F 1000 dX8_weight_17 (by decide) ?_
      refine pw_icmp_gt (pc := 20) F 34 dX8_weight_20 (by decide) (fun hc => ?_) (fun hc => ?_)
      · have h := iteT hc h
        refine pw_iconst (pc := 34) F (-1) dX8_weight_34 (by decide) ?_
        cases h
        exact pw_iret (pc := 35) F q dX8_weight_35
      · have h := iteF hc h
        refine pw_iload_n (pc := 23) F dX8_weight_23 rfl ?_
        refine pw_iconst (pc := 24) F 1 dX8_weight_24 (by decide) ?_
        refine pw_icmp_lt (pc := 25) F 34 dX8_weight_25 (by decide) (fun hc => ?_) (fun hc => ?_)
        · have h := iteT hc h
          refine pw_iconst (pc := 34) F (-1) dX8_weight_34 (by decide) ?_
          cases h
          exact pw_iret (pc := 35) F q dX8_weight_35
        · have h := iteF hc h
          refine pw_iload_n (pc := 28) F dX8_weight_28 rfl ?_
          refine pw_bipush (pc := 29) F 10 dX8_weight_29 (by decide) ?_
          refine pw_icmp_le (pc := 31) F 36 dX8_weight_31 (by decide) (fun hc => ?_) (fun hc => ?_)
          · have h := iteT hc h
            refine pw_aload (pc := 36) F dX8_weight_36 rfl ?_
            refine pw_iload_n (pc := 38) F dX8_weight_38 rfl ?_
            refine pw_sipush (pc := 39) F 2520 dX8_weight_39 (by decide) ?_
            refine pw_iload_n (pc := 42) F dX8_weight_42 rfl ?_
            by_cases hz43 : a3 = 0
            · rw [if_pos hz43] at h; cases h
            have h := iteF hz43 h
            refine pw_idiv (pc := 43) F dX8_weight_43 hz43 ?_
            refine pw_imul (pc := 44) F dX8_weight_44 ?_
            obtain ⟨H2, eH2, h⟩ := bnd h
            refine pw_put (pc := 45) F 4 3 245 (by decide) (by decide) g_eaacb39f4f inl_4 rfl 0 rfl dX8_weight_45 trivial eH2 ?_
            refine pw_iconst (pc := 48) F 1 dX8_weight_48 (by decide) ?_
            cases h
            exact pw_iret (pc := 49) F q dX8_weight_49
          · have h := iteF hc h
            refine pw_iconst (pc := 34) F (-1) dX8_weight_34 (by decide) ?_
            cases h
            exact pw_iret (pc := 35) F q dX8_weight_35
/-! HouseholdVault.table(II)I -/
theorem dX8_table_0 : decode cX8_table 0 = .ok (.aload_n 0, 1) := by decide +kernel
theorem dX8_table_1 : decode cX8_table 1 = .ok (.getfield 12, 3) := by decide +kernel
theorem dX8_table_4 : decode cX8_table 4 = .ok (.iload_n 1, 1) := by decide +kernel
theorem dX8_table_5 : decode cX8_table 5 = .ok (.invokevirtual 46, 3) := by decide +kernel
theorem dX8_table_8 : decode cX8_table 8 = .ok (.astore_n 3, 1) := by decide +kernel
theorem dX8_table_9 : decode cX8_table 9 = .ok (.aload_n 0, 1) := by decide +kernel
theorem dX8_table_10 : decode cX8_table 10 = .ok (.getfield 12, 3) := by decide +kernel
theorem dX8_table_13 : decode cX8_table 13 = .ok (.iload_n 2, 1) := by decide +kernel
theorem dX8_table_14 : decode cX8_table 14 = .ok (.invokevirtual 46, 3) := by decide +kernel
theorem dX8_table_17 : decode cX8_table 17 = .ok (.astore 4, 2) := by decide +kernel
theorem dX8_table_19 : decode cX8_table 19 = .ok (.aload_n 3, 1) := by decide +kernel
theorem dX8_table_20 : decode cX8_table 20 = .ok (.ifnull 13, 3) := by decide +kernel
theorem dX8_table_23 : decode cX8_table 23 = .ok (.iload_n 2, 1) := by decide +kernel
theorem dX8_table_24 : decode cX8_table 24 = .ok (.iconst (-1), 1) := by decide +kernel
theorem dX8_table_25 : decode cX8_table 25 = .ok (.if_icmp .eq 10, 3) := by decide +kernel
theorem dX8_table_28 : decode cX8_table 28 = .ok (.aload 4, 2) := by decide +kernel
theorem dX8_table_30 : decode cX8_table 30 = .ok (.ifnonnull 5, 3) := by decide +kernel
theorem dX8_table_33 : decode cX8_table 33 = .ok (.iconst (-1), 1) := by decide +kernel
theorem dX8_table_34 : decode cX8_table 34 = .ok (.ireturn, 1) := by decide +kernel
theorem dX8_table_35 : decode cX8_table 35 = .ok (.aload_n 3, 1) := by decide +kernel
theorem dX8_table_36 : decode cX8_table 36 = .ok (.invokevirtual 248, 3) := by decide +kernel
theorem dX8_table_39 : decode cX8_table 39 = .ok (.ifCond .eq 16, 3) := by decide +kernel
theorem dX8_table_42 : decode cX8_table 42 = .ok (.aload 4, 2) := by decide +kernel
theorem dX8_table_44 : decode cX8_table 44 = .ok (.ifnull 14, 3) := by decide +kernel
theorem dX8_table_47 : decode cX8_table 47 = .ok (.aload 4, 2) := by decide +kernel
theorem dX8_table_49 : decode cX8_table 49 = .ok (.invokevirtual 248, 3) := by decide +kernel
theorem dX8_table_52 : decode cX8_table 52 = .ok (.ifCond .ne 6, 3) := by decide +kernel
theorem dX8_table_55 : decode cX8_table 55 = .ok (.bipush (-2), 2) := by decide +kernel
theorem dX8_table_57 : decode cX8_table 57 = .ok (.ireturn, 1) := by decide +kernel
theorem dX8_table_58 : decode cX8_table 58 = .ok (.aload_n 0, 1) := by decide +kernel
theorem dX8_table_59 : decode cX8_table 59 = .ok (.getfield 31, 3) := by decide +kernel
theorem dX8_table_62 : decode cX8_table 62 = .ok (.aload_n 3, 1) := by decide +kernel
theorem dX8_table_63 : decode cX8_table 63 = .ok (.getfield 82, 3) := by decide +kernel
theorem dX8_table_66 : decode cX8_table 66 = .ok (.iconst 1, 1) := by decide +kernel
theorem dX8_table_67 : decode cX8_table 67 = .ok (.iadd, 1) := by decide +kernel
theorem dX8_table_68 : decode cX8_table 68 = .ok (.aload 4, 2) := by decide +kernel
theorem dX8_table_70 : decode cX8_table 70 = .ok (.ifnonnull 7, 3) := by decide +kernel
theorem dX8_table_73 : decode cX8_table 73 = .ok (.iconst 1, 1) := by decide +kernel
theorem dX8_table_74 : decode cX8_table 74 = .ok (.goto 10, 3) := by decide +kernel
theorem dX8_table_77 : decode cX8_table 77 = .ok (.aload 4, 2) := by decide +kernel
theorem dX8_table_79 : decode cX8_table 79 = .ok (.getfield 82, 3) := by decide +kernel
theorem dX8_table_82 : decode cX8_table 82 = .ok (.iconst 1, 1) := by decide +kernel
theorem dX8_table_83 : decode cX8_table 83 = .ok (.iadd, 1) := by decide +kernel
theorem dX8_table_84 : decode cX8_table 84 = .ok (.aload 4, 2) := by decide +kernel
theorem dX8_table_86 : decode cX8_table 86 = .ok (.ifnull 7, 3) := by decide +kernel
theorem dX8_table_89 : decode cX8_table 89 = .ok (.iconst 1, 1) := by decide +kernel
theorem dX8_table_90 : decode cX8_table 90 = .ok (.goto 4, 3) := by decide +kernel
theorem dX8_table_93 : decode cX8_table 93 = .ok (.iconst 0, 1) := by decide +kernel
theorem dX8_table_94 : decode cX8_table 94 = .ok (.invokevirtual 251, 3) := by decide +kernel
theorem dX8_table_97 : decode cX8_table 97 = .ok (.iconst 0, 1) := by decide +kernel
theorem dX8_table_98 : decode cX8_table 98 = .ok (.istore 5, 2) := by decide +kernel
theorem dX8_table_100 : decode cX8_table 100 = .ok (.iload 5, 2) := by decide +kernel
theorem dX8_table_102 : decode cX8_table 102 = .ok (.aload_n 0, 1) := by decide +kernel
theorem dX8_table_103 : decode cX8_table 103 = .ok (.getfield 98, 3) := by decide +kernel
theorem dX8_table_106 : decode cX8_table 106 = .ok (.if_icmp .ge 81, 3) := by decide +kernel
theorem dX8_table_109 : decode cX8_table 109 = .ok (.aload_n 0, 1) := by decide +kernel
theorem dX8_table_110 : decode cX8_table 110 = .ok (.getfield 18, 3) := by decide +kernel
theorem dX8_table_113 : decode cX8_table 113 = .ok (.iload 5, 2) := by decide +kernel
theorem dX8_table_115 : decode cX8_table 115 = .ok (.aaload, 1) := by decide +kernel
theorem dX8_table_116 : decode cX8_table 116 = .ok (.astore 6, 2) := by decide +kernel
theorem dX8_table_118 : decode cX8_table 118 = .ok (.aload_n 0, 1) := by decide +kernel
theorem dX8_table_119 : decode cX8_table 119 = .ok (.getfield 12, 3) := by decide +kernel
theorem dX8_table_122 : decode cX8_table 122 = .ok (.aload 6, 2) := by decide +kernel
theorem dX8_table_124 : decode cX8_table 124 = .ok (.invokevirtual 179, 3) := by decide +kernel
theorem dX8_table_127 : decode cX8_table 127 = .ok (.aload 4, 2) := by decide +kernel
theorem dX8_table_129 : decode cX8_table 129 = .ok (.ifnonnull 7, 3) := by decide +kernel
theorem dX8_table_132 : decode cX8_table 132 = .ok (.iconst 0, 1) := by decide +kernel
theorem dX8_table_133 : decode cX8_table 133 = .ok (.goto 18, 3) := by decide +kernel
theorem dX8_table_136 : decode cX8_table 136 = .ok (.aload 4, 2) := by decide +kernel
theorem dX8_table_138 : decode cX8_table 138 = .ok (.aload 6, 2) := by decide +kernel
theorem dX8_table_140 : decode cX8_table 140 = .ok (.getfield 126, 3) := by decide +kernel
theorem dX8_table_143 : decode cX8_table 143 = .ok (.iload_n 2, 1) := by decide +kernel
theorem dX8_table_144 : decode cX8_table 144 = .ok (.iconst (-1), 1) := by decide +kernel
theorem dX8_table_145 : decode cX8_table 145 = .ok (.invokestatic 130, 3) := by decide +kernel
theorem dX8_table_148 : decode cX8_table 148 = .ok (.invokevirtual 254, 3) := by decide +kernel
theorem dX8_table_151 : decode cX8_table 151 = .ok (.istore 7, 2) := by decide +kernel
theorem dX8_table_153 : decode cX8_table 153 = .ok (.aload_n 0, 1) := by decide +kernel
theorem dX8_table_154 : decode cX8_table 154 = .ok (.getfield 31, 3) := by decide +kernel
theorem dX8_table_157 : decode cX8_table 157 = .ok (.aload_n 3, 1) := by decide +kernel
theorem dX8_table_158 : decode cX8_table 158 = .ok (.aload 6, 2) := by decide +kernel
theorem dX8_table_160 : decode cX8_table 160 = .ok (.getfield 126, 3) := by decide +kernel
theorem dX8_table_163 : decode cX8_table 163 = .ok (.iload_n 1, 1) := by decide +kernel
theorem dX8_table_164 : decode cX8_table 164 = .ok (.iconst (-1), 1) := by decide +kernel
theorem dX8_table_165 : decode cX8_table 165 = .ok (.invokestatic 130, 3) := by decide +kernel
theorem dX8_table_168 : decode cX8_table 168 = .ok (.invokevirtual 254, 3) := by decide +kernel
theorem dX8_table_171 : decode cX8_table 171 = .ok (.iload 7, 2) := by decide +kernel
theorem dX8_table_173 : decode cX8_table 173 = .ok (.aload 6, 2) := by decide +kernel
theorem dX8_table_175 : decode cX8_table 175 = .ok (.getfield 245, 3) := by decide +kernel
theorem dX8_table_178 : decode cX8_table 178 = .ok (.invokevirtual 257, 3) := by decide +kernel
theorem dX8_table_181 : decode cX8_table 181 = .ok (.iinc 5 1, 3) := by decide +kernel
theorem dX8_table_184 : decode cX8_table 184 = .ok (.goto (-84), 3) := by decide +kernel
theorem dX8_table_187 : decode cX8_table 187 = .ok (.aload_n 0, 1) := by decide +kernel
theorem dX8_table_188 : decode cX8_table 188 = .ok (.getfield 31, 3) := by decide +kernel
theorem dX8_table_191 : decode cX8_table 191 = .ok (.invokevirtual 260, 3) := by decide +kernel
theorem dX8_table_194 : decode cX8_table 194 = .ok (.ireturn, 1) := by decide +kernel
def jX8_table_151 (self100 : Int → PH → RO) (p0 p1 p2 p3 p4 p5 p6 s0 : Int) (H : PH) : RO :=
  (ld 24 H p0 5).bind fun x1 => (ld 20 H p6 0).bind fun x2 => (f_X8_spot p1 (-1) H).bind fun z3 => (f_X5_lineOf p3 x2 z3.1 z3.2).bind fun z4 => (ld 20 z4.2 p6 3).bind fun x5 => (f_X7_add x1 z4.1 s0 x5 z4.2).bind fun z6 => self100 (w32 (p5 + 1)) z6.2
set_option maxHeartbeats 4000000 in
theorem jX8_table_151_ok {E : PE} {rr : Int} {HH : PH} (F : FX E cX8_table RX8) (q : QE E (some (vi rr)) HH (some .int)) (hn : nLof E = 8) (hf : (roomOf E).frames = 5) (hl : (roomOf E).locals = 114) (self100 : Int → PH → RO) (p0 p1 p2 p3 p4 p5 p6 s0 : Int) (H : PH) (ih100 : ∀ (v5 : Int) (HV : PH), self100 v5 HV = some (rr, HH) → PW E 100 [some (vr p0), some (vi p1), some (vi p2), some (vr p3), some (vr p4), some (vi v5), none, none] [] HV) (h : jX8_table_151 self100 p0 p1 p2 p3 p4 p5 p6 s0 H = some (rr, HH)) : PW E 151 [some (vr p0), some (vi p1), some (vi p2), some (vr p3), some (vr p4), some (vi p5), some (vr p6), none] [vi s0] H := by
  unfold jX8_table_151 at h
  refine pw_istore (pc := 151) F dX8_table_151 (lt_nl hn (by decide)) [some (vr p0), some (vi p1), some (vi p2), some (vr p3), some (vr p4), some (vi p5), some (vr p6), some (vi s0)] rfl ?_
  refine pw_aload_n (pc := 153) F dX8_table_153 rfl ?_
  obtain ⟨x1, ex1, h⟩ := bnd h
  refine pw_get (pc := 154) F 8 5 31 (by decide) (by decide) g_c78e80ff2c inl_8 2 rfl dX8_table_154 ex1 ?_
  refine pw_aload_n (pc := 157) F dX8_table_157 rfl ?_
  refine pw_aload (pc := 158) F dX8_table_158 rfl ?_
  obtain ⟨x2, ex2, h⟩ := bnd h
  refine pw_get (pc := 160) F 4 0 126 (by decide) (by decide) g_8ec333b1d7 inl_4 2 rfl dX8_table_160 ex2 ?_
  refine pw_iload_n (pc := 163) F dX8_table_163 rfl ?_
  refine pw_iconst (pc := 164) F (-1) dX8_table_164 (by decide) ?_
  obtain ⟨z3, ez3, h⟩ := bnd h
  refine pw_callS (pc := 165) (as := [vi p1, vi (-1)]) (st := [vr x2, vr p3, vr x1]) (r := (some (vi z3.1))) F 130 (fun l => m_X8_spot l p1 (-1) H z3.1 z3.2 ez3) g_3d0f1a9b86 g_aa0997f699 g_99e03e18e2 g_0d0469f624 hd_X8_spot (rm_ok hf hl (by decide) (by decide)) rfl dX8_table_165 rfl (stk' := [vi z3.1, vr x2, vr p3, vr x1]) rfl ?_
  obtain ⟨z4, ez4, h⟩ := bnd h
  refine pw_callV (pc := 168) (as := [vr x2, vi z3.1]) (st := [vr x1]) (r := (some (vi z4.1))) F 254 5 (by decide) rfl (fun l => m_X5_lineOf l p3 x2 z3.1 z3.2 z4.1 z4.2 ez4) g_bfa4e4bba1 g_b3cde23ee5 g_6ae0ac66b4 g_5f14f7581a g_635f6f7457 hd_X5_lineOf (rm_ok hf hl (by decide) (by decide)) rfl (vm_spec ez4).1 dX8_table_168 rfl (stk' := [vi z4.1, vr x1]) rfl ?_
  refine pw_iload (pc := 171) F dX8_table_171 rfl ?_
  refine pw_aload (pc := 173) F dX8_table_173 rfl ?_
  obtain ⟨x5, ex5, h⟩ := bnd h
  refine pw_get (pc := 175) F 4 3 245 (by decide) (by decide) g_eaacb39f4f inl_4 0 rfl dX8_table_175 ex5 ?_
  obtain ⟨z6, ez6, h⟩ := bnd h
  refine pw_callV (pc := 178) (as := [vi z4.1, vi s0, vi x5]) (st := []) (r := none) F 257 7 (by decide) rfl (fun l => m_X7_add l x1 z4.1 s0 x5 z4.2 z6.1 z6.2 ez6) g_86996c46cb g_dd920efc0e g_d6a1aaf117 g_030a77a6da g_31e05e0bed hd_X7_add (rm_ok hf hl (by decide) (by decide)) rfl (vm_spec ez6).1 dX8_table_178 rfl (stk' := []) rfl ?_
  refine pw_iinc (pc := 181) F dX8_table_181 rfl (lt_nl hn (by decide)) [some (vr p0), some (vi p1), some (vi p2), some (vr p3), some (vr p4), some (vi (w32 (p5 + 1))), some (vr p6), some (vi s0)] rfl (by decide) ?_
  refine pw_goto (pc := 184) F 100 dX8_table_184 (by decide) ?_
  exact pw_mask [true, true, true, true, true, true, false, false] (ls' := [some (vr p0), some (vi p1), some (vi p2), some (vr p3), some (vr p4), some (vi (w32 (p5 + 1))), none, none]) rfl (ih100 (w32 (p5 + 1)) z6.2 h)
def lX8_table_100 (p0 p1 p2 p3 p4 : Int) (self100 : Int → PH → RO) (p5 : Int) (H : PH) : RO :=
  (ld 24 H p0 2).bind fun x1 => (if p5 ≥ x1 then (ld 24 H p0 5).bind fun x2 => (f_X7_cells x2 H).bind fun z3 => some (z3.1, z3.2)
  else (ld 24 H p0 1).bind fun x4 => (ld 5 H x4 p5).bind fun x5 => (ld 24 H p0 0).bind fun x6 => (f_X3_settle x6 x5 H).bind fun z7 => (if p4 ≠ -1 then (ld 20 z7.2 x5 0).bind fun x8 => (f_X8_spot p2 (-1) z7.2).bind fun z9 => (f_X5_lineOf p4 x8 z9.1 z9.2).bind fun z10 => jX8_table_151 self100 p0 p1 p2 p3 p4 p5 x5 z10.1 z10.2
  else jX8_table_151 self100 p0 p1 p2 p3 p4 p5 x5 0 z7.2))
set_option maxHeartbeats 4000000 in
theorem lX8_table_100_ok {E : PE} {rr : Int} {HH : PH} (F : FX E cX8_table RX8) (q : QE E (some (vi rr)) HH (some .int)) (hn : nLof E = 8) (hf : (roomOf E).frames = 5) (hl : (roomOf E).locals = 114) (p0 p1 p2 p3 p4 : Int) : ∀ (n : Nat) (p5 : Int) (H : PH), lq1 (lX8_table_100 p0 p1 p2 p3 p4) n p5 H = some (rr, HH) → PW E 100 [some (vr p0), some (vi p1), some (vi p2), some (vr p3), some (vr p4), some (vi p5), none, none] [] H := by
  refine lq1_ind (P := fun p5 H => PW E 100 [some (vr p0), some (vi p1), some (vi p2), some (vr p3), some (vr p4), some (vi p5), none, none] [] H) ?_
  intro self100 ih100 p5 H h
  unfold lX8_table_100 at h
  refine pw_iload (pc := 100) F dX8_table_100 rfl ?_
  refine pw_aload_n (pc := 102) F dX8_table_102 rfl ?_
  obtain ⟨x1, ex1, h⟩ := bnd h
  refine pw_get (pc := 103) F 8 2 98 (by decide) (by decide) g_51d983fb79 inl_8 0 rfl dX8_table_103 ex1 ?_
  refine pw_icmp_ge (pc := 106) F 187 dX8_table_106 (by decide) (fun hc => ?_) (fun hc => ?_)
  · have h := iteT hc h
    refine pw_aload_n (pc := 187) F dX8_table_187 rfl ?_
    obtain ⟨x2, ex2, h⟩ := bnd h
    refine pw_get (pc := 188) F 8 5 31 (by decide) (by decide) g_c78e80ff2c inl_8 2 rfl dX8_table_188 ex2 ?_
    obtain ⟨z3, ez3, h⟩ := bnd h
    refine pw_callV (pc := 191) (as := []) (st := []) (r := (some (vi z3.1))) F 260 7 (by decide) rfl (fun l => m_X7_cells l x2 H z3.1 z3.2 ez3) g_3d29d25594 g_63b3101b09 g_52aff81344 g_030a77a6da g_6db5cc8efa hd_X7_cells (rm_ok hf hl (by decide) (by decide)) rfl (vm_spec ez3).1 dX8_table_191 rfl (stk' := [vi z3.1]) rfl ?_
    cases h
    exact pw_iret (pc := 194) F q dX8_table_194
  · have h := iteF hc h
    refine pw_aload_n (pc := 109) F dX8_table_109 rfl ?_
    obtain ⟨x4, ex4, h⟩ := bnd h
    refine pw_get (pc := 110) F 8 1 18 (by decide) (by decide) g_0efda17134 inl_8 2 rfl dX8_table_110 ex4 ?_
    refine pw_iload (pc := 113) F dX8_table_113 rfl ?_
    obtain ⟨x5, ex5, h⟩ := bnd h
    refine pw_aald (pc := 115) F 5 (by decide) dX8_table_115 ex5 ?_
    refine pw_astore (pc := 116) F dX8_table_116 (lt_nl hn (by decide)) [some (vr p0), some (vi p1), some (vi p2), some (vr p3), some (vr p4), some (vi p5), some (vr x5), none] rfl ?_
    refine pw_aload_n (pc := 118) F dX8_table_118 rfl ?_
    obtain ⟨x6, ex6, h⟩ := bnd h
    refine pw_get (pc := 119) F 8 0 12 (by decide) (by decide) g_955d9610dc inl_8 2 rfl dX8_table_119 ex6 ?_
    refine pw_aload (pc := 122) F dX8_table_122 rfl ?_
    obtain ⟨z7, ez7, h⟩ := bnd h
    refine pw_callV (pc := 124) (as := [vr x5]) (st := []) (r := none) F 179 3 (by decide) rfl (fun l => m_X3_settle l x6 x5 H z7.1 z7.2 ez7) g_9494b7b84e g_25b0bd7147 g_67c8dc0219 g_106b72596f g_d1a08fcf56 hd_X3_settle (rm_ok hf hl (by decide) (by decide)) rfl (vm_spec ez7).1 dX8_table_124 rfl (stk' := []) rfl ?_
    refine pw_aload (pc := 127) F dX8_table_127 rfl ?_
    refine pw_ifnonnull (pc := 129) F 136 dX8_table_129 (by decide) (fun hc => ?_) (fun hc => ?_)
    · have h := iteT hc h
      refine pw_aload (pc := 136) F dX8_table_136 rfl ?_
      refine pw_aload (pc := 138) F dX8_table_138 rfl ?_
      obtain ⟨x8, ex8, h⟩ := bnd h
      refine pw_get (pc := 140) F 4 0 126 (by decide) (by decide) g_8ec333b1d7 inl_4 2 rfl dX8_table_140 ex8 ?_
      refine pw_iload_n (pc := 143) F dX8_table_143 rfl ?_
      refine pw_iconst (pc := 144) F (-1) dX8_table_144 (by decide) ?_
      obtain ⟨z9, ez9, h⟩ := bnd h
      refine pw_callS (pc := 145) (as := [vi p2, vi (-1)]) (st := [vr x8, vr p4]) (r := (some (vi z9.1))) F 130 (fun l => m_X8_spot l p2 (-1) z7.2 z9.1 z9.2 ez9) g_3d0f1a9b86 g_aa0997f699 g_99e03e18e2 g_0d0469f624 hd_X8_spot (rm_ok hf hl (by decide) (by decide)) rfl dX8_table_145 rfl (stk' := [vi z9.1, vr x8, vr p4]) rfl ?_
      obtain ⟨z10, ez10, h⟩ := bnd h
      refine pw_callV (pc := 148) (as := [vr x8, vi z9.1]) (st := []) (r := (some (vi z10.1))) F 254 5 (by decide) rfl (fun l => m_X5_lineOf l p4 x8 z9.1 z9.2 z10.1 z10.2 ez10) g_bfa4e4bba1 g_b3cde23ee5 g_6ae0ac66b4 g_5f14f7581a g_635f6f7457 hd_X5_lineOf (rm_ok hf hl (by decide) (by decide)) rfl (vm_spec ez10).1 dX8_table_148 rfl (stk' := [vi z10.1]) rfl ?_
      exact pw_mask [true, true, true, true, true, true, true, true] (ls' := [some (vr p0), some (vi p1), some (vi p2), some (vr p3), some (vr p4), some (vi p5), some (vr x5), none]) rfl (jX8_table_151_ok F q hn hf hl self100 p0 p1 p2 p3 p4 p5 x5 z10.1 z10.2 ih100 h)
    · have h := iteF hc h
      refine pw_iconst (pc := 132) F 0 dX8_table_132 (by decide) ?_
      refine pw_goto (pc := 133) F 151 dX8_table_133 (by decide) ?_
      exact pw_mask [true, true, true, true, true, true, true, true] (ls' := [some (vr p0), some (vi p1), some (vi p2), some (vr p3), some (vr p4), some (vi p5), some (vr x5), none]) rfl (jX8_table_151_ok F q hn hf hl self100 p0 p1 p2 p3 p4 p5 x5 0 z7.2 ih100 h)
def jX8_table_94 (p0 p1 p2 p3 p4 s0 s1 s2 s3 : Int) (H : PH) : RO :=
  (f_X7_start s0 s1 s2 s3 H).bind fun z1 => lq1 (lX8_table_100 p0 p1 p2 p3 p4) 6000 0 z1.2
set_option maxHeartbeats 4000000 in
theorem jX8_table_94_ok {E : PE} {rr : Int} {HH : PH} (F : FX E cX8_table RX8) (q : QE E (some (vi rr)) HH (some .int)) (hn : nLof E = 8) (hf : (roomOf E).frames = 5) (hl : (roomOf E).locals = 114) (p0 p1 p2 p3 p4 s0 s1 s2 s3 : Int) (H : PH) (h : jX8_table_94 p0 p1 p2 p3 p4 s0 s1 s2 s3 H = some (rr, HH)) : PW E 94 [some (vr p0), some (vi p1), some (vi p2), some (vr p3), some (vr p4), none, none, none] [vi s3, vi s2, vi s1, vr s0] H := by
  unfold jX8_table_94 at h
  obtain ⟨z1, ez1, h⟩ := bnd h
  refine pw_callV (pc := 94) (as := [vi s1, vi s2, vi s3]) (st := []) (r := none) F 251 7 (by decide) rfl (fun l => m_X7_start l s0 s1 s2 s3 H z1.1 z1.2 ez1) g_60e5a608ca g_9d93cff407 g_4b0fd06b0b g_030a77a6da g_afc6da9dc6 hd_X7_start (rm_ok hf hl (by decide) (by decide)) rfl (vm_spec ez1).1 dX8_table_94 rfl (stk' := []) rfl ?_
  refine pw_iconst (pc := 97) F 0 dX8_table_97 (by decide) ?_
  refine pw_istore (pc := 98) F dX8_table_98 (lt_nl hn (by decide)) [some (vr p0), some (vi p1), some (vi p2), some (vr p3), some (vr p4), some (vi 0), none, none] rfl ?_
  exact pw_mask [true, true, true, true, true, true, true, true] (ls' := [some (vr p0), some (vi p1), some (vi p2), some (vr p3), some (vr p4), some (vi 0), none, none]) rfl (lX8_table_100_ok F q hn hf hl p0 p1 p2 p3 p4  6000 0 z1.2 h)
def jX8_table_84 (p0 p1 p2 p3 p4 s0 s1 s2 : Int) (H : PH) : RO :=
  (if p4 = -1 then jX8_table_94 p0 p1 p2 p3 p4 s0 s1 s2 0 H
  else jX8_table_94 p0 p1 p2 p3 p4 s0 s1 s2 1 H)
set_option maxHeartbeats 4000000 in
theorem jX8_table_84_ok {E : PE} {rr : Int} {HH : PH} (F : FX E cX8_table RX8) (q : QE E (some (vi rr)) HH (some .int)) (hn : nLof E = 8) (hf : (roomOf E).frames = 5) (hl : (roomOf E).locals = 114) (p0 p1 p2 p3 p4 s0 s1 s2 : Int) (H : PH) (h : jX8_table_84 p0 p1 p2 p3 p4 s0 s1 s2 H = some (rr, HH)) : PW E 84 [some (vr p0), some (vi p1), some (vi p2), some (vr p3), some (vr p4), none, none, none] [vi s2, vi s1, vr s0] H := by
  unfold jX8_table_84 at h
  refine pw_aload (pc := 84) F dX8_table_84 rfl ?_
  refine pw_ifnull (pc := 86) F 93 dX8_table_86 (by decide) (fun hc => ?_) (fun hc => ?_)
  · have h := iteT hc h
    refine pw_iconst (pc := 93) F 0 dX8_table_93 (by decide) ?_
    exact pw_mask [true, true, true, true, true, true, true, true] (ls' := [some (vr p0), some (vi p1), some (vi p2), some (vr p3), some (vr p4), none, none, none]) rfl (jX8_table_94_ok F q hn hf hl p0 p1 p2 p3 p4 s0 s1 s2 0 H h)
  · have h := iteF hc h
    refine pw_iconst (pc := 89) F 1 dX8_table_89 (by decide) ?_
    refine pw_goto (pc := 90) F 94 dX8_table_90 (by decide) ?_
    exact pw_mask [true, true, true, true, true, true, true, true] (ls' := [some (vr p0), some (vi p1), some (vi p2), some (vr p3), some (vr p4), none, none, none]) rfl (jX8_table_94_ok F q hn hf hl p0 p1 p2 p3 p4 s0 s1 s2 1 H h)
def jX8_table_58 (p0 p1 p2 p3 p4 : Int) (H : PH) : RO :=
  (ld 24 H p0 5).bind fun x1 => (ld 21 H p3 5).bind fun x2 => (if p4 ≠ -1 then (ld 21 H p4 5).bind fun x3 => jX8_table_84 p0 p1 p2 p3 p4 x1 (w32 (x2 + 1)) (w32 (x3 + 1)) H
  else jX8_table_84 p0 p1 p2 p3 p4 x1 (w32 (x2 + 1)) 1 H)
set_option maxHeartbeats 4000000 in
theorem jX8_table_58_ok {E : PE} {rr : Int} {HH : PH} (F : FX E cX8_table RX8) (q : QE E (some (vi rr)) HH (some .int)) (hn : nLof E = 8) (hf : (roomOf E).frames = 5) (hl : (roomOf E).locals = 114) (p0 p1 p2 p3 p4 : Int) (H : PH) (h : jX8_table_58 p0 p1 p2 p3 p4 H = some (rr, HH)) : PW E 58 [some (vr p0), some (vi p1), some (vi p2), some (vr p3), some (vr p4), none, none, none] [] H := by
  unfold jX8_table_58 at h
  refine pw_aload_n (pc := 58) F dX8_table_58 rfl ?_
  obtain ⟨x1, ex1, h⟩ := bnd h
  refine pw_get (pc := 59) F 8 5 31 (by decide) (by decide) g_c78e80ff2c inl_8 2 rfl dX8_table_59 ex1 ?_
  refine pw_aload_n (pc := 62) F dX8_table_62 rfl ?_
  obtain ⟨x2, ex2, h⟩ := bnd h
  refine pw_get (pc := 63) F 5 5 82 (by decide) (by decide) g_64ca63fe2f inl_5 0 rfl dX8_table_63 ex2 ?_
  refine pw_iconst (pc := 66) F 1 dX8_table_66 (by decide) ?_
  refine pw_iadd (pc := 67) F dX8_table_67 ?_
  refine pw_aload (pc := 68) F dX8_table_68 rfl ?_
  refine pw_ifnonnull (pc := 70) F 77 dX8_table_70 (by decide) (fun hc => ?_) (fun hc => ?_)
  · have h := iteT hc h
    refine pw_aload (pc := 77) F dX8_table_77 rfl ?_
    obtain ⟨x3, ex3, h⟩ := bnd h
    refine pw_get (pc := 79) F 5 5 82 (by decide) (by decide) g_64ca63fe2f inl_5 0 rfl dX8_table_79 ex3 ?_
    refine pw_iconst (pc := 82) F 1 dX8_table_82 (by decide) ?_
    refine pw_iadd (pc := 83) F dX8_table_83 ?_
    exact pw_mask [true, true, true, true, true, true, true, true] (ls' := [some (vr p0), some (vi p1), some (vi p2), some (vr p3), some (vr p4), none, none, none]) rfl (jX8_table_84_ok F q hn hf hl p0 p1 p2 p3 p4 x1 (w32 (x2 + 1)) (w32 (x3 + 1)) H h)
  · have h := iteF hc h
    refine pw_iconst (pc := 73) F 1 dX8_table_73 (by decide) ?_
    refine pw_goto (pc := 74) F 84 dX8_table_74 (by decide) ?_
    exact pw_mask [true, true, true, true, true, true, true, true] (ls' := [some (vr p0), some (vi p1), some (vi p2), some (vr p3), some (vr p4), none, none, none]) rfl (jX8_table_84_ok F q hn hf hl p0 p1 p2 p3 p4 x1 (w32 (x2 + 1)) 1 H h)
def jX8_table_35 (p0 p1 p2 p3 p4 : Int) (H : PH) : RO :=
  (f_X5_makesLines p3 H).bind fun z1 => (if z1.1 = 0 then some ((-2), z1.2)
  else (if p4 = -1 then jX8_table_58 p0 p1 p2 p3 p4 z1.2
  else (f_X5_makesLines p4 z1.2).bind fun z2 => (if z2.1 ≠ 0 then jX8_table_58 p0 p1 p2 p3 p4 z2.2
  else some ((-2), z2.2))))
set_option maxHeartbeats 4000000 in
theorem jX8_table_35_ok {E : PE} {rr : Int} {HH : PH} (F : FX E cX8_table RX8) (q : QE E (some (vi rr)) HH (some .int)) (hn : nLof E = 8) (hf : (roomOf E).frames = 5) (hl : (roomOf E).locals = 114) (p0 p1 p2 p3 p4 : Int) (H : PH) (h : jX8_table_35 p0 p1 p2 p3 p4 H = some (rr, HH)) : PW E 35 [some (vr p0), some (vi p1), some (vi p2), some (vr p3), some (vr p4), none, none, none] [] H := by
  unfold jX8_table_35 at h
  refine pw_aload_n (pc := 35) F dX8_table_35 rfl ?_
  obtain ⟨z1, ez1, h⟩ := bnd h
  refine pw_callV (pc := 36) (as := []) (st := []) (r := (some (vi z1.1))) F 248 5 (by decide) rfl (fun l => m_X5_makesLines l p3 H z1.1 z1.2 ez1) g_7bf7dfa137 g_5a5bc07de7 g_e37b655663 g_5f14f7581a g_dc9b79beee hd_X5_makesLines (rm_ok hf hl (by decide) (by decide)) rfl (vm_spec ez1).1 dX8_table_36 rfl (stk' := [vi z1.1]) rfl ?_
  refine pw_if_eq (pc := 39) F 55 dX8_table_39 (by decide) (fun hc => ?_) (fun hc => ?_)
  · have h := iteT hc h
    refine pw_bipush (pc := 55) F (-2) dX8_table_55 (by decide) ?_
    cases h
    exact pw_iret (pc := 57) F q dX8_table_57
  · have h := iteF hc h
    refine pw_aload (pc := 42) F dX8_table_42 rfl ?_
    refine pw_ifnull (pc := 44) F 58 dX8_table_44 (by decide) (fun hc => ?_) (fun hc => ?_)
    · have h := iteT hc h
      exact pw_mask [true, true, true, true, true, true, true, true] (ls' := [some (vr p0), some (vi p1), some (vi p2), some (vr p3), some (vr p4), none, none, none]) rfl (jX8_table_58_ok F q hn hf hl p0 p1 p2 p3 p4 z1.2 h)
    · have h := iteF hc h
      refine pw_aload (pc := 47) F dX8_table_47 rfl ?_
      obtain ⟨z2, ez2, h⟩ := bnd h
      refine pw_callV (pc := 49) (as := []) (st := []) (r := (some (vi z2.1))) F 248 5 (by decide) rfl (fun l => m_X5_makesLines l p4 z1.2 z2.1 z2.2 ez2) g_7bf7dfa137 g_5a5bc07de7 g_e37b655663 g_5f14f7581a g_dc9b79beee hd_X5_makesLines (rm_ok hf hl (by decide) (by decide)) rfl (vm_spec ez2).1 dX8_table_49 rfl (stk' := [vi z2.1]) rfl ?_
      refine pw_if_ne (pc := 52) F 58 dX8_table_52 (by decide) (fun hc => ?_) (fun hc => ?_)
      · have h := iteT hc h
        exact pw_mask [true, true, true, true, true, true, true, true] (ls' := [some (vr p0), some (vi p1), some (vi p2), some (vr p3), some (vr p4), none, none, none]) rfl (jX8_table_58_ok F q hn hf hl p0 p1 p2 p3 p4 z2.2 h)
      · have h := iteF hc h
        refine pw_bipush (pc := 55) F (-2) dX8_table_55 (by decide) ?_
        cases h
        exact pw_iret (pc := 57) F q dX8_table_57
def f_X8_table (a0 a1 a2 : Int) (H : PH) : RO := vm 8 a0 H <|
  (ld 24 H a0 0).bind fun x1 => (f_X3_questionOf x1 a1 H).bind fun z2 => (ld 24 z2.2 a0 0).bind fun x3 => (f_X3_questionOf x3 a2 z2.2).bind fun z4 => (if z2.1 = -1 then some ((-1), z4.2)
  else (if a2 = (-1) then jX8_table_35 a0 a1 a2 z2.1 z4.1 z4.2
  else (if z4.1 ≠ -1 then jX8_table_35 a0 a1 a2 z2.1 z4.1 z4.2
  else some ((-1), z4.2))))
set_option maxHeartbeats 4000000 in
theorem m_X8_table (l : Launch) (a0 a1 a2 : Int) (H : PH) (rr : Int) (HH : PH) (h : f_X8_table a0 a1 a2 H = some (rr, HH)) : CT l yX8_table cX8_table 8 (some .int) 5 114 [vr a0, vi a1, vi a2] H (some (vi rr)) HH := by
  refine CT.of RX8 (by decide) rfl [some (vr a0), some (vi a1), some (vi a2), none, none, none, none, none] rfl rfl ?_
  intro E F q hn hf hl hm
  unfold f_X8_table at h
  obtain ⟨hv, h⟩ := vm_spec h
  refine pw_aload_n (pc := 0) F dX8_table_0 rfl ?_
  obtain ⟨x1, ex1, h⟩ := bnd h
  refine pw_get (pc := 1) F 8 0 12 (by decide) (by decide) g_955d9610dc inl_8 2 rfl dX8_table_1 ex1 ?_
  refine pw_iload_n (pc := 4) F dX8_table_4 rfl ?_
  obtain ⟨z2, ez2, h⟩ := bnd h
  refine pw_callV (pc := 5) (as := [vi a1]) (st := []) (r := (some (vr z2.1))) F 46 3 (by decide) rfl (fun l => m_X3_questionOf l x1 a1 H z2.1 z2.2 ez2) g_babc17a83a g_e6ef547307 g_4b42450d0b g_106b72596f g_1cf8e31489 hd_X3_questionOf (rm_ok hf hl (by decide) (by decide)) rfl (vm_spec ez2).1 dX8_table_5 rfl (stk' := [vr z2.1]) rfl ?_
  refine pw_astore_n (pc := 8) F dX8_table_8 (lt_nl hn (by decide)) [some (vr a0), some (vi a1), some (vi a2), some (vr z2.1), none, none, none, none] rfl ?_
  refine pw_aload_n (pc := 9) F dX8_table_9 rfl ?_
  obtain ⟨x3, ex3, h⟩ := bnd h
  refine pw_get (pc := 10) F 8 0 12 (by decide) (by decide) g_955d9610dc inl_8 2 rfl dX8_table_10 ex3 ?_
  refine pw_iload_n (pc := 13) F dX8_table_13 rfl ?_
  obtain ⟨z4, ez4, h⟩ := bnd h
  refine pw_callV (pc := 14) (as := [vi a2]) (st := []) (r := (some (vr z4.1))) F 46 3 (by decide) rfl (fun l => m_X3_questionOf l x3 a2 z2.2 z4.1 z4.2 ez4) g_babc17a83a g_e6ef547307 g_4b42450d0b g_106b72596f g_1cf8e31489 hd_X3_questionOf (rm_ok hf hl (by decide) (by decide)) rfl (vm_spec ez4).1 dX8_table_14 rfl (stk' := [vr z4.1]) rfl ?_
  refine pw_astore (pc := 17) F dX8_table_17 (lt_nl hn (by decide)) [some (vr a0), some (vi a1), some (vi a2), some (vr z2.1), some (vr z4.1), none, none, none] rfl ?_
  refine pw_aload_n (pc := 19) F dX8_table_19 rfl ?_
  refine pw_ifnull (pc := 20) F 33 dX8_table_20 (by decide) (fun hc => ?_) (fun hc => ?_)
  · have h := iteT hc h
    refine pw_iconst (pc := 33) F (-1) dX8_table_33 (by decide) ?_
    cases h
    exact pw_iret (pc := 34) F q dX8_table_34
  · have h := iteF hc h
    refine pw_iload_n (pc := 23) F dX8_table_23 rfl ?_
    refine pw_iconst (pc := 24) F (-1) dX8_table_24 (by decide) ?_
    refine pw_icmp_eq (pc := 25) F 35 dX8_table_25 (by decide) (fun hc => ?_) (fun hc => ?_)
    · have h := iteT hc h
      exact pw_mask [true, true, true, true, true, true, true, true] (ls' := [some (vr a0), some (vi a1), some (vi a2), some (vr z2.1), some (vr z4.1), none, none, none]) rfl (jX8_table_35_ok F q hn hf hl a0 a1 a2 z2.1 z4.1 z4.2 h)
    · have h := iteF hc h
      refine pw_aload (pc := 28) F dX8_table_28 rfl ?_
      refine pw_ifnonnull (pc := 30) F 35 dX8_table_30 (by decide) (fun hc => ?_) (fun hc => ?_)
      · have h := iteT hc h
        exact pw_mask [true, true, true, true, true, true, true, true] (ls' := [some (vr a0), some (vi a1), some (vi a2), some (vr z2.1), some (vr z4.1), none, none, none]) rfl (jX8_table_35_ok F q hn hf hl a0 a1 a2 z2.1 z4.1 z4.2 h)
      · have h := iteF hc h
        refine pw_iconst (pc := 33) F (-1) dX8_table_33 (by decide) ?_
        cases h
        exact pw_iret (pc := 34) F q dX8_table_34
/-! HouseholdVault.cell(III)J -/
theorem dX8_cell_0 : decode cX8_cell 0 = .ok (.aload_n 0, 1) := by decide +kernel
theorem dX8_cell_1 : decode cX8_cell 1 = .ok (.getfield 31, 3) := by decide +kernel
theorem dX8_cell_4 : decode cX8_cell 4 = .ok (.iload_n 1, 1) := by decide +kernel
theorem dX8_cell_5 : decode cX8_cell 5 = .ok (.iload_n 2, 1) := by decide +kernel
theorem dX8_cell_6 : decode cX8_cell 6 = .ok (.invokevirtual 264, 3) := by decide +kernel
theorem dX8_cell_9 : decode cX8_cell 9 = .ok (.ifCond .ne 7, 3) := by decide +kernel
theorem dX8_cell_12 : decode cX8_cell 12 = .ok (.ldc2_w 268, 3) := by decide +kernel
theorem dX8_cell_15 : decode cX8_cell 15 = .ok (.lreturn, 1) := by decide +kernel
theorem dX8_cell_16 : decode cX8_cell 16 = .ok (.iload_n 3, 1) := by decide +kernel
theorem dX8_cell_17 : decode cX8_cell 17 = .ok (.tableswitch 82 0 2 #[27, 46, 64], 27) := by decide +kernel
theorem dX8_cell_44 : decode cX8_cell 44 = .ok (.aload_n 0, 1) := by decide +kernel
theorem dX8_cell_45 : decode cX8_cell 45 = .ok (.getfield 31, 3) := by decide +kernel
theorem dX8_cell_48 : decode cX8_cell 48 = .ok (.getfield 270, 3) := by decide +kernel
theorem dX8_cell_51 : decode cX8_cell 51 = .ok (.aload_n 0, 1) := by decide +kernel
theorem dX8_cell_52 : decode cX8_cell 52 = .ok (.getfield 31, 3) := by decide +kernel
theorem dX8_cell_55 : decode cX8_cell 55 = .ok (.iload_n 1, 1) := by decide +kernel
theorem dX8_cell_56 : decode cX8_cell 56 = .ok (.iload_n 2, 1) := by decide +kernel
theorem dX8_cell_57 : decode cX8_cell 57 = .ok (.invokevirtual 273, 3) := by decide +kernel
theorem dX8_cell_60 : decode cX8_cell 60 = .ok (.iaload, 1) := by decide +kernel
theorem dX8_cell_61 : decode cX8_cell 61 = .ok (.i2l, 1) := by decide +kernel
theorem dX8_cell_62 : decode cX8_cell 62 = .ok (.lreturn, 1) := by decide +kernel
theorem dX8_cell_63 : decode cX8_cell 63 = .ok (.aload_n 0, 1) := by decide +kernel
theorem dX8_cell_64 : decode cX8_cell 64 = .ok (.getfield 31, 3) := by decide +kernel
theorem dX8_cell_67 : decode cX8_cell 67 = .ok (.getfield 276, 3) := by decide +kernel
theorem dX8_cell_70 : decode cX8_cell 70 = .ok (.aload_n 0, 1) := by decide +kernel
theorem dX8_cell_71 : decode cX8_cell 71 = .ok (.getfield 31, 3) := by decide +kernel
theorem dX8_cell_74 : decode cX8_cell 74 = .ok (.iload_n 1, 1) := by decide +kernel
theorem dX8_cell_75 : decode cX8_cell 75 = .ok (.iload_n 2, 1) := by decide +kernel
theorem dX8_cell_76 : decode cX8_cell 76 = .ok (.invokevirtual 273, 3) := by decide +kernel
theorem dX8_cell_79 : decode cX8_cell 79 = .ok (.laload, 1) := by decide +kernel
theorem dX8_cell_80 : decode cX8_cell 80 = .ok (.lreturn, 1) := by decide +kernel
theorem dX8_cell_81 : decode cX8_cell 81 = .ok (.aload_n 0, 1) := by decide +kernel
theorem dX8_cell_82 : decode cX8_cell 82 = .ok (.getfield 31, 3) := by decide +kernel
theorem dX8_cell_85 : decode cX8_cell 85 = .ok (.iload_n 1, 1) := by decide +kernel
theorem dX8_cell_86 : decode cX8_cell 86 = .ok (.iload_n 2, 1) := by decide +kernel
theorem dX8_cell_87 : decode cX8_cell 87 = .ok (.invokevirtual 279, 3) := by decide +kernel
theorem dX8_cell_90 : decode cX8_cell 90 = .ok (.ifCond .eq 7, 3) := by decide +kernel
theorem dX8_cell_93 : decode cX8_cell 93 = .ok (.lconst 1, 1) := by decide +kernel
theorem dX8_cell_94 : decode cX8_cell 94 = .ok (.goto 4, 3) := by decide +kernel
theorem dX8_cell_97 : decode cX8_cell 97 = .ok (.lconst 0, 1) := by decide +kernel
theorem dX8_cell_98 : decode cX8_cell 98 = .ok (.lreturn, 1) := by decide +kernel
theorem dX8_cell_99 : decode cX8_cell 99 = .ok (.ldc2_w 268, 3) := by decide +kernel
theorem dX8_cell_102 : decode cX8_cell 102 = .ok (.lreturn, 1) := by decide +kernel
def f_X8_cell (a0 a1 a2 a3 : Int) (H : PH) : RO := vm 8 a0 H <|
  (ld 24 H a0 5).bind fun x1 => (f_X7_hasCell x1 a1 a2 H).bind fun z2 => (if z2.1 ≠ 0 then (if a3 < 0 ∨ 2 < a3 then some ((-1), z2.2)
  else List.getD [(ld 24 z2.2 a0 5).bind fun x3 => (ld 23 z2.2 x3 3).bind fun x4 => (ld 24 z2.2 a0 5).bind fun x5 => (f_X7_at x5 a1 a2 z2.2).bind fun z6 => (ld 0 z6.2 x4 z6.1).bind fun x7 => some (x7, z6.2), (ld 24 z2.2 a0 5).bind fun x8 => (ld 23 z2.2 x8 4).bind fun x9 => (ld 24 z2.2 a0 5).bind fun x10 => (f_X7_at x10 a1 a2 z2.2).bind fun z11 => (ld 1 z11.2 x9 z11.1).bind fun x12 => some (x12, z11.2), (ld 24 z2.2 a0 5).bind fun x13 => (f_X7_isHeld x13 a1 a2 z2.2).bind fun z14 => (if z14.1 = 0 then some (0, z14.2)
  else some (1, z14.2))] (a3 - 0).toNat none)
  else some ((-1), z2.2))
set_option maxHeartbeats 4000000 in
theorem m_X8_cell (l : Launch) (a0 a1 a2 a3 : Int) (H : PH) (rr : Int) (HH : PH) (h : f_X8_cell a0 a1 a2 a3 H = some (rr, HH)) : CT l yX8_cell cX8_cell 4 (some .long) 1 22 [vr a0, vi a1, vi a2, vi a3] H (some (vl rr)) HH := by
  refine CT.of RX8 (by decide) rfl [some (vr a0), some (vi a1), some (vi a2), some (vi a3)] rfl rfl ?_
  intro E F q hn hf hl hm
  unfold f_X8_cell at h
  obtain ⟨hv, h⟩ := vm_spec h
  refine pw_aload_n (pc := 0) F dX8_cell_0 rfl ?_
  obtain ⟨x1, ex1, h⟩ := bnd h
  refine pw_get (pc := 1) F 8 5 31 (by decide) (by decide) g_c78e80ff2c inl_8 2 rfl dX8_cell_1 ex1 ?_
  refine pw_iload_n (pc := 4) F dX8_cell_4 rfl ?_
  refine pw_iload_n (pc := 5) F dX8_cell_5 rfl ?_
  obtain ⟨z2, ez2, h⟩ := bnd h
  refine pw_callV (pc := 6) (as := [vi a1, vi a2]) (st := []) (r := (some (vi z2.1))) F 264 7 (by decide) rfl (fun l => m_X7_hasCell l x1 a1 a2 H z2.1 z2.2 ez2) g_b2b8ba44bf g_9f89e3469c g_41bf281d0f g_030a77a6da g_7f7d992768 hd_X7_hasCell (rm_ok hf hl (by decide) (by decide)) rfl (vm_spec ez2).1 dX8_cell_6 rfl (stk' := [vi z2.1]) rfl ?_
  refine pw_if_ne (pc := 9) F 16 dX8_cell_9 (by decide) (fun hc => ?_) (fun hc => ?_)
  · have h := iteT hc h
    refine pw_iload_n (pc := 16) F dX8_cell_16 rfl ?_
    refine pw_table (pc := 17) F dX8_cell_17 99 (by decide) [44, 63, 81] (by decide) (by decide) (fun hc => ?_) (fun i t ht ha => ?_)
    · have h := iteT hc h
      refine pw_ldc2 (pc := 99) F (-1) g_a2ef48c1d8 dX8_cell_99 (by decide) ?_
      cases h
      exact pw_lret (pc := 102) F q dX8_cell_102
    · have hc : ¬ (a3 < 0 ∨ 2 < a3) := sw_in 3 ht ha (by decide) (by decide)
      have h := iteF hc h
      have h := sw_at ha h
      match i, ht, h with
      | 0, ht, h =>
        obtain rfl : 44 = t := Option.some.inj ht
        have h : ((ld 24 z2.2 a0 5).bind fun x3 => (ld 23 z2.2 x3 3).bind fun x4 => (ld 24 z2.2 a0 5).bind fun x5 => (f_X7_at x5 a1 a2 z2.2).bind fun z6 => (ld 0 z6.2 x4 z6.1).bind fun x7 => some (x7, z6.2) : RO) = some (rr, HH) := h
        refine pw_aload_n (pc := 44) F dX8_cell_44 rfl ?_
        obtain ⟨x3, ex3, h⟩ := bnd h
        refine pw_get (pc := 45) F 8 5 31 (by decide) (by decide) g_c78e80ff2c inl_8 2 rfl dX8_cell_45 ex3 ?_
        obtain ⟨x4, ex4, h⟩ := bnd h
        refine pw_get (pc := 48) F 7 3 270 (by decide) (by decide) g_1e17824656 inl_7 2 rfl dX8_cell_48 ex4 ?_
        refine pw_aload_n (pc := 51) F dX8_cell_51 rfl ?_
        obtain ⟨x5, ex5, h⟩ := bnd h
        refine pw_get (pc := 52) F 8 5 31 (by decide) (by decide) g_c78e80ff2c inl_8 2 rfl dX8_cell_52 ex5 ?_
        refine pw_iload_n (pc := 55) F dX8_cell_55 rfl ?_
        refine pw_iload_n (pc := 56) F dX8_cell_56 rfl ?_
        obtain ⟨z6, ez6, h⟩ := bnd h
        refine pw_callV (pc := 57) (as := [vi a1, vi a2]) (st := [vr x4]) (r := (some (vi z6.1))) F 273 7 (by decide) rfl (fun l => m_X7_at l x5 a1 a2 z2.2 z6.1 z6.2 ez6) g_4a2d7072d1 g_e482649742 g_bf833bcebb g_030a77a6da g_4843a546b7 hd_X7_at (rm_ok hf hl (by decide) (by decide)) rfl (vm_spec ez6).1 dX8_cell_57 rfl (stk' := [vi z6.1, vr x4]) rfl ?_
        obtain ⟨x7, ex7, h⟩ := bnd h
        refine pw_iald (pc := 60) F dX8_cell_60 ex7 ?_
        refine pw_i2l (pc := 61) F dX8_cell_61 ?_
        cases h
        exact pw_lret (pc := 62) F q dX8_cell_62
      | 1, ht, h =>
        obtain rfl : 63 = t := Option.some.inj ht
        have h : ((ld 24 z2.2 a0 5).bind fun x8 => (ld 23 z2.2 x8 4).bind fun x9 => (ld 24 z2.2 a0 5).bind fun x10 => (f_X7_at x10 a1 a2 z2.2).bind fun z11 => (ld 1 z11.2 x9 z11.1).bind fun x12 => some (x12, z11.2) : RO) = some (rr, HH) := h
        refine pw_aload_n (pc := 63) F dX8_cell_63 rfl ?_
        obtain ⟨x8, ex8, h⟩ := bnd h
        refine pw_get (pc := 64) F 8 5 31 (by decide) (by decide) g_c78e80ff2c inl_8 2 rfl dX8_cell_64 ex8 ?_
        obtain ⟨x9, ex9, h⟩ := bnd h
        refine pw_get (pc := 67) F 7 4 276 (by decide) (by decide) g_e6acd3c6bb inl_7 2 rfl dX8_cell_67 ex9 ?_
        refine pw_aload_n (pc := 70) F dX8_cell_70 rfl ?_
        obtain ⟨x10, ex10, h⟩ := bnd h
        refine pw_get (pc := 71) F 8 5 31 (by decide) (by decide) g_c78e80ff2c inl_8 2 rfl dX8_cell_71 ex10 ?_
        refine pw_iload_n (pc := 74) F dX8_cell_74 rfl ?_
        refine pw_iload_n (pc := 75) F dX8_cell_75 rfl ?_
        obtain ⟨z11, ez11, h⟩ := bnd h
        refine pw_callV (pc := 76) (as := [vi a1, vi a2]) (st := [vr x9]) (r := (some (vi z11.1))) F 273 7 (by decide) rfl (fun l => m_X7_at l x10 a1 a2 z2.2 z11.1 z11.2 ez11) g_4a2d7072d1 g_e482649742 g_bf833bcebb g_030a77a6da g_4843a546b7 hd_X7_at (rm_ok hf hl (by decide) (by decide)) rfl (vm_spec ez11).1 dX8_cell_76 rfl (stk' := [vi z11.1, vr x9]) rfl ?_
        obtain ⟨x12, ex12, h⟩ := bnd h
        refine pw_lald (pc := 79) F dX8_cell_79 ex12 ?_
        cases h
        exact pw_lret (pc := 80) F q dX8_cell_80
      | 2, ht, h =>
        obtain rfl : 81 = t := Option.some.inj ht
        have h : ((ld 24 z2.2 a0 5).bind fun x13 => (f_X7_isHeld x13 a1 a2 z2.2).bind fun z14 => (if z14.1 = 0 then some (0, z14.2)
  else some (1, z14.2)) : RO) = some (rr, HH) := h
        refine pw_aload_n (pc := 81) F dX8_cell_81 rfl ?_
        obtain ⟨x13, ex13, h⟩ := bnd h
        refine pw_get (pc := 82) F 8 5 31 (by decide) (by decide) g_c78e80ff2c inl_8 2 rfl dX8_cell_82 ex13 ?_
        refine pw_iload_n (pc := 85) F dX8_cell_85 rfl ?_
        refine pw_iload_n (pc := 86) F dX8_cell_86 rfl ?_
        obtain ⟨z14, ez14, h⟩ := bnd h
        refine pw_callV (pc := 87) (as := [vi a1, vi a2]) (st := []) (r := (some (vi z14.1))) F 279 7 (by decide) rfl (fun l => m_X7_isHeld l x13 a1 a2 z2.2 z14.1 z14.2 ez14) g_518c4145f3 g_8e7660debb g_2bb44259a2 g_030a77a6da g_24b12a3bb9 hd_X7_isHeld (rm_ok hf hl (by decide) (by decide)) rfl (vm_spec ez14).1 dX8_cell_87 rfl (stk' := [vi z14.1]) rfl ?_
        refine pw_if_eq (pc := 90) F 97 dX8_cell_90 (by decide) (fun hc => ?_) (fun hc => ?_)
        · have h := iteT hc h
          refine pw_lconst (pc := 97) F 0 dX8_cell_97 (by decide) ?_
          cases h
          exact pw_lret (pc := 98) F q dX8_cell_98
        · have h := iteF hc h
          refine pw_lconst (pc := 93) F 1 dX8_cell_93 (by decide) ?_
          refine pw_goto (pc := 94) F 98 dX8_cell_94 (by decide) ?_
          cases h
          exact pw_lret (pc := 98) F q dX8_cell_98
      | i + 3, ht, h => simp at ht
  · have h := iteF hc h
    refine pw_ldc2 (pc := 12) F (-1) g_a2ef48c1d8 dX8_cell_12 (by decide) ?_
    cases h
    exact pw_lret (pc := 15) F q dX8_cell_15
/-! HouseholdVault.shares(I)I -/
theorem dX8_shares_0 : decode cX8_shares 0 = .ok (.aload_n 0, 1) := by decide +kernel
theorem dX8_shares_1 : decode cX8_shares 1 = .ok (.getfield 31, 3) := by decide +kernel
theorem dX8_shares_4 : decode cX8_shares 4 = .ok (.invokevirtual 282, 3) := by decide +kernel
theorem dX8_shares_7 : decode cX8_shares 7 = .ok (.ifCond .ne 14, 3) := by decide +kernel
theorem dX8_shares_10 : decode cX8_shares 10 = .ok (.iload_n 1, 1) := by decide +kernel
theorem dX8_shares_11 : decode cX8_shares 11 = .ok (.ifCond .lt 10, 3) := by decide +kernel
theorem dX8_shares_14 : decode cX8_shares 14 = .ok (.iload_n 1, 1) := by decide +kernel
theorem dX8_shares_15 : decode cX8_shares 15 = .ok (.ldc_w 285, 3) := by decide +kernel
theorem dX8_shares_18 : decode cX8_shares 18 = .ok (.if_icmp .le 5, 3) := by decide +kernel
theorem dX8_shares_21 : decode cX8_shares 21 = .ok (.iconst (-1), 1) := by decide +kernel
theorem dX8_shares_22 : decode cX8_shares 22 = .ok (.ireturn, 1) := by decide +kernel
theorem dX8_shares_23 : decode cX8_shares 23 = .ok (.aload_n 0, 1) := by decide +kernel
theorem dX8_shares_24 : decode cX8_shares 24 = .ok (.getfield 31, 3) := by decide +kernel
theorem dX8_shares_27 : decode cX8_shares 27 = .ok (.iload_n 1, 1) := by decide +kernel
theorem dX8_shares_28 : decode cX8_shares 28 = .ok (.invokevirtual 286, 3) := by decide +kernel
theorem dX8_shares_31 : decode cX8_shares 31 = .ok (.ifCond .eq 7, 3) := by decide +kernel
theorem dX8_shares_34 : decode cX8_shares 34 = .ok (.iconst 1, 1) := by decide +kernel
theorem dX8_shares_35 : decode cX8_shares 35 = .ok (.goto 4, 3) := by decide +kernel
theorem dX8_shares_38 : decode cX8_shares 38 = .ok (.iconst 0, 1) := by decide +kernel
theorem dX8_shares_39 : decode cX8_shares 39 = .ok (.ireturn, 1) := by decide +kernel
def f_X8_shares (a0 a1 : Int) (H : PH) : RO := vm 8 a0 H <|
  (ld 24 H a0 5).bind fun x1 => (f_X7_isNone x1 H).bind fun z2 => (if z2.1 ≠ 0 then some ((-1), z2.2)
  else (if a1 < 0 then some ((-1), z2.2)
  else (if a1 ≤ 1000000 then (ld 24 z2.2 a0 5).bind fun x3 => (f_X7_reckonShares x3 a1 z2.2).bind fun z4 => (if z4.1 = 0 then some (0, z4.2)
  else some (1, z4.2))
  else some ((-1), z2.2))))
set_option maxHeartbeats 4000000 in
theorem m_X8_shares (l : Launch) (a0 a1 : Int) (H : PH) (rr : Int) (HH : PH) (h : f_X8_shares a0 a1 H = some (rr, HH)) : CT l yX8_shares cX8_shares 2 (some .int) 3 67 [vr a0, vi a1] H (some (vi rr)) HH := by
  refine CT.of RX8 (by decide) rfl [some (vr a0), some (vi a1)] rfl rfl ?_
  intro E F q hn hf hl hm
  unfold f_X8_shares at h
  obtain ⟨hv, h⟩ := vm_spec h
  refine pw_aload_n (pc := 0) F dX8_shares_0 rfl ?_
  obtain ⟨x1, ex1, h⟩ := bnd h
  refine pw_get (pc := 1) F 8 5 31 (by decide) (by decide) g_c78e80ff2c inl_8 2 rfl dX8_shares_1 ex1 ?_
  obtain ⟨z2, ez2, h⟩ := bnd h
  refine pw_callV (pc := 4) (as := []) (st := []) (r := (some (vi z2.1))) F 282 7 (by decide) rfl (fun l => m_X7_isNone l x1 H z2.1 z2.2 ez2) g_f11c670953 g_6a2e40d3a1 g_467962e0d4 g_030a77a6da g_80039af1cc hd_X7_isNone (rm_ok hf hl (by decide) (by decide)) rfl (vm_spec ez2).1 dX8_shares_4 rfl (stk' := [vi z2.1]) rfl ?_
  refine pw_if_ne (pc := 7) F 21 dX8_shares_7 (by decide) (fun hc => ?_) (fun hc => ?_)
  · have h := iteT hc h
    refine pw_iconst (pc := 21) F (-1) dX8_shares_21 (by decide) ?_
    cases h
    exact pw_iret (pc := 22) F q dX8_shares_22
  · have h := iteF hc h
    refine pw_iload_n (pc := 10) F dX8_shares_10 rfl ?_
    refine pw_if_lt (pc := 11) F 21 dX8_shares_11 (by decide) (fun hc => ?_) (fun hc => ?_)
    · have h := iteT hc h
      refine pw_iconst (pc := 21) F (-1) dX8_shares_21 (by decide) ?_
      cases h
      exact pw_iret (pc := 22) F q dX8_shares_22
    · have h := iteF hc h
      refine pw_iload_n (pc := 14) F dX8_shares_14 rfl ?_
      refine pw_ldcw (pc := 15) F 1000000 g_c24706a7a2 dX8_shares_15 (by decide) ?_
      refine pw_icmp_le (pc := 18) F 23 dX8_shares_18 (by decide) (fun hc => ?_) (fun hc => ?_)
      · have h := iteT hc h
        refine pw_aload_n (pc := 23) F dX8_shares_23 rfl ?_
        obtain ⟨x3, ex3, h⟩ := bnd h
        refine pw_get (pc := 24) F 8 5 31 (by decide) (by decide) g_c78e80ff2c inl_8 2 rfl dX8_shares_24 ex3 ?_
        refine pw_iload_n (pc := 27) F dX8_shares_27 rfl ?_
        obtain ⟨z4, ez4, h⟩ := bnd h
        refine pw_callV (pc := 28) (as := [vi a1]) (st := []) (r := (some (vi z4.1))) F 286 7 (by decide) rfl (fun l => m_X7_reckonShares l x3 a1 z2.2 z4.1 z4.2 ez4) g_aa59871201 g_189ffc9cfe g_fd95f1a6e1 g_030a77a6da g_771f48c82c hd_X7_reckonShares (rm_ok hf hl (by decide) (by decide)) rfl (vm_spec ez4).1 dX8_shares_28 rfl (stk' := [vi z4.1]) rfl ?_
        refine pw_if_eq (pc := 31) F 38 dX8_shares_31 (by decide) (fun hc => ?_) (fun hc => ?_)
        · have h := iteT hc h
          refine pw_iconst (pc := 38) F 0 dX8_shares_38 (by decide) ?_
          cases h
          exact pw_iret (pc := 39) F q dX8_shares_39
        · have h := iteF hc h
          refine pw_iconst (pc := 34) F 1 dX8_shares_34 (by decide) ?_
          refine pw_goto (pc := 35) F 39 dX8_shares_35 (by decide) ?_
          cases h
          exact pw_iret (pc := 39) F q dX8_shares_39
      · have h := iteF hc h
        refine pw_iconst (pc := 21) F (-1) dX8_shares_21 (by decide) ?_
        cases h
        exact pw_iret (pc := 22) F q dX8_shares_22
/-! HouseholdVault.share(II)I -/
theorem dX8_share_0 : decode cX8_share 0 = .ok (.aload_n 0, 1) := by decide +kernel
theorem dX8_share_1 : decode cX8_share 1 = .ok (.getfield 31, 3) := by decide +kernel
theorem dX8_share_4 : decode cX8_share 4 = .ok (.iload_n 1, 1) := by decide +kernel
theorem dX8_share_5 : decode cX8_share 5 = .ok (.iload_n 2, 1) := by decide +kernel
theorem dX8_share_6 : decode cX8_share 6 = .ok (.invokevirtual 264, 3) := by decide +kernel
theorem dX8_share_9 : decode cX8_share 9 = .ok (.ifCond .eq 23, 3) := by decide +kernel
theorem dX8_share_12 : decode cX8_share 12 = .ok (.aload_n 0, 1) := by decide +kernel
theorem dX8_share_13 : decode cX8_share 13 = .ok (.getfield 31, 3) := by decide +kernel
theorem dX8_share_16 : decode cX8_share 16 = .ok (.getfield 289, 3) := by decide +kernel
theorem dX8_share_19 : decode cX8_share 19 = .ok (.aload_n 0, 1) := by decide +kernel
theorem dX8_share_20 : decode cX8_share 20 = .ok (.getfield 31, 3) := by decide +kernel
theorem dX8_share_23 : decode cX8_share 23 = .ok (.iload_n 1, 1) := by decide +kernel
theorem dX8_share_24 : decode cX8_share 24 = .ok (.iload_n 2, 1) := by decide +kernel
theorem dX8_share_25 : decode cX8_share 25 = .ok (.invokevirtual 273, 3) := by decide +kernel
theorem dX8_share_28 : decode cX8_share 28 = .ok (.iaload, 1) := by decide +kernel
theorem dX8_share_29 : decode cX8_share 29 = .ok (.goto 4, 3) := by decide +kernel
theorem dX8_share_32 : decode cX8_share 32 = .ok (.iconst (-1), 1) := by decide +kernel
theorem dX8_share_33 : decode cX8_share 33 = .ok (.ireturn, 1) := by decide +kernel
def f_X8_share (a0 a1 a2 : Int) (H : PH) : RO := vm 8 a0 H <|
  (ld 24 H a0 5).bind fun x1 => (f_X7_hasCell x1 a1 a2 H).bind fun z2 => (if z2.1 = 0 then some ((-1), z2.2)
  else (ld 24 z2.2 a0 5).bind fun x3 => (ld 23 z2.2 x3 5).bind fun x4 => (ld 24 z2.2 a0 5).bind fun x5 => (f_X7_at x5 a1 a2 z2.2).bind fun z6 => (ld 0 z6.2 x4 z6.1).bind fun x7 => some (x7, z6.2))
set_option maxHeartbeats 4000000 in
theorem m_X8_share (l : Launch) (a0 a1 a2 : Int) (H : PH) (rr : Int) (HH : PH) (h : f_X8_share a0 a1 a2 H = some (rr, HH)) : CT l yX8_share cX8_share 3 (some .int) 1 22 [vr a0, vi a1, vi a2] H (some (vi rr)) HH := by
  refine CT.of RX8 (by decide) rfl [some (vr a0), some (vi a1), some (vi a2)] rfl rfl ?_
  intro E F q hn hf hl hm
  unfold f_X8_share at h
  obtain ⟨hv, h⟩ := vm_spec h
  refine pw_aload_n (pc := 0) F dX8_share_0 rfl ?_
  obtain ⟨x1, ex1, h⟩ := bnd h
  refine pw_get (pc := 1) F 8 5 31 (by decide) (by decide) g_c78e80ff2c inl_8 2 rfl dX8_share_1 ex1 ?_
  refine pw_iload_n (pc := 4) F dX8_share_4 rfl ?_
  refine pw_iload_n (pc := 5) F dX8_share_5 rfl ?_
  obtain ⟨z2, ez2, h⟩ := bnd h
  refine pw_callV (pc := 6) (as := [vi a1, vi a2]) (st := []) (r := (some (vi z2.1))) F 264 7 (by decide) rfl (fun l => m_X7_hasCell l x1 a1 a2 H z2.1 z2.2 ez2) g_b2b8ba44bf g_9f89e3469c g_41bf281d0f g_030a77a6da g_7f7d992768 hd_X7_hasCell (rm_ok hf hl (by decide) (by decide)) rfl (vm_spec ez2).1 dX8_share_6 rfl (stk' := [vi z2.1]) rfl ?_
  refine pw_if_eq (pc := 9) F 32 dX8_share_9 (by decide) (fun hc => ?_) (fun hc => ?_)
  · have h := iteT hc h
    refine pw_iconst (pc := 32) F (-1) dX8_share_32 (by decide) ?_
    cases h
    exact pw_iret (pc := 33) F q dX8_share_33
  · have h := iteF hc h
    refine pw_aload_n (pc := 12) F dX8_share_12 rfl ?_
    obtain ⟨x3, ex3, h⟩ := bnd h
    refine pw_get (pc := 13) F 8 5 31 (by decide) (by decide) g_c78e80ff2c inl_8 2 rfl dX8_share_13 ex3 ?_
    obtain ⟨x4, ex4, h⟩ := bnd h
    refine pw_get (pc := 16) F 7 5 289 (by decide) (by decide) g_68aa816e5c inl_7 2 rfl dX8_share_16 ex4 ?_
    refine pw_aload_n (pc := 19) F dX8_share_19 rfl ?_
    obtain ⟨x5, ex5, h⟩ := bnd h
    refine pw_get (pc := 20) F 8 5 31 (by decide) (by decide) g_c78e80ff2c inl_8 2 rfl dX8_share_20 ex5 ?_
    refine pw_iload_n (pc := 23) F dX8_share_23 rfl ?_
    refine pw_iload_n (pc := 24) F dX8_share_24 rfl ?_
    obtain ⟨z6, ez6, h⟩ := bnd h
    refine pw_callV (pc := 25) (as := [vi a1, vi a2]) (st := [vr x4]) (r := (some (vi z6.1))) F 273 7 (by decide) rfl (fun l => m_X7_at l x5 a1 a2 z2.2 z6.1 z6.2 ez6) g_4a2d7072d1 g_e482649742 g_bf833bcebb g_030a77a6da g_4843a546b7 hd_X7_at (rm_ok hf hl (by decide) (by decide)) rfl (vm_spec ez6).1 dX8_share_25 rfl (stk' := [vi z6.1, vr x4]) rfl ?_
    obtain ⟨x7, ex7, h⟩ := bnd h
    refine pw_iald (pc := 28) F dX8_share_28 ex7 ?_
    refine pw_goto (pc := 29) F 33 dX8_share_29 (by decide) ?_
    cases h
    exact pw_iret (pc := 33) F q dX8_share_33
/-! HouseholdVault.shown(I)I -/
theorem dX8_shown_0 : decode cX8_shown 0 = .ok (.aload_n 0, 1) := by decide +kernel
theorem dX8_shown_1 : decode cX8_shown 1 = .ok (.getfield 31, 3) := by decide +kernel
theorem dX8_shown_4 : decode cX8_shown 4 = .ok (.invokevirtual 282, 3) := by decide +kernel
theorem dX8_shown_7 : decode cX8_shown 7 = .ok (.ifCond .ne 15, 3) := by decide +kernel
theorem dX8_shown_10 : decode cX8_shown 10 = .ok (.iload_n 1, 1) := by decide +kernel
theorem dX8_shown_11 : decode cX8_shown 11 = .ok (.iconst 1, 1) := by decide +kernel
theorem dX8_shown_12 : decode cX8_shown 12 = .ok (.if_icmp .lt 10, 3) := by decide +kernel
theorem dX8_shown_15 : decode cX8_shown 15 = .ok (.iload_n 1, 1) := by decide +kernel
theorem dX8_shown_16 : decode cX8_shown 16 = .ok (.sipush 1000, 3) := by decide +kernel
theorem dX8_shown_19 : decode cX8_shown 19 = .ok (.if_icmp .le 5, 3) := by decide +kernel
theorem dX8_shown_22 : decode cX8_shown 22 = .ok (.iconst (-1), 1) := by decide +kernel
theorem dX8_shown_23 : decode cX8_shown 23 = .ok (.ireturn, 1) := by decide +kernel
theorem dX8_shown_24 : decode cX8_shown 24 = .ok (.aload_n 0, 1) := by decide +kernel
theorem dX8_shown_25 : decode cX8_shown 25 = .ok (.getfield 31, 3) := by decide +kernel
theorem dX8_shown_28 : decode cX8_shown 28 = .ok (.iload_n 1, 1) := by decide +kernel
theorem dX8_shown_29 : decode cX8_shown 29 = .ok (.invokevirtual 292, 3) := by decide +kernel
theorem dX8_shown_32 : decode cX8_shown 32 = .ok (.aload_n 0, 1) := by decide +kernel
theorem dX8_shown_33 : decode cX8_shown 33 = .ok (.getfield 31, 3) := by decide +kernel
theorem dX8_shown_36 : decode cX8_shown 36 = .ok (.invokevirtual 295, 3) := by decide +kernel
theorem dX8_shown_39 : decode cX8_shown 39 = .ok (.aload_n 0, 1) := by decide +kernel
theorem dX8_shown_40 : decode cX8_shown 40 = .ok (.getfield 31, 3) := by decide +kernel
theorem dX8_shown_43 : decode cX8_shown 43 = .ok (.getfield 298, 3) := by decide +kernel
theorem dX8_shown_46 : decode cX8_shown 46 = .ok (.ireturn, 1) := by decide +kernel
def f_X8_shown (a0 a1 : Int) (H : PH) : RO := vm 8 a0 H <|
  (ld 24 H a0 5).bind fun x1 => (f_X7_isNone x1 H).bind fun z2 => (if z2.1 ≠ 0 then some ((-1), z2.2)
  else (if a1 < 1 then some ((-1), z2.2)
  else (if a1 ≤ 1000 then (ld 24 z2.2 a0 5).bind fun x3 => (f_X7_holdBelow x3 a1 z2.2).bind fun z4 => (ld 24 z4.2 a0 5).bind fun x5 => (f_X7_holdUntilNoneFollows x5 z4.2).bind fun z6 => (ld 24 z6.2 a0 5).bind fun x7 => (ld 23 z6.2 x7 8).bind fun x8 => some (x8, z6.2)
  else some ((-1), z2.2))))
set_option maxHeartbeats 4000000 in
theorem m_X8_shown (l : Launch) (a0 a1 : Int) (H : PH) (rr : Int) (HH : PH) (h : f_X8_shown a0 a1 H = some (rr, HH)) : CT l yX8_shown cX8_shown 2 (some .int) 4 95 [vr a0, vi a1] H (some (vi rr)) HH := by
  refine CT.of RX8 (by decide) rfl [some (vr a0), some (vi a1)] rfl rfl ?_
  intro E F q hn hf hl hm
  unfold f_X8_shown at h
  obtain ⟨hv, h⟩ := vm_spec h
  refine pw_aload_n (pc := 0) F dX8_shown_0 rfl ?_
  obtain ⟨x1, ex1, h⟩ := bnd h
  refine pw_get (pc := 1) F 8 5 31 (by decide) (by decide) g_c78e80ff2c inl_8 2 rfl dX8_shown_1 ex1 ?_
  obtain ⟨z2, ez2, h⟩ := bnd h
  refine pw_callV (pc := 4) (as := []) (st := []) (r := (some (vi z2.1))) F 282 7 (by decide) rfl (fun l => m_X7_isNone l x1 H z2.1 z2.2 ez2) g_f11c670953 g_6a2e40d3a1 g_467962e0d4 g_030a77a6da g_80039af1cc hd_X7_isNone (rm_ok hf hl (by decide) (by decide)) rfl (vm_spec ez2).1 dX8_shown_4 rfl (stk' := [vi z2.1]) rfl ?_
  refine pw_if_ne (pc := 7) F 22 dX8_shown_7 (by decide) (fun hc => ?_) (fun hc => ?_)
  · have h := iteT hc h
    refine pw_iconst (pc := 22) F (-1) dX8_shown_22 (by decide) ?_
    cases h
    exact pw_iret (pc := 23) F q dX8_shown_23
  · have h := iteF hc h
    refine pw_iload_n (pc := 10) F dX8_shown_10 rfl ?_
    refine pw_iconst (pc := 11) F 1 dX8_shown_11 (by decide) ?_
    refine pw_icmp_lt (pc := 12) F 22 dX8_shown_12 (by decide) (fun hc => ?_) (fun hc => ?_)
    · have h := iteT hc h
      refine pw_iconst (pc := 22) F (-1) dX8_shown_22 (by decide) ?_
      cases h
      exact pw_iret (pc := 23) F q dX8_shown_23
    · have h := iteF hc h
      refine pw_iload_n (pc := 15) F dX8_shown_15 rfl ?_
      refine pw_sipush (pc := 16) F 1000 dX8_shown_16 (by decide) ?_
      refine pw_icmp_le (pc := 19) F 24 dX8_shown_19 (by decide) (fun hc => ?_) (fun hc => ?_)
      · have h := iteT hc h
        refine pw_aload_n (pc := 24) F dX8_shown_24 rfl ?_
        obtain ⟨x3, ex3, h⟩ := bnd h
        refine pw_get (pc := 25) F 8 5 31 (by decide) (by decide) g_c78e80ff2c inl_8 2 rfl dX8_shown_25 ex3 ?_
        refine pw_iload_n (pc := 28) F dX8_shown_28 rfl ?_
        obtain ⟨z4, ez4, h⟩ := bnd h
        refine pw_callV (pc := 29) (as := [vi a1]) (st := []) (r := none) F 292 7 (by decide) rfl (fun l => m_X7_holdBelow l x3 a1 z2.2 z4.1 z4.2 ez4) g_1dcef3543c g_9a52488c7c g_92f23cc307 g_030a77a6da g_19dd88596a hd_X7_holdBelow (rm_ok hf hl (by decide) (by decide)) rfl (vm_spec ez4).1 dX8_shown_29 rfl (stk' := []) rfl ?_
        refine pw_aload_n (pc := 32) F dX8_shown_32 rfl ?_
        obtain ⟨x5, ex5, h⟩ := bnd h
        refine pw_get (pc := 33) F 8 5 31 (by decide) (by decide) g_c78e80ff2c inl_8 2 rfl dX8_shown_33 ex5 ?_
        obtain ⟨z6, ez6, h⟩ := bnd h
        refine pw_callV (pc := 36) (as := []) (st := []) (r := none) F 295 7 (by decide) rfl (fun l => m_X7_holdUntilNoneFollows l x5 z4.2 z6.1 z6.2 ez6) g_7fff5da993 g_ccaebb7f1f g_aae7acc735 g_030a77a6da g_e569cda3d3 hd_X7_holdUntilNoneFollows (rm_ok hf hl (by decide) (by decide)) rfl (vm_spec ez6).1 dX8_shown_36 rfl (stk' := []) rfl ?_
        refine pw_aload_n (pc := 39) F dX8_shown_39 rfl ?_
        obtain ⟨x7, ex7, h⟩ := bnd h
        refine pw_get (pc := 40) F 8 5 31 (by decide) (by decide) g_c78e80ff2c inl_8 2 rfl dX8_shown_40 ex7 ?_
        obtain ⟨x8, ex8, h⟩ := bnd h
        refine pw_get (pc := 43) F 7 8 298 (by decide) (by decide) g_b6085d72fc inl_7 0 rfl dX8_shown_43 ex8 ?_
        cases h
        exact pw_iret (pc := 46) F q dX8_shown_46
      · have h := iteF hc h
        refine pw_iconst (pc := 22) F (-1) dX8_shown_22 (by decide) ?_
        cases h
        exact pw_iret (pc := 23) F q dX8_shown_23
/-! HouseholdVault.follows()I -/
theorem dX8_follows_0 : decode cX8_follows 0 = .ok (.aload_n 0, 1) := by decide +kernel
theorem dX8_follows_1 : decode cX8_follows 1 = .ok (.getfield 31, 3) := by decide +kernel
theorem dX8_follows_4 : decode cX8_follows 4 = .ok (.invokevirtual 282, 3) := by decide +kernel
theorem dX8_follows_7 : decode cX8_follows 7 = .ok (.ifCond .eq 7, 3) := by decide +kernel
theorem dX8_follows_10 : decode cX8_follows 10 = .ok (.iconst (-1), 1) := by decide +kernel
theorem dX8_follows_11 : decode cX8_follows 11 = .ok (.goto 12, 3) := by decide +kernel
theorem dX8_follows_14 : decode cX8_follows 14 = .ok (.aload_n 0, 1) := by decide +kernel
theorem dX8_follows_15 : decode cX8_follows 15 = .ok (.getfield 31, 3) := by decide +kernel
theorem dX8_follows_18 : decode cX8_follows 18 = .ok (.invokevirtual 301, 3) := by decide +kernel
theorem dX8_follows_21 : decode cX8_follows 21 = .ok (.iconst 1, 1) := by decide +kernel
theorem dX8_follows_22 : decode cX8_follows 22 = .ok (.iadd, 1) := by decide +kernel
theorem dX8_follows_23 : decode cX8_follows 23 = .ok (.ireturn, 1) := by decide +kernel
def f_X8_follows (a0 : Int) (H : PH) : RO := vm 8 a0 H <|
  (ld 24 H a0 5).bind fun x1 => (f_X7_isNone x1 H).bind fun z2 => (if z2.1 = 0 then (ld 24 z2.2 a0 5).bind fun x3 => (f_X7_firstFollowing x3 z2.2).bind fun z4 => some ((w32 (z4.1 + 1)), z4.2)
  else some ((-1), z2.2))
set_option maxHeartbeats 4000000 in
theorem m_X8_follows (l : Launch) (a0 : Int) (H : PH) (rr : Int) (HH : PH) (h : f_X8_follows a0 H = some (rr, HH)) : CT l yX8_follows cX8_follows 1 (some .int) 2 48 [vr a0] H (some (vi rr)) HH := by
  refine CT.of RX8 (by decide) rfl [some (vr a0)] rfl rfl ?_
  intro E F q hn hf hl hm
  unfold f_X8_follows at h
  obtain ⟨hv, h⟩ := vm_spec h
  refine pw_aload_n (pc := 0) F dX8_follows_0 rfl ?_
  obtain ⟨x1, ex1, h⟩ := bnd h
  refine pw_get (pc := 1) F 8 5 31 (by decide) (by decide) g_c78e80ff2c inl_8 2 rfl dX8_follows_1 ex1 ?_
  obtain ⟨z2, ez2, h⟩ := bnd h
  refine pw_callV (pc := 4) (as := []) (st := []) (r := (some (vi z2.1))) F 282 7 (by decide) rfl (fun l => m_X7_isNone l x1 H z2.1 z2.2 ez2) g_f11c670953 g_6a2e40d3a1 g_467962e0d4 g_030a77a6da g_80039af1cc hd_X7_isNone (rm_ok hf hl (by decide) (by decide)) rfl (vm_spec ez2).1 dX8_follows_4 rfl (stk' := [vi z2.1]) rfl ?_
  refine pw_if_eq (pc := 7) F 14 dX8_follows_7 (by decide) (fun hc => ?_) (fun hc => ?_)
  · have h := iteT hc h
    refine pw_aload_n (pc := 14) F dX8_follows_14 rfl ?_
    obtain ⟨x3, ex3, h⟩ := bnd h
    refine pw_get (pc := 15) F 8 5 31 (by decide) (by decide) g_c78e80ff2c inl_8 2 rfl dX8_follows_15 ex3 ?_
    obtain ⟨z4, ez4, h⟩ := bnd h
    refine pw_callV (pc := 18) (as := []) (st := []) (r := (some (vi z4.1))) F 301 7 (by decide) rfl (fun l => m_X7_firstFollowing l x3 z2.2 z4.1 z4.2 ez4) g_af05f46ed2 g_fa48a5b1ca g_db304d50ea g_030a77a6da g_cc8cc63070 hd_X7_firstFollowing (rm_ok hf hl (by decide) (by decide)) rfl (vm_spec ez4).1 dX8_follows_18 rfl (stk' := [vi z4.1]) rfl ?_
    refine pw_iconst (pc := 21) F 1 dX8_follows_21 (by decide) ?_
    refine pw_iadd (pc := 22) F dX8_follows_22 ?_
    cases h
    exact pw_iret (pc := 23) F q dX8_follows_23
  · have h := iteF hc h
    refine pw_iconst (pc := 10) F (-1) dX8_follows_10 (by decide) ?_
    refine pw_goto (pc := 11) F 23 dX8_follows_11 (by decide) ?_
    cases h
    exact pw_iret (pc := 23) F q dX8_follows_23
