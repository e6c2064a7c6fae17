/-! HouseholdVaultModel.table(II)I -/
theorem dX9_table_0 : decode cX9_table 0 = .ok (.aload_n 0, 1) := by decide +kernel
theorem dX9_table_1 : decode cX9_table 1 = .ok (.iload_n 1, 1) := by decide +kernel
theorem dX9_table_2 : decode cX9_table 2 = .ok (.invokevirtual 163, 3) := by decide +kernel
theorem dX9_table_5 : decode cX9_table 5 = .ok (.ifCond .eq 16, 3) := by decide +kernel
theorem dX9_table_8 : decode cX9_table 8 = .ok (.iload_n 2, 1) := by decide +kernel
theorem dX9_table_9 : decode cX9_table 9 = .ok (.iconst (-1), 1) := by decide +kernel
theorem dX9_table_10 : decode cX9_table 10 = .ok (.if_icmp .eq 13, 3) := by decide +kernel
theorem dX9_table_13 : decode cX9_table 13 = .ok (.aload_n 0, 1) := by decide +kernel
theorem dX9_table_14 : decode cX9_table 14 = .ok (.iload_n 2, 1) := by decide +kernel
theorem dX9_table_15 : decode cX9_table 15 = .ok (.invokevirtual 163, 3) := by decide +kernel
theorem dX9_table_18 : decode cX9_table 18 = .ok (.ifCond .ne 5, 3) := by decide +kernel
theorem dX9_table_21 : decode cX9_table 21 = .ok (.iconst (-1), 1) := by decide +kernel
theorem dX9_table_22 : decode cX9_table 22 = .ok (.ireturn, 1) := by decide +kernel
theorem dX9_table_23 : decode cX9_table 23 = .ok (.aload_n 0, 1) := by decide +kernel
theorem dX9_table_24 : decode cX9_table 24 = .ok (.iload_n 1, 1) := by decide +kernel
theorem dX9_table_25 : decode cX9_table 25 = .ok (.invokevirtual 265, 3) := by decide +kernel
theorem dX9_table_28 : decode cX9_table 28 = .ok (.ifCond .eq 15, 3) := by decide +kernel
theorem dX9_table_31 : decode cX9_table 31 = .ok (.iload_n 2, 1) := by decide +kernel
theorem dX9_table_32 : decode cX9_table 32 = .ok (.ifCond .lt 14, 3) := by decide +kernel
theorem dX9_table_35 : decode cX9_table 35 = .ok (.aload_n 0, 1) := by decide +kernel
theorem dX9_table_36 : decode cX9_table 36 = .ok (.iload_n 2, 1) := by decide +kernel
theorem dX9_table_37 : decode cX9_table 37 = .ok (.invokevirtual 265, 3) := by decide +kernel
theorem dX9_table_40 : decode cX9_table 40 = .ok (.ifCond .ne 6, 3) := by decide +kernel
theorem dX9_table_43 : decode cX9_table 43 = .ok (.bipush (-2), 2) := by decide +kernel
theorem dX9_table_45 : decode cX9_table 45 = .ok (.ireturn, 1) := by decide +kernel
theorem dX9_table_46 : decode cX9_table 46 = .ok (.aload_n 0, 1) := by decide +kernel
theorem dX9_table_47 : decode cX9_table 47 = .ok (.iconst 1, 1) := by decide +kernel
theorem dX9_table_48 : decode cX9_table 48 = .ok (.putfield 268, 3) := by decide +kernel
theorem dX9_table_51 : decode cX9_table 51 = .ok (.aload_n 0, 1) := by decide +kernel
theorem dX9_table_52 : decode cX9_table 52 = .ok (.iload_n 2, 1) := by decide +kernel
theorem dX9_table_53 : decode cX9_table 53 = .ok (.ifCond .lt 7, 3) := by decide +kernel
theorem dX9_table_56 : decode cX9_table 56 = .ok (.iconst 1, 1) := by decide +kernel
theorem dX9_table_57 : decode cX9_table 57 = .ok (.goto 4, 3) := by decide +kernel
theorem dX9_table_60 : decode cX9_table 60 = .ok (.iconst 0, 1) := by decide +kernel
theorem dX9_table_61 : decode cX9_table 61 = .ok (.putfield 272, 3) := by decide +kernel
theorem dX9_table_64 : decode cX9_table 64 = .ok (.aload_n 0, 1) := by decide +kernel
theorem dX9_table_65 : decode cX9_table 65 = .ok (.aload_n 0, 1) := by decide +kernel
theorem dX9_table_66 : decode cX9_table 66 = .ok (.getfield 35, 3) := by decide +kernel
theorem dX9_table_69 : decode cX9_table 69 = .ok (.iload_n 1, 1) := by decide +kernel
theorem dX9_table_70 : decode cX9_table 70 = .ok (.iaload, 1) := by decide +kernel
theorem dX9_table_71 : decode cX9_table 71 = .ok (.iconst 1, 1) := by decide +kernel
theorem dX9_table_72 : decode cX9_table 72 = .ok (.iadd, 1) := by decide +kernel
theorem dX9_table_73 : decode cX9_table 73 = .ok (.putfield 275, 3) := by decide +kernel
theorem dX9_table_76 : decode cX9_table 76 = .ok (.aload_n 0, 1) := by decide +kernel
theorem dX9_table_77 : decode cX9_table 77 = .ok (.iload_n 2, 1) := by decide +kernel
theorem dX9_table_78 : decode cX9_table 78 = .ok (.ifCond .ge 7, 3) := by decide +kernel
theorem dX9_table_81 : decode cX9_table 81 = .ok (.iconst 1, 1) := by decide +kernel
theorem dX9_table_82 : decode cX9_table 82 = .ok (.goto 11, 3) := by decide +kernel
theorem dX9_table_85 : decode cX9_table 85 = .ok (.aload_n 0, 1) := by decide +kernel
theorem dX9_table_86 : decode cX9_table 86 = .ok (.getfield 35, 3) := by decide +kernel
theorem dX9_table_89 : decode cX9_table 89 = .ok (.iload_n 2, 1) := by decide +kernel
theorem dX9_table_90 : decode cX9_table 90 = .ok (.iaload, 1) := by decide +kernel
theorem dX9_table_91 : decode cX9_table 91 = .ok (.iconst 1, 1) := by decide +kernel
theorem dX9_table_92 : decode cX9_table 92 = .ok (.iadd, 1) := by decide +kernel
theorem dX9_table_93 : decode cX9_table 93 = .ok (.putfield 278, 3) := by decide +kernel
theorem dX9_table_96 : decode cX9_table 96 = .ok (.iconst 0, 1) := by decide +kernel
theorem dX9_table_97 : decode cX9_table 97 = .ok (.istore_n 3, 1) := by decide +kernel
theorem dX9_table_98 : decode cX9_table 98 = .ok (.iload_n 3, 1) := by decide +kernel
theorem dX9_table_99 : decode cX9_table 99 = .ok (.bipush 81, 2) := by decide +kernel
theorem dX9_table_101 : decode cX9_table 101 = .ok (.if_icmp .ge 37, 3) := by decide +kernel
theorem dX9_table_104 : decode cX9_table 104 = .ok (.aload_n 0, 1) := by decide +kernel
theorem dX9_table_105 : decode cX9_table 105 = .ok (.getfield 103, 3) := by decide +kernel
theorem dX9_table_108 : decode cX9_table 108 = .ok (.iload_n 3, 1) := by decide +kernel
theorem dX9_table_109 : decode cX9_table 109 = .ok (.iconst 0, 1) := by decide +kernel
theorem dX9_table_110 : decode cX9_table 110 = .ok (.iastore, 1) := by decide +kernel
theorem dX9_table_111 : decode cX9_table 111 = .ok (.aload_n 0, 1) := by decide +kernel
theorem dX9_table_112 : decode cX9_table 112 = .ok (.getfield 106, 3) := by decide +kernel
theorem dX9_table_115 : decode cX9_table 115 = .ok (.iload_n 3, 1) := by decide +kernel
theorem dX9_table_116 : decode cX9_table 116 = .ok (.lconst 0, 1) := by decide +kernel
theorem dX9_table_117 : decode cX9_table 117 = .ok (.lastore, 1) := by decide +kernel
theorem dX9_table_118 : decode cX9_table 118 = .ok (.aload_n 0, 1) := by decide +kernel
theorem dX9_table_119 : decode cX9_table 119 = .ok (.getfield 109, 3) := by decide +kernel
theorem dX9_table_122 : decode cX9_table 122 = .ok (.iload_n 3, 1) := by decide +kernel
theorem dX9_table_123 : decode cX9_table 123 = .ok (.iconst 0, 1) := by decide +kernel
theorem dX9_table_124 : decode cX9_table 124 = .ok (.iastore, 1) := by decide +kernel
theorem dX9_table_125 : decode cX9_table 125 = .ok (.aload_n 0, 1) := by decide +kernel
theorem dX9_table_126 : decode cX9_table 126 = .ok (.getfield 112, 3) := by decide +kernel
theorem dX9_table_129 : decode cX9_table 129 = .ok (.iload_n 3, 1) := by decide +kernel
theorem dX9_table_130 : decode cX9_table 130 = .ok (.iconst 0, 1) := by decide +kernel
theorem dX9_table_131 : decode cX9_table 131 = .ok (.bastore, 1) := by decide +kernel
theorem dX9_table_132 : decode cX9_table 132 = .ok (.iinc 3 1, 3) := by decide +kernel
theorem dX9_table_135 : decode cX9_table 135 = .ok (.goto (-37), 3) := by decide +kernel
theorem dX9_table_138 : decode cX9_table 138 = .ok (.iconst 0, 1) := by decide +kernel
theorem dX9_table_139 : decode cX9_table 139 = .ok (.istore_n 3, 1) := by decide +kernel
theorem dX9_table_140 : decode cX9_table 140 = .ok (.iload_n 3, 1) := by decide +kernel
theorem dX9_table_141 : decode cX9_table 141 = .ok (.aload_n 0, 1) := by decide +kernel
theorem dX9_table_142 : decode cX9_table 142 = .ok (.getfield 144, 3) := by decide +kernel
theorem dX9_table_145 : decode cX9_table 145 = .ok (.if_icmp .ge 68, 3) := by decide +kernel
theorem dX9_table_148 : decode cX9_table 148 = .ok (.aload_n 0, 1) := by decide +kernel
theorem dX9_table_149 : decode cX9_table 149 = .ok (.iload_n 3, 1) := by decide +kernel
theorem dX9_table_150 : decode cX9_table 150 = .ok (.invokevirtual 228, 3) := by decide +kernel
theorem dX9_table_153 : decode cX9_table 153 = .ok (.aload_n 0, 1) := by decide +kernel
theorem dX9_table_154 : decode cX9_table 154 = .ok (.getfield 278, 3) := by decide +kernel
theorem dX9_table_157 : decode cX9_table 157 = .ok (.aload_n 0, 1) := by decide +kernel
theorem dX9_table_158 : decode cX9_table 158 = .ok (.iload_n 1, 1) := by decide +kernel
theorem dX9_table_159 : decode cX9_table 159 = .ok (.invokevirtual 281, 3) := by decide +kernel
theorem dX9_table_162 : decode cX9_table 162 = .ok (.imul, 1) := by decide +kernel
theorem dX9_table_163 : decode cX9_table 163 = .ok (.iload_n 2, 1) := by decide +kernel
theorem dX9_table_164 : decode cX9_table 164 = .ok (.ifCond .ge 7, 3) := by decide +kernel
theorem dX9_table_167 : decode cX9_table 167 = .ok (.iconst 0, 1) := by decide +kernel
theorem dX9_table_168 : decode cX9_table 168 = .ok (.goto 8, 3) := by decide +kernel
theorem dX9_table_171 : decode cX9_table 171 = .ok (.aload_n 0, 1) := by decide +kernel
theorem dX9_table_172 : decode cX9_table 172 = .ok (.iload_n 2, 1) := by decide +kernel
theorem dX9_table_173 : decode cX9_table 173 = .ok (.invokevirtual 281, 3) := by decide +kernel
theorem dX9_table_176 : decode cX9_table 176 = .ok (.iadd, 1) := by decide +kernel
theorem dX9_table_177 : decode cX9_table 177 = .ok (.istore 4, 2) := by decide +kernel
theorem dX9_table_179 : decode cX9_table 179 = .ok (.aload_n 0, 1) := by decide +kernel
theorem dX9_table_180 : decode cX9_table 180 = .ok (.getfield 103, 3) := by decide +kernel
theorem dX9_table_183 : decode cX9_table 183 = .ok (.iload 4, 2) := by decide +kernel
theorem dX9_table_185 : decode cX9_table 185 = .ok (.dup2, 1) := by decide +kernel
theorem dX9_table_186 : decode cX9_table 186 = .ok (.iaload, 1) := by decide +kernel
theorem dX9_table_187 : decode cX9_table 187 = .ok (.iconst 1, 1) := by decide +kernel
theorem dX9_table_188 : decode cX9_table 188 = .ok (.iadd, 1) := by decide +kernel
theorem dX9_table_189 : decode cX9_table 189 = .ok (.iastore, 1) := by decide +kernel
theorem dX9_table_190 : decode cX9_table 190 = .ok (.aload_n 0, 1) := by decide +kernel
theorem dX9_table_191 : decode cX9_table 191 = .ok (.getfield 106, 3) := by decide +kernel
theorem dX9_table_194 : decode cX9_table 194 = .ok (.iload 4, 2) := by decide +kernel
theorem dX9_table_196 : decode cX9_table 196 = .ok (.dup2, 1) := by decide +kernel
theorem dX9_table_197 : decode cX9_table 197 = .ok (.laload, 1) := by decide +kernel
theorem dX9_table_198 : decode cX9_table 198 = .ok (.aload_n 0, 1) := by decide +kernel
theorem dX9_table_199 : decode cX9_table 199 = .ok (.getfield 57, 3) := by decide +kernel
theorem dX9_table_202 : decode cX9_table 202 = .ok (.iload_n 3, 1) := by decide +kernel
theorem dX9_table_203 : decode cX9_table 203 = .ok (.iaload, 1) := by decide +kernel
theorem dX9_table_204 : decode cX9_table 204 = .ok (.i2l, 1) := by decide +kernel
theorem dX9_table_205 : decode cX9_table 205 = .ok (.ladd, 1) := by decide +kernel
theorem dX9_table_206 : decode cX9_table 206 = .ok (.lastore, 1) := by decide +kernel
theorem dX9_table_207 : decode cX9_table 207 = .ok (.iinc 3 1, 3) := by decide +kernel
theorem dX9_table_210 : decode cX9_table 210 = .ok (.goto (-70), 3) := by decide +kernel
theorem dX9_table_213 : decode cX9_table 213 = .ok (.aload_n 0, 1) := by decide +kernel
theorem dX9_table_214 : decode cX9_table 214 = .ok (.getfield 275, 3) := by decide +kernel
theorem dX9_table_217 : decode cX9_table 217 = .ok (.aload_n 0, 1) := by decide +kernel
theorem dX9_table_218 : decode cX9_table 218 = .ok (.getfield 278, 3) := by decide +kernel
theorem dX9_table_221 : decode cX9_table 221 = .ok (.imul, 1) := by decide +kernel
theorem dX9_table_222 : decode cX9_table 222 = .ok (.ireturn, 1) := by decide +kernel
def jX9_table_176 (self140 : Int → PH → RO) (p0 p1 p2 p3 s0 s1 : Int) (H : PH) : RO :=
  (ld 25 H p0 39).bind fun x1 => (ld 0 H x1 (w32 (s0 + s1))).bind fun x2 => (stv 0 H x1 (w32 (s0 + s1)) (w32 (x2 + 1))).bind fun H3 => (ld 25 H3 p0 40).bind fun x4 => (ld 1 H3 x4 (w32 (s0 + s1))).bind fun x5 => (ld 25 H3 p0 17).bind fun x6 => (ld 0 H3 x6 p3).bind fun x7 => (stv 1 H3 x4 (w32 (s0 + s1)) (w64 (x5 + x7))).bind fun H8 => self140 (w32 (p3 + 1)) H8
set_option maxHeartbeats 4000000 in
theorem jX9_table_176_ok {E : PE} {rr : Int} {HH : PH} (F : FX E cX9_table RX9) (q : QE E (some (vi rr)) HH (some .int)) (hn : nLof E = 5) (hf : (roomOf E).frames = 4) (hl : (roomOf E).locals = 99) (self140 : Int → PH → RO) (p0 p1 p2 p3 s0 s1 : Int) (H : PH) (ih140 : ∀ (v3 : Int) (HV : PH), self140 v3 HV = some (rr, HH) → PW E 140 [some (vr p0), some (vi p1), some (vi p2), some (vi v3), none] [] HV) (h : jX9_table_176 self140 p0 p1 p2 p3 s0 s1 H = some (rr, HH)) : PW E 176 [some (vr p0), some (vi p1), some (vi p2), some (vi p3), none] [vi s1, vi s0] H := by
  unfold jX9_table_176 at h
  refine pw_iadd (pc := 176) F dX9_table_176 ?_
  refine pw_istore (pc := 177) F dX9_table_177 (lt_nl hn (by decide)) [some (vr p0), some (vi p1), some (vi p2), some (vi p3), some (vi (w32 (s0 + s1)))] rfl ?_
  refine pw_aload_n (pc := 179) F dX9_table_179 rfl ?_
  obtain ⟨x1, ex1, h⟩ := bnd h
  refine pw_get (pc := 180) F 9 39 103 (by decide) (by decide) g_f58399c680 inl_9 2 rfl dX9_table_180 ex1 ?_
  refine pw_iload (pc := 183) F dX9_table_183 rfl ?_
  refine pw_dup2 (pc := 185) F dX9_table_185 (pvne rfl) (pvne rfl) ?_
  obtain ⟨x2, ex2, h⟩ := bnd h
  refine pw_iald (pc := 186) F dX9_table_186 ex2 ?_
  refine pw_iconst (pc := 187) F 1 dX9_table_187 (by decide) ?_
  refine pw_iadd (pc := 188) F dX9_table_188 ?_
  obtain ⟨H3, eH3, h⟩ := bnd h
  refine pw_iast (pc := 189) F dX9_table_189 eH3 ?_
  refine pw_aload_n (pc := 190) F dX9_table_190 rfl ?_
  obtain ⟨x4, ex4, h⟩ := bnd h
  refine pw_get (pc := 191) F 9 40 106 (by decide) (by decide) g_0282b418ab inl_9 2 rfl dX9_table_191 ex4 ?_
  refine pw_iload (pc := 194) F dX9_table_194 rfl ?_
  refine pw_dup2 (pc := 196) F dX9_table_196 (pvne rfl) (pvne rfl) ?_
  obtain ⟨x5, ex5, h⟩ := bnd h
  refine pw_lald (pc := 197) F dX9_table_197 ex5 ?_
  refine pw_aload_n (pc := 198) F dX9_table_198 rfl ?_
  obtain ⟨x6, ex6, h⟩ := bnd h
  refine pw_get (pc := 199) F 9 17 57 (by decide) (by decide) g_8eca8acc62 inl_9 2 rfl dX9_table_199 ex6 ?_
  refine pw_iload_n (pc := 202) F dX9_table_202 rfl ?_
  obtain ⟨x7, ex7, h⟩ := bnd h
  refine pw_iald (pc := 203) F dX9_table_203 ex7 ?_
  refine pw_i2l (pc := 204) F dX9_table_204 ?_
  refine pw_ladd (pc := 205) F dX9_table_205 ?_
  obtain ⟨H8, eH8, h⟩ := bnd h
  refine pw_last (pc := 206) F dX9_table_206 eH8 ?_
  refine pw_iinc (pc := 207) F dX9_table_207 rfl (lt_nl hn (by decide)) [some (vr p0), some (vi p1), some (vi p2), some (vi (w32 (p3 + 1))), some (vi (w32 (s0 + s1)))] rfl (by decide) ?_
  refine pw_goto (pc := 210) F 140 dX9_table_210 (by decide) ?_
  exact pw_mask [true, true, true, true, false] (ls' := [some (vr p0), some (vi p1), some (vi p2), some (vi (w32 (p3 + 1))), none]) rfl (ih140 (w32 (p3 + 1)) H8 h)
def lX9_table_140 (p0 p1 p2 : Int) (self140 : Int → PH → RO) (p3 : Int) (H : PH) : RO :=
  (ld 25 H p0 14).bind fun x1 => (if p3 ≥ x1 then (ld 25 H p0 37).bind fun x2 => (ld 25 H p0 38).bind fun x3 => some ((w32 (x2 * x3)), H)
  else (f_X9_workOut p0 p3 H).bind fun z4 => (ld 25 z4.2 p0 38).bind fun x5 => (f_X9_line p0 p1 z4.2).bind fun z6 => (if p2 ≥ 0 then (f_X9_line p0 p2 z6.2).bind fun z7 => jX9_table_176 self140 p0 p1 p2 p3 (w32 (x5 * z6.1)) z7.1 z7.2
  else jX9_table_176 self140 p0 p1 p2 p3 (w32 (x5 * z6.1)) 0 z6.2))
set_option maxHeartbeats 4000000 in
theorem lX9_table_140_ok {E : PE} {rr : Int} {HH : PH} (F : FX E cX9_table RX9) (q : QE E (some (vi rr)) HH (some .int)) (hn : nLof E = 5) (hf : (roomOf E).frames = 4) (hl : (roomOf E).locals = 99) (p0 p1 p2 : Int) : ∀ (n : Nat) (p3 : Int) (H : PH), lq1 (lX9_table_140 p0 p1 p2) n p3 H = some (rr, HH) → PW E 140 [some (vr p0), some (vi p1), some (vi p2), some (vi p3), none] [] H := by
  refine lq1_ind (P := fun p3 H => PW E 140 [some (vr p0), some (vi p1), some (vi p2), some (vi p3), none] [] H) ?_
  intro self140 ih140 p3 H h
  unfold lX9_table_140 at h
  refine pw_iload_n (pc := 140) F dX9_table_140 rfl ?_
  refine pw_aload_n (pc := 141) F dX9_table_141 rfl ?_
  obtain ⟨x1, ex1, h⟩ := bnd h
  refine pw_get (pc := 142) F 9 14 144 (by decide) (by decide) g_f4ed299937 inl_9 0 rfl dX9_table_142 ex1 ?_
  refine pw_icmp_ge (pc := 145) F 213 dX9_table_145 (by decide) (fun hc => ?_) (fun hc => ?_)
  · have h := iteT hc h
    refine pw_aload_n (pc := 213) F dX9_table_213 rfl ?_
    obtain ⟨x2, ex2, h⟩ := bnd h
    refine pw_get (pc := 214) F 9 37 275 (by decide) (by decide) g_95aff2781a inl_9 0 rfl dX9_table_214 ex2 ?_
    refine pw_aload_n (pc := 217) F dX9_table_217 rfl ?_
    obtain ⟨x3, ex3, h⟩ := bnd h
    refine pw_get (pc := 218) F 9 38 278 (by decide) (by decide) g_3c3db0642c inl_9 0 rfl dX9_table_218 ex3 ?_
    refine pw_imul (pc := 221) F dX9_table_221 ?_
    cases h
    exact pw_iret (pc := 222) F q dX9_table_222
  · have h := iteF hc h
    refine pw_aload_n (pc := 148) F dX9_table_148 rfl ?_
    refine pw_iload_n (pc := 149) F dX9_table_149 rfl ?_
    obtain ⟨z4, ez4, h⟩ := bnd h
    refine pw_callV (pc := 150) (as := [vi p3]) (st := []) (r := none) F 228 9 (by decide) rfl (fun l => m_X9_workOut l p0 p3 H z4.1 z4.2 ez4) g_3818fe93c5 g_7e06b14cc4 g_7b1f6500ce g_2759d91faa g_717afd008d hd_X9_workOut (rm_ok hf hl (by decide) (by decide)) rfl (vm_spec ez4).1 dX9_table_150 rfl (stk' := []) rfl ?_
    refine pw_aload_n (pc := 153) F dX9_table_153 rfl ?_
    obtain ⟨x5, ex5, h⟩ := bnd h
    refine pw_get (pc := 154) F 9 38 278 (by decide) (by decide) g_3c3db0642c inl_9 0 rfl dX9_table_154 ex5 ?_
    refine pw_aload_n (pc := 157) F dX9_table_157 rfl ?_
    refine pw_iload_n (pc := 158) F dX9_table_158 rfl ?_
    obtain ⟨z6, ez6, h⟩ := bnd h
    refine pw_callV (pc := 159) (as := [vi p1]) (st := [vi x5]) (r := (some (vi z6.1))) F 281 9 (by decide) rfl (fun l => m_X9_line l p0 p1 z4.2 z6.1 z6.2 ez6) g_535c3ab89a g_33a7d3946c g_77fdb76092 g_2759d91faa g_a55981838e hd_X9_line (rm_ok hf hl (by decide) (by decide)) rfl (vm_spec ez6).1 dX9_table_159 rfl (stk' := [vi z6.1, vi x5]) rfl ?_
    refine pw_imul (pc := 162) F dX9_table_162 ?_
    refine pw_iload_n (pc := 163) F dX9_table_163 rfl ?_
    refine pw_if_ge (pc := 164) F 171 dX9_table_164 (by decide) (fun hc => ?_) (fun hc => ?_)
    · have h := iteT hc h
      refine pw_aload_n (pc := 171) F dX9_table_171 rfl ?_
      refine pw_iload_n (pc := 172) F dX9_table_172 rfl ?_
      obtain ⟨z7, ez7, h⟩ := bnd h
      refine pw_callV (pc := 173) (as := [vi p2]) (st := [vi (w32 (x5 * z6.1))]) (r := (some (vi z7.1))) F 281 9 (by decide) rfl (fun l => m_X9_line l p0 p2 z6.2 z7.1 z7.2 ez7) g_535c3ab89a g_33a7d3946c g_77fdb76092 g_2759d91faa g_a55981838e hd_X9_line (rm_ok hf hl (by decide) (by decide)) rfl (vm_spec ez7).1 dX9_table_173 rfl (stk' := [vi z7.1, vi (w32 (x5 * z6.1))]) rfl ?_
      exact pw_mask [true, true, true, true, true] (ls' := [some (vr p0), some (vi p1), some (vi p2), some (vi p3), none]) rfl (jX9_table_176_ok F q hn hf hl self140 p0 p1 p2 p3 (w32 (x5 * z6.1)) z7.1 z7.2 ih140 h)
    · have h := iteF hc h
      refine pw_iconst (pc := 167) F 0 dX9_table_167 (by decide) ?_
      refine pw_goto (pc := 168) F 176 dX9_table_168 (by decide) ?_
      exact pw_mask [true, true, true, true, true] (ls' := [some (vr p0), some (vi p1), some (vi p2), some (vi p3), none]) rfl (jX9_table_176_ok F q hn hf hl self140 p0 p1 p2 p3 (w32 (x5 * z6.1)) 0 z6.2 ih140 h)
def lX9_table_98 (p0 p1 p2 : Int) (self98 : Int → PH → RO) (p3 : Int) (H : PH) : RO :=
  (if p3 ≥ 81 then lq1 (lX9_table_140 p0 p1 p2) 6000 0 H
  else (ld 25 H p0 39).bind fun x1 => (stv 0 H x1 p3 0).bind fun H2 => (ld 25 H2 p0 40).bind fun x3 => (stv 1 H2 x3 p3 0).bind fun H4 => (ld 25 H4 p0 41).bind fun x5 => (stv 0 H4 x5 p3 0).bind fun H6 => (ld 25 H6 p0 42).bind fun x7 => (stz 2 H6 x7 p3 0).bind fun H8 => self98 (w32 (p3 + 1)) H8)
set_option maxHeartbeats 4000000 in
theorem lX9_table_98_ok {E : PE} {rr : Int} {HH : PH} (F : FX E cX9_table RX9) (q : QE E (some (vi rr)) HH (some .int)) (hn : nLof E = 5) (hf : (roomOf E).frames = 4) (hl : (roomOf E).locals = 99) (p0 p1 p2 : Int) : ∀ (n : Nat) (p3 : Int) (H : PH), lq1 (lX9_table_98 p0 p1 p2) n p3 H = some (rr, HH) → PW E 98 [some (vr p0), some (vi p1), some (vi p2), some (vi p3), none] [] H := by
  refine lq1_ind (P := fun p3 H => PW E 98 [some (vr p0), some (vi p1), some (vi p2), some (vi p3), none] [] H) ?_
  intro self98 ih98 p3 H h
  unfold lX9_table_98 at h
  refine pw_iload_n (pc := 98) F dX9_table_98 rfl ?_
  refine pw_bipush (pc := 99) F 81 dX9_table_99 (by decide) ?_
  refine pw_icmp_ge (pc := 101) F 138 dX9_table_101 (by decide) (fun hc => ?_) (fun hc => ?_)
  · have h := iteT hc h
    refine pw_iconst (pc := 138) F 0 dX9_table_138 (by decide) ?_
    refine pw_istore_n (pc := 139) F dX9_table_139 (lt_nl hn (by decide)) [some (vr p0), some (vi p1), some (vi p2), some (vi 0), none] rfl ?_
    exact pw_mask [true, true, true, true, true] (ls' := [some (vr p0), some (vi p1), some (vi p2), some (vi 0), none]) rfl (lX9_table_140_ok F q hn hf hl p0 p1 p2  6000 0 H h)
  · have h := iteF hc h
    refine pw_aload_n (pc := 104) F dX9_table_104 rfl ?_
    obtain ⟨x1, ex1, h⟩ := bnd h
    refine pw_get (pc := 105) F 9 39 103 (by decide) (by decide) g_f58399c680 inl_9 2 rfl dX9_table_105 ex1 ?_
    refine pw_iload_n (pc := 108) F dX9_table_108 rfl ?_
    refine pw_iconst (pc := 109) F 0 dX9_table_109 (by decide) ?_
    obtain ⟨H2, eH2, h⟩ := bnd h
    refine pw_iast (pc := 110) F dX9_table_110 eH2 ?_
    refine pw_aload_n (pc := 111) F dX9_table_111 rfl ?_
    obtain ⟨x3, ex3, h⟩ := bnd h
    refine pw_get (pc := 112) F 9 40 106 (by decide) (by decide) g_0282b418ab inl_9 2 rfl dX9_table_112 ex3 ?_
    refine pw_iload_n (pc := 115) F dX9_table_115 rfl ?_
    refine pw_lconst (pc := 116) F 0 dX9_table_116 (by decide) ?_
    obtain ⟨H4, eH4, h⟩ := bnd h
    refine pw_last (pc := 117) F dX9_table_117 eH4 ?_
    refine pw_aload_n (pc := 118) F dX9_table_118 rfl ?_
    obtain ⟨x5, ex5, h⟩ := bnd h
    refine pw_get (pc := 119) F 9 41 109 (by decide) (by decide) g_06be4583fb inl_9 2 rfl dX9_table_119 ex5 ?_
    refine pw_iload_n (pc := 122) F dX9_table_122 rfl ?_
    refine pw_iconst (pc := 123) F 0 dX9_table_123 (by decide) ?_
    obtain ⟨H6, eH6, h⟩ := bnd h
    refine pw_iast (pc := 124) F dX9_table_124 eH6 ?_
    refine pw_aload_n (pc := 125) F dX9_table_125 rfl ?_
    obtain ⟨x7, ex7, h⟩ := bnd h
    refine pw_get (pc := 126) F 9 42 112 (by decide) (by decide) g_192e92b71c inl_9 2 rfl dX9_table_126 ex7 ?_
    refine pw_iload_n (pc := 129) F dX9_table_129 rfl ?_
    refine pw_iconst (pc := 130) F 0 dX9_table_130 (by decide) ?_
    obtain ⟨H8, eH8, h⟩ := bnd h
    refine pw_zast (pc := 131) F dX9_table_131 (stz_spec eH8).1 (stz_spec eH8).2 ?_
    refine pw_iinc (pc := 132) F dX9_table_132 rfl (lt_nl hn (by decide)) [some (vr p0), some (vi p1), some (vi p2), some (vi (w32 (p3 + 1))), none] rfl (by decide) ?_
    refine pw_goto (pc := 135) F 98 dX9_table_135 (by decide) ?_
    exact pw_mask [true, true, true, true, true] (ls' := [some (vr p0), some (vi p1), some (vi p2), some (vi (w32 (p3 + 1))), none]) rfl (ih98 (w32 (p3 + 1)) H8 h)
def jX9_table_93 (p0 p1 p2 s0 s1 : Int) (H : PH) : RO :=
  (stv 25 H s0 38 s1).bind fun H1 => lq1 (lX9_table_98 p0 p1 p2) 6000 0 H1
set_option maxHeartbeats 4000000 in
theorem jX9_table_93_ok {E : PE} {rr : Int} {HH : PH} (F : FX E cX9_table RX9) (q : QE E (some (vi rr)) HH (some .int)) (hn : nLof E = 5) (hf : (roomOf E).frames = 4) (hl : (roomOf E).locals = 99) (p0 p1 p2 s0 s1 : Int) (H : PH) (h : jX9_table_93 p0 p1 p2 s0 s1 H = some (rr, HH)) : PW E 93 [some (vr p0), some (vi p1), some (vi p2), none, none] [vi s1, vr s0] H := by
  unfold jX9_table_93 at h
  obtain ⟨H1, eH1, h⟩ := bnd h
  refine pw_put (pc := 93) F 9 38 278 (by decide) (by decide) g_3c3db0642c inl_9 rfl 0 rfl dX9_table_93 trivial eH1 ?_
  refine pw_iconst (pc := 96) F 0 dX9_table_96 (by decide) ?_
  refine pw_istore_n (pc := 97) F dX9_table_97 (lt_nl hn (by decide)) [some (vr p0), some (vi p1), some (vi p2), some (vi 0), none] rfl ?_
  exact pw_mask [true, true, true, true, true] (ls' := [some (vr p0), some (vi p1), some (vi p2), some (vi 0), none]) rfl (lX9_table_98_ok F q hn hf hl p0 p1 p2  6000 0 H1 h)
def jX9_table_61 (p0 p1 p2 s0 s1 : Int) (H : PH) : RO :=
  (stz 25 H s0 36 s1).bind fun H1 => (ld 25 H1 p0 9).bind fun x2 => (ld 0 H1 x2 p1).bind fun x3 => (stv 25 H1 p0 37 (w32 (x3 + 1))).bind fun H4 => (if p2 ≥ 0 then (ld 25 H4 p0 9).bind fun x5 => (ld 0 H4 x5 p2).bind fun x6 => jX9_table_93 p0 p1 p2 p0 (w32 (x6 + 1)) H4
  else jX9_table_93 p0 p1 p2 p0 1 H4)
set_option maxHeartbeats 4000000 in
theorem jX9_table_61_ok {E : PE} {rr : Int} {HH : PH} (F : FX E cX9_table RX9) (q : QE E (some (vi rr)) HH (some .int)) (hn : nLof E = 5) (hf : (roomOf E).frames = 4) (hl : (roomOf E).locals = 99) (p0 p1 p2 s0 s1 : Int) (H : PH) (h : jX9_table_61 p0 p1 p2 s0 s1 H = some (rr, HH)) : PW E 61 [some (vr p0), some (vi p1), some (vi p2), none, none] [vi s1, vr s0] H := by
  unfold jX9_table_61 at h
  obtain ⟨H1, eH1, h⟩ := bnd h
  refine pw_put (pc := 61) F 9 36 272 (by decide) (by decide) g_034d67ea87 inl_9 rfl 0 rfl dX9_table_61 (stz_spec eH1).1 (stz_spec eH1).2 ?_
  refine pw_aload_n (pc := 64) F dX9_table_64 rfl ?_
  refine pw_aload_n (pc := 65) F dX9_table_65 rfl ?_
  obtain ⟨x2, ex2, h⟩ := bnd h
  refine pw_get (pc := 66) F 9 9 35 (by decide) (by decide) g_364d877551 inl_9 2 rfl dX9_table_66 ex2 ?_
  refine pw_iload_n (pc := 69) F dX9_table_69 rfl ?_
  obtain ⟨x3, ex3, h⟩ := bnd h
  refine pw_iald (pc := 70) F dX9_table_70 ex3 ?_
  refine pw_iconst (pc := 71) F 1 dX9_table_71 (by decide) ?_
  refine pw_iadd (pc := 72) F dX9_table_72 ?_
  obtain ⟨H4, eH4, h⟩ := bnd h
  refine pw_put (pc := 73) F 9 37 275 (by decide) (by decide) g_95aff2781a inl_9 rfl 0 rfl dX9_table_73 trivial eH4 ?_
  refine pw_aload_n (pc := 76) F dX9_table_76 rfl ?_
  refine pw_iload_n (pc := 77) F dX9_table_77 rfl ?_
  refine pw_if_ge (pc := 78) F 85 dX9_table_78 (by decide) (fun hc => ?_) (fun hc => ?_)
  · have h := iteT hc h
    refine pw_aload_n (pc := 85) F dX9_table_85 rfl ?_
    obtain ⟨x5, ex5, h⟩ := bnd h
    refine pw_get (pc := 86) F 9 9 35 (by decide) (by decide) g_364d877551 inl_9 2 rfl dX9_table_86 ex5 ?_
    refine pw_iload_n (pc := 89) F dX9_table_89 rfl ?_
    obtain ⟨x6, ex6, h⟩ := bnd h
    refine pw_iald (pc := 90) F dX9_table_90 ex6 ?_
    refine pw_iconst (pc := 91) F 1 dX9_table_91 (by decide) ?_
    refine pw_iadd (pc := 92) F dX9_table_92 ?_
    exact pw_mask [true, true, true, true, true] (ls' := [some (vr p0), some (vi p1), some (vi p2), none, none]) rfl (jX9_table_93_ok F q hn hf hl p0 p1 p2 p0 (w32 (x6 + 1)) H4 h)
  · have h := iteF hc h
    refine pw_iconst (pc := 81) F 1 dX9_table_81 (by decide) ?_
    refine pw_goto (pc := 82) F 93 dX9_table_82 (by decide) ?_
    exact pw_mask [true, true, true, true, true] (ls' := [some (vr p0), some (vi p1), some (vi p2), none, none]) rfl (jX9_table_93_ok F q hn hf hl p0 p1 p2 p0 1 H4 h)
def jX9_table_46 (p0 p1 p2 : Int) (H : PH) : RO :=
  (stz 25 H p0 35 1).bind fun H1 => (if p2 < 0 then jX9_table_61 p0 p1 p2 p0 0 H1
  else jX9_table_61 p0 p1 p2 p0 1 H1)
set_option maxHeartbeats 4000000 in
theorem jX9_table_46_ok {E : PE} {rr : Int} {HH : PH} (F : FX E cX9_table RX9) (q : QE E (some (vi rr)) HH (some .int)) (hn : nLof E = 5) (hf : (roomOf E).frames = 4) (hl : (roomOf E).locals = 99) (p0 p1 p2 : Int) (H : PH) (h : jX9_table_46 p0 p1 p2 H = some (rr, HH)) : PW E 46 [some (vr p0), some (vi p1), some (vi p2), none, none] [] H := by
  unfold jX9_table_46 at h
  refine pw_aload_n (pc := 46) F dX9_table_46 rfl ?_
  refine pw_iconst (pc := 47) F 1 dX9_table_47 (by decide) ?_
  obtain ⟨H1, eH1, h⟩ := bnd h
  refine pw_put (pc := 48) F 9 35 268 (by decide) (by decide) g_5b90579a7e inl_9 rfl 0 rfl dX9_table_48 (stz_spec eH1).1 (stz_spec eH1).2 ?_
  refine pw_aload_n (pc := 51) F dX9_table_51 rfl ?_
  refine pw_iload_n (pc := 52) F dX9_table_52 rfl ?_
  refine pw_if_lt (pc := 53) F 60 dX9_table_53 (by decide) (fun hc => ?_) (fun hc => ?_)
  · have h := iteT hc h
    refine pw_iconst (pc := 60) F 0 dX9_table_60 (by decide) ?_
    exact pw_mask [true, true, true, true, true] (ls' := [some (vr p0), some (vi p1), some (vi p2), none, none]) rfl (jX9_table_61_ok F q hn hf hl p0 p1 p2 p0 0 H1 h)
  · have h := iteF hc h
    refine pw_iconst (pc := 56) F 1 dX9_table_56 (by decide) ?_
    refine pw_goto (pc := 57) F 61 dX9_table_57 (by decide) ?_
    exact pw_mask [true, true, true, true, true] (ls' := [some (vr p0), some (vi p1), some (vi p2), none, none]) rfl (jX9_table_61_ok F q hn hf hl p0 p1 p2 p0 1 H1 h)
def jX9_table_23 (p0 p1 p2 : Int) (H : PH) : RO :=
  (f_X9_isCodeAtTop p0 p1 H).bind fun z1 => (if z1.1 = 0 then some ((-2), z1.2)
  else (if p2 < 0 then jX9_table_46 p0 p1 p2 z1.2
  else (f_X9_isCodeAtTop p0 p2 z1.2).bind fun z2 => (if z2.1 ≠ 0 then jX9_table_46 p0 p1 p2 z2.2
  else some ((-2), z2.2))))
set_option maxHeartbeats 4000000 in
theorem jX9_table_23_ok {E : PE} {rr : Int} {HH : PH} (F : FX E cX9_table RX9) (q : QE E (some (vi rr)) HH (some .int)) (hn : nLof E = 5) (hf : (roomOf E).frames = 4) (hl : (roomOf E).locals = 99) (p0 p1 p2 : Int) (H : PH) (h : jX9_table_23 p0 p1 p2 H = some (rr, HH)) : PW E 23 [some (vr p0), some (vi p1), some (vi p2), none, none] [] H := by
  unfold jX9_table_23 at h
  refine pw_aload_n (pc := 23) F dX9_table_23 rfl ?_
  refine pw_iload_n (pc := 24) F dX9_table_24 rfl ?_
  obtain ⟨z1, ez1, h⟩ := bnd h
  refine pw_callV (pc := 25) (as := [vi p1]) (st := []) (r := (some (vi z1.1))) F 265 9 (by decide) rfl (fun l => m_X9_isCodeAtTop l p0 p1 H z1.1 z1.2 ez1) g_0ee5932c4e g_5c528716f1 g_a61e2f7077 g_2759d91faa g_96ce86cbdd hd_X9_isCodeAtTop (rm_ok hf hl (by decide) (by decide)) rfl (vm_spec ez1).1 dX9_table_25 rfl (stk' := [vi z1.1]) rfl ?_
  refine pw_if_eq (pc := 28) F 43 dX9_table_28 (by decide) (fun hc => ?_) (fun hc => ?_)
  · have h := iteT hc h
    refine pw_bipush (pc := 43) F (-2) dX9_table_43 (by decide) ?_
    cases h
    exact pw_iret (pc := 45) F q dX9_table_45
  · have h := iteF hc h
    refine pw_iload_n (pc := 31) F dX9_table_31 rfl ?_
    refine pw_if_lt (pc := 32) F 46 dX9_table_32 (by decide) (fun hc => ?_) (fun hc => ?_)
    · have h := iteT hc h
      exact pw_mask [true, true, true, true, true] (ls' := [some (vr p0), some (vi p1), some (vi p2), none, none]) rfl (jX9_table_46_ok F q hn hf hl p0 p1 p2 z1.2 h)
    · have h := iteF hc h
      refine pw_aload_n (pc := 35) F dX9_table_35 rfl ?_
      refine pw_iload_n (pc := 36) F dX9_table_36 rfl ?_
      obtain ⟨z2, ez2, h⟩ := bnd h
      refine pw_callV (pc := 37) (as := [vi p2]) (st := []) (r := (some (vi z2.1))) F 265 9 (by decide) rfl (fun l => m_X9_isCodeAtTop l p0 p2 z1.2 z2.1 z2.2 ez2) g_0ee5932c4e g_5c528716f1 g_a61e2f7077 g_2759d91faa g_96ce86cbdd hd_X9_isCodeAtTop (rm_ok hf hl (by decide) (by decide)) rfl (vm_spec ez2).1 dX9_table_37 rfl (stk' := [vi z2.1]) rfl ?_
      refine pw_if_ne (pc := 40) F 46 dX9_table_40 (by decide) (fun hc => ?_) (fun hc => ?_)
      · have h := iteT hc h
        exact pw_mask [true, true, true, true, true] (ls' := [some (vr p0), some (vi p1), some (vi p2), none, none]) rfl (jX9_table_46_ok F q hn hf hl p0 p1 p2 z2.2 h)
      · have h := iteF hc h
        refine pw_bipush (pc := 43) F (-2) dX9_table_43 (by decide) ?_
        cases h
        exact pw_iret (pc := 45) F q dX9_table_45
def f_X9_table (a0 a1 a2 : Int) (H : PH) : RO := vm 9 a0 H <|
  (f_X9_isQuestion a0 a1 H).bind fun z1 => (if z1.1 = 0 then some ((-1), z1.2)
  else (if a2 = (-1) then jX9_table_23 a0 a1 a2 z1.2
  else (f_X9_isQuestion a0 a2 z1.2).bind fun z2 => (if z2.1 ≠ 0 then jX9_table_23 a0 a1 a2 z2.2
  else some ((-1), z2.2))))
set_option maxHeartbeats 4000000 in
theorem m_X9_table (l : Launch) (a0 a1 a2 : Int) (H : PH) (rr : Int) (HH : PH) (h : f_X9_table a0 a1 a2 H = some (rr, HH)) : CT l yX9_table cX9_table 5 (some .int) 4 99 [vr a0, vi a1, vi a2] H (some (vi rr)) HH := by
  refine CT.of RX9 (by decide) rfl [some (vr a0), some (vi a1), some (vi a2), none, none] rfl rfl ?_
  intro E F q hn hf hl hm
  unfold f_X9_table at h
  obtain ⟨hv, h⟩ := vm_spec h
  refine pw_aload_n (pc := 0) F dX9_table_0 rfl ?_
  refine pw_iload_n (pc := 1) F dX9_table_1 rfl ?_
  obtain ⟨z1, ez1, h⟩ := bnd h
  refine pw_callV (pc := 2) (as := [vi a1]) (st := []) (r := (some (vi z1.1))) F 163 9 (by decide) rfl (fun l => m_X9_isQuestion l a0 a1 H z1.1 z1.2 ez1) g_26236cf357 g_504499df23 g_65a9490ac1 g_2759d91faa g_4f2165d1ca hd_X9_isQuestion (rm_ok hf hl (by decide) (by decide)) rfl (vm_spec ez1).1 dX9_table_2 rfl (stk' := [vi z1.1]) rfl ?_
  refine pw_if_eq (pc := 5) F 21 dX9_table_5 (by decide) (fun hc => ?_) (fun hc => ?_)
  · have h := iteT hc h
    refine pw_iconst (pc := 21) F (-1) dX9_table_21 (by decide) ?_
    cases h
    exact pw_iret (pc := 22) F q dX9_table_22
  · have h := iteF hc h
    refine pw_iload_n (pc := 8) F dX9_table_8 rfl ?_
    refine pw_iconst (pc := 9) F (-1) dX9_table_9 (by decide) ?_
    refine pw_icmp_eq (pc := 10) F 23 dX9_table_10 (by decide) (fun hc => ?_) (fun hc => ?_)
    · have h := iteT hc h
      exact pw_mask [true, true, true, true, true] (ls' := [some (vr a0), some (vi a1), some (vi a2), none, none]) rfl (jX9_table_23_ok F q hn hf hl a0 a1 a2 z1.2 h)
    · have h := iteF hc h
      refine pw_aload_n (pc := 13) F dX9_table_13 rfl ?_
      refine pw_iload_n (pc := 14) F dX9_table_14 rfl ?_
      obtain ⟨z2, ez2, h⟩ := bnd h
      refine pw_callV (pc := 15) (as := [vi a2]) (st := []) (r := (some (vi z2.1))) F 163 9 (by decide) rfl (fun l => m_X9_isQuestion l a0 a2 z1.2 z2.1 z2.2 ez2) g_26236cf357 g_504499df23 g_65a9490ac1 g_2759d91faa g_4f2165d1ca hd_X9_isQuestion (rm_ok hf hl (by decide) (by decide)) rfl (vm_spec ez2).1 dX9_table_15 rfl (stk' := [vi z2.1]) rfl ?_
      refine pw_if_ne (pc := 18) F 23 dX9_table_18 (by decide) (fun hc => ?_) (fun hc => ?_)
      · have h := iteT hc h
        exact pw_mask [true, true, true, true, true] (ls' := [some (vr a0), some (vi a1), some (vi a2), none, none]) rfl (jX9_table_23_ok F q hn hf hl a0 a1 a2 z2.2 h)
      · have h := iteF hc h
        refine pw_iconst (pc := 21) F (-1) dX9_table_21 (by decide) ?_
        cases h
        exact pw_iret (pc := 22) F q dX9_table_22
/-! HouseholdVaultModel.isCell(II)Z -/
theorem dX9_isCell_0 : decode cX9_isCell 0 = .ok (.aload_n 0, 1) := by decide +kernel
theorem dX9_isCell_1 : decode cX9_isCell 1 = .ok (.getfield 268, 3) := by decide +kernel
theorem dX9_isCell_4 : decode cX9_isCell 4 = .ok (.ifCond .eq 39, 3) := by decide +kernel
theorem dX9_isCell_7 : decode cX9_isCell 7 = .ok (.iload_n 1, 1) := by decide +kernel
theorem dX9_isCell_8 : decode cX9_isCell 8 = .ok (.i2l, 1) := by decide +kernel
theorem dX9_isCell_9 : decode cX9_isCell 9 = .ok (.lconst 0, 1) := by decide +kernel
theorem dX9_isCell_10 : decode cX9_isCell 10 = .ok (.aload_n 0, 1) := by decide +kernel
theorem dX9_isCell_11 : decode cX9_isCell 11 = .ok (.getfield 275, 3) := by decide +kernel
theorem dX9_isCell_14 : decode cX9_isCell 14 = .ok (.iconst 1, 1) := by decide +kernel
theorem dX9_isCell_15 : decode cX9_isCell 15 = .ok (.isub, 1) := by decide +kernel
theorem dX9_isCell_16 : decode cX9_isCell 16 = .ok (.i2l, 1) := by decide +kernel
theorem dX9_isCell_17 : decode cX9_isCell 17 = .ok (.invokestatic 140, 3) := by decide +kernel
theorem dX9_isCell_20 : decode cX9_isCell 20 = .ok (.ifCond .eq 23, 3) := by decide +kernel
theorem dX9_isCell_23 : decode cX9_isCell 23 = .ok (.iload_n 2, 1) := by decide +kernel
theorem dX9_isCell_24 : decode cX9_isCell 24 = .ok (.i2l, 1) := by decide +kernel
theorem dX9_isCell_25 : decode cX9_isCell 25 = .ok (.lconst 0, 1) := by decide +kernel
theorem dX9_isCell_26 : decode cX9_isCell 26 = .ok (.aload_n 0, 1) := by decide +kernel
theorem dX9_isCell_27 : decode cX9_isCell 27 = .ok (.getfield 278, 3) := by decide +kernel
theorem dX9_isCell_30 : decode cX9_isCell 30 = .ok (.iconst 1, 1) := by decide +kernel
theorem dX9_isCell_31 : decode cX9_isCell 31 = .ok (.isub, 1) := by decide +kernel
theorem dX9_isCell_32 : decode cX9_isCell 32 = .ok (.i2l, 1) := by decide +kernel
theorem dX9_isCell_33 : decode cX9_isCell 33 = .ok (.invokestatic 140, 3) := by decide +kernel
theorem dX9_isCell_36 : decode cX9_isCell 36 = .ok (.ifCond .eq 7, 3) := by decide +kernel
theorem dX9_isCell_39 : decode cX9_isCell 39 = .ok (.iconst 1, 1) := by decide +kernel
theorem dX9_isCell_40 : decode cX9_isCell 40 = .ok (.goto 4, 3) := by decide +kernel
theorem dX9_isCell_43 : decode cX9_isCell 43 = .ok (.iconst 0, 1) := by decide +kernel
theorem dX9_isCell_44 : decode cX9_isCell 44 = .ok (.ireturn, 1) := by decide +kernel
def f_X9_isCell (a0 a1 a2 : Int) (H : PH) : RO := vm 9 a0 H <|
  (ld 25 H a0 35).bind fun x1 => (if x1 = 0 then some (0, H)
  else (ld 25 H a0 37).bind fun x2 => (f_X9_in a1 0 (w32 (x2 - 1)) H).bind fun z3 => (if z3.1 = 0 then some (0, z3.2)
  else (ld 25 z3.2 a0 38).bind fun x4 => (f_X9_in a2 0 (w32 (x4 - 1)) z3.2).bind fun z5 => (if z5.1 = 0 then some (0, z5.2)
  else some (1, z5.2))))
set_option maxHeartbeats 4000000 in
theorem m_X9_isCell (l : Launch) (a0 a1 a2 : Int) (H : PH) (rr : Int) (HH : PH) (h : f_X9_isCell a0 a1 a2 H = some (rr, HH)) : CT l yX9_isCell cX9_isCell 3 (some .boolean) 1 25 [vr a0, vi a1, vi a2] H (some (vi rr)) HH := by
  refine CT.of RX9 (by decide) rfl [some (vr a0), some (vi a1), some (vi a2)] rfl rfl ?_
  intro E F q hn hf hl hm
  unfold f_X9_isCell at h
  obtain ⟨hv, h⟩ := vm_spec h
  refine pw_aload_n (pc := 0) F dX9_isCell_0 rfl ?_
  obtain ⟨x1, ex1, h⟩ := bnd h
  refine pw_get (pc := 1) F 9 35 268 (by decide) (by decide) g_5b90579a7e inl_9 0 rfl dX9_isCell_1 ex1 ?_
  refine pw_if_eq (pc := 4) F 43 dX9_isCell_4 (by decide) (fun hc => ?_) (fun hc => ?_)
  · have h := iteT hc h
    refine pw_iconst (pc := 43) F 0 dX9_isCell_43 (by decide) ?_
    cases h
    exact pw_zret (pc := 44) F q (by decide) dX9_isCell_44
  · have h := iteF hc h
    refine pw_iload_n (pc := 7) F dX9_isCell_7 rfl ?_
    refine pw_i2l (pc := 8) F dX9_isCell_8 ?_
    refine pw_lconst (pc := 9) F 0 dX9_isCell_9 (by decide) ?_
    refine pw_aload_n (pc := 10) F dX9_isCell_10 rfl ?_
    obtain ⟨x2, ex2, h⟩ := bnd h
    refine pw_get (pc := 11) F 9 37 275 (by decide) (by decide) g_95aff2781a inl_9 0 rfl dX9_isCell_11 ex2 ?_
    refine pw_iconst (pc := 14) F 1 dX9_isCell_14 (by decide) ?_
    refine pw_isub (pc := 15) F dX9_isCell_15 ?_
    refine pw_i2l (pc := 16) F dX9_isCell_16 ?_
    obtain ⟨z3, ez3, h⟩ := bnd h
    refine pw_callS (pc := 17) (as := [vl a1, vl 0, vl (w32 (x2 - 1))]) (st := []) (r := (some (vi z3.1))) F 140 (fun l => m_X9_in l a1 0 (w32 (x2 - 1)) H z3.1 z3.2 ez3) g_0174c906e2 g_3fadeb3198 g_2759d91faa g_c0c30bc7de hd_X9_in (rm_ok hf hl (by decide) (by decide)) rfl dX9_isCell_17 rfl (stk' := [vi z3.1]) rfl ?_
    refine pw_if_eq (pc := 20) F 43 dX9_isCell_20 (by decide) (fun hc => ?_) (fun hc => ?_)
    · have h := iteT hc h
      refine pw_iconst (pc := 43) F 0 dX9_isCell_43 (by decide) ?_
      cases h
      exact pw_zret (pc := 44) F q (by decide) dX9_isCell_44
    · have h := iteF hc h
      refine pw_iload_n (pc := 23) F dX9_isCell_23 rfl ?_
      refine pw_i2l (pc := 24) F dX9_isCell_24 ?_
      refine pw_lconst (pc := 25) F 0 dX9_isCell_25 (by decide) ?_
      refine pw_aload_n (pc := 26) F dX9_isCell_26 rfl ?_
      obtain ⟨x4, ex4, h⟩ := bnd h
      refine pw_get (pc := 27) F 9 38 278 (by decide) (by decide) g_3c3db0642c inl_9 0 rfl dX9_isCell_27 ex4 ?_
      refine pw_iconst (pc := 30) F 1 dX9_isCell_30 (by decide) ?_
      refine pw_isub (pc := 31) F dX9_isCell_31 ?_
      refine pw_i2l (pc := 32) F dX9_isCell_32 ?_
      obtain ⟨z5, ez5, h⟩ := bnd h
      refine pw_callS (pc := 33) (as := [vl a2, vl 0, vl (w32 (x4 - 1))]) (st := []) (r := (some (vi z5.1))) F 140 (fun l => m_X9_in l a2 0 (w32 (x4 - 1)) z3.2 z5.1 z5.2 ez5) g_0174c906e2 g_3fadeb3198 g_2759d91faa g_c0c30bc7de hd_X9_in (rm_ok hf hl (by decide) (by decide)) rfl dX9_isCell_33 rfl (stk' := [vi z5.1]) rfl ?_
      refine pw_if_eq (pc := 36) F 43 dX9_isCell_36 (by decide) (fun hc => ?_) (fun hc => ?_)
      · have h := iteT hc h
        refine pw_iconst (pc := 43) F 0 dX9_isCell_43 (by decide) ?_
        cases h
        exact pw_zret (pc := 44) F q (by decide) dX9_isCell_44
      · have h := iteF hc h
        refine pw_iconst (pc := 39) F 1 dX9_isCell_39 (by decide) ?_
        refine pw_goto (pc := 40) F 44 dX9_isCell_40 (by decide) ?_
        cases h
        exact pw_zret (pc := 44) F q (by decide) dX9_isCell_44
/-! HouseholdVaultModel.cell(III)J -/
theorem dX9_cell_0 : decode cX9_cell 0 = .ok (.aload_n 0, 1) := by decide +kernel
theorem dX9_cell_1 : decode cX9_cell 1 = .ok (.iload_n 1, 1) := by decide +kernel
theorem dX9_cell_2 : decode cX9_cell 2 = .ok (.iload_n 2, 1) := by decide +kernel
theorem dX9_cell_3 : decode cX9_cell 3 = .ok (.invokevirtual 284, 3) := by decide +kernel
theorem dX9_cell_6 : decode cX9_cell 6 = .ok (.ifCond .eq 15, 3) := by decide +kernel
theorem dX9_cell_9 : decode cX9_cell 9 = .ok (.iload_n 3, 1) := by decide +kernel
theorem dX9_cell_10 : decode cX9_cell 10 = .ok (.i2l, 1) := by decide +kernel
theorem dX9_cell_11 : decode cX9_cell 11 = .ok (.lconst 0, 1) := by decide +kernel
theorem dX9_cell_12 : decode cX9_cell 12 = .ok (.ldc2_w 240, 3) := by decide +kernel
theorem dX9_cell_15 : decode cX9_cell 15 = .ok (.invokestatic 140, 3) := by decide +kernel
theorem dX9_cell_18 : decode cX9_cell 18 = .ok (.ifCond .ne 7, 3) := by decide +kernel
theorem dX9_cell_21 : decode cX9_cell 21 = .ok (.ldc2_w 287, 3) := by decide +kernel
theorem dX9_cell_24 : decode cX9_cell 24 = .ok (.lreturn, 1) := by decide +kernel
theorem dX9_cell_25 : decode cX9_cell 25 = .ok (.aload_n 0, 1) := by decide +kernel
theorem dX9_cell_26 : decode cX9_cell 26 = .ok (.getfield 278, 3) := by decide +kernel
theorem dX9_cell_29 : decode cX9_cell 29 = .ok (.iload_n 1, 1) := by decide +kernel
theorem dX9_cell_30 : decode cX9_cell 30 = .ok (.imul, 1) := by decide +kernel
theorem dX9_cell_31 : decode cX9_cell 31 = .ok (.iload_n 2, 1) := by decide +kernel
theorem dX9_cell_32 : decode cX9_cell 32 = .ok (.iadd, 1) := by decide +kernel
theorem dX9_cell_33 : decode cX9_cell 33 = .ok (.istore 4, 2) := by decide +kernel
theorem dX9_cell_35 : decode cX9_cell 35 = .ok (.iload_n 3, 1) := by decide +kernel
theorem dX9_cell_36 : decode cX9_cell 36 = .ok (.ifCond .ne 14, 3) := by decide +kernel
theorem dX9_cell_39 : decode cX9_cell 39 = .ok (.aload_n 0, 1) := by decide +kernel
theorem dX9_cell_40 : decode cX9_cell 40 = .ok (.getfield 103, 3) := by decide +kernel
theorem dX9_cell_43 : decode cX9_cell 43 = .ok (.iload 4, 2) := by decide +kernel
theorem dX9_cell_45 : decode cX9_cell 45 = .ok (.iaload, 1) := by decide +kernel
theorem dX9_cell_46 : decode cX9_cell 46 = .ok (.i2l, 1) := by decide +kernel
theorem dX9_cell_47 : decode cX9_cell 47 = .ok (.goto 33, 3) := by decide +kernel
theorem dX9_cell_50 : decode cX9_cell 50 = .ok (.iload_n 3, 1) := by decide +kernel
theorem dX9_cell_51 : decode cX9_cell 51 = .ok (.iconst 1, 1) := by decide +kernel
theorem dX9_cell_52 : decode cX9_cell 52 = .ok (.if_icmp .ne 13, 3) := by decide +kernel
theorem dX9_cell_55 : decode cX9_cell 55 = .ok (.aload_n 0, 1) := by decide +kernel
theorem dX9_cell_56 : decode cX9_cell 56 = .ok (.getfield 106, 3) := by decide +kernel
theorem dX9_cell_59 : decode cX9_cell 59 = .ok (.iload 4, 2) := by decide +kernel
theorem dX9_cell_61 : decode cX9_cell 61 = .ok (.laload, 1) := by decide +kernel
theorem dX9_cell_62 : decode cX9_cell 62 = .ok (.goto 18, 3) := by decide +kernel
theorem dX9_cell_65 : decode cX9_cell 65 = .ok (.aload_n 0, 1) := by decide +kernel
theorem dX9_cell_66 : decode cX9_cell 66 = .ok (.getfield 112, 3) := by decide +kernel
theorem dX9_cell_69 : decode cX9_cell 69 = .ok (.iload 4, 2) := by decide +kernel
theorem dX9_cell_71 : decode cX9_cell 71 = .ok (.baload, 1) := by decide +kernel
theorem dX9_cell_72 : decode cX9_cell 72 = .ok (.ifCond .eq 7, 3) := by decide +kernel
theorem dX9_cell_75 : decode cX9_cell 75 = .ok (.lconst 1, 1) := by decide +kernel
theorem dX9_cell_76 : decode cX9_cell 76 = .ok (.goto 4, 3) := by decide +kernel
theorem dX9_cell_79 : decode cX9_cell 79 = .ok (.lconst 0, 1) := by decide +kernel
theorem dX9_cell_80 : decode cX9_cell 80 = .ok (.lreturn, 1) := by decide +kernel
def jX9_cell_21 (H : PH) : RO :=
  some ((-1), H)
set_option maxHeartbeats 4000000 in
theorem jX9_cell_21_ok {E : PE} {rr : Int} {HH : PH} (F : FX E cX9_cell RX9) (q : QE E (some (vl rr)) HH (some .long)) (hn : nLof E = 5) (hf : (roomOf E).frames = 2) (hl : (roomOf E).locals = 47) (H : PH) (h : jX9_cell_21  H = some (rr, HH)) : PW E 21 [none, none, none, none, none] [] H := by
  unfold jX9_cell_21 at h
  refine pw_ldc2 (pc := 21) F (-1) g_6f39f4cc85 dX9_cell_21 (by decide) ?_
  cases h
  exact pw_lret (pc := 24) F q dX9_cell_24
def f_X9_cell (a0 a1 a2 a3 : Int) (H : PH) : RO := vm 9 a0 H <|
  (f_X9_isCell a0 a1 a2 H).bind fun z1 => (if z1.1 = 0 then jX9_cell_21  z1.2
  else (f_X9_in a3 0 2 z1.2).bind fun z2 => (if z2.1 ≠ 0 then (ld 25 z2.2 a0 38).bind fun x3 => (if a3 ≠ 0 then (if a3 ≠ 1 then (ld 25 z2.2 a0 42).bind fun x4 => (ld 2 z2.2 x4 (w32 ((w32 (x3 * a1)) + a2))).bind fun x5 => (if x5 = 0 then some (0, z2.2)
  else some (1, z2.2))
  else (ld 25 z2.2 a0 40).bind fun x6 => (ld 1 z2.2 x6 (w32 ((w32 (x3 * a1)) + a2))).bind fun x7 => some (x7, z2.2))
  else (ld 25 z2.2 a0 39).bind fun x8 => (ld 0 z2.2 x8 (w32 ((w32 (x3 * a1)) + a2))).bind fun x9 => some (x9, z2.2))
  else jX9_cell_21  z2.2))
set_option maxHeartbeats 4000000 in
theorem m_X9_cell (l : Launch) (a0 a1 a2 a3 : Int) (H : PH) (rr : Int) (HH : PH) (h : f_X9_cell a0 a1 a2 a3 H = some (rr, HH)) : CT l yX9_cell cX9_cell 5 (some .long) 2 47 [vr a0, vi a1, vi a2, vi a3] H (some (vl rr)) HH := by
  refine CT.of RX9 (by decide) rfl [some (vr a0), some (vi a1), some (vi a2), some (vi a3), none] rfl rfl ?_
  intro E F q hn hf hl hm
  unfold f_X9_cell at h
  obtain ⟨hv, h⟩ := vm_spec h
  refine pw_aload_n (pc := 0) F dX9_cell_0 rfl ?_
  refine pw_iload_n (pc := 1) F dX9_cell_1 rfl ?_
  refine pw_iload_n (pc := 2) F dX9_cell_2 rfl ?_
  obtain ⟨z1, ez1, h⟩ := bnd h
  refine pw_callV (pc := 3) (as := [vi a1, vi a2]) (st := []) (r := (some (vi z1.1))) F 284 9 (by decide) rfl (fun l => m_X9_isCell l a0 a1 a2 H z1.1 z1.2 ez1) g_6dca55cd91 g_39338bb04e g_b754c3a7e4 g_2759d91faa g_66b404b67b hd_X9_isCell (rm_ok hf hl (by decide) (by decide)) rfl (vm_spec ez1).1 dX9_cell_3 rfl (stk' := [vi z1.1]) rfl ?_
  refine pw_if_eq (pc := 6) F 21 dX9_cell_6 (by decide) (fun hc => ?_) (fun hc => ?_)
  · have h := iteT hc h
    exact pw_mask [false, false, false, false, true] (ls' := [none, none, none, none, none]) rfl (jX9_cell_21_ok F q hn hf hl  z1.2 h)
  · have h := iteF hc h
    refine pw_iload_n (pc := 9) F dX9_cell_9 rfl ?_
    refine pw_i2l (pc := 10) F dX9_cell_10 ?_
    refine pw_lconst (pc := 11) F 0 dX9_cell_11 (by decide) ?_
    refine pw_ldc2 (pc := 12) F 2 g_f9a9b8d2f4 dX9_cell_12 (by decide) ?_
    obtain ⟨z2, ez2, h⟩ := bnd h
    refine pw_callS (pc := 15) (as := [vl a3, vl 0, vl 2]) (st := []) (r := (some (vi z2.1))) F 140 (fun l => m_X9_in l a3 0 2 z1.2 z2.1 z2.2 ez2) g_0174c906e2 g_3fadeb3198 g_2759d91faa g_c0c30bc7de hd_X9_in (rm_ok hf hl (by decide) (by decide)) rfl dX9_cell_15 rfl (stk' := [vi z2.1]) rfl ?_
    refine pw_if_ne (pc := 18) F 25 dX9_cell_18 (by decide) (fun hc => ?_) (fun hc => ?_)
    · have h := iteT hc h
      refine pw_aload_n (pc := 25) F dX9_cell_25 rfl ?_
      obtain ⟨x3, ex3, h⟩ := bnd h
      refine pw_get (pc := 26) F 9 38 278 (by decide) (by decide) g_3c3db0642c inl_9 0 rfl dX9_cell_26 ex3 ?_
      refine pw_iload_n (pc := 29) F dX9_cell_29 rfl ?_
      refine pw_imul (pc := 30) F dX9_cell_30 ?_
      refine pw_iload_n (pc := 31) F dX9_cell_31 rfl ?_
      refine pw_iadd (pc := 32) F dX9_cell_32 ?_
      refine pw_istore (pc := 33) F dX9_cell_33 (lt_nl hn (by decide)) [some (vr a0), some (vi a1), some (vi a2), some (vi a3), some (vi (w32 ((w32 (x3 * a1)) + a2)))] rfl ?_
      refine pw_iload_n (pc := 35) F dX9_cell_35 rfl ?_
      refine pw_if_ne (pc := 36) F 50 dX9_cell_36 (by decide) (fun hc => ?_) (fun hc => ?_)
      · have h := iteT hc h
        refine pw_iload_n (pc := 50) F dX9_cell_50 rfl ?_
        refine pw_iconst (pc := 51) F 1 dX9_cell_51 (by decide) ?_
        refine pw_icmp_ne (pc := 52) F 65 dX9_cell_52 (by decide) (fun hc => ?_) (fun hc => ?_)
        · have h := iteT hc h
          refine pw_aload_n (pc := 65) F dX9_cell_65 rfl ?_
          obtain ⟨x4, ex4, h⟩ := bnd h
          refine pw_get (pc := 66) F 9 42 112 (by decide) (by decide) g_192e92b71c inl_9 2 rfl dX9_cell_66 ex4 ?_
          refine pw_iload (pc := 69) F dX9_cell_69 rfl ?_
          obtain ⟨x5, ex5, h⟩ := bnd h
          refine pw_zald (pc := 71) F dX9_cell_71 ex5 ?_
          refine pw_if_eq (pc := 72) F 79 dX9_cell_72 (by decide) (fun hc => ?_) (fun hc => ?_)
          · have h := iteT hc h
            refine pw_lconst (pc := 79) F 0 dX9_cell_79 (by decide) ?_
            cases h
            exact pw_lret (pc := 80) F q dX9_cell_80
          · have h := iteF hc h
            refine pw_lconst (pc := 75) F 1 dX9_cell_75 (by decide) ?_
            refine pw_goto (pc := 76) F 80 dX9_cell_76 (by decide) ?_
            cases h
            exact pw_lret (pc := 80) F q dX9_cell_80
        · have h := iteF hc h
          refine pw_aload_n (pc := 55) F dX9_cell_55 rfl ?_
          obtain ⟨x6, ex6, h⟩ := bnd h
          refine pw_get (pc := 56) F 9 40 106 (by decide) (by decide) g_0282b418ab inl_9 2 rfl dX9_cell_56 ex6 ?_
          refine pw_iload (pc := 59) F dX9_cell_59 rfl ?_
          obtain ⟨x7, ex7, h⟩ := bnd h
          refine pw_lald (pc := 61) F dX9_cell_61 ex7 ?_
          refine pw_goto (pc := 62) F 80 dX9_cell_62 (by decide) ?_
          cases h
          exact pw_lret (pc := 80) F q dX9_cell_80
      · have h := iteF hc h
        refine pw_aload_n (pc := 39) F dX9_cell_39 rfl ?_
        obtain ⟨x8, ex8, h⟩ := bnd h
        refine pw_get (pc := 40) F 9 39 103 (by decide) (by decide) g_f58399c680 inl_9 2 rfl dX9_cell_40 ex8 ?_
        refine pw_iload (pc := 43) F dX9_cell_43 rfl ?_
        obtain ⟨x9, ex9, h⟩ := bnd h
        refine pw_iald (pc := 45) F dX9_cell_45 ex9 ?_
        refine pw_i2l (pc := 46) F dX9_cell_46 ?_
        refine pw_goto (pc := 47) F 80 dX9_cell_47 (by decide) ?_
        cases h
        exact pw_lret (pc := 80) F q dX9_cell_80
    · have h := iteF hc h
      exact pw_mask [false, false, false, false, true] (ls' := [none, none, none, none, none]) rfl (jX9_cell_21_ok F q hn hf hl  z2.2 h)
/-! HouseholdVaultModel.shares(I)I -/
theorem dX9_shares_0 : decode cX9_shares 0 = .ok (.aload_n 0, 1) := by decide +kernel
theorem dX9_shares_1 : decode cX9_shares 1 = .ok (.getfield 268, 3) := by decide +kernel
theorem dX9_shares_4 : decode cX9_shares 4 = .ok (.ifCond .eq 15, 3) := by decide +kernel
theorem dX9_shares_7 : decode cX9_shares 7 = .ok (.iload_n 1, 1) := by decide +kernel
theorem dX9_shares_8 : decode cX9_shares 8 = .ok (.i2l, 1) := by decide +kernel
theorem dX9_shares_9 : decode cX9_shares 9 = .ok (.lconst 0, 1) := by decide +kernel
theorem dX9_shares_10 : decode cX9_shares 10 = .ok (.ldc2_w 289, 3) := by decide +kernel
theorem dX9_shares_13 : decode cX9_shares 13 = .ok (.invokestatic 140, 3) := by decide +kernel
theorem dX9_shares_16 : decode cX9_shares 16 = .ok (.ifCond .ne 5, 3) := by decide +kernel
theorem dX9_shares_19 : decode cX9_shares 19 = .ok (.iconst (-1), 1) := by decide +kernel
theorem dX9_shares_20 : decode cX9_shares 20 = .ok (.ireturn, 1) := by decide +kernel
theorem dX9_shares_21 : decode cX9_shares 21 = .ok (.lconst 0, 1) := by decide +kernel
theorem dX9_shares_22 : decode cX9_shares 22 = .ok (.lstore_n 2, 1) := by decide +kernel
theorem dX9_shares_23 : decode cX9_shares 23 = .ok (.iconst 0, 1) := by decide +kernel
theorem dX9_shares_24 : decode cX9_shares 24 = .ok (.istore 4, 2) := by decide +kernel
theorem dX9_shares_26 : decode cX9_shares 26 = .ok (.iload 4, 2) := by decide +kernel
theorem dX9_shares_28 : decode cX9_shares 28 = .ok (.aload_n 0, 1) := by decide +kernel
theorem dX9_shares_29 : decode cX9_shares 29 = .ok (.getfield 275, 3) := by decide +kernel
theorem dX9_shares_32 : decode cX9_shares 32 = .ok (.aload_n 0, 1) := by decide +kernel
theorem dX9_shares_33 : decode cX9_shares 33 = .ok (.getfield 278, 3) := by decide +kernel
theorem dX9_shares_36 : decode cX9_shares 36 = .ok (.imul, 1) := by decide +kernel
theorem dX9_shares_37 : decode cX9_shares 37 = .ok (.if_icmp .ge 27, 3) := by decide +kernel
theorem dX9_shares_40 : decode cX9_shares 40 = .ok (.lload_n 2, 1) := by decide +kernel
theorem dX9_shares_41 : decode cX9_shares 41 = .ok (.aload_n 0, 1) := by decide +kernel
theorem dX9_shares_42 : decode cX9_shares 42 = .ok (.getfield 106, 3) := by decide +kernel
theorem dX9_shares_45 : decode cX9_shares 45 = .ok (.iload 4, 2) := by decide +kernel
theorem dX9_shares_47 : decode cX9_shares 47 = .ok (.laload, 1) := by decide +kernel
theorem dX9_shares_48 : decode cX9_shares 48 = .ok (.ladd, 1) := by decide +kernel
theorem dX9_shares_49 : decode cX9_shares 49 = .ok (.lstore_n 2, 1) := by decide +kernel
theorem dX9_shares_50 : decode cX9_shares 50 = .ok (.aload_n 0, 1) := by decide +kernel
theorem dX9_shares_51 : decode cX9_shares 51 = .ok (.getfield 109, 3) := by decide +kernel
theorem dX9_shares_54 : decode cX9_shares 54 = .ok (.iload 4, 2) := by decide +kernel
theorem dX9_shares_56 : decode cX9_shares 56 = .ok (.iconst 0, 1) := by decide +kernel
theorem dX9_shares_57 : decode cX9_shares 57 = .ok (.iastore, 1) := by decide +kernel
theorem dX9_shares_58 : decode cX9_shares 58 = .ok (.iinc 4 1, 3) := by decide +kernel
theorem dX9_shares_61 : decode cX9_shares 61 = .ok (.goto (-35), 3) := by decide +kernel
theorem dX9_shares_64 : decode cX9_shares 64 = .ok (.lload_n 2, 1) := by decide +kernel
theorem dX9_shares_65 : decode cX9_shares 65 = .ok (.lconst 0, 1) := by decide +kernel
theorem dX9_shares_66 : decode cX9_shares 66 = .ok (.lcmp, 1) := by decide +kernel
theorem dX9_shares_67 : decode cX9_shares 67 = .ok (.ifCond .ne 5, 3) := by decide +kernel
theorem dX9_shares_70 : decode cX9_shares 70 = .ok (.iconst 0, 1) := by decide +kernel
theorem dX9_shares_71 : decode cX9_shares 71 = .ok (.ireturn, 1) := by decide +kernel
theorem dX9_shares_72 : decode cX9_shares 72 = .ok (.iload_n 1, 1) := by decide +kernel
theorem dX9_shares_73 : decode cX9_shares 73 = .ok (.istore 4, 2) := by decide +kernel
theorem dX9_shares_75 : decode cX9_shares 75 = .ok (.iconst 0, 1) := by decide +kernel
theorem dX9_shares_76 : decode cX9_shares 76 = .ok (.istore 5, 2) := by decide +kernel
theorem dX9_shares_78 : decode cX9_shares 78 = .ok (.iload 5, 2) := by decide +kernel
theorem dX9_shares_80 : decode cX9_shares 80 = .ok (.aload_n 0, 1) := by decide +kernel
theorem dX9_shares_81 : decode cX9_shares 81 = .ok (.getfield 275, 3) := by decide +kernel
theorem dX9_shares_84 : decode cX9_shares 84 = .ok (.aload_n 0, 1) := by decide +kernel
theorem dX9_shares_85 : decode cX9_shares 85 = .ok (.getfield 278, 3) := by decide +kernel
theorem dX9_shares_88 : decode cX9_shares 88 = .ok (.imul, 1) := by decide +kernel
theorem dX9_shares_89 : decode cX9_shares 89 = .ok (.if_icmp .ge 60, 3) := by decide +kernel
theorem dX9_shares_92 : decode cX9_shares 92 = .ok (.aload_n 0, 1) := by decide +kernel
theorem dX9_shares_93 : decode cX9_shares 93 = .ok (.getfield 109, 3) := by decide +kernel
theorem dX9_shares_96 : decode cX9_shares 96 = .ok (.iload 5, 2) := by decide +kernel
theorem dX9_shares_98 : decode cX9_shares 98 = .ok (.iload_n 1, 1) := by decide +kernel
theorem dX9_shares_99 : decode cX9_shares 99 = .ok (.i2l, 1) := by decide +kernel
theorem dX9_shares_100 : decode cX9_shares 100 = .ok (.aload_n 0, 1) := by decide +kernel
theorem dX9_shares_101 : decode cX9_shares 101 = .ok (.getfield 106, 3) := by decide +kernel
theorem dX9_shares_104 : decode cX9_shares 104 = .ok (.iload 5, 2) := by decide +kernel
theorem dX9_shares_106 : decode cX9_shares 106 = .ok (.laload, 1) := by decide +kernel
theorem dX9_shares_107 : decode cX9_shares 107 = .ok (.lmul, 1) := by decide +kernel
theorem dX9_shares_108 : decode cX9_shares 108 = .ok (.lload_n 2, 1) := by decide +kernel
theorem dX9_shares_109 : decode cX9_shares 109 = .ok (.ldiv, 1) := by decide +kernel
theorem dX9_shares_110 : decode cX9_shares 110 = .ok (.l2i, 1) := by decide +kernel
theorem dX9_shares_111 : decode cX9_shares 111 = .ok (.iastore, 1) := by decide +kernel
theorem dX9_shares_112 : decode cX9_shares 112 = .ok (.aload_n 0, 1) := by decide +kernel
theorem dX9_shares_113 : decode cX9_shares 113 = .ok (.getfield 124, 3) := by decide +kernel
theorem dX9_shares_116 : decode cX9_shares 116 = .ok (.iload 5, 2) := by decide +kernel
theorem dX9_shares_118 : decode cX9_shares 118 = .ok (.iload_n 1, 1) := by decide +kernel
theorem dX9_shares_119 : decode cX9_shares 119 = .ok (.i2l, 1) := by decide +kernel
theorem dX9_shares_120 : decode cX9_shares 120 = .ok (.aload_n 0, 1) := by decide +kernel
theorem dX9_shares_121 : decode cX9_shares 121 = .ok (.getfield 106, 3) := by decide +kernel
theorem dX9_shares_124 : decode cX9_shares 124 = .ok (.iload 5, 2) := by decide +kernel
theorem dX9_shares_126 : decode cX9_shares 126 = .ok (.laload, 1) := by decide +kernel
theorem dX9_shares_127 : decode cX9_shares 127 = .ok (.lmul, 1) := by decide +kernel
theorem dX9_shares_128 : decode cX9_shares 128 = .ok (.lload_n 2, 1) := by decide +kernel
theorem dX9_shares_129 : decode cX9_shares 129 = .ok (.lrem, 1) := by decide +kernel
theorem dX9_shares_130 : decode cX9_shares 130 = .ok (.lastore, 1) := by decide +kernel
theorem dX9_shares_131 : decode cX9_shares 131 = .ok (.iload 4, 2) := by decide +kernel
theorem dX9_shares_133 : decode cX9_shares 133 = .ok (.aload_n 0, 1) := by decide +kernel
theorem dX9_shares_134 : decode cX9_shares 134 = .ok (.getfield 109, 3) := by decide +kernel
theorem dX9_shares_137 : decode cX9_shares 137 = .ok (.iload 5, 2) := by decide +kernel
theorem dX9_shares_139 : decode cX9_shares 139 = .ok (.iaload, 1) := by decide +kernel
theorem dX9_shares_140 : decode cX9_shares 140 = .ok (.isub, 1) := by decide +kernel
theorem dX9_shares_141 : decode cX9_shares 141 = .ok (.istore 4, 2) := by decide +kernel
theorem dX9_shares_143 : decode cX9_shares 143 = .ok (.iinc 5 1, 3) := by decide +kernel
theorem dX9_shares_146 : decode cX9_shares 146 = .ok (.goto (-68), 3) := by decide +kernel
theorem dX9_shares_149 : decode cX9_shares 149 = .ok (.iload 4, 2) := by decide +kernel
theorem dX9_shares_151 : decode cX9_shares 151 = .ok (.ifCond .le 83, 3) := by decide +kernel
theorem dX9_shares_154 : decode cX9_shares 154 = .ok (.iconst 0, 1) := by decide +kernel
theorem dX9_shares_155 : decode cX9_shares 155 = .ok (.istore 5, 2) := by decide +kernel
theorem dX9_shares_157 : decode cX9_shares 157 = .ok (.iconst 1, 1) := by decide +kernel
theorem dX9_shares_158 : decode cX9_shares 158 = .ok (.istore 6, 2) := by decide +kernel
theorem dX9_shares_160 : decode cX9_shares 160 = .ok (.iload 6, 2) := by decide +kernel
theorem dX9_shares_162 : decode cX9_shares 162 = .ok (.aload_n 0, 1) := by decide +kernel
theorem dX9_shares_163 : decode cX9_shares 163 = .ok (.getfield 275, 3) := by decide +kernel
theorem dX9_shares_166 : decode cX9_shares 166 = .ok (.aload_n 0, 1) := by decide +kernel
theorem dX9_shares_167 : decode cX9_shares 167 = .ok (.getfield 278, 3) := by decide +kernel
theorem dX9_shares_170 : decode cX9_shares 170 = .ok (.imul, 1) := by decide +kernel
theorem dX9_shares_171 : decode cX9_shares 171 = .ok (.if_icmp .ge 36, 3) := by decide +kernel
theorem dX9_shares_174 : decode cX9_shares 174 = .ok (.aload_n 0, 1) := by decide +kernel
theorem dX9_shares_175 : decode cX9_shares 175 = .ok (.getfield 124, 3) := by decide +kernel
theorem dX9_shares_178 : decode cX9_shares 178 = .ok (.iload 6, 2) := by decide +kernel
theorem dX9_shares_180 : decode cX9_shares 180 = .ok (.laload, 1) := by decide +kernel
theorem dX9_shares_181 : decode cX9_shares 181 = .ok (.aload_n 0, 1) := by decide +kernel
theorem dX9_shares_182 : decode cX9_shares 182 = .ok (.getfield 124, 3) := by decide +kernel
theorem dX9_shares_185 : decode cX9_shares 185 = .ok (.iload 5, 2) := by decide +kernel
theorem dX9_shares_187 : decode cX9_shares 187 = .ok (.laload, 1) := by decide +kernel
theorem dX9_shares_188 : decode cX9_shares 188 = .ok (.lcmp, 1) := by decide +kernel
theorem dX9_shares_189 : decode cX9_shares 189 = .ok (.ifCond .le 8, 3) := by decide +kernel
theorem dX9_shares_192 : decode cX9_shares 192 = .ok (.iload 6, 2) := by decide +kernel
theorem dX9_shares_194 : decode cX9_shares 194 = .ok (.goto 5, 3) := by decide +kernel
theorem dX9_shares_197 : decode cX9_shares 197 = .ok (.iload 5, 2) := by decide +kernel
theorem dX9_shares_199 : decode cX9_shares 199 = .ok (.istore 5, 2) := by decide +kernel
theorem dX9_shares_201 : decode cX9_shares 201 = .ok (.iinc 6 1, 3) := by decide +kernel
theorem dX9_shares_204 : decode cX9_shares 204 = .ok (.goto (-44), 3) := by decide +kernel
theorem dX9_shares_207 : decode cX9_shares 207 = .ok (.aload_n 0, 1) := by decide +kernel
theorem dX9_shares_208 : decode cX9_shares 208 = .ok (.getfield 109, 3) := by decide +kernel
theorem dX9_shares_211 : decode cX9_shares 211 = .ok (.iload 5, 2) := by decide +kernel
theorem dX9_shares_213 : decode cX9_shares 213 = .ok (.dup2, 1) := by decide +kernel
theorem dX9_shares_214 : decode cX9_shares 214 = .ok (.iaload, 1) := by decide +kernel
theorem dX9_shares_215 : decode cX9_shares 215 = .ok (.iconst 1, 1) := by decide +kernel
theorem dX9_shares_216 : decode cX9_shares 216 = .ok (.iadd, 1) := by decide +kernel
theorem dX9_shares_217 : decode cX9_shares 217 = .ok (.iastore, 1) := by decide +kernel
theorem dX9_shares_218 : decode cX9_shares 218 = .ok (.aload_n 0, 1) := by decide +kernel
theorem dX9_shares_219 : decode cX9_shares 219 = .ok (.getfield 124, 3) := by decide +kernel
theorem dX9_shares_222 : decode cX9_shares 222 = .ok (.iload 5, 2) := by decide +kernel
theorem dX9_shares_224 : decode cX9_shares 224 = .ok (.ldc2_w 287, 3) := by decide +kernel
theorem dX9_shares_227 : decode cX9_shares 227 = .ok (.lastore, 1) := by decide +kernel
theorem dX9_shares_228 : decode cX9_shares 228 = .ok (.iinc 4 (-1), 3) := by decide +kernel
theorem dX9_shares_231 : decode cX9_shares 231 = .ok (.goto (-82), 3) := by decide +kernel
theorem dX9_shares_234 : decode cX9_shares 234 = .ok (.iconst 1, 1) := by decide +kernel
theorem dX9_shares_235 : decode cX9_shares 235 = .ok (.ireturn, 1) := by decide +kernel
def jX9_shares_199 (self149 : Int → PH → RO) (self160 : Int → Int → PH → RO) (p0 p4 p6 s0 : Int) (H : PH) : RO :=
  self160 s0 (w32 (p6 + 1)) H
set_option maxHeartbeats 4000000 in
theorem jX9_shares_199_ok {E : PE} {rr : Int} {HH : PH} (F : FX E cX9_shares RX9) (q : QE E (some (vi rr)) HH (some .int)) (hn : nLof E = 7) (hf : (roomOf E).frames = 1) (hl : (roomOf E).locals = 25) (self149 : Int → PH → RO) (self160 : Int → Int → PH → RO) (p0 p4 p6 s0 : Int) (H : PH) (ih149 : ∀ (v4 : Int) (HV : PH), self149 v4 HV = some (rr, HH) → PW E 149 [some (vr p0), none, none, none, some (vi v4), none, none] [] HV) (ih160 : ∀ (v5 v6 : Int) (HV : PH), self160 v5 v6 HV = some (rr, HH) → PW E 160 [some (vr p0), none, none, none, some (vi p4), some (vi v5), some (vi v6)] [] HV) (h : jX9_shares_199 self149 self160 p0 p4 p6 s0 H = some (rr, HH)) : PW E 199 [some (vr p0), none, none, none, some (vi p4), none, some (vi p6)] [vi s0] H := by
  unfold jX9_shares_199 at h
  refine pw_istore (pc := 199) F dX9_shares_199 (lt_nl hn (by decide)) [some (vr p0), none, none, none, some (vi p4), some (vi s0), some (vi p6)] rfl ?_
  refine pw_iinc (pc := 201) F dX9_shares_201 rfl (lt_nl hn (by decide)) [some (vr p0), none, none, none, some (vi p4), some (vi s0), some (vi (w32 (p6 + 1)))] rfl (by decide) ?_
  refine pw_goto (pc := 204) F 160 dX9_shares_204 (by decide) ?_
  exact pw_mask [true, true, true, true, true, true, true] (ls' := [some (vr p0), none, none, none, some (vi p4), some (vi s0), some (vi (w32 (p6 + 1)))]) rfl (ih160 s0 (w32 (p6 + 1)) H h)
def lX9_shares_160 (self149 : Int → PH → RO) (p0 p4 : Int) (self160 : Int → Int → PH → RO) (p5 p6 : Int) (H : PH) : RO :=
  (ld 25 H p0 37).bind fun x1 => (ld 25 H p0 38).bind fun x2 => (if p6 ≥ (w32 (x1 * x2)) then (ld 25 H p0 41).bind fun x3 => (ld 0 H x3 p5).bind fun x4 => (stv 0 H x3 p5 (w32 (x4 + 1))).bind fun H5 => (ld 25 H5 p0 49).bind fun x6 => (stv 1 H5 x6 p5 (-1)).bind fun H7 => self149 (w32 (p4 + (-1))) H7
  else (ld 25 H p0 49).bind fun x8 => (ld 1 H x8 p6).bind fun x9 => (ld 25 H p0 49).bind fun x10 => (ld 1 H x10 p5).bind fun x11 => (if (lc x9 x11) ≤ 0 then jX9_shares_199 self149 self160 p0 p4 p6 p5 H
  else jX9_shares_199 self149 self160 p0 p4 p6 p6 H))
set_option maxHeartbeats 4000000 in
theorem lX9_shares_160_ok {E : PE} {rr : Int} {HH : PH} (F : FX E cX9_shares RX9) (q : QE E (some (vi rr)) HH (some .int)) (hn : nLof E = 7) (hf : (roomOf E).frames = 1) (hl : (roomOf E).locals = 25) (self149 : Int → PH → RO) (p0 p4 : Int) (ih149 : ∀ (v4 : Int) (HV : PH), self149 v4 HV = some (rr, HH) → PW E 149 [some (vr p0), none, none, none, some (vi v4), none, none] [] HV) : ∀ (n : Nat) (p5 p6 : Int) (H : PH), lq2 (lX9_shares_160 self149 p0 p4) n p5 p6 H = some (rr, HH) → PW E 160 [some (vr p0), none, none, none, some (vi p4), some (vi p5), some (vi p6)] [] H := by
  refine lq2_ind (P := fun p5 p6 H => PW E 160 [some (vr p0), none, none, none, some (vi p4), some (vi p5), some (vi p6)] [] H) ?_
  intro self160 ih160 p5 p6 H h
  unfold lX9_shares_160 at h
  refine pw_iload (pc := 160) F dX9_shares_160 rfl ?_
  refine pw_aload_n (pc := 162) F dX9_shares_162 rfl ?_
  obtain ⟨x1, ex1, h⟩ := bnd h
  refine pw_get (pc := 163) F 9 37 275 (by decide) (by decide) g_95aff2781a inl_9 0 rfl dX9_shares_163 ex1 ?_
  refine pw_aload_n (pc := 166) F dX9_shares_166 rfl ?_
  obtain ⟨x2, ex2, h⟩ := bnd h
  refine pw_get (pc := 167) F 9 38 278 (by decide) (by decide) g_3c3db0642c inl_9 0 rfl dX9_shares_167 ex2 ?_
  refine pw_imul (pc := 170) F dX9_shares_170 ?_
  refine pw_icmp_ge (pc := 171) F 207 dX9_shares_171 (by decide) (fun hc => ?_) (fun hc => ?_)
  · have h := iteT hc h
    refine pw_aload_n (pc := 207) F dX9_shares_207 rfl ?_
    obtain ⟨x3, ex3, h⟩ := bnd h
    refine pw_get (pc := 208) F 9 41 109 (by decide) (by decide) g_06be4583fb inl_9 2 rfl dX9_shares_208 ex3 ?_
    refine pw_iload (pc := 211) F dX9_shares_211 rfl ?_
    refine pw_dup2 (pc := 213) F dX9_shares_213 (pvne rfl) (pvne rfl) ?_
    obtain ⟨x4, ex4, h⟩ := bnd h
    refine pw_iald (pc := 214) F dX9_shares_214 ex4 ?_
    refine pw_iconst (pc := 215) F 1 dX9_shares_215 (by decide) ?_
    refine pw_iadd (pc := 216) F dX9_shares_216 ?_
    obtain ⟨H5, eH5, h⟩ := bnd h
    refine pw_iast (pc := 217) F dX9_shares_217 eH5 ?_
    refine pw_aload_n (pc := 218) F dX9_shares_218 rfl ?_
    obtain ⟨x6, ex6, h⟩ := bnd h
    refine pw_get (pc := 219) F 9 49 124 (by decide) (by decide) g_2b8e0555eb inl_9 2 rfl dX9_shares_219 ex6 ?_
    refine pw_iload (pc := 222) F dX9_shares_222 rfl ?_
    refine pw_ldc2 (pc := 224) F (-1) g_6f39f4cc85 dX9_shares_224 (by decide) ?_
    obtain ⟨H7, eH7, h⟩ := bnd h
    refine pw_last (pc := 227) F dX9_shares_227 eH7 ?_
    refine pw_iinc (pc := 228) F dX9_shares_228 rfl (lt_nl hn (by decide)) [some (vr p0), none, none, none, some (vi (w32 (p4 + (-1)))), some (vi p5), some (vi p6)] rfl (by decide) ?_
    refine pw_goto (pc := 231) F 149 dX9_shares_231 (by decide) ?_
    exact pw_mask [true, true, true, true, true, false, false] (ls' := [some (vr p0), none, none, none, some (vi (w32 (p4 + (-1)))), none, none]) rfl (ih149 (w32 (p4 + (-1))) H7 h)
  · have h := iteF hc h
    refine pw_aload_n (pc := 174) F dX9_shares_174 rfl ?_
    obtain ⟨x8, ex8, h⟩ := bnd h
    refine pw_get (pc := 175) F 9 49 124 (by decide) (by decide) g_2b8e0555eb inl_9 2 rfl dX9_shares_175 ex8 ?_
    refine pw_iload (pc := 178) F dX9_shares_178 rfl ?_
    obtain ⟨x9, ex9, h⟩ := bnd h
    refine pw_lald (pc := 180) F dX9_shares_180 ex9 ?_
    refine pw_aload_n (pc := 181) F dX9_shares_181 rfl ?_
    obtain ⟨x10, ex10, h⟩ := bnd h
    refine pw_get (pc := 182) F 9 49 124 (by decide) (by decide) g_2b8e0555eb inl_9 2 rfl dX9_shares_182 ex10 ?_
    refine pw_iload (pc := 185) F dX9_shares_185 rfl ?_
    obtain ⟨x11, ex11, h⟩ := bnd h
    refine pw_lald (pc := 187) F dX9_shares_187 ex11 ?_
    refine pw_lcmp (pc := 188) F dX9_shares_188 ?_
    refine pw_if_le (pc := 189) F 197 dX9_shares_189 (by decide) (fun hc => ?_) (fun hc => ?_)
    · have h := iteT hc h
      refine pw_iload (pc := 197) F dX9_shares_197 rfl ?_
      exact pw_mask [true, true, true, true, true, false, true] (ls' := [some (vr p0), none, none, none, some (vi p4), none, some (vi p6)]) rfl (jX9_shares_199_ok F q hn hf hl self149 self160 p0 p4 p6 p5 H ih149 ih160 h)
    · have h := iteF hc h
      refine pw_iload (pc := 192) F dX9_shares_192 rfl ?_
      refine pw_goto (pc := 194) F 199 dX9_shares_194 (by decide) ?_
      exact pw_mask [true, true, true, true, true, false, true] (ls' := [some (vr p0), none, none, none, some (vi p4), none, some (vi p6)]) rfl (jX9_shares_199_ok F q hn hf hl self149 self160 p0 p4 p6 p6 H ih149 ih160 h)
def lX9_shares_149 (p0 : Int) (self149 : Int → PH → RO) (p4 : Int) (H : PH) : RO :=
  (if p4 ≤ 0 then some (1, H)
  else lq2 (lX9_shares_160 self149 p0 p4) 6000 0 1 H)
set_option maxHeartbeats 4000000 in
theorem lX9_shares_149_ok {E : PE} {rr : Int} {HH : PH} (F : FX E cX9_shares RX9) (q : QE E (some (vi rr)) HH (some .int)) (hn : nLof E = 7) (hf : (roomOf E).frames = 1) (hl : (roomOf E).locals = 25) (p0 : Int) : ∀ (n : Nat) (p4 : Int) (H : PH), lq1 (lX9_shares_149 p0) n p4 H = some (rr, HH) → PW E 149 [some (vr p0), none, none, none, some (vi p4), none, none] [] H := by
  refine lq1_ind (P := fun p4 H => PW E 149 [some (vr p0), none, none, none, some (vi p4), none, none] [] H) ?_
  intro self149 ih149 p4 H h
  unfold lX9_shares_149 at h
  refine pw_iload (pc := 149) F dX9_shares_149 rfl ?_
  refine pw_if_le (pc := 151) F 234 dX9_shares_151 (by decide) (fun hc => ?_) (fun hc => ?_)
  · have h := iteT hc h
    refine pw_iconst (pc := 234) F 1 dX9_shares_234 (by decide) ?_
    cases h
    exact pw_iret (pc := 235) F q dX9_shares_235
  · have h := iteF hc h
    refine pw_iconst (pc := 154) F 0 dX9_shares_154 (by decide) ?_
    refine pw_istore (pc := 155) F dX9_shares_155 (lt_nl hn (by decide)) [some (vr p0), none, none, none, some (vi p4), some (vi 0), none] rfl ?_
    refine pw_iconst (pc := 157) F 1 dX9_shares_157 (by decide) ?_
    refine pw_istore (pc := 158) F dX9_shares_158 (lt_nl hn (by decide)) [some (vr p0), none, none, none, some (vi p4), some (vi 0), some (vi 1)] rfl ?_
    exact pw_mask [true, true, true, true, true, true, true] (ls' := [some (vr p0), none, none, none, some (vi p4), some (vi 0), some (vi 1)]) rfl (lX9_shares_160_ok F q hn hf hl self149 p0 p4 ih149  6000 0 1 H h)
def lX9_shares_78 (p0 p1 p2 : Int) (self78 : Int → Int → PH → RO) (p4 p5 : Int) (H : PH) : RO :=
  (ld 25 H p0 37).bind fun x1 => (ld 25 H p0 38).bind fun x2 => (if p5 ≥ (w32 (x1 * x2)) then lq1 (lX9_shares_149 p0) 6000 p4 H
  else (ld 25 H p0 41).bind fun x3 => (ld 25 H p0 40).bind fun x4 => (ld 1 H x4 p5).bind fun x5 => (if p2 = 0 then none else (stv 0 H x3 p5 (w32 (w64 (Int.tdiv (w64 (p1 * x5)) p2)))).bind fun H6 => (ld 25 H6 p0 49).bind fun x7 => (ld 25 H6 p0 40).bind fun x8 => (ld 1 H6 x8 p5).bind fun x9 => (if p2 = 0 then none else (stv 1 H6 x7 p5 (Int.tmod (w64 (p1 * x9)) p2)).bind fun H10 => (ld 25 H10 p0 41).bind fun x11 => (ld 0 H10 x11 p5).bind fun x12 => self78 (w32 (p4 - x12)) (w32 (p5 + 1)) H10)))
set_option maxHeartbeats 4000000 in
theorem lX9_shares_78_ok {E : PE} {rr : Int} {HH : PH} (F : FX E cX9_shares RX9) (q : QE E (some (vi rr)) HH (some .int)) (hn : nLof E = 7) (hf : (roomOf E).frames = 1) (hl : (roomOf E).locals = 25) (p0 p1 p2 : Int) : ∀ (n : Nat) (p4 p5 : Int) (H : PH), lq2 (lX9_shares_78 p0 p1 p2) n p4 p5 H = some (rr, HH) → PW E 78 [some (vr p0), some (vi p1), some (vl p2), none, some (vi p4), some (vi p5), none] [] H := by
  refine lq2_ind (P := fun p4 p5 H => PW E 78 [some (vr p0), some (vi p1), some (vl p2), none, some (vi p4), some (vi p5), none] [] H) ?_
  intro self78 ih78 p4 p5 H h
  unfold lX9_shares_78 at h
  refine pw_iload (pc := 78) F dX9_shares_78 rfl ?_
  refine pw_aload_n (pc := 80) F dX9_shares_80 rfl ?_
  obtain ⟨x1, ex1, h⟩ := bnd h
  refine pw_get (pc := 81) F 9 37 275 (by decide) (by decide) g_95aff2781a inl_9 0 rfl dX9_shares_81 ex1 ?_
  refine pw_aload_n (pc := 84) F dX9_shares_84 rfl ?_
  obtain ⟨x2, ex2, h⟩ := bnd h
  refine pw_get (pc := 85) F 9 38 278 (by decide) (by decide) g_3c3db0642c inl_9 0 rfl dX9_shares_85 ex2 ?_
  refine pw_imul (pc := 88) F dX9_shares_88 ?_
  refine pw_icmp_ge (pc := 89) F 149 dX9_shares_89 (by decide) (fun hc => ?_) (fun hc => ?_)
  · have h := iteT hc h
    exact pw_mask [true, false, false, true, true, false, true] (ls' := [some (vr p0), none, none, none, some (vi p4), none, none]) rfl (lX9_shares_149_ok F q hn hf hl p0  6000 p4 H h)
  · have h := iteF hc h
    refine pw_aload_n (pc := 92) F dX9_shares_92 rfl ?_
    obtain ⟨x3, ex3, h⟩ := bnd h
    refine pw_get (pc := 93) F 9 41 109 (by decide) (by decide) g_06be4583fb inl_9 2 rfl dX9_shares_93 ex3 ?_
    refine pw_iload (pc := 96) F dX9_shares_96 rfl ?_
    refine pw_iload_n (pc := 98) F dX9_shares_98 rfl ?_
    refine pw_i2l (pc := 99) F dX9_shares_99 ?_
    refine pw_aload_n (pc := 100) F dX9_shares_100 rfl ?_
    obtain ⟨x4, ex4, h⟩ := bnd h
    refine pw_get (pc := 101) F 9 40 106 (by decide) (by decide) g_0282b418ab inl_9 2 rfl dX9_shares_101 ex4 ?_
    refine pw_iload (pc := 104) F dX9_shares_104 rfl ?_
    obtain ⟨x5, ex5, h⟩ := bnd h
    refine pw_lald (pc := 106) F dX9_shares_106 ex5 ?_
    refine pw_lmul (pc := 107) F dX9_shares_107 ?_
    refine pw_lload_n (pc := 108) F dX9_shares_108 rfl ?_
    by_cases hz109 : p2 = 0
    · rw [if_pos hz109] at h; cases h
    have h := iteF hz109 h
    refine pw_ldiv (pc := 109) F dX9_shares_109 hz109 ?_
    refine pw_l2i (pc := 110) F dX9_shares_110 ?_
    obtain ⟨H6, eH6, h⟩ := bnd h
    refine pw_iast (pc := 111) F dX9_shares_111 eH6 ?_
    refine pw_aload_n (pc := 112) F dX9_shares_112 rfl ?_
    obtain ⟨x7, ex7, h⟩ := bnd h
    refine pw_get (pc := 113) F 9 49 124 (by decide) (by decide) g_2b8e0555eb inl_9 2 rfl dX9_shares_113 ex7 ?_
    refine pw_iload (pc := 116) F dX9_shares_116 rfl ?_
    refine pw_iload_n (pc := 118) F dX9_shares_118 rfl ?_
    refine pw_i2l (pc := 119) F dX9_shares_119 ?_
    refine pw_aload_n (pc := 120) F dX9_shares_120 rfl ?_
    obtain ⟨x8, ex8, h⟩ := bnd h
    refine pw_get (pc := 121) F 9 40 106 (by decide) (by decide) g_0282b418ab inl_9 2 rfl dX9_shares_121 ex8 ?_
    refine pw_iload (pc := 124) F dX9_shares_124 rfl ?_
    obtain ⟨x9, ex9, h⟩ := bnd h
    refine pw_lald (pc := 126) F dX9_shares_126 ex9 ?_
    refine pw_lmul (pc := 127) F dX9_shares_127 ?_
    refine pw_lload_n (pc := 128) F dX9_shares_128 rfl ?_
    by_cases hz129 : p2 = 0
    · rw [if_pos hz129] at h; cases h
    have h := iteF hz129 h
    refine pw_lrem (pc := 129) F dX9_shares_129 hz129 ?_
    obtain ⟨H10, eH10, h⟩ := bnd h
    refine pw_last (pc := 130) F dX9_shares_130 eH10 ?_
    refine pw_iload (pc := 131) F dX9_shares_131 rfl ?_
    refine pw_aload_n (pc := 133) F dX9_shares_133 rfl ?_
    obtain ⟨x11, ex11, h⟩ := bnd h
    refine pw_get (pc := 134) F 9 41 109 (by decide) (by decide) g_06be4583fb inl_9 2 rfl dX9_shares_134 ex11 ?_
    refine pw_iload (pc := 137) F dX9_shares_137 rfl ?_
    obtain ⟨x12, ex12, h⟩ := bnd h
    refine pw_iald (pc := 139) F dX9_shares_139 ex12 ?_
    refine pw_isub (pc := 140) F dX9_shares_140 ?_
    refine pw_istore (pc := 141) F dX9_shares_141 (lt_nl hn (by decide)) [some (vr p0), some (vi p1), some (vl p2), none, some (vi (w32 (p4 - x12))), some (vi p5), none] rfl ?_
    refine pw_iinc (pc := 143) F dX9_shares_143 rfl (lt_nl hn (by decide)) [some (vr p0), some (vi p1), some (vl p2), none, some (vi (w32 (p4 - x12))), some (vi (w32 (p5 + 1))), none] rfl (by decide) ?_
    refine pw_goto (pc := 146) F 78 dX9_shares_146 (by decide) ?_
    exact pw_mask [true, true, true, true, true, true, true] (ls' := [some (vr p0), some (vi p1), some (vl p2), none, some (vi (w32 (p4 - x12))), some (vi (w32 (p5 + 1))), none]) rfl (ih78 (w32 (p4 - x12)) (w32 (p5 + 1)) H10 h)
def lX9_shares_26 (p0 p1 : Int) (self26 : Int → Int → PH → RO) (p2 p4 : Int) (H : PH) : RO :=
  (ld 25 H p0 37).bind fun x1 => (ld 25 H p0 38).bind fun x2 => (if p4 ≥ (w32 (x1 * x2)) then (if (lc p2 0) ≠ 0 then lq2 (lX9_shares_78 p0 p1 p2) 6000 p1 0 H
  else some (0, H))
  else (ld 25 H p0 40).bind fun x3 => (ld 1 H x3 p4).bind fun x4 => (ld 25 H p0 41).bind fun x5 => (stv 0 H x5 p4 0).bind fun H6 => self26 (w64 (p2 + x4)) (w32 (p4 + 1)) H6)
set_option maxHeartbeats 4000000 in
theorem lX9_shares_26_ok {E : PE} {rr : Int} {HH : PH} (F : FX E cX9_shares RX9) (q : QE E (some (vi rr)) HH (some .int)) (hn : nLof E = 7) (hf : (roomOf E).frames = 1) (hl : (roomOf E).locals = 25) (p0 p1 : Int) : ∀ (n : Nat) (p2 p4 : Int) (H : PH), lq2 (lX9_shares_26 p0 p1) n p2 p4 H = some (rr, HH) → PW E 26 [some (vr p0), some (vi p1), some (vl p2), none, some (vi p4), none, none] [] H := by
  refine lq2_ind (P := fun p2 p4 H => PW E 26 [some (vr p0), some (vi p1), some (vl p2), none, some (vi p4), none, none] [] H) ?_
  intro self26 ih26 p2 p4 H h
  unfold lX9_shares_26 at h
  refine pw_iload (pc := 26) F dX9_shares_26 rfl ?_
  refine pw_aload_n (pc := 28) F dX9_shares_28 rfl ?_
  obtain ⟨x1, ex1, h⟩ := bnd h
  refine pw_get (pc := 29) F 9 37 275 (by decide) (by decide) g_95aff2781a inl_9 0 rfl dX9_shares_29 ex1 ?_
  refine pw_aload_n (pc := 32) F dX9_shares_32 rfl ?_
  obtain ⟨x2, ex2, h⟩ := bnd h
  refine pw_get (pc := 33) F 9 38 278 (by decide) (by decide) g_3c3db0642c inl_9 0 rfl dX9_shares_33 ex2 ?_
  refine pw_imul (pc := 36) F dX9_shares_36 ?_
  refine pw_icmp_ge (pc := 37) F 64 dX9_shares_37 (by decide) (fun hc => ?_) (fun hc => ?_)
  · have h := iteT hc h
    refine pw_lload_n (pc := 64) F dX9_shares_64 rfl ?_
    refine pw_lconst (pc := 65) F 0 dX9_shares_65 (by decide) ?_
    refine pw_lcmp (pc := 66) F dX9_shares_66 ?_
    refine pw_if_ne (pc := 67) F 72 dX9_shares_67 (by decide) (fun hc => ?_) (fun hc => ?_)
    · have h := iteT hc h
      refine pw_iload_n (pc := 72) F dX9_shares_72 rfl ?_
      refine pw_istore (pc := 73) F dX9_shares_73 (lt_nl hn (by decide)) [some (vr p0), some (vi p1), some (vl p2), none, some (vi p1), none, none] rfl ?_
      refine pw_iconst (pc := 75) F 0 dX9_shares_75 (by decide) ?_
      refine pw_istore (pc := 76) F dX9_shares_76 (lt_nl hn (by decide)) [some (vr p0), some (vi p1), some (vl p2), none, some (vi p1), some (vi 0), none] rfl ?_
      exact pw_mask [true, true, true, true, true, true, true] (ls' := [some (vr p0), some (vi p1), some (vl p2), none, some (vi p1), some (vi 0), none]) rfl (lX9_shares_78_ok F q hn hf hl p0 p1 p2  6000 p1 0 H h)
    · have h := iteF hc h
      refine pw_iconst (pc := 70) F 0 dX9_shares_70 (by decide) ?_
      cases h
      exact pw_iret (pc := 71) F q dX9_shares_71
  · have h := iteF hc h
    refine pw_lload_n (pc := 40) F dX9_shares_40 rfl ?_
    refine pw_aload_n (pc := 41) F dX9_shares_41 rfl ?_
    obtain ⟨x3, ex3, h⟩ := bnd h
    refine pw_get (pc := 42) F 9 40 106 (by decide) (by decide) g_0282b418ab inl_9 2 rfl dX9_shares_42 ex3 ?_
    refine pw_iload (pc := 45) F dX9_shares_45 rfl ?_
    obtain ⟨x4, ex4, h⟩ := bnd h
    refine pw_lald (pc := 47) F dX9_shares_47 ex4 ?_
    refine pw_ladd (pc := 48) F dX9_shares_48 ?_
    refine pw_lstore_n (pc := 49) F dX9_shares_49 (lt_nl hn (by decide)) [some (vr p0), some (vi p1), some (vl (w64 (p2 + x4))), none, some (vi p4), none, none] rfl ?_
    refine pw_aload_n (pc := 50) F dX9_shares_50 rfl ?_
    obtain ⟨x5, ex5, h⟩ := bnd h
    refine pw_get (pc := 51) F 9 41 109 (by decide) (by decide) g_06be4583fb inl_9 2 rfl dX9_shares_51 ex5 ?_
    refine pw_iload (pc := 54) F dX9_shares_54 rfl ?_
    refine pw_iconst (pc := 56) F 0 dX9_shares_56 (by decide) ?_
    obtain ⟨H6, eH6, h⟩ := bnd h
    refine pw_iast (pc := 57) F dX9_shares_57 eH6 ?_
    refine pw_iinc (pc := 58) F dX9_shares_58 rfl (lt_nl hn (by decide)) [some (vr p0), some (vi p1), some (vl (w64 (p2 + x4))), none, some (vi (w32 (p4 + 1))), none, none] rfl (by decide) ?_
    refine pw_goto (pc := 61) F 26 dX9_shares_61 (by decide) ?_
    exact pw_mask [true, true, true, true, true, true, true] (ls' := [some (vr p0), some (vi p1), some (vl (w64 (p2 + x4))), none, some (vi (w32 (p4 + 1))), none, none]) rfl (ih26 (w64 (p2 + x4)) (w32 (p4 + 1)) H6 h)
def f_X9_shares (a0 a1 : Int) (H : PH) : RO := vm 9 a0 H <|
  (ld 25 H a0 35).bind fun x1 => (if x1 = 0 then some ((-1), H)
  else (f_X9_in a1 0 1000000 H).bind fun z2 => (if z2.1 ≠ 0 then lq2 (lX9_shares_26 a0 a1) 6000 0 0 z2.2
  else some ((-1), z2.2)))
set_option maxHeartbeats 4000000 in
theorem m_X9_shares (l : Launch) (a0 a1 : Int) (H : PH) (rr : Int) (HH : PH) (h : f_X9_shares a0 a1 H = some (rr, HH)) : CT l yX9_shares cX9_shares 7 (some .int) 1 25 [vr a0, vi a1] H (some (vi rr)) HH := by
  refine CT.of RX9 (by decide) rfl [some (vr a0), some (vi a1), none, none, none, none, none] rfl rfl ?_
  intro E F q hn hf hl hm
  unfold f_X9_shares at h
  obtain ⟨hv, h⟩ := vm_spec h
  refine pw_aload_n (pc := 0) F dX9_shares_0 rfl ?_
  obtain ⟨x1, ex1, h⟩ := bnd h
  refine pw_get (pc := 1) F 9 35 268 (by decide) (by decide) g_5b90579a7e inl_9 0 rfl dX9_shares_1 ex1 ?_
  refine pw_if_eq (pc := 4) F 19 dX9_shares_4 (by decide) (fun hc => ?_) (fun hc => ?_)
  · have h := iteT hc h
    refine pw_iconst (pc := 19) F (-1) dX9_shares_19 (by decide) ?_
    cases h
    exact pw_iret (pc := 20) F q dX9_shares_20
  · have h := iteF hc h
    refine pw_iload_n (pc := 7) F dX9_shares_7 rfl ?_
    refine pw_i2l (pc := 8) F dX9_shares_8 ?_
    refine pw_lconst (pc := 9) F 0 dX9_shares_9 (by decide) ?_
    refine pw_ldc2 (pc := 10) F 1000000 g_c81ca586f9 dX9_shares_10 (by decide) ?_
    obtain ⟨z2, ez2, h⟩ := bnd h
    refine pw_callS (pc := 13) (as := [vl a1, vl 0, vl 1000000]) (st := []) (r := (some (vi z2.1))) F 140 (fun l => m_X9_in l a1 0 1000000 H z2.1 z2.2 ez2) g_0174c906e2 g_3fadeb3198 g_2759d91faa g_c0c30bc7de hd_X9_in (rm_ok hf hl (by decide) (by decide)) rfl dX9_shares_13 rfl (stk' := [vi z2.1]) rfl ?_
    refine pw_if_ne (pc := 16) F 21 dX9_shares_16 (by decide) (fun hc => ?_) (fun hc => ?_)
    · have h := iteT hc h
      refine pw_lconst (pc := 21) F 0 dX9_shares_21 (by decide) ?_
      refine pw_lstore_n (pc := 22) F dX9_shares_22 (lt_nl hn (by decide)) [some (vr a0), some (vi a1), some (vl 0), none, none, none, none] rfl ?_
      refine pw_iconst (pc := 23) F 0 dX9_shares_23 (by decide) ?_
      refine pw_istore (pc := 24) F dX9_shares_24 (lt_nl hn (by decide)) [some (vr a0), some (vi a1), some (vl 0), none, some (vi 0), none, none] rfl ?_
      exact pw_mask [true, true, true, true, true, true, true] (ls' := [some (vr a0), some (vi a1), some (vl 0), none, some (vi 0), none, none]) rfl (lX9_shares_26_ok F q hn hf hl a0 a1  6000 0 0 z2.2 h)
    · have h := iteF hc h
      refine pw_iconst (pc := 19) F (-1) dX9_shares_19 (by decide) ?_
      cases h
      exact pw_iret (pc := 20) F q dX9_shares_20
/-! HouseholdVaultModel.share(II)I -/
theorem dX9_share_0 : decode cX9_share 0 = .ok (.aload_n 0, 1) := by decide +kernel
theorem dX9_share_1 : decode cX9_share 1 = .ok (.iload_n 1, 1) := by decide +kernel
theorem dX9_share_2 : decode cX9_share 2 = .ok (.iload_n 2, 1) := by decide +kernel
theorem dX9_share_3 : decode cX9_share 3 = .ok (.invokevirtual 284, 3) := by decide +kernel
theorem dX9_share_6 : decode cX9_share 6 = .ok (.ifCond .eq 19, 3) := by decide +kernel
theorem dX9_share_9 : decode cX9_share 9 = .ok (.aload_n 0, 1) := by decide +kernel
theorem dX9_share_10 : decode cX9_share 10 = .ok (.getfield 109, 3) := by decide +kernel
theorem dX9_share_13 : decode cX9_share 13 = .ok (.aload_n 0, 1) := by decide +kernel
theorem dX9_share_14 : decode cX9_share 14 = .ok (.getfield 278, 3) := by decide +kernel
theorem dX9_share_17 : decode cX9_share 17 = .ok (.iload_n 1, 1) := by decide +kernel
theorem dX9_share_18 : decode cX9_share 18 = .ok (.imul, 1) := by decide +kernel
theorem dX9_share_19 : decode cX9_share 19 = .ok (.iload_n 2, 1) := by decide +kernel
theorem dX9_share_20 : decode cX9_share 20 = .ok (.iadd, 1) := by decide +kernel
theorem dX9_share_21 : decode cX9_share 21 = .ok (.iaload, 1) := by decide +kernel
theorem dX9_share_22 : decode cX9_share 22 = .ok (.goto 4, 3) := by decide +kernel
theorem dX9_share_25 : decode cX9_share 25 = .ok (.iconst (-1), 1) := by decide +kernel
theorem dX9_share_26 : decode cX9_share 26 = .ok (.ireturn, 1) := by decide +kernel
def f_X9_share (a0 a1 a2 : Int) (H : PH) : RO := vm 9 a0 H <|
  (f_X9_isCell a0 a1 a2 H).bind fun z1 => (if z1.1 = 0 then some ((-1), z1.2)
  else (ld 25 z1.2 a0 41).bind fun x2 => (ld 25 z1.2 a0 38).bind fun x3 => (ld 0 z1.2 x2 (w32 ((w32 (x3 * a1)) + a2))).bind fun x4 => some (x4, z1.2))
set_option maxHeartbeats 4000000 in
theorem m_X9_share (l : Launch) (a0 a1 a2 : Int) (H : PH) (rr : Int) (HH : PH) (h : f_X9_share a0 a1 a2 H = some (rr, HH)) : CT l yX9_share cX9_share 3 (some .int) 2 47 [vr a0, vi a1, vi a2] H (some (vi rr)) HH := by
  refine CT.of RX9 (by decide) rfl [some (vr a0), some (vi a1), some (vi a2)] rfl rfl ?_
  intro E F q hn hf hl hm
  unfold f_X9_share at h
  obtain ⟨hv, h⟩ := vm_spec h
  refine pw_aload_n (pc := 0) F dX9_share_0 rfl ?_
  refine pw_iload_n (pc := 1) F dX9_share_1 rfl ?_
  refine pw_iload_n (pc := 2) F dX9_share_2 rfl ?_
  obtain ⟨z1, ez1, h⟩ := bnd h
  refine pw_callV (pc := 3) (as := [vi a1, vi a2]) (st := []) (r := (some (vi z1.1))) F 284 9 (by decide) rfl (fun l => m_X9_isCell l a0 a1 a2 H z1.1 z1.2 ez1) g_6dca55cd91 g_39338bb04e g_b754c3a7e4 g_2759d91faa g_66b404b67b hd_X9_isCell (rm_ok hf hl (by decide) (by decide)) rfl (vm_spec ez1).1 dX9_share_3 rfl (stk' := [vi z1.1]) rfl ?_
  refine pw_if_eq (pc := 6) F 25 dX9_share_6 (by decide) (fun hc => ?_) (fun hc => ?_)
  · have h := iteT hc h
    refine pw_iconst (pc := 25) F (-1) dX9_share_25 (by decide) ?_
    cases h
    exact pw_iret (pc := 26) F q dX9_share_26
  · have h := iteF hc h
    refine pw_aload_n (pc := 9) F dX9_share_9 rfl ?_
    obtain ⟨x2, ex2, h⟩ := bnd h
    refine pw_get (pc := 10) F 9 41 109 (by decide) (by decide) g_06be4583fb inl_9 2 rfl dX9_share_10 ex2 ?_
    refine pw_aload_n (pc := 13) F dX9_share_13 rfl ?_
    obtain ⟨x3, ex3, h⟩ := bnd h
    refine pw_get (pc := 14) F 9 38 278 (by decide) (by decide) g_3c3db0642c inl_9 0 rfl dX9_share_14 ex3 ?_
    refine pw_iload_n (pc := 17) F dX9_share_17 rfl ?_
    refine pw_imul (pc := 18) F dX9_share_18 ?_
    refine pw_iload_n (pc := 19) F dX9_share_19 rfl ?_
    refine pw_iadd (pc := 20) F dX9_share_20 ?_
    obtain ⟨x4, ex4, h⟩ := bnd h
    refine pw_iald (pc := 21) F dX9_share_21 ex4 ?_
    refine pw_goto (pc := 22) F 26 dX9_share_22 (by decide) ?_
    cases h
    exact pw_iret (pc := 26) F q dX9_share_26
/-! HouseholdVaultModel.hangTogether(III)Z -/
theorem dX9_hangTogether_0 : decode cX9_hangTogether 0 = .ok (.iconst 0, 1) := by decide +kernel
theorem dX9_hangTogether_1 : decode cX9_hangTogether 1 = .ok (.istore 4, 2) := by decide +kernel
theorem dX9_hangTogether_3 : decode cX9_hangTogether 3 = .ok (.iload 4, 2) := by decide +kernel
theorem dX9_hangTogether_5 : decode cX9_hangTogether 5 = .ok (.aload_n 0, 1) := by decide +kernel
theorem dX9_hangTogether_6 : decode cX9_hangTogether 6 = .ok (.getfield 275, 3) := by decide +kernel
theorem dX9_hangTogether_9 : decode cX9_hangTogether 9 = .ok (.aload_n 0, 1) := by decide +kernel
theorem dX9_hangTogether_10 : decode cX9_hangTogether 10 = .ok (.getfield 278, 3) := by decide +kernel
theorem dX9_hangTogether_13 : decode cX9_hangTogether 13 = .ok (.iadd, 1) := by decide +kernel
theorem dX9_hangTogether_14 : decode cX9_hangTogether 14 = .ok (.if_icmp .ge 27, 3) := by decide +kernel
theorem dX9_hangTogether_17 : decode cX9_hangTogether 17 = .ok (.aload_n 0, 1) := by decide +kernel
theorem dX9_hangTogether_18 : decode cX9_hangTogether 18 = .ok (.getfield 127, 3) := by decide +kernel
theorem dX9_hangTogether_21 : decode cX9_hangTogether 21 = .ok (.iload 4, 2) := by decide +kernel
theorem dX9_hangTogether_23 : decode cX9_hangTogether 23 = .ok (.iload 4, 2) := by decide +kernel
theorem dX9_hangTogether_25 : decode cX9_hangTogether 25 = .ok (.iload_n 1, 1) := by decide +kernel
theorem dX9_hangTogether_26 : decode cX9_hangTogether 26 = .ok (.if_icmp .ne 7, 3) := by decide +kernel
theorem dX9_hangTogether_29 : decode cX9_hangTogether 29 = .ok (.iconst 1, 1) := by decide +kernel
theorem dX9_hangTogether_30 : decode cX9_hangTogether 30 = .ok (.goto 4, 3) := by decide +kernel
theorem dX9_hangTogether_33 : decode cX9_hangTogether 33 = .ok (.iconst 0, 1) := by decide +kernel
theorem dX9_hangTogether_34 : decode cX9_hangTogether 34 = .ok (.bastore, 1) := by decide +kernel
theorem dX9_hangTogether_35 : decode cX9_hangTogether 35 = .ok (.iinc 4 1, 3) := by decide +kernel
theorem dX9_hangTogether_38 : decode cX9_hangTogether 38 = .ok (.goto (-35), 3) := by decide +kernel
theorem dX9_hangTogether_41 : decode cX9_hangTogether 41 = .ok (.iconst 1, 1) := by decide +kernel
theorem dX9_hangTogether_42 : decode cX9_hangTogether 42 = .ok (.istore 4, 2) := by decide +kernel
theorem dX9_hangTogether_44 : decode cX9_hangTogether 44 = .ok (.iload 4, 2) := by decide +kernel
theorem dX9_hangTogether_46 : decode cX9_hangTogether 46 = .ok (.ifCond .eq 107, 3) := by decide +kernel
theorem dX9_hangTogether_49 : decode cX9_hangTogether 49 = .ok (.iconst 0, 1) := by decide +kernel
theorem dX9_hangTogether_50 : decode cX9_hangTogether 50 = .ok (.istore 4, 2) := by decide +kernel
theorem dX9_hangTogether_52 : decode cX9_hangTogether 52 = .ok (.iconst 0, 1) := by decide +kernel
theorem dX9_hangTogether_53 : decode cX9_hangTogether 53 = .ok (.istore 5, 2) := by decide +kernel
theorem dX9_hangTogether_55 : decode cX9_hangTogether 55 = .ok (.iload 5, 2) := by decide +kernel
theorem dX9_hangTogether_57 : decode cX9_hangTogether 57 = .ok (.aload_n 0, 1) := by decide +kernel
theorem dX9_hangTogether_58 : decode cX9_hangTogether 58 = .ok (.getfield 275, 3) := by decide +kernel
theorem dX9_hangTogether_61 : decode cX9_hangTogether 61 = .ok (.aload_n 0, 1) := by decide +kernel
theorem dX9_hangTogether_62 : decode cX9_hangTogether 62 = .ok (.getfield 278, 3) := by decide +kernel
theorem dX9_hangTogether_65 : decode cX9_hangTogether 65 = .ok (.imul, 1) := by decide +kernel
theorem dX9_hangTogether_66 : decode cX9_hangTogether 66 = .ok (.if_icmp .ge 84, 3) := by decide +kernel
theorem dX9_hangTogether_69 : decode cX9_hangTogether 69 = .ok (.iload 5, 2) := by decide +kernel
theorem dX9_hangTogether_71 : decode cX9_hangTogether 71 = .ok (.aload_n 0, 1) := by decide +kernel
theorem dX9_hangTogether_72 : decode cX9_hangTogether 72 = .ok (.getfield 278, 3) := by decide +kernel
theorem dX9_hangTogether_75 : decode cX9_hangTogether 75 = .ok (.idiv, 1) := by decide +kernel
theorem dX9_hangTogether_76 : decode cX9_hangTogether 76 = .ok (.istore 6, 2) := by decide +kernel
theorem dX9_hangTogether_78 : decode cX9_hangTogether 78 = .ok (.aload_n 0, 1) := by decide +kernel
theorem dX9_hangTogether_79 : decode cX9_hangTogether 79 = .ok (.getfield 275, 3) := by decide +kernel
theorem dX9_hangTogether_82 : decode cX9_hangTogether 82 = .ok (.iload 5, 2) := by decide +kernel
theorem dX9_hangTogether_84 : decode cX9_hangTogether 84 = .ok (.aload_n 0, 1) := by decide +kernel
theorem dX9_hangTogether_85 : decode cX9_hangTogether 85 = .ok (.getfield 278, 3) := by decide +kernel
theorem dX9_hangTogether_88 : decode cX9_hangTogether 88 = .ok (.irem, 1) := by decide +kernel
theorem dX9_hangTogether_89 : decode cX9_hangTogether 89 = .ok (.iadd, 1) := by decide +kernel
theorem dX9_hangTogether_90 : decode cX9_hangTogether 90 = .ok (.istore 7, 2) := by decide +kernel
theorem dX9_hangTogether_92 : decode cX9_hangTogether 92 = .ok (.aload_n 0, 1) := by decide +kernel
theorem dX9_hangTogether_93 : decode cX9_hangTogether 93 = .ok (.getfield 112, 3) := by decide +kernel
theorem dX9_hangTogether_96 : decode cX9_hangTogether 96 = .ok (.iload 5, 2) := by decide +kernel
theorem dX9_hangTogether_98 : decode cX9_hangTogether 98 = .ok (.baload, 1) := by decide +kernel
theorem dX9_hangTogether_99 : decode cX9_hangTogether 99 = .ok (.ifCond .eq 45, 3) := by decide +kernel
theorem dX9_hangTogether_102 : decode cX9_hangTogether 102 = .ok (.iload 5, 2) := by decide +kernel
theorem dX9_hangTogether_104 : decode cX9_hangTogether 104 = .ok (.iload_n 3, 1) := by decide +kernel
theorem dX9_hangTogether_105 : decode cX9_hangTogether 105 = .ok (.if_icmp .eq 39, 3) := by decide +kernel
theorem dX9_hangTogether_108 : decode cX9_hangTogether 108 = .ok (.aload_n 0, 1) := by decide +kernel
theorem dX9_hangTogether_109 : decode cX9_hangTogether 109 = .ok (.getfield 127, 3) := by decide +kernel
theorem dX9_hangTogether_112 : decode cX9_hangTogether 112 = .ok (.iload 6, 2) := by decide +kernel
theorem dX9_hangTogether_114 : decode cX9_hangTogether 114 = .ok (.baload, 1) := by decide +kernel
theorem dX9_hangTogether_115 : decode cX9_hangTogether 115 = .ok (.aload_n 0, 1) := by decide +kernel
theorem dX9_hangTogether_116 : decode cX9_hangTogether 116 = .ok (.getfield 127, 3) := by decide +kernel
theorem dX9_hangTogether_119 : decode cX9_hangTogether 119 = .ok (.iload 7, 2) := by decide +kernel
theorem dX9_hangTogether_121 : decode cX9_hangTogether 121 = .ok (.baload, 1) := by decide +kernel
theorem dX9_hangTogether_122 : decode cX9_hangTogether 122 = .ok (.if_icmp .eq 22, 3) := by decide +kernel
theorem dX9_hangTogether_125 : decode cX9_hangTogether 125 = .ok (.aload_n 0, 1) := by decide +kernel
theorem dX9_hangTogether_126 : decode cX9_hangTogether 126 = .ok (.getfield 127, 3) := by decide +kernel
theorem dX9_hangTogether_129 : decode cX9_hangTogether 129 = .ok (.iload 6, 2) := by decide +kernel
theorem dX9_hangTogether_131 : decode cX9_hangTogether 131 = .ok (.iconst 1, 1) := by decide +kernel
theorem dX9_hangTogether_132 : decode cX9_hangTogether 132 = .ok (.bastore, 1) := by decide +kernel
theorem dX9_hangTogether_133 : decode cX9_hangTogether 133 = .ok (.aload_n 0, 1) := by decide +kernel
theorem dX9_hangTogether_134 : decode cX9_hangTogether 134 = .ok (.getfield 127, 3) := by decide +kernel
theorem dX9_hangTogether_137 : decode cX9_hangTogether 137 = .ok (.iload 7, 2) := by decide +kernel
theorem dX9_hangTogether_139 : decode cX9_hangTogether 139 = .ok (.iconst 1, 1) := by decide +kernel
theorem dX9_hangTogether_140 : decode cX9_hangTogether 140 = .ok (.bastore, 1) := by decide +kernel
theorem dX9_hangTogether_141 : decode cX9_hangTogether 141 = .ok (.iconst 1, 1) := by decide +kernel
theorem dX9_hangTogether_142 : decode cX9_hangTogether 142 = .ok (.istore 4, 2) := by decide +kernel
theorem dX9_hangTogether_144 : decode cX9_hangTogether 144 = .ok (.iinc 5 1, 3) := by decide +kernel
theorem dX9_hangTogether_147 : decode cX9_hangTogether 147 = .ok (.goto (-92), 3) := by decide +kernel
theorem dX9_hangTogether_150 : decode cX9_hangTogether 150 = .ok (.goto (-106), 3) := by decide +kernel
theorem dX9_hangTogether_153 : decode cX9_hangTogether 153 = .ok (.aload_n 0, 1) := by decide +kernel
theorem dX9_hangTogether_154 : decode cX9_hangTogether 154 = .ok (.getfield 127, 3) := by decide +kernel
theorem dX9_hangTogether_157 : decode cX9_hangTogether 157 = .ok (.aload_n 0, 1) := by decide +kernel
theorem dX9_hangTogether_158 : decode cX9_hangTogether 158 = .ok (.getfield 275, 3) := by decide +kernel
theorem dX9_hangTogether_161 : decode cX9_hangTogether 161 = .ok (.iload_n 2, 1) := by decide +kernel
theorem dX9_hangTogether_162 : decode cX9_hangTogether 162 = .ok (.iadd, 1) := by decide +kernel
theorem dX9_hangTogether_163 : decode cX9_hangTogether 163 = .ok (.baload, 1) := by decide +kernel
theorem dX9_hangTogether_164 : decode cX9_hangTogether 164 = .ok (.ireturn, 1) := by decide +kernel
def jX9_hangTogether_144 (self44 : Int → PH → RO) (self55 : Int → Int → PH → RO) (p0 p2 p3 p4 p5 : Int) (H : PH) : RO :=
  self55 p4 (w32 (p5 + 1)) H
set_option maxHeartbeats 4000000 in
theorem jX9_hangTogether_144_ok {E : PE} {rr : Int} {HH : PH} (F : FX E cX9_hangTogether RX9) (q : QE E (some (vi rr)) HH (some .boolean)) (hn : nLof E = 8) (hf : (roomOf E).frames = 0) (hl : (roomOf E).locals = 0) (self44 : Int → PH → RO) (self55 : Int → Int → PH → RO) (p0 p2 p3 p4 p5 : Int) (H : PH) (ih44 : ∀ (v4 : Int) (HV : PH), self44 v4 HV = some (rr, HH) → PW E 44 [some (vr p0), none, some (vi p2), some (vi p3), some (vi v4), none, none, none] [] HV) (ih55 : ∀ (v4 v5 : Int) (HV : PH), self55 v4 v5 HV = some (rr, HH) → PW E 55 [some (vr p0), none, some (vi p2), some (vi p3), some (vi v4), some (vi v5), none, none] [] HV) (h : jX9_hangTogether_144 self44 self55 p0 p2 p3 p4 p5 H = some (rr, HH)) : PW E 144 [some (vr p0), none, some (vi p2), some (vi p3), some (vi p4), some (vi p5), none, none] [] H := by
  unfold jX9_hangTogether_144 at h
  refine pw_iinc (pc := 144) F dX9_hangTogether_144 rfl (lt_nl hn (by decide)) [some (vr p0), none, some (vi p2), some (vi p3), some (vi p4), some (vi (w32 (p5 + 1))), none, none] rfl (by decide) ?_
  refine pw_goto (pc := 147) F 55 dX9_hangTogether_147 (by decide) ?_
  exact pw_mask [true, true, true, true, true, true, true, true] (ls' := [some (vr p0), none, some (vi p2), some (vi p3), some (vi p4), some (vi (w32 (p5 + 1))), none, none]) rfl (ih55 p4 (w32 (p5 + 1)) H h)
def lX9_hangTogether_55 (self44 : Int → PH → RO) (p0 p2 p3 : Int) (self55 : Int → Int → PH → RO) (p4 p5 : Int) (H : PH) : RO :=
  (ld 25 H p0 37).bind fun x1 => (ld 25 H p0 38).bind fun x2 => (if p5 ≥ (w32 (x1 * x2)) then self44 p4 H
  else (ld 25 H p0 38).bind fun x3 => (if x3 = 0 then none else (ld 25 H p0 37).bind fun x4 => (ld 25 H p0 38).bind fun x5 => (if x5 = 0 then none else (ld 25 H p0 42).bind fun x6 => (ld 2 H x6 p5).bind fun x7 => (if x7 = 0 then jX9_hangTogether_144 self44 self55 p0 p2 p3 p4 p5 H
  else (if p5 = p3 then jX9_hangTogether_144 self44 self55 p0 p2 p3 p4 p5 H
  else (ld 25 H p0 50).bind fun x8 => (ld 2 H x8 (w32 (Int.tdiv p5 x3))).bind fun x9 => (ld 25 H p0 50).bind fun x10 => (ld 2 H x10 (w32 (x4 + (Int.tmod p5 x5)))).bind fun x11 => (if x9 = x11 then jX9_hangTogether_144 self44 self55 p0 p2 p3 p4 p5 H
  else (ld 25 H p0 50).bind fun x12 => (stz 2 H x12 (w32 (Int.tdiv p5 x3)) 1).bind fun H13 => (ld 25 H13 p0 50).bind fun x14 => (stz 2 H13 x14 (w32 (x4 + (Int.tmod p5 x5))) 1).bind fun H15 => jX9_hangTogether_144 self44 self55 p0 p2 p3 1 p5 H15))))))
set_option maxHeartbeats 4000000 in
theorem lX9_hangTogether_55_ok {E : PE} {rr : Int} {HH : PH} (F : FX E cX9_hangTogether RX9) (q : QE E (some (vi rr)) HH (some .boolean)) (hn : nLof E = 8) (hf : (roomOf E).frames = 0) (hl : (roomOf E).locals = 0) (self44 : Int → PH → RO) (p0 p2 p3 : Int) (ih44 : ∀ (v4 : Int) (HV : PH), self44 v4 HV = some (rr, HH) → PW E 44 [some (vr p0), none, some (vi p2), some (vi p3), some (vi v4), none, none, none] [] HV) : ∀ (n : Nat) (p4 p5 : Int) (H : PH), lq2 (lX9_hangTogether_55 self44 p0 p2 p3) n p4 p5 H = some (rr, HH) → PW E 55 [some (vr p0), none, some (vi p2), some (vi p3), some (vi p4), some (vi p5), none, none] [] H := by
  refine lq2_ind (P := fun p4 p5 H => PW E 55 [some (vr p0), none, some (vi p2), some (vi p3), some (vi p4), some (vi p5), none, none] [] H) ?_
  intro self55 ih55 p4 p5 H h
  unfold lX9_hangTogether_55 at h
  refine pw_iload (pc := 55) F dX9_hangTogether_55 rfl ?_
  refine pw_aload_n (pc := 57) F dX9_hangTogether_57 rfl ?_
  obtain ⟨x1, ex1, h⟩ := bnd h
  refine pw_get (pc := 58) F 9 37 275 (by decide) (by decide) g_95aff2781a inl_9 0 rfl dX9_hangTogether_58 ex1 ?_
  refine pw_aload_n (pc := 61) F dX9_hangTogether_61 rfl ?_
  obtain ⟨x2, ex2, h⟩ := bnd h
  refine pw_get (pc := 62) F 9 38 278 (by decide) (by decide) g_3c3db0642c inl_9 0 rfl dX9_hangTogether_62 ex2 ?_
  refine pw_imul (pc := 65) F dX9_hangTogether_65 ?_
  refine pw_icmp_ge (pc := 66) F 150 dX9_hangTogether_66 (by decide) (fun hc => ?_) (fun hc => ?_)
  · have h := iteT hc h
    refine pw_goto (pc := 150) F 44 dX9_hangTogether_150 (by decide) ?_
    exact pw_mask [true, true, true, true, true, false, true, true] (ls' := [some (vr p0), none, some (vi p2), some (vi p3), some (vi p4), none, none, none]) rfl (ih44 p4 H h)
  · have h := iteF hc h
    refine pw_iload (pc := 69) F dX9_hangTogether_69 rfl ?_
    refine pw_aload_n (pc := 71) F dX9_hangTogether_71 rfl ?_
    obtain ⟨x3, ex3, h⟩ := bnd h
    refine pw_get (pc := 72) F 9 38 278 (by decide) (by decide) g_3c3db0642c inl_9 0 rfl dX9_hangTogether_72 ex3 ?_
    by_cases hz75 : x3 = 0
    · rw [if_pos hz75] at h; cases h
    have h := iteF hz75 h
    refine pw_idiv (pc := 75) F dX9_hangTogether_75 hz75 ?_
    refine pw_istore (pc := 76) F dX9_hangTogether_76 (lt_nl hn (by decide)) [some (vr p0), none, some (vi p2), some (vi p3), some (vi p4), some (vi p5), some (vi (w32 (Int.tdiv p5 x3))), none] rfl ?_
    refine pw_aload_n (pc := 78) F dX9_hangTogether_78 rfl ?_
    obtain ⟨x4, ex4, h⟩ := bnd h
    refine pw_get (pc := 79) F 9 37 275 (by decide) (by decide) g_95aff2781a inl_9 0 rfl dX9_hangTogether_79 ex4 ?_
    refine pw_iload (pc := 82) F dX9_hangTogether_82 rfl ?_
    refine pw_aload_n (pc := 84) F dX9_hangTogether_84 rfl ?_
    obtain ⟨x5, ex5, h⟩ := bnd h
    refine pw_get (pc := 85) F 9 38 278 (by decide) (by decide) g_3c3db0642c inl_9 0 rfl dX9_hangTogether_85 ex5 ?_
    by_cases hz88 : x5 = 0
    · rw [if_pos hz88] at h; cases h
    have h := iteF hz88 h
    refine pw_irem (pc := 88) F dX9_hangTogether_88 hz88 ?_
    refine pw_iadd (pc := 89) F dX9_hangTogether_89 ?_
    refine pw_istore (pc := 90) F dX9_hangTogether_90 (lt_nl hn (by decide)) [some (vr p0), none, some (vi p2), some (vi p3), some (vi p4), some (vi p5), some (vi (w32 (Int.tdiv p5 x3))), some (vi (w32 (x4 + (Int.tmod p5 x5))))] rfl ?_
    refine pw_aload_n (pc := 92) F dX9_hangTogether_92 rfl ?_
    obtain ⟨x6, ex6, h⟩ := bnd h
    refine pw_get (pc := 93) F 9 42 112 (by decide) (by decide) g_192e92b71c inl_9 2 rfl dX9_hangTogether_93 ex6 ?_
    refine pw_iload (pc := 96) F dX9_hangTogether_96 rfl ?_
    obtain ⟨x7, ex7, h⟩ := bnd h
    refine pw_zald (pc := 98) F dX9_hangTogether_98 ex7 ?_
    refine pw_if_eq (pc := 99) F 144 dX9_hangTogether_99 (by decide) (fun hc => ?_) (fun hc => ?_)
    · have h := iteT hc h
      exact pw_mask [true, true, true, true, true, true, false, false] (ls' := [some (vr p0), none, some (vi p2), some (vi p3), some (vi p4), some (vi p5), none, none]) rfl (jX9_hangTogether_144_ok F q hn hf hl self44 self55 p0 p2 p3 p4 p5 H ih44 ih55 h)
    · have h := iteF hc h
      refine pw_iload (pc := 102) F dX9_hangTogether_102 rfl ?_
      refine pw_iload_n (pc := 104) F dX9_hangTogether_104 rfl ?_
      refine pw_icmp_eq (pc := 105) F 144 dX9_hangTogether_105 (by decide) (fun hc => ?_) (fun hc => ?_)
      · have h := iteT hc h
        exact pw_mask [true, true, true, true, true, true, false, false] (ls' := [some (vr p0), none, some (vi p2), some (vi p3), some (vi p4), some (vi p5), none, none]) rfl (jX9_hangTogether_144_ok F q hn hf hl self44 self55 p0 p2 p3 p4 p5 H ih44 ih55 h)
      · have h := iteF hc h
        refine pw_aload_n (pc := 108) F dX9_hangTogether_108 rfl ?_
        obtain ⟨x8, ex8, h⟩ := bnd h
        refine pw_get (pc := 109) F 9 50 127 (by decide) (by decide) g_f6b474c3e3 inl_9 2 rfl dX9_hangTogether_109 ex8 ?_
        refine pw_iload (pc := 112) F dX9_hangTogether_112 rfl ?_
        obtain ⟨x9, ex9, h⟩ := bnd h
        refine pw_zald (pc := 114) F dX9_hangTogether_114 ex9 ?_
        refine pw_aload_n (pc := 115) F dX9_hangTogether_115 rfl ?_
        obtain ⟨x10, ex10, h⟩ := bnd h
        refine pw_get (pc := 116) F 9 50 127 (by decide) (by decide) g_f6b474c3e3 inl_9 2 rfl dX9_hangTogether_116 ex10 ?_
        refine pw_iload (pc := 119) F dX9_hangTogether_119 rfl ?_
        obtain ⟨x11, ex11, h⟩ := bnd h
        refine pw_zald (pc := 121) F dX9_hangTogether_121 ex11 ?_
        refine pw_icmp_eq (pc := 122) F 144 dX9_hangTogether_122 (by decide) (fun hc => ?_) (fun hc => ?_)
        · have h := iteT hc h
          exact pw_mask [true, true, true, true, true, true, false, false] (ls' := [some (vr p0), none, some (vi p2), some (vi p3), some (vi p4), some (vi p5), none, none]) rfl (jX9_hangTogether_144_ok F q hn hf hl self44 self55 p0 p2 p3 p4 p5 H ih44 ih55 h)
        · have h := iteF hc h
          refine pw_aload_n (pc := 125) F dX9_hangTogether_125 rfl ?_
          obtain ⟨x12, ex12, h⟩ := bnd h
          refine pw_get (pc := 126) F 9 50 127 (by decide) (by decide) g_f6b474c3e3 inl_9 2 rfl dX9_hangTogether_126 ex12 ?_
          refine pw_iload (pc := 129) F dX9_hangTogether_129 rfl ?_
          refine pw_iconst (pc := 131) F 1 dX9_hangTogether_131 (by decide) ?_
          obtain ⟨H13, eH13, h⟩ := bnd h
          refine pw_zast (pc := 132) F dX9_hangTogether_132 (stz_spec eH13).1 (stz_spec eH13).2 ?_
          refine pw_aload_n (pc := 133) F dX9_hangTogether_133 rfl ?_
          obtain ⟨x14, ex14, h⟩ := bnd h
          refine pw_get (pc := 134) F 9 50 127 (by decide) (by decide) g_f6b474c3e3 inl_9 2 rfl dX9_hangTogether_134 ex14 ?_
          refine pw_iload (pc := 137) F dX9_hangTogether_137 rfl ?_
          refine pw_iconst (pc := 139) F 1 dX9_hangTogether_139 (by decide) ?_
          obtain ⟨H15, eH15, h⟩ := bnd h
          refine pw_zast (pc := 140) F dX9_hangTogether_140 (stz_spec eH15).1 (stz_spec eH15).2 ?_
          refine pw_iconst (pc := 141) F 1 dX9_hangTogether_141 (by decide) ?_
          refine pw_istore (pc := 142) F dX9_hangTogether_142 (lt_nl hn (by decide)) [some (vr p0), none, some (vi p2), some (vi p3), some (vi 1), some (vi p5), some (vi (w32 (Int.tdiv p5 x3))), some (vi (w32 (x4 + (Int.tmod p5 x5))))] rfl ?_
          exact pw_mask [true, true, true, true, true, true, false, false] (ls' := [some (vr p0), none, some (vi p2), some (vi p3), some (vi 1), some (vi p5), none, none]) rfl (jX9_hangTogether_144_ok F q hn hf hl self44 self55 p0 p2 p3 1 p5 H15 ih44 ih55 h)
def lX9_hangTogether_44 (p0 p2 p3 : Int) (self44 : Int → PH → RO) (p4 : Int) (H : PH) : RO :=
  (if p4 = 0 then (ld 25 H p0 50).bind fun x1 => (ld 25 H p0 37).bind fun x2 => (ld 2 H x1 (w32 (x2 + p2))).bind fun x3 => zr x3 H
  else lq2 (lX9_hangTogether_55 self44 p0 p2 p3) 6000 0 0 H)
set_option maxHeartbeats 4000000 in
theorem lX9_hangTogether_44_ok {E : PE} {rr : Int} {HH : PH} (F : FX E cX9_hangTogether RX9) (q : QE E (some (vi rr)) HH (some .boolean)) (hn : nLof E = 8) (hf : (roomOf E).frames = 0) (hl : (roomOf E).locals = 0) (p0 p2 p3 : Int) : ∀ (n : Nat) (p4 : Int) (H : PH), lq1 (lX9_hangTogether_44 p0 p2 p3) n p4 H = some (rr, HH) → PW E 44 [some (vr p0), none, some (vi p2), some (vi p3), some (vi p4), none, none, none] [] H := by
  refine lq1_ind (P := fun p4 H => PW E 44 [some (vr p0), none, some (vi p2), some (vi p3), some (vi p4), none, none, none] [] H) ?_
  intro self44 ih44 p4 H h
  unfold lX9_hangTogether_44 at h
  refine pw_iload (pc := 44) F dX9_hangTogether_44 rfl ?_
  refine pw_if_eq (pc := 46) F 153 dX9_hangTogether_46 (by decide) (fun hc => ?_) (fun hc => ?_)
  · have h := iteT hc h
    refine pw_aload_n (pc := 153) F dX9_hangTogether_153 rfl ?_
    obtain ⟨x1, ex1, h⟩ := bnd h
    refine pw_get (pc := 154) F 9 50 127 (by decide) (by decide) g_f6b474c3e3 inl_9 2 rfl dX9_hangTogether_154 ex1 ?_
    refine pw_aload_n (pc := 157) F dX9_hangTogether_157 rfl ?_
    obtain ⟨x2, ex2, h⟩ := bnd h
    refine pw_get (pc := 158) F 9 37 275 (by decide) (by decide) g_95aff2781a inl_9 0 rfl dX9_hangTogether_158 ex2 ?_
    refine pw_iload_n (pc := 161) F dX9_hangTogether_161 rfl ?_
    refine pw_iadd (pc := 162) F dX9_hangTogether_162 ?_
    obtain ⟨x3, ex3, h⟩ := bnd h
    refine pw_zald (pc := 163) F dX9_hangTogether_163 ex3 ?_
    obtain ⟨hz, h⟩ := zr_spec h
    cases h
    exact pw_zret (pc := 164) F q hz dX9_hangTogether_164
  · have h := iteF hc h
    refine pw_iconst (pc := 49) F 0 dX9_hangTogether_49 (by decide) ?_
    refine pw_istore (pc := 50) F dX9_hangTogether_50 (lt_nl hn (by decide)) [some (vr p0), none, some (vi p2), some (vi p3), some (vi 0), none, none, none] rfl ?_
    refine pw_iconst (pc := 52) F 0 dX9_hangTogether_52 (by decide) ?_
    refine pw_istore (pc := 53) F dX9_hangTogether_53 (lt_nl hn (by decide)) [some (vr p0), none, some (vi p2), some (vi p3), some (vi 0), some (vi 0), none, none] rfl ?_
    exact pw_mask [true, true, true, true, true, true, true, true] (ls' := [some (vr p0), none, some (vi p2), some (vi p3), some (vi 0), some (vi 0), none, none]) rfl (lX9_hangTogether_55_ok F q hn hf hl self44 p0 p2 p3 ih44  6000 0 0 H h)
def jX9_hangTogether_34 (self3 : Int → PH → RO) (p0 p1 p2 p3 p4 s0 s1 s2 : Int) (H : PH) : RO :=
  (stz 2 H s0 s1 s2).bind fun H1 => self3 (w32 (p4 + 1)) H1
set_option maxHeartbeats 4000000 in
theorem jX9_hangTogether_34_ok {E : PE} {rr : Int} {HH : PH} (F : FX E cX9_hangTogether RX9) (q : QE E (some (vi rr)) HH (some .boolean)) (hn : nLof E = 8) (hf : (roomOf E).frames = 0) (hl : (roomOf E).locals = 0) (self3 : Int → PH → RO) (p0 p1 p2 p3 p4 s0 s1 s2 : Int) (H : PH) (ih3 : ∀ (v4 : Int) (HV : PH), self3 v4 HV = some (rr, HH) → PW E 3 [some (vr p0), some (vi p1), some (vi p2), some (vi p3), some (vi v4), none, none, none] [] HV) (h : jX9_hangTogether_34 self3 p0 p1 p2 p3 p4 s0 s1 s2 H = some (rr, HH)) : PW E 34 [some (vr p0), some (vi p1), some (vi p2), some (vi p3), some (vi p4), none, none, none] [vi s2, vi s1, vr s0] H := by
  unfold jX9_hangTogether_34 at h
  obtain ⟨H1, eH1, h⟩ := bnd h
  refine pw_zast (pc := 34) F dX9_hangTogether_34 (stz_spec eH1).1 (stz_spec eH1).2 ?_
  refine pw_iinc (pc := 35) F dX9_hangTogether_35 rfl (lt_nl hn (by decide)) [some (vr p0), some (vi p1), some (vi p2), some (vi p3), some (vi (w32 (p4 + 1))), none, none, none] rfl (by decide) ?_
  refine pw_goto (pc := 38) F 3 dX9_hangTogether_38 (by decide) ?_
  exact pw_mask [true, true, true, true, true, true, true, true] (ls' := [some (vr p0), some (vi p1), some (vi p2), some (vi p3), some (vi (w32 (p4 + 1))), none, none, none]) rfl (ih3 (w32 (p4 + 1)) H1 h)
def lX9_hangTogether_3 (p0 p1 p2 p3 : Int) (self3 : Int → PH → RO) (p4 : Int) (H : PH) : RO :=
  (ld 25 H p0 37).bind fun x1 => (ld 25 H p0 38).bind fun x2 => (if p4 ≥ (w32 (x1 + x2)) then lq1 (lX9_hangTogether_44 p0 p2 p3) 6000 1 H
  else (ld 25 H p0 50).bind fun x3 => (if p4 ≠ p1 then jX9_hangTogether_34 self3 p0 p1 p2 p3 p4 x3 p4 0 H
  else jX9_hangTogether_34 self3 p0 p1 p2 p3 p4 x3 p4 1 H))
set_option maxHeartbeats 4000000 in
theorem lX9_hangTogether_3_ok {E : PE} {rr : Int} {HH : PH} (F : FX E cX9_hangTogether RX9) (q : QE E (some (vi rr)) HH (some .boolean)) (hn : nLof E = 8) (hf : (roomOf E).frames = 0) (hl : (roomOf E).locals = 0) (p0 p1 p2 p3 : Int) : ∀ (n : Nat) (p4 : Int) (H : PH), lq1 (lX9_hangTogether_3 p0 p1 p2 p3) n p4 H = some (rr, HH) → PW E 3 [some (vr p0), some (vi p1), some (vi p2), some (vi p3), some (vi p4), none, none, none] [] H := by
  refine lq1_ind (P := fun p4 H => PW E 3 [some (vr p0), some (vi p1), some (vi p2), some (vi p3), some (vi p4), none, none, none] [] H) ?_
  intro self3 ih3 p4 H h
  unfold lX9_hangTogether_3 at h
  refine pw_iload (pc := 3) F dX9_hangTogether_3 rfl ?_
  refine pw_aload_n (pc := 5) F dX9_hangTogether_5 rfl ?_
  obtain ⟨x1, ex1, h⟩ := bnd h
  refine pw_get (pc := 6) F 9 37 275 (by decide) (by decide) g_95aff2781a inl_9 0 rfl dX9_hangTogether_6 ex1 ?_
  refine pw_aload_n (pc := 9) F dX9_hangTogether_9 rfl ?_
  obtain ⟨x2, ex2, h⟩ := bnd h
  refine pw_get (pc := 10) F 9 38 278 (by decide) (by decide) g_3c3db0642c inl_9 0 rfl dX9_hangTogether_10 ex2 ?_
  refine pw_iadd (pc := 13) F dX9_hangTogether_13 ?_
  refine pw_icmp_ge (pc := 14) F 41 dX9_hangTogether_14 (by decide) (fun hc => ?_) (fun hc => ?_)
  · have h := iteT hc h
    refine pw_iconst (pc := 41) F 1 dX9_hangTogether_41 (by decide) ?_
    refine pw_istore (pc := 42) F dX9_hangTogether_42 (lt_nl hn (by decide)) [some (vr p0), some (vi p1), some (vi p2), some (vi p3), some (vi 1), none, none, none] rfl ?_
    exact pw_mask [true, false, true, true, true, true, true, true] (ls' := [some (vr p0), none, some (vi p2), some (vi p3), some (vi 1), none, none, none]) rfl (lX9_hangTogether_44_ok F q hn hf hl p0 p2 p3  6000 1 H h)
  · have h := iteF hc h
    refine pw_aload_n (pc := 17) F dX9_hangTogether_17 rfl ?_
    obtain ⟨x3, ex3, h⟩ := bnd h
    refine pw_get (pc := 18) F 9 50 127 (by decide) (by decide) g_f6b474c3e3 inl_9 2 rfl dX9_hangTogether_18 ex3 ?_
    refine pw_iload (pc := 21) F dX9_hangTogether_21 rfl ?_
    refine pw_iload (pc := 23) F dX9_hangTogether_23 rfl ?_
    refine pw_iload_n (pc := 25) F dX9_hangTogether_25 rfl ?_
    refine pw_icmp_ne (pc := 26) F 33 dX9_hangTogether_26 (by decide) (fun hc => ?_) (fun hc => ?_)
    · have h := iteT hc h
      refine pw_iconst (pc := 33) F 0 dX9_hangTogether_33 (by decide) ?_
      exact pw_mask [true, true, true, true, true, true, true, true] (ls' := [some (vr p0), some (vi p1), some (vi p2), some (vi p3), some (vi p4), none, none, none]) rfl (jX9_hangTogether_34_ok F q hn hf hl self3 p0 p1 p2 p3 p4 x3 p4 0 H ih3 h)
    · have h := iteF hc h
      refine pw_iconst (pc := 29) F 1 dX9_hangTogether_29 (by decide) ?_
      refine pw_goto (pc := 30) F 34 dX9_hangTogether_30 (by decide) ?_
      exact pw_mask [true, true, true, true, true, true, true, true] (ls' := [some (vr p0), some (vi p1), some (vi p2), some (vi p3), some (vi p4), none, none, none]) rfl (jX9_hangTogether_34_ok F q hn hf hl self3 p0 p1 p2 p3 p4 x3 p4 1 H ih3 h)
def f_X9_hangTogether (a0 a1 a2 a3 : Int) (H : PH) : RO := vm 9 a0 H <|
  lq1 (lX9_hangTogether_3 a0 a1 a2 a3) 6000 0 H
set_option maxHeartbeats 4000000 in
theorem m_X9_hangTogether (l : Launch) (a0 a1 a2 a3 : Int) (H : PH) (rr : Int) (HH : PH) (h : f_X9_hangTogether a0 a1 a2 a3 H = some (rr, HH)) : CT l yX9_hangTogether cX9_hangTogether 8 (some .boolean) 0 0 [vr a0, vi a1, vi a2, vi a3] H (some (vi rr)) HH := by
  refine CT.of RX9 (by decide) rfl [some (vr a0), some (vi a1), some (vi a2), some (vi a3), none, none, none, none] rfl rfl ?_
  intro E F q hn hf hl hm
  unfold f_X9_hangTogether at h
  obtain ⟨hv, h⟩ := vm_spec h
  refine pw_iconst (pc := 0) F 0 dX9_hangTogether_0 (by decide) ?_
  refine pw_istore (pc := 1) F dX9_hangTogether_1 (lt_nl hn (by decide)) [some (vr a0), some (vi a1), some (vi a2), some (vi a3), some (vi 0), none, none, none] rfl ?_
  exact pw_mask [true, true, true, true, true, true, true, true] (ls' := [some (vr a0), some (vi a1), some (vi a2), some (vi a3), some (vi 0), none, none, none]) rfl (lX9_hangTogether_3_ok F q hn hf hl a0 a1 a2 a3  6000 0 H h)
/-! HouseholdVaultModel.isFollowing(I)Z -/
theorem dX9_isFollowing_0 : decode cX9_isFollowing 0 = .ok (.aload_n 0, 1) := by decide +kernel
theorem dX9_isFollowing_1 : decode cX9_isFollowing 1 = .ok (.getfield 112, 3) := by decide +kernel
theorem dX9_isFollowing_4 : decode cX9_isFollowing 4 = .ok (.iload_n 1, 1) := by decide +kernel
theorem dX9_isFollowing_5 : decode cX9_isFollowing 5 = .ok (.baload, 1) := by decide +kernel
theorem dX9_isFollowing_6 : decode cX9_isFollowing 6 = .ok (.ifCond .ne 5, 3) := by decide +kernel
theorem dX9_isFollowing_9 : decode cX9_isFollowing 9 = .ok (.iconst 0, 1) := by decide +kernel
theorem dX9_isFollowing_10 : decode cX9_isFollowing 10 = .ok (.ireturn, 1) := by decide +kernel
theorem dX9_isFollowing_11 : decode cX9_isFollowing 11 = .ok (.aload_n 0, 1) := by decide +kernel
theorem dX9_isFollowing_12 : decode cX9_isFollowing 12 = .ok (.getfield 272, 3) := by decide +kernel
theorem dX9_isFollowing_15 : decode cX9_isFollowing 15 = .ok (.ifCond .eq 29, 3) := by decide +kernel
theorem dX9_isFollowing_18 : decode cX9_isFollowing 18 = .ok (.aload_n 0, 1) := by decide +kernel
theorem dX9_isFollowing_19 : decode cX9_isFollowing 19 = .ok (.iload_n 1, 1) := by decide +kernel
theorem dX9_isFollowing_20 : decode cX9_isFollowing 20 = .ok (.aload_n 0, 1) := by decide +kernel
theorem dX9_isFollowing_21 : decode cX9_isFollowing 21 = .ok (.getfield 278, 3) := by decide +kernel
theorem dX9_isFollowing_24 : decode cX9_isFollowing 24 = .ok (.idiv, 1) := by decide +kernel
theorem dX9_isFollowing_25 : decode cX9_isFollowing 25 = .ok (.iload_n 1, 1) := by decide +kernel
theorem dX9_isFollowing_26 : decode cX9_isFollowing 26 = .ok (.aload_n 0, 1) := by decide +kernel
theorem dX9_isFollowing_27 : decode cX9_isFollowing 27 = .ok (.getfield 278, 3) := by decide +kernel
theorem dX9_isFollowing_30 : decode cX9_isFollowing 30 = .ok (.irem, 1) := by decide +kernel
theorem dX9_isFollowing_31 : decode cX9_isFollowing 31 = .ok (.iload_n 1, 1) := by decide +kernel
theorem dX9_isFollowing_32 : decode cX9_isFollowing 32 = .ok (.invokevirtual 291, 3) := by decide +kernel
theorem dX9_isFollowing_35 : decode cX9_isFollowing 35 = .ok (.ifCond .ne 7, 3) := by decide +kernel
theorem dX9_isFollowing_38 : decode cX9_isFollowing 38 = .ok (.iconst 1, 1) := by decide +kernel
theorem dX9_isFollowing_39 : decode cX9_isFollowing 39 = .ok (.goto 4, 3) := by decide +kernel
theorem dX9_isFollowing_42 : decode cX9_isFollowing 42 = .ok (.iconst 0, 1) := by decide +kernel
theorem dX9_isFollowing_43 : decode cX9_isFollowing 43 = .ok (.ireturn, 1) := by decide +kernel
theorem dX9_isFollowing_44 : decode cX9_isFollowing 44 = .ok (.iconst 0, 1) := by decide +kernel
theorem dX9_isFollowing_45 : decode cX9_isFollowing 45 = .ok (.istore_n 2, 1) := by decide +kernel
theorem dX9_isFollowing_46 : decode cX9_isFollowing 46 = .ok (.iconst 0, 1) := by decide +kernel
theorem dX9_isFollowing_47 : decode cX9_isFollowing 47 = .ok (.istore_n 3, 1) := by decide +kernel
theorem dX9_isFollowing_48 : decode cX9_isFollowing 48 = .ok (.iload_n 3, 1) := by decide +kernel
theorem dX9_isFollowing_49 : decode cX9_isFollowing 49 = .ok (.aload_n 0, 1) := by decide +kernel
theorem dX9_isFollowing_50 : decode cX9_isFollowing 50 = .ok (.getfield 275, 3) := by decide +kernel
theorem dX9_isFollowing_53 : decode cX9_isFollowing 53 = .ok (.if_icmp .ge 26, 3) := by decide +kernel
theorem dX9_isFollowing_56 : decode cX9_isFollowing 56 = .ok (.iload_n 2, 1) := by decide +kernel
theorem dX9_isFollowing_57 : decode cX9_isFollowing 57 = .ok (.aload_n 0, 1) := by decide +kernel
theorem dX9_isFollowing_58 : decode cX9_isFollowing 58 = .ok (.getfield 112, 3) := by decide +kernel
theorem dX9_isFollowing_61 : decode cX9_isFollowing 61 = .ok (.iload_n 3, 1) := by decide +kernel
theorem dX9_isFollowing_62 : decode cX9_isFollowing 62 = .ok (.baload, 1) := by decide +kernel
theorem dX9_isFollowing_63 : decode cX9_isFollowing 63 = .ok (.ifCond .eq 7, 3) := by decide +kernel
theorem dX9_isFollowing_66 : decode cX9_isFollowing 66 = .ok (.iconst 1, 1) := by decide +kernel
theorem dX9_isFollowing_67 : decode cX9_isFollowing 67 = .ok (.goto 4, 3) := by decide +kernel
theorem dX9_isFollowing_70 : decode cX9_isFollowing 70 = .ok (.iconst 0, 1) := by decide +kernel
theorem dX9_isFollowing_71 : decode cX9_isFollowing 71 = .ok (.iadd, 1) := by decide +kernel
theorem dX9_isFollowing_72 : decode cX9_isFollowing 72 = .ok (.istore_n 2, 1) := by decide +kernel
theorem dX9_isFollowing_73 : decode cX9_isFollowing 73 = .ok (.iinc 3 1, 3) := by decide +kernel
theorem dX9_isFollowing_76 : decode cX9_isFollowing 76 = .ok (.goto (-28), 3) := by decide +kernel
theorem dX9_isFollowing_79 : decode cX9_isFollowing 79 = .ok (.iload_n 2, 1) := by decide +kernel
theorem dX9_isFollowing_80 : decode cX9_isFollowing 80 = .ok (.iconst 1, 1) := by decide +kernel
theorem dX9_isFollowing_81 : decode cX9_isFollowing 81 = .ok (.if_icmp .ne 7, 3) := by decide +kernel
theorem dX9_isFollowing_84 : decode cX9_isFollowing 84 = .ok (.iconst 1, 1) := by decide +kernel
theorem dX9_isFollowing_85 : decode cX9_isFollowing 85 = .ok (.goto 4, 3) := by decide +kernel
theorem dX9_isFollowing_88 : decode cX9_isFollowing 88 = .ok (.iconst 0, 1) := by decide +kernel
theorem dX9_isFollowing_89 : decode cX9_isFollowing 89 = .ok (.ireturn, 1) := by decide +kernel
def jX9_isFollowing_71 (self48 : Int → Int → PH → RO) (p0 p3 s0 s1 : Int) (H : PH) : RO :=
  self48 (w32 (s0 + s1)) (w32 (p3 + 1)) H
set_option maxHeartbeats 4000000 in
theorem jX9_isFollowing_71_ok {E : PE} {rr : Int} {HH : PH} (F : FX E cX9_isFollowing RX9) (q : QE E (some (vi rr)) HH (some .boolean)) (hn : nLof E = 4) (hf : (roomOf E).frames = 1) (hl : (roomOf E).locals = 27) (self48 : Int → Int → PH → RO) (p0 p3 s0 s1 : Int) (H : PH) (ih48 : ∀ (v2 v3 : Int) (HV : PH), self48 v2 v3 HV = some (rr, HH) → PW E 48 [some (vr p0), none, some (vi v2), some (vi v3)] [] HV) (h : jX9_isFollowing_71 self48 p0 p3 s0 s1 H = some (rr, HH)) : PW E 71 [some (vr p0), none, none, some (vi p3)] [vi s1, vi s0] H := by
  unfold jX9_isFollowing_71 at h
  refine pw_iadd (pc := 71) F dX9_isFollowing_71 ?_
  refine pw_istore_n (pc := 72) F dX9_isFollowing_72 (lt_nl hn (by decide)) [some (vr p0), none, some (vi (w32 (s0 + s1))), some (vi p3)] rfl ?_
  refine pw_iinc (pc := 73) F dX9_isFollowing_73 rfl (lt_nl hn (by decide)) [some (vr p0), none, some (vi (w32 (s0 + s1))), some (vi (w32 (p3 + 1)))] rfl (by decide) ?_
  refine pw_goto (pc := 76) F 48 dX9_isFollowing_76 (by decide) ?_
  exact pw_mask [true, true, true, true] (ls' := [some (vr p0), none, some (vi (w32 (s0 + s1))), some (vi (w32 (p3 + 1)))]) rfl (ih48 (w32 (s0 + s1)) (w32 (p3 + 1)) H h)
def lX9_isFollowing_48 (p0 : Int) (self48 : Int → Int → PH → RO) (p2 p3 : Int) (H : PH) : RO :=
  (ld 25 H p0 37).bind fun x1 => (if p3 ≥ x1 then (if p2 ≠ 1 then some (0, H)
  else some (1, H))
  else (ld 25 H p0 42).bind fun x2 => (ld 2 H x2 p3).bind fun x3 => (if x3 = 0 then jX9_isFollowing_71 self48 p0 p3 p2 0 H
  else jX9_isFollowing_71 self48 p0 p3 p2 1 H))
set_option maxHeartbeats 4000000 in
theorem lX9_isFollowing_48_ok {E : PE} {rr : Int} {HH : PH} (F : FX E cX9_isFollowing RX9) (q : QE E (some (vi rr)) HH (some .boolean)) (hn : nLof E = 4) (hf : (roomOf E).frames = 1) (hl : (roomOf E).locals = 27) (p0 : Int) : ∀ (n : Nat) (p2 p3 : Int) (H : PH), lq2 (lX9_isFollowing_48 p0) n p2 p3 H = some (rr, HH) → PW E 48 [some (vr p0), none, some (vi p2), some (vi p3)] [] H := by
  refine lq2_ind (P := fun p2 p3 H => PW E 48 [some (vr p0), none, some (vi p2), some (vi p3)] [] H) ?_
  intro self48 ih48 p2 p3 H h
  unfold lX9_isFollowing_48 at h
  refine pw_iload_n (pc := 48) F dX9_isFollowing_48 rfl ?_
  refine pw_aload_n (pc := 49) F dX9_isFollowing_49 rfl ?_
  obtain ⟨x1, ex1, h⟩ := bnd h
  refine pw_get (pc := 50) F 9 37 275 (by decide) (by decide) g_95aff2781a inl_9 0 rfl dX9_isFollowing_50 ex1 ?_
  refine pw_icmp_ge (pc := 53) F 79 dX9_isFollowing_53 (by decide) (fun hc => ?_) (fun hc => ?_)
  · have h := iteT hc h
    refine pw_iload_n (pc := 79) F dX9_isFollowing_79 rfl ?_
    refine pw_iconst (pc := 80) F 1 dX9_isFollowing_80 (by decide) ?_
    refine pw_icmp_ne (pc := 81) F 88 dX9_isFollowing_81 (by decide) (fun hc => ?_) (fun hc => ?_)
    · have h := iteT hc h
      refine pw_iconst (pc := 88) F 0 dX9_isFollowing_88 (by decide) ?_
      cases h
      exact pw_zret (pc := 89) F q (by decide) dX9_isFollowing_89
    · have h := iteF hc h
      refine pw_iconst (pc := 84) F 1 dX9_isFollowing_84 (by decide) ?_
      refine pw_goto (pc := 85) F 89 dX9_isFollowing_85 (by decide) ?_
      cases h
      exact pw_zret (pc := 89) F q (by decide) dX9_isFollowing_89
  · have h := iteF hc h
    refine pw_iload_n (pc := 56) F dX9_isFollowing_56 rfl ?_
    refine pw_aload_n (pc := 57) F dX9_isFollowing_57 rfl ?_
    obtain ⟨x2, ex2, h⟩ := bnd h
    refine pw_get (pc := 58) F 9 42 112 (by decide) (by decide) g_192e92b71c inl_9 2 rfl dX9_isFollowing_58 ex2 ?_
    refine pw_iload_n (pc := 61) F dX9_isFollowing_61 rfl ?_
    obtain ⟨x3, ex3, h⟩ := bnd h
    refine pw_zald (pc := 62) F dX9_isFollowing_62 ex3 ?_
    refine pw_if_eq (pc := 63) F 70 dX9_isFollowing_63 (by decide) (fun hc => ?_) (fun hc => ?_)
    · have h := iteT hc h
      refine pw_iconst (pc := 70) F 0 dX9_isFollowing_70 (by decide) ?_
      exact pw_mask [true, true, false, true] (ls' := [some (vr p0), none, none, some (vi p3)]) rfl (jX9_isFollowing_71_ok F q hn hf hl self48 p0 p3 p2 0 H ih48 h)
    · have h := iteF hc h
      refine pw_iconst (pc := 66) F 1 dX9_isFollowing_66 (by decide) ?_
      refine pw_goto (pc := 67) F 71 dX9_isFollowing_67 (by decide) ?_
      exact pw_mask [true, true, false, true] (ls' := [some (vr p0), none, none, some (vi p3)]) rfl (jX9_isFollowing_71_ok F q hn hf hl self48 p0 p3 p2 1 H ih48 h)
def f_X9_isFollowing (a0 a1 : Int) (H : PH) : RO := vm 9 a0 H <|
  (ld 25 H a0 42).bind fun x1 => (ld 2 H x1 a1).bind fun x2 => (if x2 ≠ 0 then (ld 25 H a0 36).bind fun x3 => (if x3 = 0 then lq2 (lX9_isFollowing_48 a0) 6000 0 0 H
  else (ld 25 H a0 38).bind fun x4 => (if x4 = 0 then none else (ld 25 H a0 38).bind fun x5 => (if x5 = 0 then none else (f_X9_hangTogether a0 (w32 (Int.tdiv a1 x4)) (Int.tmod a1 x5) a1 H).bind fun z6 => (if z6.1 ≠ 0 then some (0, z6.2)
  else some (1, z6.2)))))
  else some (0, H))
set_option maxHeartbeats 4000000 in
theorem m_X9_isFollowing (l : Launch) (a0 a1 : Int) (H : PH) (rr : Int) (HH : PH) (h : f_X9_isFollowing a0 a1 H = some (rr, HH)) : CT l yX9_isFollowing cX9_isFollowing 4 (some .boolean) 1 27 [vr a0, vi a1] H (some (vi rr)) HH := by
  refine CT.of RX9 (by decide) rfl [some (vr a0), some (vi a1), none, none] rfl rfl ?_
  intro E F q hn hf hl hm
  unfold f_X9_isFollowing at h
  obtain ⟨hv, h⟩ := vm_spec h
  refine pw_aload_n (pc := 0) F dX9_isFollowing_0 rfl ?_
  obtain ⟨x1, ex1, h⟩ := bnd h
  refine pw_get (pc := 1) F 9 42 112 (by decide) (by decide) g_192e92b71c inl_9 2 rfl dX9_isFollowing_1 ex1 ?_
  refine pw_iload_n (pc := 4) F dX9_isFollowing_4 rfl ?_
  obtain ⟨x2, ex2, h⟩ := bnd h
  refine pw_zald (pc := 5) F dX9_isFollowing_5 ex2 ?_
  refine pw_if_ne (pc := 6) F 11 dX9_isFollowing_6 (by decide) (fun hc => ?_) (fun hc => ?_)
  · have h := iteT hc h
    refine pw_aload_n (pc := 11) F dX9_isFollowing_11 rfl ?_
    obtain ⟨x3, ex3, h⟩ := bnd h
    refine pw_get (pc := 12) F 9 36 272 (by decide) (by decide) g_034d67ea87 inl_9 0 rfl dX9_isFollowing_12 ex3 ?_
    refine pw_if_eq (pc := 15) F 44 dX9_isFollowing_15 (by decide) (fun hc => ?_) (fun hc => ?_)
    · have h := iteT hc h
      refine pw_iconst (pc := 44) F 0 dX9_isFollowing_44 (by decide) ?_
      refine pw_istore_n (pc := 45) F dX9_isFollowing_45 (lt_nl hn (by decide)) [some (vr a0), some (vi a1), some (vi 0), none] rfl ?_
      refine pw_iconst (pc := 46) F 0 dX9_isFollowing_46 (by decide) ?_
      refine pw_istore_n (pc := 47) F dX9_isFollowing_47 (lt_nl hn (by decide)) [some (vr a0), some (vi a1), some (vi 0), some (vi 0)] rfl ?_
      exact pw_mask [true, false, true, true] (ls' := [some (vr a0), none, some (vi 0), some (vi 0)]) rfl (lX9_isFollowing_48_ok F q hn hf hl a0  6000 0 0 H h)
    · have h := iteF hc h
      refine pw_aload_n (pc := 18) F dX9_isFollowing_18 rfl ?_
      refine pw_iload_n (pc := 19) F dX9_isFollowing_19 rfl ?_
      refine pw_aload_n (pc := 20) F dX9_isFollowing_20 rfl ?_
      obtain ⟨x4, ex4, h⟩ := bnd h
      refine pw_get (pc := 21) F 9 38 278 (by decide) (by decide) g_3c3db0642c inl_9 0 rfl dX9_isFollowing_21 ex4 ?_
      by_cases hz24 : x4 = 0
      · rw [if_pos hz24] at h; cases h
      have h := iteF hz24 h
      refine pw_idiv (pc := 24) F dX9_isFollowing_24 hz24 ?_
      refine pw_iload_n (pc := 25) F dX9_isFollowing_25 rfl ?_
      refine pw_aload_n (pc := 26) F dX9_isFollowing_26 rfl ?_
      obtain ⟨x5, ex5, h⟩ := bnd h
      refine pw_get (pc := 27) F 9 38 278 (by decide) (by decide) g_3c3db0642c inl_9 0 rfl dX9_isFollowing_27 ex5 ?_
      by_cases hz30 : x5 = 0
      · rw [if_pos hz30] at h; cases h
      have h := iteF hz30 h
      refine pw_irem (pc := 30) F dX9_isFollowing_30 hz30 ?_
      refine pw_iload_n (pc := 31) F dX9_isFollowing_31 rfl ?_
      obtain ⟨z6, ez6, h⟩ := bnd h
      refine pw_callV (pc := 32) (as := [vi (w32 (Int.tdiv a1 x4)), vi (Int.tmod a1 x5), vi a1]) (st := []) (r := (some (vi z6.1))) F 291 9 (by decide) rfl (fun l => m_X9_hangTogether l a0 (w32 (Int.tdiv a1 x4)) (Int.tmod a1 x5) a1 H z6.1 z6.2 ez6) g_883378f3d7 g_30a19c5040 g_9bcf0bdd22 g_2759d91faa g_f2883c5838 hd_X9_hangTogether (rm_ok hf hl (by decide) (by decide)) rfl (vm_spec ez6).1 dX9_isFollowing_32 rfl (stk' := [vi z6.1]) rfl ?_
      refine pw_if_ne (pc := 35) F 42 dX9_isFollowing_35 (by decide) (fun hc => ?_) (fun hc => ?_)
      · have h := iteT hc h
        refine pw_iconst (pc := 42) F 0 dX9_isFollowing_42 (by decide) ?_
        cases h
        exact pw_zret (pc := 43) F q (by decide) dX9_isFollowing_43
      · have h := iteF hc h
        refine pw_iconst (pc := 38) F 1 dX9_isFollowing_38 (by decide) ?_
        refine pw_goto (pc := 39) F 43 dX9_isFollowing_39 (by decide) ?_
        cases h
        exact pw_zret (pc := 43) F q (by decide) dX9_isFollowing_43
  · have h := iteF hc h
    refine pw_iconst (pc := 9) F 0 dX9_isFollowing_9 (by decide) ?_
    cases h
    exact pw_zret (pc := 10) F q (by decide) dX9_isFollowing_10
/-! HouseholdVaultModel.firstFollowing()I -/
theorem dX9_firstFollowing_0 : decode cX9_firstFollowing 0 = .ok (.iconst 0, 1) := by decide +kernel
theorem dX9_firstFollowing_1 : decode cX9_firstFollowing 1 = .ok (.istore_n 1, 1) := by decide +kernel
theorem dX9_firstFollowing_2 : decode cX9_firstFollowing 2 = .ok (.iload_n 1, 1) := by decide +kernel
theorem dX9_firstFollowing_3 : decode cX9_firstFollowing 3 = .ok (.aload_n 0, 1) := by decide +kernel
theorem dX9_firstFollowing_4 : decode cX9_firstFollowing 4 = .ok (.getfield 275, 3) := by decide +kernel
theorem dX9_firstFollowing_7 : decode cX9_firstFollowing 7 = .ok (.aload_n 0, 1) := by decide +kernel
theorem dX9_firstFollowing_8 : decode cX9_firstFollowing 8 = .ok (.getfield 278, 3) := by decide +kernel
theorem dX9_firstFollowing_11 : decode cX9_firstFollowing 11 = .ok (.imul, 1) := by decide +kernel
theorem dX9_firstFollowing_12 : decode cX9_firstFollowing 12 = .ok (.if_icmp .ge 19, 3) := by decide +kernel
theorem dX9_firstFollowing_15 : decode cX9_firstFollowing 15 = .ok (.aload_n 0, 1) := by decide +kernel
theorem dX9_firstFollowing_16 : decode cX9_firstFollowing 16 = .ok (.iload_n 1, 1) := by decide +kernel
theorem dX9_firstFollowing_17 : decode cX9_firstFollowing 17 = .ok (.invokevirtual 294, 3) := by decide +kernel
theorem dX9_firstFollowing_20 : decode cX9_firstFollowing 20 = .ok (.ifCond .eq 5, 3) := by decide +kernel
theorem dX9_firstFollowing_23 : decode cX9_firstFollowing 23 = .ok (.iload_n 1, 1) := by decide +kernel
theorem dX9_firstFollowing_24 : decode cX9_firstFollowing 24 = .ok (.ireturn, 1) := by decide +kernel
theorem dX9_firstFollowing_25 : decode cX9_firstFollowing 25 = .ok (.iinc 1 1, 3) := by decide +kernel
theorem dX9_firstFollowing_28 : decode cX9_firstFollowing 28 = .ok (.goto (-26), 3) := by decide +kernel
theorem dX9_firstFollowing_31 : decode cX9_firstFollowing 31 = .ok (.iconst (-1), 1) := by decide +kernel
theorem dX9_firstFollowing_32 : decode cX9_firstFollowing 32 = .ok (.ireturn, 1) := by decide +kernel
def lX9_firstFollowing_2 (p0 : Int) (self2 : Int → PH → RO) (p1 : Int) (H : PH) : RO :=
  (ld 25 H p0 37).bind fun x1 => (ld 25 H p0 38).bind fun x2 => (if p1 ≥ (w32 (x1 * x2)) then some ((-1), H)
  else (f_X9_isFollowing p0 p1 H).bind fun z3 => (if z3.1 = 0 then self2 (w32 (p1 + 1)) z3.2
  else some (p1, z3.2)))
set_option maxHeartbeats 4000000 in
theorem lX9_firstFollowing_2_ok {E : PE} {rr : Int} {HH : PH} (F : FX E cX9_firstFollowing RX9) (q : QE E (some (vi rr)) HH (some .int)) (hn : nLof E = 2) (hf : (roomOf E).frames = 2) (hl : (roomOf E).locals = 50) (p0 : Int) : ∀ (n : Nat) (p1 : Int) (H : PH), lq1 (lX9_firstFollowing_2 p0) n p1 H = some (rr, HH) → PW E 2 [some (vr p0), some (vi p1)] [] H := by
  refine lq1_ind (P := fun p1 H => PW E 2 [some (vr p0), some (vi p1)] [] H) ?_
  intro self2 ih2 p1 H h
  unfold lX9_firstFollowing_2 at h
  refine pw_iload_n (pc := 2) F dX9_firstFollowing_2 rfl ?_
  refine pw_aload_n (pc := 3) F dX9_firstFollowing_3 rfl ?_
  obtain ⟨x1, ex1, h⟩ := bnd h
  refine pw_get (pc := 4) F 9 37 275 (by decide) (by decide) g_95aff2781a inl_9 0 rfl dX9_firstFollowing_4 ex1 ?_
  refine pw_aload_n (pc := 7) F dX9_firstFollowing_7 rfl ?_
  obtain ⟨x2, ex2, h⟩ := bnd h
  refine pw_get (pc := 8) F 9 38 278 (by decide) (by decide) g_3c3db0642c inl_9 0 rfl dX9_firstFollowing_8 ex2 ?_
  refine pw_imul (pc := 11) F dX9_firstFollowing_11 ?_
  refine pw_icmp_ge (pc := 12) F 31 dX9_firstFollowing_12 (by decide) (fun hc => ?_) (fun hc => ?_)
  · have h := iteT hc h
    refine pw_iconst (pc := 31) F (-1) dX9_firstFollowing_31 (by decide) ?_
    cases h
    exact pw_iret (pc := 32) F q dX9_firstFollowing_32
  · have h := iteF hc h
    refine pw_aload_n (pc := 15) F dX9_firstFollowing_15 rfl ?_
    refine pw_iload_n (pc := 16) F dX9_firstFollowing_16 rfl ?_
    obtain ⟨z3, ez3, h⟩ := bnd h
    refine pw_callV (pc := 17) (as := [vi p1]) (st := []) (r := (some (vi z3.1))) F 294 9 (by decide) rfl (fun l => m_X9_isFollowing l p0 p1 H z3.1 z3.2 ez3) g_70dd9a0874 g_565a9316a4 g_e1c86b8c52 g_2759d91faa g_aabe9aced9 hd_X9_isFollowing (rm_ok hf hl (by decide) (by decide)) rfl (vm_spec ez3).1 dX9_firstFollowing_17 rfl (stk' := [vi z3.1]) rfl ?_
    refine pw_if_eq (pc := 20) F 25 dX9_firstFollowing_20 (by decide) (fun hc => ?_) (fun hc => ?_)
    · have h := iteT hc h
      refine pw_iinc (pc := 25) F dX9_firstFollowing_25 rfl (lt_nl hn (by decide)) [some (vr p0), some (vi (w32 (p1 + 1)))] rfl (by decide) ?_
      refine pw_goto (pc := 28) F 2 dX9_firstFollowing_28 (by decide) ?_
      exact pw_mask [true, true] (ls' := [some (vr p0), some (vi (w32 (p1 + 1)))]) rfl (ih2 (w32 (p1 + 1)) z3.2 h)
    · have h := iteF hc h
      refine pw_iload_n (pc := 23) F dX9_firstFollowing_23 rfl ?_
      cases h
      exact pw_iret (pc := 24) F q dX9_firstFollowing_24
def f_X9_firstFollowing (a0 : Int) (H : PH) : RO := vm 9 a0 H <|
  lq1 (lX9_firstFollowing_2 a0) 6000 0 H
set_option maxHeartbeats 4000000 in
theorem m_X9_firstFollowing (l : Launch) (a0 : Int) (H : PH) (rr : Int) (HH : PH) (h : f_X9_firstFollowing a0 H = some (rr, HH)) : CT l yX9_firstFollowing cX9_firstFollowing 2 (some .int) 2 50 [vr a0] H (some (vi rr)) HH := by
  refine CT.of RX9 (by decide) rfl [some (vr a0), none] rfl rfl ?_
  intro E F q hn hf hl hm
  unfold f_X9_firstFollowing at h
  obtain ⟨hv, h⟩ := vm_spec h
  refine pw_iconst (pc := 0) F 0 dX9_firstFollowing_0 (by decide) ?_
  refine pw_istore_n (pc := 1) F dX9_firstFollowing_1 (lt_nl hn (by decide)) [some (vr a0), some (vi 0)] rfl ?_
  exact pw_mask [true, true] (ls' := [some (vr a0), some (vi 0)]) rfl (lX9_firstFollowing_2_ok F q hn hf hl a0  6000 0 H h)
/-! HouseholdVaultModel.leastOf(II)I -/
theorem dX9_leastOf_0 : decode cX9_leastOf 0 = .ok (.iconst (-1), 1) := by decide +kernel
theorem dX9_leastOf_1 : decode cX9_leastOf 1 = .ok (.istore_n 3, 1) := by decide +kernel
theorem dX9_leastOf_2 : decode cX9_leastOf 2 = .ok (.iconst 0, 1) := by decide +kernel
theorem dX9_leastOf_3 : decode cX9_leastOf 3 = .ok (.istore 4, 2) := by decide +kernel
theorem dX9_leastOf_5 : decode cX9_leastOf 5 = .ok (.iload 4, 2) := by decide +kernel
theorem dX9_leastOf_7 : decode cX9_leastOf 7 = .ok (.aload_n 0, 1) := by decide +kernel
theorem dX9_leastOf_8 : decode cX9_leastOf 8 = .ok (.getfield 275, 3) := by decide +kernel
theorem dX9_leastOf_11 : decode cX9_leastOf 11 = .ok (.aload_n 0, 1) := by decide +kernel
theorem dX9_leastOf_12 : decode cX9_leastOf 12 = .ok (.getfield 278, 3) := by decide +kernel
theorem dX9_leastOf_15 : decode cX9_leastOf 15 = .ok (.imul, 1) := by decide +kernel
theorem dX9_leastOf_16 : decode cX9_leastOf 16 = .ok (.if_icmp .ge 107, 3) := by decide +kernel
theorem dX9_leastOf_19 : decode cX9_leastOf 19 = .ok (.iload_n 1, 1) := by decide +kernel
theorem dX9_leastOf_20 : decode cX9_leastOf 20 = .ok (.ifCond .ne 27, 3) := by decide +kernel
theorem dX9_leastOf_23 : decode cX9_leastOf 23 = .ok (.iload 4, 2) := by decide +kernel
theorem dX9_leastOf_25 : decode cX9_leastOf 25 = .ok (.aload_n 0, 1) := by decide +kernel
theorem dX9_leastOf_26 : decode cX9_leastOf 26 = .ok (.getfield 278, 3) := by decide +kernel
theorem dX9_leastOf_29 : decode cX9_leastOf 29 = .ok (.idiv, 1) := by decide +kernel
theorem dX9_leastOf_30 : decode cX9_leastOf 30 = .ok (.iload_n 2, 1) := by decide +kernel
theorem dX9_leastOf_31 : decode cX9_leastOf 31 = .ok (.aload_n 0, 1) := by decide +kernel
theorem dX9_leastOf_32 : decode cX9_leastOf 32 = .ok (.getfield 278, 3) := by decide +kernel
theorem dX9_leastOf_35 : decode cX9_leastOf 35 = .ok (.idiv, 1) := by decide +kernel
theorem dX9_leastOf_36 : decode cX9_leastOf 36 = .ok (.if_icmp .ne 7, 3) := by decide +kernel
theorem dX9_leastOf_39 : decode cX9_leastOf 39 = .ok (.iconst 1, 1) := by decide +kernel
theorem dX9_leastOf_40 : decode cX9_leastOf 40 = .ok (.goto 33, 3) := by decide +kernel
theorem dX9_leastOf_43 : decode cX9_leastOf 43 = .ok (.iconst 0, 1) := by decide +kernel
theorem dX9_leastOf_44 : decode cX9_leastOf 44 = .ok (.goto 29, 3) := by decide +kernel
theorem dX9_leastOf_47 : decode cX9_leastOf 47 = .ok (.iload_n 1, 1) := by decide +kernel
theorem dX9_leastOf_48 : decode cX9_leastOf 48 = .ok (.iconst 2, 1) := by decide +kernel
theorem dX9_leastOf_49 : decode cX9_leastOf 49 = .ok (.if_icmp .eq 19, 3) := by decide +kernel
theorem dX9_leastOf_52 : decode cX9_leastOf 52 = .ok (.iload 4, 2) := by decide +kernel
theorem dX9_leastOf_54 : decode cX9_leastOf 54 = .ok (.aload_n 0, 1) := by decide +kernel
theorem dX9_leastOf_55 : decode cX9_leastOf 55 = .ok (.getfield 278, 3) := by decide +kernel
theorem dX9_leastOf_58 : decode cX9_leastOf 58 = .ok (.irem, 1) := by decide +kernel
theorem dX9_leastOf_59 : decode cX9_leastOf 59 = .ok (.iload_n 2, 1) := by decide +kernel
theorem dX9_leastOf_60 : decode cX9_leastOf 60 = .ok (.aload_n 0, 1) := by decide +kernel
theorem dX9_leastOf_61 : decode cX9_leastOf 61 = .ok (.getfield 278, 3) := by decide +kernel
theorem dX9_leastOf_64 : decode cX9_leastOf 64 = .ok (.irem, 1) := by decide +kernel
theorem dX9_leastOf_65 : decode cX9_leastOf 65 = .ok (.if_icmp .ne 7, 3) := by decide +kernel
theorem dX9_leastOf_68 : decode cX9_leastOf 68 = .ok (.iconst 1, 1) := by decide +kernel
theorem dX9_leastOf_69 : decode cX9_leastOf 69 = .ok (.goto 4, 3) := by decide +kernel
theorem dX9_leastOf_72 : decode cX9_leastOf 72 = .ok (.iconst 0, 1) := by decide +kernel
theorem dX9_leastOf_73 : decode cX9_leastOf 73 = .ok (.istore 5, 2) := by decide +kernel
theorem dX9_leastOf_75 : decode cX9_leastOf 75 = .ok (.iload 5, 2) := by decide +kernel
theorem dX9_leastOf_77 : decode cX9_leastOf 77 = .ok (.ifCond .eq 38, 3) := by decide +kernel
theorem dX9_leastOf_80 : decode cX9_leastOf 80 = .ok (.aload_n 0, 1) := by decide +kernel
theorem dX9_leastOf_81 : decode cX9_leastOf 81 = .ok (.getfield 112, 3) := by decide +kernel
theorem dX9_leastOf_84 : decode cX9_leastOf 84 = .ok (.iload 4, 2) := by decide +kernel
theorem dX9_leastOf_86 : decode cX9_leastOf 86 = .ok (.baload, 1) := by decide +kernel
theorem dX9_leastOf_87 : decode cX9_leastOf 87 = .ok (.ifCond .ne 28, 3) := by decide +kernel
theorem dX9_leastOf_90 : decode cX9_leastOf 90 = .ok (.iload_n 3, 1) := by decide +kernel
theorem dX9_leastOf_91 : decode cX9_leastOf 91 = .ok (.ifCond .lt 19, 3) := by decide +kernel
theorem dX9_leastOf_94 : decode cX9_leastOf 94 = .ok (.aload_n 0, 1) := by decide +kernel
theorem dX9_leastOf_95 : decode cX9_leastOf 95 = .ok (.getfield 103, 3) := by decide +kernel
theorem dX9_leastOf_98 : decode cX9_leastOf 98 = .ok (.iload 4, 2) := by decide +kernel
theorem dX9_leastOf_100 : decode cX9_leastOf 100 = .ok (.iaload, 1) := by decide +kernel
theorem dX9_leastOf_101 : decode cX9_leastOf 101 = .ok (.aload_n 0, 1) := by decide +kernel
theorem dX9_leastOf_102 : decode cX9_leastOf 102 = .ok (.getfield 103, 3) := by decide +kernel
theorem dX9_leastOf_105 : decode cX9_leastOf 105 = .ok (.iload_n 3, 1) := by decide +kernel
theorem dX9_leastOf_106 : decode cX9_leastOf 106 = .ok (.iaload, 1) := by decide +kernel
theorem dX9_leastOf_107 : decode cX9_leastOf 107 = .ok (.if_icmp .ge 8, 3) := by decide +kernel
theorem dX9_leastOf_110 : decode cX9_leastOf 110 = .ok (.iload 4, 2) := by decide +kernel
theorem dX9_leastOf_112 : decode cX9_leastOf 112 = .ok (.goto 4, 3) := by decide +kernel
theorem dX9_leastOf_115 : decode cX9_leastOf 115 = .ok (.iload_n 3, 1) := by decide +kernel
theorem dX9_leastOf_116 : decode cX9_leastOf 116 = .ok (.istore_n 3, 1) := by decide +kernel
theorem dX9_leastOf_117 : decode cX9_leastOf 117 = .ok (.iinc 4 1, 3) := by decide +kernel
theorem dX9_leastOf_120 : decode cX9_leastOf 120 = .ok (.goto (-115), 3) := by decide +kernel
theorem dX9_leastOf_123 : decode cX9_leastOf 123 = .ok (.iload_n 3, 1) := by decide +kernel
theorem dX9_leastOf_124 : decode cX9_leastOf 124 = .ok (.ireturn, 1) := by decide +kernel
def jX9_leastOf_116 (self5 : Int → Int → PH → RO) (p0 p1 p2 p4 s0 : Int) (H : PH) : RO :=
  self5 s0 (w32 (p4 + 1)) H
set_option maxHeartbeats 4000000 in
theorem jX9_leastOf_116_ok {E : PE} {rr : Int} {HH : PH} (F : FX E cX9_leastOf RX9) (q : QE E (some (vi rr)) HH (some .int)) (hn : nLof E = 6) (hf : (roomOf E).frames = 0) (hl : (roomOf E).locals = 0) (self5 : Int → Int → PH → RO) (p0 p1 p2 p4 s0 : Int) (H : PH) (ih5 : ∀ (v3 v4 : Int) (HV : PH), self5 v3 v4 HV = some (rr, HH) → PW E 5 [some (vr p0), some (vi p1), some (vi p2), some (vi v3), some (vi v4), none] [] HV) (h : jX9_leastOf_116 self5 p0 p1 p2 p4 s0 H = some (rr, HH)) : PW E 116 [some (vr p0), some (vi p1), some (vi p2), none, some (vi p4), none] [vi s0] H := by
  unfold jX9_leastOf_116 at h
  refine pw_istore_n (pc := 116) F dX9_leastOf_116 (lt_nl hn (by decide)) [some (vr p0), some (vi p1), some (vi p2), some (vi s0), some (vi p4), none] rfl ?_
  refine pw_iinc (pc := 117) F dX9_leastOf_117 rfl (lt_nl hn (by decide)) [some (vr p0), some (vi p1), some (vi p2), some (vi s0), some (vi (w32 (p4 + 1))), none] rfl (by decide) ?_
  refine pw_goto (pc := 120) F 5 dX9_leastOf_120 (by decide) ?_
  exact pw_mask [true, true, true, true, true, true] (ls' := [some (vr p0), some (vi p1), some (vi p2), some (vi s0), some (vi (w32 (p4 + 1))), none]) rfl (ih5 s0 (w32 (p4 + 1)) H h)
def jX9_leastOf_115 (self5 : Int → Int → PH → RO) (p0 p1 p2 p3 p4 : Int) (H : PH) : RO :=
  jX9_leastOf_116 self5 p0 p1 p2 p4 p3 H
set_option maxHeartbeats 4000000 in
theorem jX9_leastOf_115_ok {E : PE} {rr : Int} {HH : PH} (F : FX E cX9_leastOf RX9) (q : QE E (some (vi rr)) HH (some .int)) (hn : nLof E = 6) (hf : (roomOf E).frames = 0) (hl : (roomOf E).locals = 0) (self5 : Int → Int → PH → RO) (p0 p1 p2 p3 p4 : Int) (H : PH) (ih5 : ∀ (v3 v4 : Int) (HV : PH), self5 v3 v4 HV = some (rr, HH) → PW E 5 [some (vr p0), some (vi p1), some (vi p2), some (vi v3), some (vi v4), none] [] HV) (h : jX9_leastOf_115 self5 p0 p1 p2 p3 p4 H = some (rr, HH)) : PW E 115 [some (vr p0), some (vi p1), some (vi p2), some (vi p3), some (vi p4), none] [] H := by
  unfold jX9_leastOf_115 at h
  refine pw_iload_n (pc := 115) F dX9_leastOf_115 rfl ?_
  exact pw_mask [true, true, true, false, true, true] (ls' := [some (vr p0), some (vi p1), some (vi p2), none, some (vi p4), none]) rfl (jX9_leastOf_116_ok F q hn hf hl self5 p0 p1 p2 p4 p3 H ih5 h)
def jX9_leastOf_110 (self5 : Int → Int → PH → RO) (p0 p1 p2 p4 : Int) (H : PH) : RO :=
  jX9_leastOf_116 self5 p0 p1 p2 p4 p4 H
set_option maxHeartbeats 4000000 in
theorem jX9_leastOf_110_ok {E : PE} {rr : Int} {HH : PH} (F : FX E cX9_leastOf RX9) (q : QE E (some (vi rr)) HH (some .int)) (hn : nLof E = 6) (hf : (roomOf E).frames = 0) (hl : (roomOf E).locals = 0) (self5 : Int → Int → PH → RO) (p0 p1 p2 p4 : Int) (H : PH) (ih5 : ∀ (v3 v4 : Int) (HV : PH), self5 v3 v4 HV = some (rr, HH) → PW E 5 [some (vr p0), some (vi p1), some (vi p2), some (vi v3), some (vi v4), none] [] HV) (h : jX9_leastOf_110 self5 p0 p1 p2 p4 H = some (rr, HH)) : PW E 110 [some (vr p0), some (vi p1), some (vi p2), none, some (vi p4), none] [] H := by
  unfold jX9_leastOf_110 at h
  refine pw_iload (pc := 110) F dX9_leastOf_110 rfl ?_
  refine pw_goto (pc := 112) F 116 dX9_leastOf_112 (by decide) ?_
  exact pw_mask [true, true, true, true, true, true] (ls' := [some (vr p0), some (vi p1), some (vi p2), none, some (vi p4), none]) rfl (jX9_leastOf_116_ok F q hn hf hl self5 p0 p1 p2 p4 p4 H ih5 h)
def jX9_leastOf_73 (self5 : Int → Int → PH → RO) (p0 p1 p2 p3 p4 s0 : Int) (H : PH) : RO :=
  (if s0 = 0 then jX9_leastOf_115 self5 p0 p1 p2 p3 p4 H
  else (ld 25 H p0 42).bind fun x1 => (ld 2 H x1 p4).bind fun x2 => (if x2 ≠ 0 then jX9_leastOf_115 self5 p0 p1 p2 p3 p4 H
  else (if p3 < 0 then jX9_leastOf_110 self5 p0 p1 p2 p4 H
  else (ld 25 H p0 39).bind fun x3 => (ld 0 H x3 p4).bind fun x4 => (ld 25 H p0 39).bind fun x5 => (ld 0 H x5 p3).bind fun x6 => (if x4 ≥ x6 then jX9_leastOf_115 self5 p0 p1 p2 p3 p4 H
  else jX9_leastOf_110 self5 p0 p1 p2 p4 H))))
set_option maxHeartbeats 4000000 in
theorem jX9_leastOf_73_ok {E : PE} {rr : Int} {HH : PH} (F : FX E cX9_leastOf RX9) (q : QE E (some (vi rr)) HH (some .int)) (hn : nLof E = 6) (hf : (roomOf E).frames = 0) (hl : (roomOf E).locals = 0) (self5 : Int → Int → PH → RO) (p0 p1 p2 p3 p4 s0 : Int) (H : PH) (ih5 : ∀ (v3 v4 : Int) (HV : PH), self5 v3 v4 HV = some (rr, HH) → PW E 5 [some (vr p0), some (vi p1), some (vi p2), some (vi v3), some (vi v4), none] [] HV) (h : jX9_leastOf_73 self5 p0 p1 p2 p3 p4 s0 H = some (rr, HH)) : PW E 73 [some (vr p0), some (vi p1), some (vi p2), some (vi p3), some (vi p4), none] [vi s0] H := by
  unfold jX9_leastOf_73 at h
  refine pw_istore (pc := 73) F dX9_leastOf_73 (lt_nl hn (by decide)) [some (vr p0), some (vi p1), some (vi p2), some (vi p3), some (vi p4), some (vi s0)] rfl ?_
  refine pw_iload (pc := 75) F dX9_leastOf_75 rfl ?_
  refine pw_if_eq (pc := 77) F 115 dX9_leastOf_77 (by decide) (fun hc => ?_) (fun hc => ?_)
  · have h := iteT hc h
    exact pw_mask [true, true, true, true, true, false] (ls' := [some (vr p0), some (vi p1), some (vi p2), some (vi p3), some (vi p4), none]) rfl (jX9_leastOf_115_ok F q hn hf hl self5 p0 p1 p2 p3 p4 H ih5 h)
  · have h := iteF hc h
    refine pw_aload_n (pc := 80) F dX9_leastOf_80 rfl ?_
    obtain ⟨x1, ex1, h⟩ := bnd h
    refine pw_get (pc := 81) F 9 42 112 (by decide) (by decide) g_192e92b71c inl_9 2 rfl dX9_leastOf_81 ex1 ?_
    refine pw_iload (pc := 84) F dX9_leastOf_84 rfl ?_
    obtain ⟨x2, ex2, h⟩ := bnd h
    refine pw_zald (pc := 86) F dX9_leastOf_86 ex2 ?_
    refine pw_if_ne (pc := 87) F 115 dX9_leastOf_87 (by decide) (fun hc => ?_) (fun hc => ?_)
    · have h := iteT hc h
      exact pw_mask [true, true, true, true, true, false] (ls' := [some (vr p0), some (vi p1), some (vi p2), some (vi p3), some (vi p4), none]) rfl (jX9_leastOf_115_ok F q hn hf hl self5 p0 p1 p2 p3 p4 H ih5 h)
    · have h := iteF hc h
      refine pw_iload_n (pc := 90) F dX9_leastOf_90 rfl ?_
      refine pw_if_lt (pc := 91) F 110 dX9_leastOf_91 (by decide) (fun hc => ?_) (fun hc => ?_)
      · have h := iteT hc h
        exact pw_mask [true, true, true, false, true, false] (ls' := [some (vr p0), some (vi p1), some (vi p2), none, some (vi p4), none]) rfl (jX9_leastOf_110_ok F q hn hf hl self5 p0 p1 p2 p4 H ih5 h)
      · have h := iteF hc h
        refine pw_aload_n (pc := 94) F dX9_leastOf_94 rfl ?_
        obtain ⟨x3, ex3, h⟩ := bnd h
        refine pw_get (pc := 95) F 9 39 103 (by decide) (by decide) g_f58399c680 inl_9 2 rfl dX9_leastOf_95 ex3 ?_
        refine pw_iload (pc := 98) F dX9_leastOf_98 rfl ?_
        obtain ⟨x4, ex4, h⟩ := bnd h
        refine pw_iald (pc := 100) F dX9_leastOf_100 ex4 ?_
        refine pw_aload_n (pc := 101) F dX9_leastOf_101 rfl ?_
        obtain ⟨x5, ex5, h⟩ := bnd h
        refine pw_get (pc := 102) F 9 39 103 (by decide) (by decide) g_f58399c680 inl_9 2 rfl dX9_leastOf_102 ex5 ?_
        refine pw_iload_n (pc := 105) F dX9_leastOf_105 rfl ?_
        obtain ⟨x6, ex6, h⟩ := bnd h
        refine pw_iald (pc := 106) F dX9_leastOf_106 ex6 ?_
        refine pw_icmp_ge (pc := 107) F 115 dX9_leastOf_107 (by decide) (fun hc => ?_) (fun hc => ?_)
        · have h := iteT hc h
          exact pw_mask [true, true, true, true, true, false] (ls' := [some (vr p0), some (vi p1), some (vi p2), some (vi p3), some (vi p4), none]) rfl (jX9_leastOf_115_ok F q hn hf hl self5 p0 p1 p2 p3 p4 H ih5 h)
        · have h := iteF hc h
          exact pw_mask [true, true, true, false, true, false] (ls' := [some (vr p0), some (vi p1), some (vi p2), none, some (vi p4), none]) rfl (jX9_leastOf_110_ok F q hn hf hl self5 p0 p1 p2 p4 H ih5 h)
def jX9_leastOf_68 (self5 : Int → Int → PH → RO) (p0 p1 p2 p3 p4 : Int) (H : PH) : RO :=
  jX9_leastOf_73 self5 p0 p1 p2 p3 p4 1 H
set_option maxHeartbeats 4000000 in
theorem jX9_leastOf_68_ok {E : PE} {rr : Int} {HH : PH} (F : FX E cX9_leastOf RX9) (q : QE E (some (vi rr)) HH (some .int)) (hn : nLof E = 6) (hf : (roomOf E).frames = 0) (hl : (roomOf E).locals = 0) (self5 : Int → Int → PH → RO) (p0 p1 p2 p3 p4 : Int) (H : PH) (ih5 : ∀ (v3 v4 : Int) (HV : PH), self5 v3 v4 HV = some (rr, HH) → PW E 5 [some (vr p0), some (vi p1), some (vi p2), some (vi v3), some (vi v4), none] [] HV) (h : jX9_leastOf_68 self5 p0 p1 p2 p3 p4 H = some (rr, HH)) : PW E 68 [some (vr p0), some (vi p1), some (vi p2), some (vi p3), some (vi p4), none] [] H := by
  unfold jX9_leastOf_68 at h
  refine pw_iconst (pc := 68) F 1 dX9_leastOf_68 (by decide) ?_
  refine pw_goto (pc := 69) F 73 dX9_leastOf_69 (by decide) ?_
  exact pw_mask [true, true, true, true, true, true] (ls' := [some (vr p0), some (vi p1), some (vi p2), some (vi p3), some (vi p4), none]) rfl (jX9_leastOf_73_ok F q hn hf hl self5 p0 p1 p2 p3 p4 1 H ih5 h)
def lX9_leastOf_5 (p0 p1 p2 : Int) (self5 : Int → Int → PH → RO) (p3 p4 : Int) (H : PH) : RO :=
  (ld 25 H p0 37).bind fun x1 => (ld 25 H p0 38).bind fun x2 => (if p4 ≥ (w32 (x1 * x2)) then some (p3, H)
  else (if p1 ≠ 0 then (if p1 = 2 then jX9_leastOf_68 self5 p0 p1 p2 p3 p4 H
  else (ld 25 H p0 38).bind fun x3 => (if x3 = 0 then none else (ld 25 H p0 38).bind fun x4 => (if x4 = 0 then none else (if (Int.tmod p4 x3) ≠ (Int.tmod p2 x4) then jX9_leastOf_73 self5 p0 p1 p2 p3 p4 0 H
  else jX9_leastOf_68 self5 p0 p1 p2 p3 p4 H))))
  else (ld 25 H p0 38).bind fun x5 => (if x5 = 0 then none else (ld 25 H p0 38).bind fun x6 => (if x6 = 0 then none else (if (w32 (Int.tdiv p4 x5)) ≠ (w32 (Int.tdiv p2 x6)) then jX9_leastOf_73 self5 p0 p1 p2 p3 p4 0 H
  else jX9_leastOf_73 self5 p0 p1 p2 p3 p4 1 H)))))
set_option maxHeartbeats 4000000 in
theorem lX9_leastOf_5_ok {E : PE} {rr : Int} {HH : PH} (F : FX E cX9_leastOf RX9) (q : QE E (some (vi rr)) HH (some .int)) (hn : nLof E = 6) (hf : (roomOf E).frames = 0) (hl : (roomOf E).locals = 0) (p0 p1 p2 : Int) : ∀ (n : Nat) (p3 p4 : Int) (H : PH), lq2 (lX9_leastOf_5 p0 p1 p2) n p3 p4 H = some (rr, HH) → PW E 5 [some (vr p0), some (vi p1), some (vi p2), some (vi p3), some (vi p4), none] [] H := by
  refine lq2_ind (P := fun p3 p4 H => PW E 5 [some (vr p0), some (vi p1), some (vi p2), some (vi p3), some (vi p4), none] [] H) ?_
  intro self5 ih5 p3 p4 H h
  unfold lX9_leastOf_5 at h
  refine pw_iload (pc := 5) F dX9_leastOf_5 rfl ?_
  refine pw_aload_n (pc := 7) F dX9_leastOf_7 rfl ?_
  obtain ⟨x1, ex1, h⟩ := bnd h
  refine pw_get (pc := 8) F 9 37 275 (by decide) (by decide) g_95aff2781a inl_9 0 rfl dX9_leastOf_8 ex1 ?_
  refine pw_aload_n (pc := 11) F dX9_leastOf_11 rfl ?_
  obtain ⟨x2, ex2, h⟩ := bnd h
  refine pw_get (pc := 12) F 9 38 278 (by decide) (by decide) g_3c3db0642c inl_9 0 rfl dX9_leastOf_12 ex2 ?_
  refine pw_imul (pc := 15) F dX9_leastOf_15 ?_
  refine pw_icmp_ge (pc := 16) F 123 dX9_leastOf_16 (by decide) (fun hc => ?_) (fun hc => ?_)
  · have h := iteT hc h
    refine pw_iload_n (pc := 123) F dX9_leastOf_123 rfl ?_
    cases h
    exact pw_iret (pc := 124) F q dX9_leastOf_124
  · have h := iteF hc h
    refine pw_iload_n (pc := 19) F dX9_leastOf_19 rfl ?_
    refine pw_if_ne (pc := 20) F 47 dX9_leastOf_20 (by decide) (fun hc => ?_) (fun hc => ?_)
    · have h := iteT hc h
      refine pw_iload_n (pc := 47) F dX9_leastOf_47 rfl ?_
      refine pw_iconst (pc := 48) F 2 dX9_leastOf_48 (by decide) ?_
      refine pw_icmp_eq (pc := 49) F 68 dX9_leastOf_49 (by decide) (fun hc => ?_) (fun hc => ?_)
      · have h := iteT hc h
        exact pw_mask [true, true, true, true, true, true] (ls' := [some (vr p0), some (vi p1), some (vi p2), some (vi p3), some (vi p4), none]) rfl (jX9_leastOf_68_ok F q hn hf hl self5 p0 p1 p2 p3 p4 H ih5 h)
      · have h := iteF hc h
        refine pw_iload (pc := 52) F dX9_leastOf_52 rfl ?_
        refine pw_aload_n (pc := 54) F dX9_leastOf_54 rfl ?_
        obtain ⟨x3, ex3, h⟩ := bnd h
        refine pw_get (pc := 55) F 9 38 278 (by decide) (by decide) g_3c3db0642c inl_9 0 rfl dX9_leastOf_55 ex3 ?_
        by_cases hz58 : x3 = 0
        · rw [if_pos hz58] at h; cases h
        have h := iteF hz58 h
        refine pw_irem (pc := 58) F dX9_leastOf_58 hz58 ?_
        refine pw_iload_n (pc := 59) F dX9_leastOf_59 rfl ?_
        refine pw_aload_n (pc := 60) F dX9_leastOf_60 rfl ?_
        obtain ⟨x4, ex4, h⟩ := bnd h
        refine pw_get (pc := 61) F 9 38 278 (by decide) (by decide) g_3c3db0642c inl_9 0 rfl dX9_leastOf_61 ex4 ?_
        by_cases hz64 : x4 = 0
        · rw [if_pos hz64] at h; cases h
        have h := iteF hz64 h
        refine pw_irem (pc := 64) F dX9_leastOf_64 hz64 ?_
        refine pw_icmp_ne (pc := 65) F 72 dX9_leastOf_65 (by decide) (fun hc => ?_) (fun hc => ?_)
        · have h := iteT hc h
          refine pw_iconst (pc := 72) F 0 dX9_leastOf_72 (by decide) ?_
          exact pw_mask [true, true, true, true, true, true] (ls' := [some (vr p0), some (vi p1), some (vi p2), some (vi p3), some (vi p4), none]) rfl (jX9_leastOf_73_ok F q hn hf hl self5 p0 p1 p2 p3 p4 0 H ih5 h)
        · have h := iteF hc h
          exact pw_mask [true, true, true, true, true, true] (ls' := [some (vr p0), some (vi p1), some (vi p2), some (vi p3), some (vi p4), none]) rfl (jX9_leastOf_68_ok F q hn hf hl self5 p0 p1 p2 p3 p4 H ih5 h)
    · have h := iteF hc h
      refine pw_iload (pc := 23) F dX9_leastOf_23 rfl ?_
      refine pw_aload_n (pc := 25) F dX9_leastOf_25 rfl ?_
      obtain ⟨x5, ex5, h⟩ := bnd h
      refine pw_get (pc := 26) F 9 38 278 (by decide) (by decide) g_3c3db0642c inl_9 0 rfl dX9_leastOf_26 ex5 ?_
      by_cases hz29 : x5 = 0
      · rw [if_pos hz29] at h; cases h
      have h := iteF hz29 h
      refine pw_idiv (pc := 29) F dX9_leastOf_29 hz29 ?_
      refine pw_iload_n (pc := 30) F dX9_leastOf_30 rfl ?_
      refine pw_aload_n (pc := 31) F dX9_leastOf_31 rfl ?_
      obtain ⟨x6, ex6, h⟩ := bnd h
      refine pw_get (pc := 32) F 9 38 278 (by decide) (by decide) g_3c3db0642c inl_9 0 rfl dX9_leastOf_32 ex6 ?_
      by_cases hz35 : x6 = 0
      · rw [if_pos hz35] at h; cases h
      have h := iteF hz35 h
      refine pw_idiv (pc := 35) F dX9_leastOf_35 hz35 ?_
      refine pw_icmp_ne (pc := 36) F 43 dX9_leastOf_36 (by decide) (fun hc => ?_) (fun hc => ?_)
      · have h := iteT hc h
        refine pw_iconst (pc := 43) F 0 dX9_leastOf_43 (by decide) ?_
        refine pw_goto (pc := 44) F 73 dX9_leastOf_44 (by decide) ?_
        exact pw_mask [true, true, true, true, true, true] (ls' := [some (vr p0), some (vi p1), some (vi p2), some (vi p3), some (vi p4), none]) rfl (jX9_leastOf_73_ok F q hn hf hl self5 p0 p1 p2 p3 p4 0 H ih5 h)
      · have h := iteF hc h
        refine pw_iconst (pc := 39) F 1 dX9_leastOf_39 (by decide) ?_
        refine pw_goto (pc := 40) F 73 dX9_leastOf_40 (by decide) ?_
        exact pw_mask [true, true, true, true, true, true] (ls' := [some (vr p0), some (vi p1), some (vi p2), some (vi p3), some (vi p4), none]) rfl (jX9_leastOf_73_ok F q hn hf hl self5 p0 p1 p2 p3 p4 1 H ih5 h)
def f_X9_leastOf (a0 a1 a2 : Int) (H : PH) : RO := vm 9 a0 H <|
  lq2 (lX9_leastOf_5 a0 a1 a2) 6000 (-1) 0 H
set_option maxHeartbeats 4000000 in
theorem m_X9_leastOf (l : Launch) (a0 a1 a2 : Int) (H : PH) (rr : Int) (HH : PH) (h : f_X9_leastOf a0 a1 a2 H = some (rr, HH)) : CT l yX9_leastOf cX9_leastOf 6 (some .int) 0 0 [vr a0, vi a1, vi a2] H (some (vi rr)) HH := by
  refine CT.of RX9 (by decide) rfl [some (vr a0), some (vi a1), some (vi a2), none, none, none] rfl rfl ?_
  intro E F q hn hf hl hm
  unfold f_X9_leastOf at h
  obtain ⟨hv, h⟩ := vm_spec h
  refine pw_iconst (pc := 0) F (-1) dX9_leastOf_0 (by decide) ?_
  refine pw_istore_n (pc := 1) F dX9_leastOf_1 (lt_nl hn (by decide)) [some (vr a0), some (vi a1), some (vi a2), some (vi (-1)), none, none] rfl ?_
  refine pw_iconst (pc := 2) F 0 dX9_leastOf_2 (by decide) ?_
  refine pw_istore (pc := 3) F dX9_leastOf_3 (lt_nl hn (by decide)) [some (vr a0), some (vi a1), some (vi a2), some (vi (-1)), some (vi 0), none] rfl ?_
  exact pw_mask [true, true, true, true, true, true] (ls' := [some (vr a0), some (vi a1), some (vi a2), some (vi (-1)), some (vi 0), none]) rfl (lX9_leastOf_5_ok F q hn hf hl a0 a1 a2  6000 (-1) 0 H h)
