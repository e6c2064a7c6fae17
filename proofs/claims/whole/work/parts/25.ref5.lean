/-! HouseholdVaultModel.shown(I)I -/
theorem dX9_shown_0 : decode cX9_shown 0 = .ok (.aload_n 0, 1) := by decide +kernel
theorem dX9_shown_1 : decode cX9_shown 1 = .ok (.getfield 268, 3) := by decide +kernel
theorem dX9_shown_4 : decode cX9_shown 4 = .ok (.ifCond .eq 15, 3) := by decide +kernel
theorem dX9_shown_7 : decode cX9_shown 7 = .ok (.iload_n 1, 1) := by decide +kernel
theorem dX9_shown_8 : decode cX9_shown 8 = .ok (.i2l, 1) := by decide +kernel
theorem dX9_shown_9 : decode cX9_shown 9 = .ok (.lconst 1, 1) := by decide +kernel
theorem dX9_shown_10 : decode cX9_shown 10 = .ok (.ldc2_w 261, 3) := by decide +kernel
theorem dX9_shown_13 : decode cX9_shown 13 = .ok (.invokestatic 140, 3) := by decide +kernel
theorem dX9_shown_16 : decode cX9_shown 16 = .ok (.ifCond .ne 5, 3) := by decide +kernel
theorem dX9_shown_19 : decode cX9_shown 19 = .ok (.iconst (-1), 1) := by decide +kernel
theorem dX9_shown_20 : decode cX9_shown 20 = .ok (.ireturn, 1) := by decide +kernel
theorem dX9_shown_21 : decode cX9_shown 21 = .ok (.iconst 0, 1) := by decide +kernel
theorem dX9_shown_22 : decode cX9_shown 22 = .ok (.istore_n 2, 1) := by decide +kernel
theorem dX9_shown_23 : decode cX9_shown 23 = .ok (.iload_n 2, 1) := by decide +kernel
theorem dX9_shown_24 : decode cX9_shown 24 = .ok (.aload_n 0, 1) := by decide +kernel
theorem dX9_shown_25 : decode cX9_shown 25 = .ok (.getfield 275, 3) := by decide +kernel
theorem dX9_shown_28 : decode cX9_shown 28 = .ok (.aload_n 0, 1) := by decide +kernel
theorem dX9_shown_29 : decode cX9_shown 29 = .ok (.getfield 278, 3) := by decide +kernel
theorem dX9_shown_32 : decode cX9_shown 32 = .ok (.imul, 1) := by decide +kernel
theorem dX9_shown_33 : decode cX9_shown 33 = .ok (.if_icmp .ge 39, 3) := by decide +kernel
theorem dX9_shown_36 : decode cX9_shown 36 = .ok (.aload_n 0, 1) := by decide +kernel
theorem dX9_shown_37 : decode cX9_shown 37 = .ok (.getfield 112, 3) := by decide +kernel
theorem dX9_shown_40 : decode cX9_shown 40 = .ok (.iload_n 2, 1) := by decide +kernel
theorem dX9_shown_41 : decode cX9_shown 41 = .ok (.aload_n 0, 1) := by decide +kernel
theorem dX9_shown_42 : decode cX9_shown 42 = .ok (.getfield 103, 3) := by decide +kernel
theorem dX9_shown_45 : decode cX9_shown 45 = .ok (.iload_n 2, 1) := by decide +kernel
theorem dX9_shown_46 : decode cX9_shown 46 = .ok (.iaload, 1) := by decide +kernel
theorem dX9_shown_47 : decode cX9_shown 47 = .ok (.ifCond .le 17, 3) := by decide +kernel
theorem dX9_shown_50 : decode cX9_shown 50 = .ok (.aload_n 0, 1) := by decide +kernel
theorem dX9_shown_51 : decode cX9_shown 51 = .ok (.getfield 103, 3) := by decide +kernel
theorem dX9_shown_54 : decode cX9_shown 54 = .ok (.iload_n 2, 1) := by decide +kernel
theorem dX9_shown_55 : decode cX9_shown 55 = .ok (.iaload, 1) := by decide +kernel
theorem dX9_shown_56 : decode cX9_shown 56 = .ok (.iload_n 1, 1) := by decide +kernel
theorem dX9_shown_57 : decode cX9_shown 57 = .ok (.if_icmp .ge 7, 3) := by decide +kernel
theorem dX9_shown_60 : decode cX9_shown 60 = .ok (.iconst 1, 1) := by decide +kernel
theorem dX9_shown_61 : decode cX9_shown 61 = .ok (.goto 4, 3) := by decide +kernel
theorem dX9_shown_64 : decode cX9_shown 64 = .ok (.iconst 0, 1) := by decide +kernel
theorem dX9_shown_65 : decode cX9_shown 65 = .ok (.bastore, 1) := by decide +kernel
theorem dX9_shown_66 : decode cX9_shown 66 = .ok (.iinc 2 1, 3) := by decide +kernel
theorem dX9_shown_69 : decode cX9_shown 69 = .ok (.goto (-46), 3) := by decide +kernel
theorem dX9_shown_72 : decode cX9_shown 72 = .ok (.aload_n 0, 1) := by decide +kernel
theorem dX9_shown_73 : decode cX9_shown 73 = .ok (.invokevirtual 297, 3) := by decide +kernel
theorem dX9_shown_76 : decode cX9_shown 76 = .ok (.istore_n 2, 1) := by decide +kernel
theorem dX9_shown_77 : decode cX9_shown 77 = .ok (.iload_n 2, 1) := by decide +kernel
theorem dX9_shown_78 : decode cX9_shown 78 = .ok (.ifCond .lt 67, 3) := by decide +kernel
theorem dX9_shown_81 : decode cX9_shown 81 = .ok (.aload_n 0, 1) := by decide +kernel
theorem dX9_shown_82 : decode cX9_shown 82 = .ok (.iconst 0, 1) := by decide +kernel
theorem dX9_shown_83 : decode cX9_shown 83 = .ok (.iload_n 2, 1) := by decide +kernel
theorem dX9_shown_84 : decode cX9_shown 84 = .ok (.invokevirtual 301, 3) := by decide +kernel
theorem dX9_shown_87 : decode cX9_shown 87 = .ok (.istore_n 3, 1) := by decide +kernel
theorem dX9_shown_88 : decode cX9_shown 88 = .ok (.iload_n 3, 1) := by decide +kernel
theorem dX9_shown_89 : decode cX9_shown 89 = .ok (.ifCond .ge 12, 3) := by decide +kernel
theorem dX9_shown_92 : decode cX9_shown 92 = .ok (.aload_n 0, 1) := by decide +kernel
theorem dX9_shown_93 : decode cX9_shown 93 = .ok (.iconst 1, 1) := by decide +kernel
theorem dX9_shown_94 : decode cX9_shown 94 = .ok (.iload_n 2, 1) := by decide +kernel
theorem dX9_shown_95 : decode cX9_shown 95 = .ok (.invokevirtual 301, 3) := by decide +kernel
theorem dX9_shown_98 : decode cX9_shown 98 = .ok (.goto 4, 3) := by decide +kernel
theorem dX9_shown_101 : decode cX9_shown 101 = .ok (.iload_n 3, 1) := by decide +kernel
theorem dX9_shown_102 : decode cX9_shown 102 = .ok (.istore_n 3, 1) := by decide +kernel
theorem dX9_shown_103 : decode cX9_shown 103 = .ok (.iload_n 3, 1) := by decide +kernel
theorem dX9_shown_104 : decode cX9_shown 104 = .ok (.ifCond .ge 12, 3) := by decide +kernel
theorem dX9_shown_107 : decode cX9_shown 107 = .ok (.aload_n 0, 1) := by decide +kernel
theorem dX9_shown_108 : decode cX9_shown 108 = .ok (.iconst 2, 1) := by decide +kernel
theorem dX9_shown_109 : decode cX9_shown 109 = .ok (.iload_n 2, 1) := by decide +kernel
theorem dX9_shown_110 : decode cX9_shown 110 = .ok (.invokevirtual 301, 3) := by decide +kernel
theorem dX9_shown_113 : decode cX9_shown 113 = .ok (.goto 4, 3) := by decide +kernel
theorem dX9_shown_116 : decode cX9_shown 116 = .ok (.iload_n 3, 1) := by decide +kernel
theorem dX9_shown_117 : decode cX9_shown 117 = .ok (.istore_n 3, 1) := by decide +kernel
theorem dX9_shown_118 : decode cX9_shown 118 = .ok (.iload_n 3, 1) := by decide +kernel
theorem dX9_shown_119 : decode cX9_shown 119 = .ok (.ifCond .lt 10, 3) := by decide +kernel
theorem dX9_shown_122 : decode cX9_shown 122 = .ok (.aload_n 0, 1) := by decide +kernel
theorem dX9_shown_123 : decode cX9_shown 123 = .ok (.getfield 112, 3) := by decide +kernel
theorem dX9_shown_126 : decode cX9_shown 126 = .ok (.iload_n 3, 1) := by decide +kernel
theorem dX9_shown_127 : decode cX9_shown 127 = .ok (.iconst 1, 1) := by decide +kernel
theorem dX9_shown_128 : decode cX9_shown 128 = .ok (.bastore, 1) := by decide +kernel
theorem dX9_shown_129 : decode cX9_shown 129 = .ok (.iload_n 3, 1) := by decide +kernel
theorem dX9_shown_130 : decode cX9_shown 130 = .ok (.ifCond .ge 7, 3) := by decide +kernel
theorem dX9_shown_133 : decode cX9_shown 133 = .ok (.iconst (-1), 1) := by decide +kernel
theorem dX9_shown_134 : decode cX9_shown 134 = .ok (.goto 7, 3) := by decide +kernel
theorem dX9_shown_137 : decode cX9_shown 137 = .ok (.aload_n 0, 1) := by decide +kernel
theorem dX9_shown_138 : decode cX9_shown 138 = .ok (.invokevirtual 297, 3) := by decide +kernel
theorem dX9_shown_141 : decode cX9_shown 141 = .ok (.istore_n 2, 1) := by decide +kernel
theorem dX9_shown_142 : decode cX9_shown 142 = .ok (.goto (-65), 3) := by decide +kernel
theorem dX9_shown_145 : decode cX9_shown 145 = .ok (.iconst 0, 1) := by decide +kernel
theorem dX9_shown_146 : decode cX9_shown 146 = .ok (.istore_n 3, 1) := by decide +kernel
theorem dX9_shown_147 : decode cX9_shown 147 = .ok (.iconst 0, 1) := by decide +kernel
theorem dX9_shown_148 : decode cX9_shown 148 = .ok (.istore 4, 2) := by decide +kernel
theorem dX9_shown_150 : decode cX9_shown 150 = .ok (.iload 4, 2) := by decide +kernel
theorem dX9_shown_152 : decode cX9_shown 152 = .ok (.aload_n 0, 1) := by decide +kernel
theorem dX9_shown_153 : decode cX9_shown 153 = .ok (.getfield 275, 3) := by decide +kernel
theorem dX9_shown_156 : decode cX9_shown 156 = .ok (.aload_n 0, 1) := by decide +kernel
theorem dX9_shown_157 : decode cX9_shown 157 = .ok (.getfield 278, 3) := by decide +kernel
theorem dX9_shown_160 : decode cX9_shown 160 = .ok (.imul, 1) := by decide +kernel
theorem dX9_shown_161 : decode cX9_shown 161 = .ok (.if_icmp .ge 27, 3) := by decide +kernel
theorem dX9_shown_164 : decode cX9_shown 164 = .ok (.iload_n 3, 1) := by decide +kernel
theorem dX9_shown_165 : decode cX9_shown 165 = .ok (.aload_n 0, 1) := by decide +kernel
theorem dX9_shown_166 : decode cX9_shown 166 = .ok (.getfield 112, 3) := by decide +kernel
theorem dX9_shown_169 : decode cX9_shown 169 = .ok (.iload 4, 2) := by decide +kernel
theorem dX9_shown_171 : decode cX9_shown 171 = .ok (.baload, 1) := by decide +kernel
theorem dX9_shown_172 : decode cX9_shown 172 = .ok (.ifCond .eq 7, 3) := by decide +kernel
theorem dX9_shown_175 : decode cX9_shown 175 = .ok (.iconst 1, 1) := by decide +kernel
theorem dX9_shown_176 : decode cX9_shown 176 = .ok (.goto 4, 3) := by decide +kernel
theorem dX9_shown_179 : decode cX9_shown 179 = .ok (.iconst 0, 1) := by decide +kernel
theorem dX9_shown_180 : decode cX9_shown 180 = .ok (.iadd, 1) := by decide +kernel
theorem dX9_shown_181 : decode cX9_shown 181 = .ok (.istore_n 3, 1) := by decide +kernel
theorem dX9_shown_182 : decode cX9_shown 182 = .ok (.iinc 4 1, 3) := by decide +kernel
theorem dX9_shown_185 : decode cX9_shown 185 = .ok (.goto (-35), 3) := by decide +kernel
theorem dX9_shown_188 : decode cX9_shown 188 = .ok (.iload_n 3, 1) := by decide +kernel
theorem dX9_shown_189 : decode cX9_shown 189 = .ok (.ireturn, 1) := by decide +kernel
def jX9_shown_180 (self150 : Int → Int → PH → RO) (p0 p4 s0 s1 : Int) (H : PH) : RO :=
  self150 (w32 (s0 + s1)) (w32 (p4 + 1)) H
set_option maxHeartbeats 4000000 in
theorem jX9_shown_180_ok {E : PE} {rr : Int} {HH : PH} (F : FX E cX9_shown RX9) (q : QE E (some (vi rr)) HH (some .int)) (hn : nLof E = 5) (hf : (roomOf E).frames = 3) (hl : (roomOf E).locals = 71) (self150 : Int → Int → PH → RO) (p0 p4 s0 s1 : Int) (H : PH) (ih150 : ∀ (v3 v4 : Int) (HV : PH), self150 v3 v4 HV = some (rr, HH) → PW E 150 [some (vr p0), none, none, some (vi v3), some (vi v4)] [] HV) (h : jX9_shown_180 self150 p0 p4 s0 s1 H = some (rr, HH)) : PW E 180 [some (vr p0), none, none, none, some (vi p4)] [vi s1, vi s0] H := by
  unfold jX9_shown_180 at h
  refine pw_iadd (pc := 180) F dX9_shown_180 ?_
  refine pw_istore_n (pc := 181) F dX9_shown_181 (lt_nl hn (by decide)) [some (vr p0), none, none, some (vi (w32 (s0 + s1))), some (vi p4)] rfl ?_
  refine pw_iinc (pc := 182) F dX9_shown_182 rfl (lt_nl hn (by decide)) [some (vr p0), none, none, some (vi (w32 (s0 + s1))), some (vi (w32 (p4 + 1)))] rfl (by decide) ?_
  refine pw_goto (pc := 185) F 150 dX9_shown_185 (by decide) ?_
  exact pw_mask [true, true, true, true, true] (ls' := [some (vr p0), none, none, some (vi (w32 (s0 + s1))), some (vi (w32 (p4 + 1)))]) rfl (ih150 (w32 (s0 + s1)) (w32 (p4 + 1)) H h)
def lX9_shown_150 (p0 : Int) (self150 : Int → Int → PH → RO) (p3 p4 : Int) (H : PH) : RO :=
  (ld 25 H p0 37).bind fun x1 => (ld 25 H p0 38).bind fun x2 => (if p4 ≥ (w32 (x1 * x2)) then some (p3, H)
  else (ld 25 H p0 42).bind fun x3 => (ld 2 H x3 p4).bind fun x4 => (if x4 = 0 then jX9_shown_180 self150 p0 p4 p3 0 H
  else jX9_shown_180 self150 p0 p4 p3 1 H))
set_option maxHeartbeats 4000000 in
theorem lX9_shown_150_ok {E : PE} {rr : Int} {HH : PH} (F : FX E cX9_shown RX9) (q : QE E (some (vi rr)) HH (some .int)) (hn : nLof E = 5) (hf : (roomOf E).frames = 3) (hl : (roomOf E).locals = 71) (p0 : Int) : ∀ (n : Nat) (p3 p4 : Int) (H : PH), lq2 (lX9_shown_150 p0) n p3 p4 H = some (rr, HH) → PW E 150 [some (vr p0), none, none, some (vi p3), some (vi p4)] [] H := by
  refine lq2_ind (P := fun p3 p4 H => PW E 150 [some (vr p0), none, none, some (vi p3), some (vi p4)] [] H) ?_
  intro self150 ih150 p3 p4 H h
  unfold lX9_shown_150 at h
  refine pw_iload (pc := 150) F dX9_shown_150 rfl ?_
  refine pw_aload_n (pc := 152) F dX9_shown_152 rfl ?_
  obtain ⟨x1, ex1, h⟩ := bnd h
  refine pw_get (pc := 153) F 9 37 275 (by decide) (by decide) g_95aff2781a inl_9 0 rfl dX9_shown_153 ex1 ?_
  refine pw_aload_n (pc := 156) F dX9_shown_156 rfl ?_
  obtain ⟨x2, ex2, h⟩ := bnd h
  refine pw_get (pc := 157) F 9 38 278 (by decide) (by decide) g_3c3db0642c inl_9 0 rfl dX9_shown_157 ex2 ?_
  refine pw_imul (pc := 160) F dX9_shown_160 ?_
  refine pw_icmp_ge (pc := 161) F 188 dX9_shown_161 (by decide) (fun hc => ?_) (fun hc => ?_)
  · have h := iteT hc h
    refine pw_iload_n (pc := 188) F dX9_shown_188 rfl ?_
    cases h
    exact pw_iret (pc := 189) F q dX9_shown_189
  · have h := iteF hc h
    refine pw_iload_n (pc := 164) F dX9_shown_164 rfl ?_
    refine pw_aload_n (pc := 165) F dX9_shown_165 rfl ?_
    obtain ⟨x3, ex3, h⟩ := bnd h
    refine pw_get (pc := 166) F 9 42 112 (by decide) (by decide) g_192e92b71c inl_9 2 rfl dX9_shown_166 ex3 ?_
    refine pw_iload (pc := 169) F dX9_shown_169 rfl ?_
    obtain ⟨x4, ex4, h⟩ := bnd h
    refine pw_zald (pc := 171) F dX9_shown_171 ex4 ?_
    refine pw_if_eq (pc := 172) F 179 dX9_shown_172 (by decide) (fun hc => ?_) (fun hc => ?_)
    · have h := iteT hc h
      refine pw_iconst (pc := 179) F 0 dX9_shown_179 (by decide) ?_
      exact pw_mask [true, true, true, false, true] (ls' := [some (vr p0), none, none, none, some (vi p4)]) rfl (jX9_shown_180_ok F q hn hf hl self150 p0 p4 p3 0 H ih150 h)
    · have h := iteF hc h
      refine pw_iconst (pc := 175) F 1 dX9_shown_175 (by decide) ?_
      refine pw_goto (pc := 176) F 180 dX9_shown_176 (by decide) ?_
      exact pw_mask [true, true, true, false, true] (ls' := [some (vr p0), none, none, none, some (vi p4)]) rfl (jX9_shown_180_ok F q hn hf hl self150 p0 p4 p3 1 H ih150 h)
def jX9_shown_141 (self77 : Int → PH → RO) (p0 s0 : Int) (H : PH) : RO :=
  self77 s0 H
set_option maxHeartbeats 4000000 in
theorem jX9_shown_141_ok {E : PE} {rr : Int} {HH : PH} (F : FX E cX9_shown RX9) (q : QE E (some (vi rr)) HH (some .int)) (hn : nLof E = 5) (hf : (roomOf E).frames = 3) (hl : (roomOf E).locals = 71) (self77 : Int → PH → RO) (p0 s0 : Int) (H : PH) (ih77 : ∀ (v2 : Int) (HV : PH), self77 v2 HV = some (rr, HH) → PW E 77 [some (vr p0), none, some (vi v2), none, none] [] HV) (h : jX9_shown_141 self77 p0 s0 H = some (rr, HH)) : PW E 141 [some (vr p0), none, none, none, none] [vi s0] H := by
  unfold jX9_shown_141 at h
  refine pw_istore_n (pc := 141) F dX9_shown_141 (lt_nl hn (by decide)) [some (vr p0), none, some (vi s0), none, none] rfl ?_
  refine pw_goto (pc := 142) F 77 dX9_shown_142 (by decide) ?_
  exact pw_mask [true, true, true, true, true] (ls' := [some (vr p0), none, some (vi s0), none, none]) rfl (ih77 s0 H h)
def jX9_shown_129 (self77 : Int → PH → RO) (p0 p3 : Int) (H : PH) : RO :=
  (if p3 ≥ 0 then (f_X9_firstFollowing p0 H).bind fun z1 => jX9_shown_141 self77 p0 z1.1 z1.2
  else jX9_shown_141 self77 p0 (-1) H)
set_option maxHeartbeats 4000000 in
theorem jX9_shown_129_ok {E : PE} {rr : Int} {HH : PH} (F : FX E cX9_shown RX9) (q : QE E (some (vi rr)) HH (some .int)) (hn : nLof E = 5) (hf : (roomOf E).frames = 3) (hl : (roomOf E).locals = 71) (self77 : Int → PH → RO) (p0 p3 : Int) (H : PH) (ih77 : ∀ (v2 : Int) (HV : PH), self77 v2 HV = some (rr, HH) → PW E 77 [some (vr p0), none, some (vi v2), none, none] [] HV) (h : jX9_shown_129 self77 p0 p3 H = some (rr, HH)) : PW E 129 [some (vr p0), none, none, some (vi p3), none] [] H := by
  unfold jX9_shown_129 at h
  refine pw_iload_n (pc := 129) F dX9_shown_129 rfl ?_
  refine pw_if_ge (pc := 130) F 137 dX9_shown_130 (by decide) (fun hc => ?_) (fun hc => ?_)
  · have h := iteT hc h
    refine pw_aload_n (pc := 137) F dX9_shown_137 rfl ?_
    obtain ⟨z1, ez1, h⟩ := bnd h
    refine pw_callV (pc := 138) (as := []) (st := []) (r := (some (vi z1.1))) F 297 9 (by decide) rfl (fun l => m_X9_firstFollowing l p0 H z1.1 z1.2 ez1) g_5327a4d8f9 g_cec28586a8 g_894a33542b g_2759d91faa g_3f0767623b hd_X9_firstFollowing (rm_ok hf hl (by decide) (by decide)) rfl (vm_spec ez1).1 dX9_shown_138 rfl (stk' := [vi z1.1]) rfl ?_
    exact pw_mask [true, true, true, false, true] (ls' := [some (vr p0), none, none, none, none]) rfl (jX9_shown_141_ok F q hn hf hl self77 p0 z1.1 z1.2 ih77 h)
  · have h := iteF hc h
    refine pw_iconst (pc := 133) F (-1) dX9_shown_133 (by decide) ?_
    refine pw_goto (pc := 134) F 141 dX9_shown_134 (by decide) ?_
    exact pw_mask [true, true, true, false, true] (ls' := [some (vr p0), none, none, none, none]) rfl (jX9_shown_141_ok F q hn hf hl self77 p0 (-1) H ih77 h)
def jX9_shown_117 (self77 : Int → PH → RO) (p0 s0 : Int) (H : PH) : RO :=
  (if s0 < 0 then jX9_shown_129 self77 p0 s0 H
  else (ld 25 H p0 42).bind fun x1 => (stz 2 H x1 s0 1).bind fun H2 => jX9_shown_129 self77 p0 s0 H2)
set_option maxHeartbeats 4000000 in
theorem jX9_shown_117_ok {E : PE} {rr : Int} {HH : PH} (F : FX E cX9_shown RX9) (q : QE E (some (vi rr)) HH (some .int)) (hn : nLof E = 5) (hf : (roomOf E).frames = 3) (hl : (roomOf E).locals = 71) (self77 : Int → PH → RO) (p0 s0 : Int) (H : PH) (ih77 : ∀ (v2 : Int) (HV : PH), self77 v2 HV = some (rr, HH) → PW E 77 [some (vr p0), none, some (vi v2), none, none] [] HV) (h : jX9_shown_117 self77 p0 s0 H = some (rr, HH)) : PW E 117 [some (vr p0), none, none, none, none] [vi s0] H := by
  unfold jX9_shown_117 at h
  refine pw_istore_n (pc := 117) F dX9_shown_117 (lt_nl hn (by decide)) [some (vr p0), none, none, some (vi s0), none] rfl ?_
  refine pw_iload_n (pc := 118) F dX9_shown_118 rfl ?_
  refine pw_if_lt (pc := 119) F 129 dX9_shown_119 (by decide) (fun hc => ?_) (fun hc => ?_)
  · have h := iteT hc h
    exact pw_mask [true, true, true, true, true] (ls' := [some (vr p0), none, none, some (vi s0), none]) rfl (jX9_shown_129_ok F q hn hf hl self77 p0 s0 H ih77 h)
  · have h := iteF hc h
    refine pw_aload_n (pc := 122) F dX9_shown_122 rfl ?_
    obtain ⟨x1, ex1, h⟩ := bnd h
    refine pw_get (pc := 123) F 9 42 112 (by decide) (by decide) g_192e92b71c inl_9 2 rfl dX9_shown_123 ex1 ?_
    refine pw_iload_n (pc := 126) F dX9_shown_126 rfl ?_
    refine pw_iconst (pc := 127) F 1 dX9_shown_127 (by decide) ?_
    obtain ⟨H2, eH2, h⟩ := bnd h
    refine pw_zast (pc := 128) F dX9_shown_128 (stz_spec eH2).1 (stz_spec eH2).2 ?_
    exact pw_mask [true, true, true, true, true] (ls' := [some (vr p0), none, none, some (vi s0), none]) rfl (jX9_shown_129_ok F q hn hf hl self77 p0 s0 H2 ih77 h)
def jX9_shown_102 (self77 : Int → PH → RO) (p0 p2 s0 : Int) (H : PH) : RO :=
  (if s0 ≥ 0 then jX9_shown_117 self77 p0 s0 H
  else (f_X9_leastOf p0 2 p2 H).bind fun z1 => jX9_shown_117 self77 p0 z1.1 z1.2)
set_option maxHeartbeats 4000000 in
theorem jX9_shown_102_ok {E : PE} {rr : Int} {HH : PH} (F : FX E cX9_shown RX9) (q : QE E (some (vi rr)) HH (some .int)) (hn : nLof E = 5) (hf : (roomOf E).frames = 3) (hl : (roomOf E).locals = 71) (self77 : Int → PH → RO) (p0 p2 s0 : Int) (H : PH) (ih77 : ∀ (v2 : Int) (HV : PH), self77 v2 HV = some (rr, HH) → PW E 77 [some (vr p0), none, some (vi v2), none, none] [] HV) (h : jX9_shown_102 self77 p0 p2 s0 H = some (rr, HH)) : PW E 102 [some (vr p0), none, some (vi p2), none, none] [vi s0] H := by
  unfold jX9_shown_102 at h
  refine pw_istore_n (pc := 102) F dX9_shown_102 (lt_nl hn (by decide)) [some (vr p0), none, some (vi p2), some (vi s0), none] rfl ?_
  refine pw_iload_n (pc := 103) F dX9_shown_103 rfl ?_
  refine pw_if_ge (pc := 104) F 116 dX9_shown_104 (by decide) (fun hc => ?_) (fun hc => ?_)
  · have h := iteT hc h
    refine pw_iload_n (pc := 116) F dX9_shown_116 rfl ?_
    exact pw_mask [true, true, false, false, true] (ls' := [some (vr p0), none, none, none, none]) rfl (jX9_shown_117_ok F q hn hf hl self77 p0 s0 H ih77 h)
  · have h := iteF hc h
    refine pw_aload_n (pc := 107) F dX9_shown_107 rfl ?_
    refine pw_iconst (pc := 108) F 2 dX9_shown_108 (by decide) ?_
    refine pw_iload_n (pc := 109) F dX9_shown_109 rfl ?_
    obtain ⟨z1, ez1, h⟩ := bnd h
    refine pw_callV (pc := 110) (as := [vi 2, vi p2]) (st := []) (r := (some (vi z1.1))) F 301 9 (by decide) rfl (fun l => m_X9_leastOf l p0 2 p2 H z1.1 z1.2 ez1) g_8e22ab4cec g_62d82767c9 g_ecd80a130e g_2759d91faa g_6307869bba hd_X9_leastOf (rm_ok hf hl (by decide) (by decide)) rfl (vm_spec ez1).1 dX9_shown_110 rfl (stk' := [vi z1.1]) rfl ?_
    refine pw_goto (pc := 113) F 117 dX9_shown_113 (by decide) ?_
    exact pw_mask [true, true, false, false, true] (ls' := [some (vr p0), none, none, none, none]) rfl (jX9_shown_117_ok F q hn hf hl self77 p0 z1.1 z1.2 ih77 h)
def lX9_shown_77 (p0 : Int) (self77 : Int → PH → RO) (p2 : Int) (H : PH) : RO :=
  (if p2 < 0 then lq2 (lX9_shown_150 p0) 6000 0 0 H
  else (f_X9_leastOf p0 0 p2 H).bind fun z1 => (if z1.1 ≥ 0 then jX9_shown_102 self77 p0 p2 z1.1 z1.2
  else (f_X9_leastOf p0 1 p2 z1.2).bind fun z2 => jX9_shown_102 self77 p0 p2 z2.1 z2.2))
set_option maxHeartbeats 4000000 in
theorem lX9_shown_77_ok {E : PE} {rr : Int} {HH : PH} (F : FX E cX9_shown RX9) (q : QE E (some (vi rr)) HH (some .int)) (hn : nLof E = 5) (hf : (roomOf E).frames = 3) (hl : (roomOf E).locals = 71) (p0 : Int) : ∀ (n : Nat) (p2 : Int) (H : PH), lq1 (lX9_shown_77 p0) n p2 H = some (rr, HH) → PW E 77 [some (vr p0), none, some (vi p2), none, none] [] H := by
  refine lq1_ind (P := fun p2 H => PW E 77 [some (vr p0), none, some (vi p2), none, none] [] H) ?_
  intro self77 ih77 p2 H h
  unfold lX9_shown_77 at h
  refine pw_iload_n (pc := 77) F dX9_shown_77 rfl ?_
  refine pw_if_lt (pc := 78) F 145 dX9_shown_78 (by decide) (fun hc => ?_) (fun hc => ?_)
  · have h := iteT hc h
    refine pw_iconst (pc := 145) F 0 dX9_shown_145 (by decide) ?_
    refine pw_istore_n (pc := 146) F dX9_shown_146 (lt_nl hn (by decide)) [some (vr p0), none, some (vi p2), some (vi 0), none] rfl ?_
    refine pw_iconst (pc := 147) F 0 dX9_shown_147 (by decide) ?_
    refine pw_istore (pc := 148) F dX9_shown_148 (lt_nl hn (by decide)) [some (vr p0), none, some (vi p2), some (vi 0), some (vi 0)] rfl ?_
    exact pw_mask [true, true, false, true, true] (ls' := [some (vr p0), none, none, some (vi 0), some (vi 0)]) rfl (lX9_shown_150_ok F q hn hf hl p0  6000 0 0 H h)
  · have h := iteF hc h
    refine pw_aload_n (pc := 81) F dX9_shown_81 rfl ?_
    refine pw_iconst (pc := 82) F 0 dX9_shown_82 (by decide) ?_
    refine pw_iload_n (pc := 83) F dX9_shown_83 rfl ?_
    obtain ⟨z1, ez1, h⟩ := bnd h
    refine pw_callV (pc := 84) (as := [vi 0, vi p2]) (st := []) (r := (some (vi z1.1))) F 301 9 (by decide) rfl (fun l => m_X9_leastOf l p0 0 p2 H z1.1 z1.2 ez1) g_8e22ab4cec g_62d82767c9 g_ecd80a130e g_2759d91faa g_6307869bba hd_X9_leastOf (rm_ok hf hl (by decide) (by decide)) rfl (vm_spec ez1).1 dX9_shown_84 rfl (stk' := [vi z1.1]) rfl ?_
    refine pw_istore_n (pc := 87) F dX9_shown_87 (lt_nl hn (by decide)) [some (vr p0), none, some (vi p2), some (vi z1.1), none] rfl ?_
    refine pw_iload_n (pc := 88) F dX9_shown_88 rfl ?_
    refine pw_if_ge (pc := 89) F 101 dX9_shown_89 (by decide) (fun hc => ?_) (fun hc => ?_)
    · have h := iteT hc h
      refine pw_iload_n (pc := 101) F dX9_shown_101 rfl ?_
      exact pw_mask [true, true, true, false, true] (ls' := [some (vr p0), none, some (vi p2), none, none]) rfl (jX9_shown_102_ok F q hn hf hl self77 p0 p2 z1.1 z1.2 ih77 h)
    · have h := iteF hc h
      refine pw_aload_n (pc := 92) F dX9_shown_92 rfl ?_
      refine pw_iconst (pc := 93) F 1 dX9_shown_93 (by decide) ?_
      refine pw_iload_n (pc := 94) F dX9_shown_94 rfl ?_
      obtain ⟨z2, ez2, h⟩ := bnd h
      refine pw_callV (pc := 95) (as := [vi 1, vi p2]) (st := []) (r := (some (vi z2.1))) F 301 9 (by decide) rfl (fun l => m_X9_leastOf l p0 1 p2 z1.2 z2.1 z2.2 ez2) g_8e22ab4cec g_62d82767c9 g_ecd80a130e g_2759d91faa g_6307869bba hd_X9_leastOf (rm_ok hf hl (by decide) (by decide)) rfl (vm_spec ez2).1 dX9_shown_95 rfl (stk' := [vi z2.1]) rfl ?_
      refine pw_goto (pc := 98) F 102 dX9_shown_98 (by decide) ?_
      exact pw_mask [true, true, true, false, true] (ls' := [some (vr p0), none, some (vi p2), none, none]) rfl (jX9_shown_102_ok F q hn hf hl self77 p0 p2 z2.1 z2.2 ih77 h)
def jX9_shown_65 (self23 : Int → PH → RO) (p0 p1 p2 s0 s1 s2 : Int) (H : PH) : RO :=
  (stz 2 H s0 s1 s2).bind fun H1 => self23 (w32 (p2 + 1)) H1
set_option maxHeartbeats 4000000 in
theorem jX9_shown_65_ok {E : PE} {rr : Int} {HH : PH} (F : FX E cX9_shown RX9) (q : QE E (some (vi rr)) HH (some .int)) (hn : nLof E = 5) (hf : (roomOf E).frames = 3) (hl : (roomOf E).locals = 71) (self23 : Int → PH → RO) (p0 p1 p2 s0 s1 s2 : Int) (H : PH) (ih23 : ∀ (v2 : Int) (HV : PH), self23 v2 HV = some (rr, HH) → PW E 23 [some (vr p0), some (vi p1), some (vi v2), none, none] [] HV) (h : jX9_shown_65 self23 p0 p1 p2 s0 s1 s2 H = some (rr, HH)) : PW E 65 [some (vr p0), some (vi p1), some (vi p2), none, none] [vi s2, vi s1, vr s0] H := by
  unfold jX9_shown_65 at h
  obtain ⟨H1, eH1, h⟩ := bnd h
  refine pw_zast (pc := 65) F dX9_shown_65 (stz_spec eH1).1 (stz_spec eH1).2 ?_
  refine pw_iinc (pc := 66) F dX9_shown_66 rfl (lt_nl hn (by decide)) [some (vr p0), some (vi p1), some (vi (w32 (p2 + 1))), none, none] rfl (by decide) ?_
  refine pw_goto (pc := 69) F 23 dX9_shown_69 (by decide) ?_
  exact pw_mask [true, true, true, true, true] (ls' := [some (vr p0), some (vi p1), some (vi (w32 (p2 + 1))), none, none]) rfl (ih23 (w32 (p2 + 1)) H1 h)
def jX9_shown_64 (self23 : Int → PH → RO) (p0 p1 p2 s0 s1 : Int) (H : PH) : RO :=
  jX9_shown_65 self23 p0 p1 p2 s0 s1 0 H
set_option maxHeartbeats 4000000 in
theorem jX9_shown_64_ok {E : PE} {rr : Int} {HH : PH} (F : FX E cX9_shown RX9) (q : QE E (some (vi rr)) HH (some .int)) (hn : nLof E = 5) (hf : (roomOf E).frames = 3) (hl : (roomOf E).locals = 71) (self23 : Int → PH → RO) (p0 p1 p2 s0 s1 : Int) (H : PH) (ih23 : ∀ (v2 : Int) (HV : PH), self23 v2 HV = some (rr, HH) → PW E 23 [some (vr p0), some (vi p1), some (vi v2), none, none] [] HV) (h : jX9_shown_64 self23 p0 p1 p2 s0 s1 H = some (rr, HH)) : PW E 64 [some (vr p0), some (vi p1), some (vi p2), none, none] [vi s1, vr s0] H := by
  unfold jX9_shown_64 at h
  refine pw_iconst (pc := 64) F 0 dX9_shown_64 (by decide) ?_
  exact pw_mask [true, true, true, true, true] (ls' := [some (vr p0), some (vi p1), some (vi p2), none, none]) rfl (jX9_shown_65_ok F q hn hf hl self23 p0 p1 p2 s0 s1 0 H ih23 h)
def lX9_shown_23 (p0 p1 : Int) (self23 : Int → PH → RO) (p2 : Int) (H : PH) : RO :=
  (ld 25 H p0 37).bind fun x1 => (ld 25 H p0 38).bind fun x2 => (if p2 ≥ (w32 (x1 * x2)) then (f_X9_firstFollowing p0 H).bind fun z3 => lq1 (lX9_shown_77 p0) 6000 z3.1 z3.2
  else (ld 25 H p0 42).bind fun x4 => (ld 25 H p0 39).bind fun x5 => (ld 0 H x5 p2).bind fun x6 => (if x6 ≤ 0 then jX9_shown_64 self23 p0 p1 p2 x4 p2 H
  else (ld 25 H p0 39).bind fun x7 => (ld 0 H x7 p2).bind fun x8 => (if x8 ≥ p1 then jX9_shown_64 self23 p0 p1 p2 x4 p2 H
  else jX9_shown_65 self23 p0 p1 p2 x4 p2 1 H)))
set_option maxHeartbeats 4000000 in
theorem lX9_shown_23_ok {E : PE} {rr : Int} {HH : PH} (F : FX E cX9_shown RX9) (q : QE E (some (vi rr)) HH (some .int)) (hn : nLof E = 5) (hf : (roomOf E).frames = 3) (hl : (roomOf E).locals = 71) (p0 p1 : Int) : ∀ (n : Nat) (p2 : Int) (H : PH), lq1 (lX9_shown_23 p0 p1) n p2 H = some (rr, HH) → PW E 23 [some (vr p0), some (vi p1), some (vi p2), none, none] [] H := by
  refine lq1_ind (P := fun p2 H => PW E 23 [some (vr p0), some (vi p1), some (vi p2), none, none] [] H) ?_
  intro self23 ih23 p2 H h
  unfold lX9_shown_23 at h
  refine pw_iload_n (pc := 23) F dX9_shown_23 rfl ?_
  refine pw_aload_n (pc := 24) F dX9_shown_24 rfl ?_
  obtain ⟨x1, ex1, h⟩ := bnd h
  refine pw_get (pc := 25) F 9 37 275 (by decide) (by decide) g_95aff2781a inl_9 0 rfl dX9_shown_25 ex1 ?_
  refine pw_aload_n (pc := 28) F dX9_shown_28 rfl ?_
  obtain ⟨x2, ex2, h⟩ := bnd h
  refine pw_get (pc := 29) F 9 38 278 (by decide) (by decide) g_3c3db0642c inl_9 0 rfl dX9_shown_29 ex2 ?_
  refine pw_imul (pc := 32) F dX9_shown_32 ?_
  refine pw_icmp_ge (pc := 33) F 72 dX9_shown_33 (by decide) (fun hc => ?_) (fun hc => ?_)
  · have h := iteT hc h
    refine pw_aload_n (pc := 72) F dX9_shown_72 rfl ?_
    obtain ⟨z3, ez3, h⟩ := bnd h
    refine pw_callV (pc := 73) (as := []) (st := []) (r := (some (vi z3.1))) F 297 9 (by decide) rfl (fun l => m_X9_firstFollowing l p0 H z3.1 z3.2 ez3) g_5327a4d8f9 g_cec28586a8 g_894a33542b g_2759d91faa g_3f0767623b hd_X9_firstFollowing (rm_ok hf hl (by decide) (by decide)) rfl (vm_spec ez3).1 dX9_shown_73 rfl (stk' := [vi z3.1]) rfl ?_
    refine pw_istore_n (pc := 76) F dX9_shown_76 (lt_nl hn (by decide)) [some (vr p0), some (vi p1), some (vi z3.1), none, none] rfl ?_
    exact pw_mask [true, false, true, true, true] (ls' := [some (vr p0), none, some (vi z3.1), none, none]) rfl (lX9_shown_77_ok F q hn hf hl p0  6000 z3.1 z3.2 h)
  · have h := iteF hc h
    refine pw_aload_n (pc := 36) F dX9_shown_36 rfl ?_
    obtain ⟨x4, ex4, h⟩ := bnd h
    refine pw_get (pc := 37) F 9 42 112 (by decide) (by decide) g_192e92b71c inl_9 2 rfl dX9_shown_37 ex4 ?_
    refine pw_iload_n (pc := 40) F dX9_shown_40 rfl ?_
    refine pw_aload_n (pc := 41) F dX9_shown_41 rfl ?_
    obtain ⟨x5, ex5, h⟩ := bnd h
    refine pw_get (pc := 42) F 9 39 103 (by decide) (by decide) g_f58399c680 inl_9 2 rfl dX9_shown_42 ex5 ?_
    refine pw_iload_n (pc := 45) F dX9_shown_45 rfl ?_
    obtain ⟨x6, ex6, h⟩ := bnd h
    refine pw_iald (pc := 46) F dX9_shown_46 ex6 ?_
    refine pw_if_le (pc := 47) F 64 dX9_shown_47 (by decide) (fun hc => ?_) (fun hc => ?_)
    · have h := iteT hc h
      exact pw_mask [true, true, true, true, true] (ls' := [some (vr p0), some (vi p1), some (vi p2), none, none]) rfl (jX9_shown_64_ok F q hn hf hl self23 p0 p1 p2 x4 p2 H ih23 h)
    · have h := iteF hc h
      refine pw_aload_n (pc := 50) F dX9_shown_50 rfl ?_
      obtain ⟨x7, ex7, h⟩ := bnd h
      refine pw_get (pc := 51) F 9 39 103 (by decide) (by decide) g_f58399c680 inl_9 2 rfl dX9_shown_51 ex7 ?_
      refine pw_iload_n (pc := 54) F dX9_shown_54 rfl ?_
      obtain ⟨x8, ex8, h⟩ := bnd h
      refine pw_iald (pc := 55) F dX9_shown_55 ex8 ?_
      refine pw_iload_n (pc := 56) F dX9_shown_56 rfl ?_
      refine pw_icmp_ge (pc := 57) F 64 dX9_shown_57 (by decide) (fun hc => ?_) (fun hc => ?_)
      · have h := iteT hc h
        exact pw_mask [true, true, true, true, true] (ls' := [some (vr p0), some (vi p1), some (vi p2), none, none]) rfl (jX9_shown_64_ok F q hn hf hl self23 p0 p1 p2 x4 p2 H ih23 h)
      · have h := iteF hc h
        refine pw_iconst (pc := 60) F 1 dX9_shown_60 (by decide) ?_
        refine pw_goto (pc := 61) F 65 dX9_shown_61 (by decide) ?_
        exact pw_mask [true, true, true, true, true] (ls' := [some (vr p0), some (vi p1), some (vi p2), none, none]) rfl (jX9_shown_65_ok F q hn hf hl self23 p0 p1 p2 x4 p2 1 H ih23 h)
def f_X9_shown (a0 a1 : Int) (H : PH) : RO := vm 9 a0 H <|
  (ld 25 H a0 35).bind fun x1 => (if x1 = 0 then some ((-1), H)
  else (f_X9_in a1 1 1000 H).bind fun z2 => (if z2.1 ≠ 0 then lq1 (lX9_shown_23 a0 a1) 6000 0 z2.2
  else some ((-1), z2.2)))
set_option maxHeartbeats 4000000 in
theorem m_X9_shown (l : Launch) (a0 a1 : Int) (H : PH) (rr : Int) (HH : PH) (h : f_X9_shown a0 a1 H = some (rr, HH)) : CT l yX9_shown cX9_shown 5 (some .int) 3 71 [vr a0, vi a1] H (some (vi rr)) HH := by
  refine CT.of RX9 (by decide) rfl [some (vr a0), some (vi a1), none, none, none] rfl rfl ?_
  intro E F q hn hf hl hm
  unfold f_X9_shown at h
  obtain ⟨hv, h⟩ := vm_spec h
  refine pw_aload_n (pc := 0) F dX9_shown_0 rfl ?_
  obtain ⟨x1, ex1, h⟩ := bnd h
  refine pw_get (pc := 1) F 9 35 268 (by decide) (by decide) g_5b90579a7e inl_9 0 rfl dX9_shown_1 ex1 ?_
  refine pw_if_eq (pc := 4) F 19 dX9_shown_4 (by decide) (fun hc => ?_) (fun hc => ?_)
  · have h := iteT hc h
    refine pw_iconst (pc := 19) F (-1) dX9_shown_19 (by decide) ?_
    cases h
    exact pw_iret (pc := 20) F q dX9_shown_20
  · have h := iteF hc h
    refine pw_iload_n (pc := 7) F dX9_shown_7 rfl ?_
    refine pw_i2l (pc := 8) F dX9_shown_8 ?_
    refine pw_lconst (pc := 9) F 1 dX9_shown_9 (by decide) ?_
    refine pw_ldc2 (pc := 10) F 1000 g_5e18afccfb dX9_shown_10 (by decide) ?_
    obtain ⟨z2, ez2, h⟩ := bnd h
    refine pw_callS (pc := 13) (as := [vl a1, vl 1, vl 1000]) (st := []) (r := (some (vi z2.1))) F 140 (fun l => m_X9_in l a1 1 1000 H z2.1 z2.2 ez2) g_0174c906e2 g_3fadeb3198 g_2759d91faa g_c0c30bc7de hd_X9_in (rm_ok hf hl (by decide) (by decide)) rfl dX9_shown_13 rfl (stk' := [vi z2.1]) rfl ?_
    refine pw_if_ne (pc := 16) F 21 dX9_shown_16 (by decide) (fun hc => ?_) (fun hc => ?_)
    · have h := iteT hc h
      refine pw_iconst (pc := 21) F 0 dX9_shown_21 (by decide) ?_
      refine pw_istore_n (pc := 22) F dX9_shown_22 (lt_nl hn (by decide)) [some (vr a0), some (vi a1), some (vi 0), none, none] rfl ?_
      exact pw_mask [true, true, true, true, true] (ls' := [some (vr a0), some (vi a1), some (vi 0), none, none]) rfl (lX9_shown_23_ok F q hn hf hl a0 a1  6000 0 z2.2 h)
    · have h := iteF hc h
      refine pw_iconst (pc := 19) F (-1) dX9_shown_19 (by decide) ?_
      cases h
      exact pw_iret (pc := 20) F q dX9_shown_20
/-! HouseholdVaultModel.follows()I -/
theorem dX9_follows_0 : decode cX9_follows 0 = .ok (.aload_n 0, 1) := by decide +kernel
theorem dX9_follows_1 : decode cX9_follows 1 = .ok (.getfield 268, 3) := by decide +kernel
theorem dX9_follows_4 : decode cX9_follows 4 = .ok (.ifCond .eq 12, 3) := by decide +kernel
theorem dX9_follows_7 : decode cX9_follows 7 = .ok (.aload_n 0, 1) := by decide +kernel
theorem dX9_follows_8 : decode cX9_follows 8 = .ok (.invokevirtual 297, 3) := by decide +kernel
theorem dX9_follows_11 : decode cX9_follows 11 = .ok (.iconst 1, 1) := by decide +kernel
theorem dX9_follows_12 : decode cX9_follows 12 = .ok (.iadd, 1) := by decide +kernel
theorem dX9_follows_13 : decode cX9_follows 13 = .ok (.goto 4, 3) := by decide +kernel
theorem dX9_follows_16 : decode cX9_follows 16 = .ok (.iconst (-1), 1) := by decide +kernel
theorem dX9_follows_17 : decode cX9_follows 17 = .ok (.ireturn, 1) := by decide +kernel
def f_X9_follows (a0 : Int) (H : PH) : RO := vm 9 a0 H <|
  (ld 25 H a0 35).bind fun x1 => (if x1 = 0 then some ((-1), H)
  else (f_X9_firstFollowing a0 H).bind fun z2 => some ((w32 (z2.1 + 1)), z2.2))
set_option maxHeartbeats 4000000 in
theorem m_X9_follows (l : Launch) (a0 : Int) (H : PH) (rr : Int) (HH : PH) (h : f_X9_follows a0 H = some (rr, HH)) : CT l yX9_follows cX9_follows 1 (some .int) 3 71 [vr a0] H (some (vi rr)) HH := by
  refine CT.of RX9 (by decide) rfl [some (vr a0)] rfl rfl ?_
  intro E F q hn hf hl hm
  unfold f_X9_follows at h
  obtain ⟨hv, h⟩ := vm_spec h
  refine pw_aload_n (pc := 0) F dX9_follows_0 rfl ?_
  obtain ⟨x1, ex1, h⟩ := bnd h
  refine pw_get (pc := 1) F 9 35 268 (by decide) (by decide) g_5b90579a7e inl_9 0 rfl dX9_follows_1 ex1 ?_
  refine pw_if_eq (pc := 4) F 16 dX9_follows_4 (by decide) (fun hc => ?_) (fun hc => ?_)
  · have h := iteT hc h
    refine pw_iconst (pc := 16) F (-1) dX9_follows_16 (by decide) ?_
    cases h
    exact pw_iret (pc := 17) F q dX9_follows_17
  · have h := iteF hc h
    refine pw_aload_n (pc := 7) F dX9_follows_7 rfl ?_
    obtain ⟨z2, ez2, h⟩ := bnd h
    refine pw_callV (pc := 8) (as := []) (st := []) (r := (some (vi z2.1))) F 297 9 (by decide) rfl (fun l => m_X9_firstFollowing l a0 H z2.1 z2.2 ez2) g_5327a4d8f9 g_cec28586a8 g_894a33542b g_2759d91faa g_3f0767623b hd_X9_firstFollowing (rm_ok hf hl (by decide) (by decide)) rfl (vm_spec ez2).1 dX9_follows_8 rfl (stk' := [vi z2.1]) rfl ?_
    refine pw_iconst (pc := 11) F 1 dX9_follows_11 (by decide) ?_
    refine pw_iadd (pc := 12) F dX9_follows_12 ?_
    refine pw_goto (pc := 13) F 17 dX9_follows_13 (by decide) ?_
    cases h
    exact pw_iret (pc := 17) F q dX9_follows_17
/-! HouseholdVaultModel.rank(II)I -/
theorem dX9_rank_0 : decode cX9_rank 0 = .ok (.aload_n 0, 1) := by decide +kernel
theorem dX9_rank_1 : decode cX9_rank 1 = .ok (.iload_n 1, 1) := by decide +kernel
theorem dX9_rank_2 : decode cX9_rank 2 = .ok (.invokevirtual 163, 3) := by decide +kernel
theorem dX9_rank_5 : decode cX9_rank 5 = .ok (.ifCond .eq 11, 3) := by decide +kernel
theorem dX9_rank_8 : decode cX9_rank 8 = .ok (.aload_n 0, 1) := by decide +kernel
theorem dX9_rank_9 : decode cX9_rank 9 = .ok (.iload_n 2, 1) := by decide +kernel
theorem dX9_rank_10 : decode cX9_rank 10 = .ok (.invokevirtual 181, 3) := by decide +kernel
theorem dX9_rank_13 : decode cX9_rank 13 = .ok (.ifCond .ne 5, 3) := by decide +kernel
theorem dX9_rank_16 : decode cX9_rank 16 = .ok (.iconst (-1), 1) := by decide +kernel
theorem dX9_rank_17 : decode cX9_rank 17 = .ok (.ireturn, 1) := by decide +kernel
theorem dX9_rank_18 : decode cX9_rank 18 = .ok (.aload_n 0, 1) := by decide +kernel
theorem dX9_rank_19 : decode cX9_rank 19 = .ok (.getfield 13, 3) := by decide +kernel
theorem dX9_rank_22 : decode cX9_rank 22 = .ok (.iload_n 1, 1) := by decide +kernel
theorem dX9_rank_23 : decode cX9_rank 23 = .ok (.iaload, 1) := by decide +kernel
theorem dX9_rank_24 : decode cX9_rank 24 = .ok (.ifCond .ge 13, 3) := by decide +kernel
theorem dX9_rank_27 : decode cX9_rank 27 = .ok (.aload_n 0, 1) := by decide +kernel
theorem dX9_rank_28 : decode cX9_rank 28 = .ok (.getfield 7, 3) := by decide +kernel
theorem dX9_rank_31 : decode cX9_rank 31 = .ok (.iload_n 1, 1) := by decide +kernel
theorem dX9_rank_32 : decode cX9_rank 32 = .ok (.iaload, 1) := by decide +kernel
theorem dX9_rank_33 : decode cX9_rank 33 = .ok (.iconst 1, 1) := by decide +kernel
theorem dX9_rank_34 : decode cX9_rank 34 = .ok (.if_icmp .ne 6, 3) := by decide +kernel
theorem dX9_rank_37 : decode cX9_rank 37 = .ok (.bipush (-2), 2) := by decide +kernel
theorem dX9_rank_39 : decode cX9_rank 39 = .ok (.ireturn, 1) := by decide +kernel
theorem dX9_rank_40 : decode cX9_rank 40 = .ok (.iconst 0, 1) := by decide +kernel
theorem dX9_rank_41 : decode cX9_rank 41 = .ok (.istore_n 3, 1) := by decide +kernel
theorem dX9_rank_42 : decode cX9_rank 42 = .ok (.iload_n 3, 1) := by decide +kernel
theorem dX9_rank_43 : decode cX9_rank 43 = .ok (.aload_n 0, 1) := by decide +kernel
theorem dX9_rank_44 : decode cX9_rank 44 = .ok (.getfield 144, 3) := by decide +kernel
theorem dX9_rank_47 : decode cX9_rank 47 = .ok (.if_icmp .ge 148, 3) := by decide +kernel
theorem dX9_rank_50 : decode cX9_rank 50 = .ok (.aload_n 0, 1) := by decide +kernel
theorem dX9_rank_51 : decode cX9_rank 51 = .ok (.iload_n 3, 1) := by decide +kernel
theorem dX9_rank_52 : decode cX9_rank 52 = .ok (.invokevirtual 228, 3) := by decide +kernel
theorem dX9_rank_55 : decode cX9_rank 55 = .ok (.bipush 6, 2) := by decide +kernel
theorem dX9_rank_57 : decode cX9_rank 57 = .ok (.iload_n 1, 1) := by decide +kernel
theorem dX9_rank_58 : decode cX9_rank 58 = .ok (.imul, 1) := by decide +kernel
theorem dX9_rank_59 : decode cX9_rank 59 = .ok (.istore 4, 2) := by decide +kernel
theorem dX9_rank_61 : decode cX9_rank 61 = .ok (.aload_n 0, 1) := by decide +kernel
theorem dX9_rank_62 : decode cX9_rank 62 = .ok (.getfield 118, 3) := by decide +kernel
theorem dX9_rank_65 : decode cX9_rank 65 = .ok (.iload 4, 2) := by decide +kernel
theorem dX9_rank_67 : decode cX9_rank 67 = .ok (.iaload, 1) := by decide +kernel
theorem dX9_rank_68 : decode cX9_rank 68 = .ok (.ifCond .le 7, 3) := by decide +kernel
theorem dX9_rank_71 : decode cX9_rank 71 = .ok (.iconst 1, 1) := by decide +kernel
theorem dX9_rank_72 : decode cX9_rank 72 = .ok (.goto 4, 3) := by decide +kernel
theorem dX9_rank_75 : decode cX9_rank 75 = .ok (.iconst 0, 1) := by decide +kernel
theorem dX9_rank_76 : decode cX9_rank 76 = .ok (.istore 5, 2) := by decide +kernel
theorem dX9_rank_78 : decode cX9_rank 78 = .ok (.aload_n 0, 1) := by decide +kernel
theorem dX9_rank_79 : decode cX9_rank 79 = .ok (.getfield 130, 3) := by decide +kernel
theorem dX9_rank_82 : decode cX9_rank 82 = .ok (.iload_n 3, 1) := by decide +kernel
theorem dX9_rank_83 : decode cX9_rank 83 = .ok (.iload 5, 2) := by decide +kernel
theorem dX9_rank_85 : decode cX9_rank 85 = .ok (.ifCond .eq 9, 3) := by decide +kernel
theorem dX9_rank_88 : decode cX9_rank 88 = .ok (.ldc2_w 304, 3) := by decide +kernel
theorem dX9_rank_91 : decode cX9_rank 91 = .ok (.goto 35, 3) := by decide +kernel
theorem dX9_rank_94 : decode cX9_rank 94 = .ok (.aload_n 0, 1) := by decide +kernel
theorem dX9_rank_95 : decode cX9_rank 95 = .ok (.getfield 7, 3) := by decide +kernel
theorem dX9_rank_98 : decode cX9_rank 98 = .ok (.iload_n 1, 1) := by decide +kernel
theorem dX9_rank_99 : decode cX9_rank 99 = .ok (.iaload, 1) := by decide +kernel
theorem dX9_rank_100 : decode cX9_rank 100 = .ok (.ifCond .ne 19, 3) := by decide +kernel
theorem dX9_rank_103 : decode cX9_rank 103 = .ok (.aload_n 0, 1) := by decide +kernel
theorem dX9_rank_104 : decode cX9_rank 104 = .ok (.iload_n 1, 1) := by decide +kernel
theorem dX9_rank_105 : decode cX9_rank 105 = .ok (.aload_n 0, 1) := by decide +kernel
theorem dX9_rank_106 : decode cX9_rank 106 = .ok (.getfield 115, 3) := by decide +kernel
theorem dX9_rank_109 : decode cX9_rank 109 = .ok (.iload 4, 2) := by decide +kernel
theorem dX9_rank_111 : decode cX9_rank 111 = .ok (.laload, 1) := by decide +kernel
theorem dX9_rank_112 : decode cX9_rank 112 = .ok (.invokevirtual 174, 3) := by decide +kernel
theorem dX9_rank_115 : decode cX9_rank 115 = .ok (.i2l, 1) := by decide +kernel
theorem dX9_rank_116 : decode cX9_rank 116 = .ok (.goto 10, 3) := by decide +kernel
theorem dX9_rank_119 : decode cX9_rank 119 = .ok (.aload_n 0, 1) := by decide +kernel
theorem dX9_rank_120 : decode cX9_rank 120 = .ok (.getfield 115, 3) := by decide +kernel
theorem dX9_rank_123 : decode cX9_rank 123 = .ok (.iload 4, 2) := by decide +kernel
theorem dX9_rank_125 : decode cX9_rank 125 = .ok (.laload, 1) := by decide +kernel
theorem dX9_rank_126 : decode cX9_rank 126 = .ok (.lastore, 1) := by decide +kernel
theorem dX9_rank_127 : decode cX9_rank 127 = .ok (.iload_n 3, 1) := by decide +kernel
theorem dX9_rank_128 : decode cX9_rank 128 = .ok (.istore 6, 2) := by decide +kernel
theorem dX9_rank_130 : decode cX9_rank 130 = .ok (.iload 6, 2) := by decide +kernel
theorem dX9_rank_132 : decode cX9_rank 132 = .ok (.ifCond .le 49, 3) := by decide +kernel
theorem dX9_rank_135 : decode cX9_rank 135 = .ok (.aload_n 0, 1) := by decide +kernel
theorem dX9_rank_136 : decode cX9_rank 136 = .ok (.getfield 130, 3) := by decide +kernel
theorem dX9_rank_139 : decode cX9_rank 139 = .ok (.aload_n 0, 1) := by decide +kernel
theorem dX9_rank_140 : decode cX9_rank 140 = .ok (.getfield 133, 3) := by decide +kernel
theorem dX9_rank_143 : decode cX9_rank 143 = .ok (.iload 6, 2) := by decide +kernel
theorem dX9_rank_145 : decode cX9_rank 145 = .ok (.iconst 1, 1) := by decide +kernel
theorem dX9_rank_146 : decode cX9_rank 146 = .ok (.isub, 1) := by decide +kernel
theorem dX9_rank_147 : decode cX9_rank 147 = .ok (.iaload, 1) := by decide +kernel
theorem dX9_rank_148 : decode cX9_rank 148 = .ok (.laload, 1) := by decide +kernel
theorem dX9_rank_149 : decode cX9_rank 149 = .ok (.aload_n 0, 1) := by decide +kernel
theorem dX9_rank_150 : decode cX9_rank 150 = .ok (.getfield 130, 3) := by decide +kernel
theorem dX9_rank_153 : decode cX9_rank 153 = .ok (.iload_n 3, 1) := by decide +kernel
theorem dX9_rank_154 : decode cX9_rank 154 = .ok (.laload, 1) := by decide +kernel
theorem dX9_rank_155 : decode cX9_rank 155 = .ok (.lcmp, 1) := by decide +kernel
theorem dX9_rank_156 : decode cX9_rank 156 = .ok (.ifCond .le 25, 3) := by decide +kernel
theorem dX9_rank_159 : decode cX9_rank 159 = .ok (.aload_n 0, 1) := by decide +kernel
theorem dX9_rank_160 : decode cX9_rank 160 = .ok (.getfield 133, 3) := by decide +kernel
theorem dX9_rank_163 : decode cX9_rank 163 = .ok (.iload 6, 2) := by decide +kernel
theorem dX9_rank_165 : decode cX9_rank 165 = .ok (.aload_n 0, 1) := by decide +kernel
theorem dX9_rank_166 : decode cX9_rank 166 = .ok (.getfield 133, 3) := by decide +kernel
theorem dX9_rank_169 : decode cX9_rank 169 = .ok (.iload 6, 2) := by decide +kernel
theorem dX9_rank_171 : decode cX9_rank 171 = .ok (.iconst 1, 1) := by decide +kernel
theorem dX9_rank_172 : decode cX9_rank 172 = .ok (.isub, 1) := by decide +kernel
theorem dX9_rank_173 : decode cX9_rank 173 = .ok (.iaload, 1) := by decide +kernel
theorem dX9_rank_174 : decode cX9_rank 174 = .ok (.iastore, 1) := by decide +kernel
theorem dX9_rank_175 : decode cX9_rank 175 = .ok (.iinc 6 (-1), 3) := by decide +kernel
theorem dX9_rank_178 : decode cX9_rank 178 = .ok (.goto (-48), 3) := by decide +kernel
theorem dX9_rank_181 : decode cX9_rank 181 = .ok (.aload_n 0, 1) := by decide +kernel
theorem dX9_rank_182 : decode cX9_rank 182 = .ok (.getfield 133, 3) := by decide +kernel
theorem dX9_rank_185 : decode cX9_rank 185 = .ok (.iload 6, 2) := by decide +kernel
theorem dX9_rank_187 : decode cX9_rank 187 = .ok (.iload_n 3, 1) := by decide +kernel
theorem dX9_rank_188 : decode cX9_rank 188 = .ok (.iastore, 1) := by decide +kernel
theorem dX9_rank_189 : decode cX9_rank 189 = .ok (.iinc 3 1, 3) := by decide +kernel
theorem dX9_rank_192 : decode cX9_rank 192 = .ok (.goto (-150), 3) := by decide +kernel
theorem dX9_rank_195 : decode cX9_rank 195 = .ok (.aload_n 0, 1) := by decide +kernel
theorem dX9_rank_196 : decode cX9_rank 196 = .ok (.getfield 133, 3) := by decide +kernel
theorem dX9_rank_199 : decode cX9_rank 199 = .ok (.iload_n 2, 1) := by decide +kernel
theorem dX9_rank_200 : decode cX9_rank 200 = .ok (.iaload, 1) := by decide +kernel
theorem dX9_rank_201 : decode cX9_rank 201 = .ok (.ireturn, 1) := by decide +kernel
def jX9_rank_181 (self42 : Int → PH → RO) (p0 p1 p2 p3 p6 : Int) (H : PH) : RO :=
  (ld 25 H p0 52).bind fun x1 => (stv 0 H x1 p6 p3).bind fun H2 => self42 (w32 (p3 + 1)) H2
set_option maxHeartbeats 4000000 in
theorem jX9_rank_181_ok {E : PE} {rr : Int} {HH : PH} (F : FX E cX9_rank RX9) (q : QE E (some (vi rr)) HH (some .int)) (hn : nLof E = 7) (hf : (roomOf E).frames = 4) (hl : (roomOf E).locals = 99) (self42 : Int → PH → RO) (p0 p1 p2 p3 p6 : Int) (H : PH) (ih42 : ∀ (v3 : Int) (HV : PH), self42 v3 HV = some (rr, HH) → PW E 42 [some (vr p0), some (vi p1), some (vi p2), some (vi v3), none, none, none] [] HV) (h : jX9_rank_181 self42 p0 p1 p2 p3 p6 H = some (rr, HH)) : PW E 181 [some (vr p0), some (vi p1), some (vi p2), some (vi p3), none, none, some (vi p6)] [] H := by
  unfold jX9_rank_181 at h
  refine pw_aload_n (pc := 181) F dX9_rank_181 rfl ?_
  obtain ⟨x1, ex1, h⟩ := bnd h
  refine pw_get (pc := 182) F 9 52 133 (by decide) (by decide) g_7893a1c5f2 inl_9 2 rfl dX9_rank_182 ex1 ?_
  refine pw_iload (pc := 185) F dX9_rank_185 rfl ?_
  refine pw_iload_n (pc := 187) F dX9_rank_187 rfl ?_
  obtain ⟨H2, eH2, h⟩ := bnd h
  refine pw_iast (pc := 188) F dX9_rank_188 eH2 ?_
  refine pw_iinc (pc := 189) F dX9_rank_189 rfl (lt_nl hn (by decide)) [some (vr p0), some (vi p1), some (vi p2), some (vi (w32 (p3 + 1))), none, none, some (vi p6)] rfl (by decide) ?_
  refine pw_goto (pc := 192) F 42 dX9_rank_192 (by decide) ?_
  exact pw_mask [true, true, true, true, true, true, false] (ls' := [some (vr p0), some (vi p1), some (vi p2), some (vi (w32 (p3 + 1))), none, none, none]) rfl (ih42 (w32 (p3 + 1)) H2 h)
def lX9_rank_130 (self42 : Int → PH → RO) (p0 p1 p2 p3 : Int) (self130 : Int → PH → RO) (p6 : Int) (H : PH) : RO :=
  (if p6 ≤ 0 then jX9_rank_181 self42 p0 p1 p2 p3 p6 H
  else (ld 25 H p0 51).bind fun x1 => (ld 25 H p0 52).bind fun x2 => (ld 0 H x2 (w32 (p6 - 1))).bind fun x3 => (ld 1 H x1 x3).bind fun x4 => (ld 25 H p0 51).bind fun x5 => (ld 1 H x5 p3).bind fun x6 => (if (lc x4 x6) ≤ 0 then jX9_rank_181 self42 p0 p1 p2 p3 p6 H
  else (ld 25 H p0 52).bind fun x7 => (ld 25 H p0 52).bind fun x8 => (ld 0 H x8 (w32 (p6 - 1))).bind fun x9 => (stv 0 H x7 p6 x9).bind fun H10 => self130 (w32 (p6 + (-1))) H10))
set_option maxHeartbeats 4000000 in
theorem lX9_rank_130_ok {E : PE} {rr : Int} {HH : PH} (F : FX E cX9_rank RX9) (q : QE E (some (vi rr)) HH (some .int)) (hn : nLof E = 7) (hf : (roomOf E).frames = 4) (hl : (roomOf E).locals = 99) (self42 : Int → PH → RO) (p0 p1 p2 p3 : Int) (ih42 : ∀ (v3 : Int) (HV : PH), self42 v3 HV = some (rr, HH) → PW E 42 [some (vr p0), some (vi p1), some (vi p2), some (vi v3), none, none, none] [] HV) : ∀ (n : Nat) (p6 : Int) (H : PH), lq1 (lX9_rank_130 self42 p0 p1 p2 p3) n p6 H = some (rr, HH) → PW E 130 [some (vr p0), some (vi p1), some (vi p2), some (vi p3), none, none, some (vi p6)] [] H := by
  refine lq1_ind (P := fun p6 H => PW E 130 [some (vr p0), some (vi p1), some (vi p2), some (vi p3), none, none, some (vi p6)] [] H) ?_
  intro self130 ih130 p6 H h
  unfold lX9_rank_130 at h
  refine pw_iload (pc := 130) F dX9_rank_130 rfl ?_
  refine pw_if_le (pc := 132) F 181 dX9_rank_132 (by decide) (fun hc => ?_) (fun hc => ?_)
  · have h := iteT hc h
    exact pw_mask [true, true, true, true, true, true, true] (ls' := [some (vr p0), some (vi p1), some (vi p2), some (vi p3), none, none, some (vi p6)]) rfl (jX9_rank_181_ok F q hn hf hl self42 p0 p1 p2 p3 p6 H ih42 h)
  · have h := iteF hc h
    refine pw_aload_n (pc := 135) F dX9_rank_135 rfl ?_
    obtain ⟨x1, ex1, h⟩ := bnd h
    refine pw_get (pc := 136) F 9 51 130 (by decide) (by decide) g_efe9f028c9 inl_9 2 rfl dX9_rank_136 ex1 ?_
    refine pw_aload_n (pc := 139) F dX9_rank_139 rfl ?_
    obtain ⟨x2, ex2, h⟩ := bnd h
    refine pw_get (pc := 140) F 9 52 133 (by decide) (by decide) g_7893a1c5f2 inl_9 2 rfl dX9_rank_140 ex2 ?_
    refine pw_iload (pc := 143) F dX9_rank_143 rfl ?_
    refine pw_iconst (pc := 145) F 1 dX9_rank_145 (by decide) ?_
    refine pw_isub (pc := 146) F dX9_rank_146 ?_
    obtain ⟨x3, ex3, h⟩ := bnd h
    refine pw_iald (pc := 147) F dX9_rank_147 ex3 ?_
    obtain ⟨x4, ex4, h⟩ := bnd h
    refine pw_lald (pc := 148) F dX9_rank_148 ex4 ?_
    refine pw_aload_n (pc := 149) F dX9_rank_149 rfl ?_
    obtain ⟨x5, ex5, h⟩ := bnd h
    refine pw_get (pc := 150) F 9 51 130 (by decide) (by decide) g_efe9f028c9 inl_9 2 rfl dX9_rank_150 ex5 ?_
    refine pw_iload_n (pc := 153) F dX9_rank_153 rfl ?_
    obtain ⟨x6, ex6, h⟩ := bnd h
    refine pw_lald (pc := 154) F dX9_rank_154 ex6 ?_
    refine pw_lcmp (pc := 155) F dX9_rank_155 ?_
    refine pw_if_le (pc := 156) F 181 dX9_rank_156 (by decide) (fun hc => ?_) (fun hc => ?_)
    · have h := iteT hc h
      exact pw_mask [true, true, true, true, true, true, true] (ls' := [some (vr p0), some (vi p1), some (vi p2), some (vi p3), none, none, some (vi p6)]) rfl (jX9_rank_181_ok F q hn hf hl self42 p0 p1 p2 p3 p6 H ih42 h)
    · have h := iteF hc h
      refine pw_aload_n (pc := 159) F dX9_rank_159 rfl ?_
      obtain ⟨x7, ex7, h⟩ := bnd h
      refine pw_get (pc := 160) F 9 52 133 (by decide) (by decide) g_7893a1c5f2 inl_9 2 rfl dX9_rank_160 ex7 ?_
      refine pw_iload (pc := 163) F dX9_rank_163 rfl ?_
      refine pw_aload_n (pc := 165) F dX9_rank_165 rfl ?_
      obtain ⟨x8, ex8, h⟩ := bnd h
      refine pw_get (pc := 166) F 9 52 133 (by decide) (by decide) g_7893a1c5f2 inl_9 2 rfl dX9_rank_166 ex8 ?_
      refine pw_iload (pc := 169) F dX9_rank_169 rfl ?_
      refine pw_iconst (pc := 171) F 1 dX9_rank_171 (by decide) ?_
      refine pw_isub (pc := 172) F dX9_rank_172 ?_
      obtain ⟨x9, ex9, h⟩ := bnd h
      refine pw_iald (pc := 173) F dX9_rank_173 ex9 ?_
      obtain ⟨H10, eH10, h⟩ := bnd h
      refine pw_iast (pc := 174) F dX9_rank_174 eH10 ?_
      refine pw_iinc (pc := 175) F dX9_rank_175 rfl (lt_nl hn (by decide)) [some (vr p0), some (vi p1), some (vi p2), some (vi p3), none, none, some (vi (w32 (p6 + (-1))))] rfl (by decide) ?_
      refine pw_goto (pc := 178) F 130 dX9_rank_178 (by decide) ?_
      exact pw_mask [true, true, true, true, true, true, true] (ls' := [some (vr p0), some (vi p1), some (vi p2), some (vi p3), none, none, some (vi (w32 (p6 + (-1))))]) rfl (ih130 (w32 (p6 + (-1))) H10 h)
def jX9_rank_126 (self42 : Int → PH → RO) (p0 p1 p2 p3 s0 s1 s2 : Int) (H : PH) : RO :=
  (stv 1 H s0 s1 s2).bind fun H1 => lq1 (lX9_rank_130 self42 p0 p1 p2 p3) 6000 p3 H1
set_option maxHeartbeats 4000000 in
theorem jX9_rank_126_ok {E : PE} {rr : Int} {HH : PH} (F : FX E cX9_rank RX9) (q : QE E (some (vi rr)) HH (some .int)) (hn : nLof E = 7) (hf : (roomOf E).frames = 4) (hl : (roomOf E).locals = 99) (self42 : Int → PH → RO) (p0 p1 p2 p3 s0 s1 s2 : Int) (H : PH) (ih42 : ∀ (v3 : Int) (HV : PH), self42 v3 HV = some (rr, HH) → PW E 42 [some (vr p0), some (vi p1), some (vi p2), some (vi v3), none, none, none] [] HV) (h : jX9_rank_126 self42 p0 p1 p2 p3 s0 s1 s2 H = some (rr, HH)) : PW E 126 [some (vr p0), some (vi p1), some (vi p2), some (vi p3), none, none, none] [vl s2, vi s1, vr s0] H := by
  unfold jX9_rank_126 at h
  obtain ⟨H1, eH1, h⟩ := bnd h
  refine pw_last (pc := 126) F dX9_rank_126 eH1 ?_
  refine pw_iload_n (pc := 127) F dX9_rank_127 rfl ?_
  refine pw_istore (pc := 128) F dX9_rank_128 (lt_nl hn (by decide)) [some (vr p0), some (vi p1), some (vi p2), some (vi p3), none, none, some (vi p3)] rfl ?_
  exact pw_mask [true, true, true, true, true, true, true] (ls' := [some (vr p0), some (vi p1), some (vi p2), some (vi p3), none, none, some (vi p3)]) rfl (lX9_rank_130_ok F q hn hf hl self42 p0 p1 p2 p3 ih42  6000 p3 H1 h)
def jX9_rank_76 (self42 : Int → PH → RO) (p0 p1 p2 p3 p4 s0 : Int) (H : PH) : RO :=
  (ld 25 H p0 51).bind fun x1 => (if s0 = 0 then (ld 25 H p0 1).bind fun x2 => (ld 0 H x2 p1).bind fun x3 => (if x3 ≠ 0 then (ld 25 H p0 43).bind fun x4 => (ld 1 H x4 p4).bind fun x5 => jX9_rank_126 self42 p0 p1 p2 p3 x1 p3 x5 H
  else (ld 25 H p0 43).bind fun x6 => (ld 1 H x6 p4).bind fun x7 => (f_X9_codeNumber p0 p1 x7 H).bind fun z8 => jX9_rank_126 self42 p0 p1 p2 p3 x1 p3 z8.1 z8.2)
  else jX9_rank_126 self42 p0 p1 p2 p3 x1 p3 9223372036854775807 H)
set_option maxHeartbeats 4000000 in
theorem jX9_rank_76_ok {E : PE} {rr : Int} {HH : PH} (F : FX E cX9_rank RX9) (q : QE E (some (vi rr)) HH (some .int)) (hn : nLof E = 7) (hf : (roomOf E).frames = 4) (hl : (roomOf E).locals = 99) (self42 : Int → PH → RO) (p0 p1 p2 p3 p4 s0 : Int) (H : PH) (ih42 : ∀ (v3 : Int) (HV : PH), self42 v3 HV = some (rr, HH) → PW E 42 [some (vr p0), some (vi p1), some (vi p2), some (vi v3), none, none, none] [] HV) (h : jX9_rank_76 self42 p0 p1 p2 p3 p4 s0 H = some (rr, HH)) : PW E 76 [some (vr p0), some (vi p1), some (vi p2), some (vi p3), some (vi p4), none, none] [vi s0] H := by
  unfold jX9_rank_76 at h
  refine pw_istore (pc := 76) F dX9_rank_76 (lt_nl hn (by decide)) [some (vr p0), some (vi p1), some (vi p2), some (vi p3), some (vi p4), some (vi s0), none] rfl ?_
  refine pw_aload_n (pc := 78) F dX9_rank_78 rfl ?_
  obtain ⟨x1, ex1, h⟩ := bnd h
  refine pw_get (pc := 79) F 9 51 130 (by decide) (by decide) g_efe9f028c9 inl_9 2 rfl dX9_rank_79 ex1 ?_
  refine pw_iload_n (pc := 82) F dX9_rank_82 rfl ?_
  refine pw_iload (pc := 83) F dX9_rank_83 rfl ?_
  refine pw_if_eq (pc := 85) F 94 dX9_rank_85 (by decide) (fun hc => ?_) (fun hc => ?_)
  · have h := iteT hc h
    refine pw_aload_n (pc := 94) F dX9_rank_94 rfl ?_
    obtain ⟨x2, ex2, h⟩ := bnd h
    refine pw_get (pc := 95) F 9 1 7 (by decide) (by decide) g_a89464ec18 inl_9 2 rfl dX9_rank_95 ex2 ?_
    refine pw_iload_n (pc := 98) F dX9_rank_98 rfl ?_
    obtain ⟨x3, ex3, h⟩ := bnd h
    refine pw_iald (pc := 99) F dX9_rank_99 ex3 ?_
    refine pw_if_ne (pc := 100) F 119 dX9_rank_100 (by decide) (fun hc => ?_) (fun hc => ?_)
    · have h := iteT hc h
      refine pw_aload_n (pc := 119) F dX9_rank_119 rfl ?_
      obtain ⟨x4, ex4, h⟩ := bnd h
      refine pw_get (pc := 120) F 9 43 115 (by decide) (by decide) g_e8763ca537 inl_9 2 rfl dX9_rank_120 ex4 ?_
      refine pw_iload (pc := 123) F dX9_rank_123 rfl ?_
      obtain ⟨x5, ex5, h⟩ := bnd h
      refine pw_lald (pc := 125) F dX9_rank_125 ex5 ?_
      exact pw_mask [true, true, true, true, false, false, true] (ls' := [some (vr p0), some (vi p1), some (vi p2), some (vi p3), none, none, none]) rfl (jX9_rank_126_ok F q hn hf hl self42 p0 p1 p2 p3 x1 p3 x5 H ih42 h)
    · have h := iteF hc h
      refine pw_aload_n (pc := 103) F dX9_rank_103 rfl ?_
      refine pw_iload_n (pc := 104) F dX9_rank_104 rfl ?_
      refine pw_aload_n (pc := 105) F dX9_rank_105 rfl ?_
      obtain ⟨x6, ex6, h⟩ := bnd h
      refine pw_get (pc := 106) F 9 43 115 (by decide) (by decide) g_e8763ca537 inl_9 2 rfl dX9_rank_106 ex6 ?_
      refine pw_iload (pc := 109) F dX9_rank_109 rfl ?_
      obtain ⟨x7, ex7, h⟩ := bnd h
      refine pw_lald (pc := 111) F dX9_rank_111 ex7 ?_
      obtain ⟨z8, ez8, h⟩ := bnd h
      refine pw_callV (pc := 112) (as := [vi p1, vl x7]) (st := [vi p3, vr x1]) (r := (some (vi z8.1))) F 174 9 (by decide) rfl (fun l => m_X9_codeNumber l p0 p1 x7 H z8.1 z8.2 ez8) g_74b15b1c50 g_5405ac1030 g_3d4c6b4b45 g_2759d91faa g_522d481ddd hd_X9_codeNumber (rm_ok hf hl (by decide) (by decide)) rfl (vm_spec ez8).1 dX9_rank_112 rfl (stk' := [vi z8.1, vi p3, vr x1]) rfl ?_
      refine pw_i2l (pc := 115) F dX9_rank_115 ?_
      refine pw_goto (pc := 116) F 126 dX9_rank_116 (by decide) ?_
      exact pw_mask [true, true, true, true, false, false, true] (ls' := [some (vr p0), some (vi p1), some (vi p2), some (vi p3), none, none, none]) rfl (jX9_rank_126_ok F q hn hf hl self42 p0 p1 p2 p3 x1 p3 z8.1 z8.2 ih42 h)
  · have h := iteF hc h
    refine pw_ldc2 (pc := 88) F 9223372036854775807 g_150642667b dX9_rank_88 (by decide) ?_
    refine pw_goto (pc := 91) F 126 dX9_rank_91 (by decide) ?_
    exact pw_mask [true, true, true, true, false, false, true] (ls' := [some (vr p0), some (vi p1), some (vi p2), some (vi p3), none, none, none]) rfl (jX9_rank_126_ok F q hn hf hl self42 p0 p1 p2 p3 x1 p3 9223372036854775807 H ih42 h)
def lX9_rank_42 (p0 p1 p2 : Int) (self42 : Int → PH → RO) (p3 : Int) (H : PH) : RO :=
  (ld 25 H p0 14).bind fun x1 => (if p3 ≥ x1 then (ld 25 H p0 52).bind fun x2 => (ld 0 H x2 p2).bind fun x3 => some (x3, H)
  else (f_X9_workOut p0 p3 H).bind fun z4 => (ld 25 z4.2 p0 44).bind fun x5 => (ld 0 z4.2 x5 (w32 (6 * p1))).bind fun x6 => (if x6 ≤ 0 then jX9_rank_76 self42 p0 p1 p2 p3 (w32 (6 * p1)) 0 z4.2
  else jX9_rank_76 self42 p0 p1 p2 p3 (w32 (6 * p1)) 1 z4.2))
set_option maxHeartbeats 4000000 in
theorem lX9_rank_42_ok {E : PE} {rr : Int} {HH : PH} (F : FX E cX9_rank RX9) (q : QE E (some (vi rr)) HH (some .int)) (hn : nLof E = 7) (hf : (roomOf E).frames = 4) (hl : (roomOf E).locals = 99) (p0 p1 p2 : Int) : ∀ (n : Nat) (p3 : Int) (H : PH), lq1 (lX9_rank_42 p0 p1 p2) n p3 H = some (rr, HH) → PW E 42 [some (vr p0), some (vi p1), some (vi p2), some (vi p3), none, none, none] [] H := by
  refine lq1_ind (P := fun p3 H => PW E 42 [some (vr p0), some (vi p1), some (vi p2), some (vi p3), none, none, none] [] H) ?_
  intro self42 ih42 p3 H h
  unfold lX9_rank_42 at h
  refine pw_iload_n (pc := 42) F dX9_rank_42 rfl ?_
  refine pw_aload_n (pc := 43) F dX9_rank_43 rfl ?_
  obtain ⟨x1, ex1, h⟩ := bnd h
  refine pw_get (pc := 44) F 9 14 144 (by decide) (by decide) g_f4ed299937 inl_9 0 rfl dX9_rank_44 ex1 ?_
  refine pw_icmp_ge (pc := 47) F 195 dX9_rank_47 (by decide) (fun hc => ?_) (fun hc => ?_)
  · have h := iteT hc h
    refine pw_aload_n (pc := 195) F dX9_rank_195 rfl ?_
    obtain ⟨x2, ex2, h⟩ := bnd h
    refine pw_get (pc := 196) F 9 52 133 (by decide) (by decide) g_7893a1c5f2 inl_9 2 rfl dX9_rank_196 ex2 ?_
    refine pw_iload_n (pc := 199) F dX9_rank_199 rfl ?_
    obtain ⟨x3, ex3, h⟩ := bnd h
    refine pw_iald (pc := 200) F dX9_rank_200 ex3 ?_
    cases h
    exact pw_iret (pc := 201) F q dX9_rank_201
  · have h := iteF hc h
    refine pw_aload_n (pc := 50) F dX9_rank_50 rfl ?_
    refine pw_iload_n (pc := 51) F dX9_rank_51 rfl ?_
    obtain ⟨z4, ez4, h⟩ := bnd h
    refine pw_callV (pc := 52) (as := [vi p3]) (st := []) (r := none) F 228 9 (by decide) rfl (fun l => m_X9_workOut l p0 p3 H z4.1 z4.2 ez4) g_3818fe93c5 g_7e06b14cc4 g_7b1f6500ce g_2759d91faa g_717afd008d hd_X9_workOut (rm_ok hf hl (by decide) (by decide)) rfl (vm_spec ez4).1 dX9_rank_52 rfl (stk' := []) rfl ?_
    refine pw_bipush (pc := 55) F 6 dX9_rank_55 (by decide) ?_
    refine pw_iload_n (pc := 57) F dX9_rank_57 rfl ?_
    refine pw_imul (pc := 58) F dX9_rank_58 ?_
    refine pw_istore (pc := 59) F dX9_rank_59 (lt_nl hn (by decide)) [some (vr p0), some (vi p1), some (vi p2), some (vi p3), some (vi (w32 (6 * p1))), none, none] rfl ?_
    refine pw_aload_n (pc := 61) F dX9_rank_61 rfl ?_
    obtain ⟨x5, ex5, h⟩ := bnd h
    refine pw_get (pc := 62) F 9 44 118 (by decide) (by decide) g_5be5e353a9 inl_9 2 rfl dX9_rank_62 ex5 ?_
    refine pw_iload (pc := 65) F dX9_rank_65 rfl ?_
    obtain ⟨x6, ex6, h⟩ := bnd h
    refine pw_iald (pc := 67) F dX9_rank_67 ex6 ?_
    refine pw_if_le (pc := 68) F 75 dX9_rank_68 (by decide) (fun hc => ?_) (fun hc => ?_)
    · have h := iteT hc h
      refine pw_iconst (pc := 75) F 0 dX9_rank_75 (by decide) ?_
      exact pw_mask [true, true, true, true, true, true, true] (ls' := [some (vr p0), some (vi p1), some (vi p2), some (vi p3), some (vi (w32 (6 * p1))), none, none]) rfl (jX9_rank_76_ok F q hn hf hl self42 p0 p1 p2 p3 (w32 (6 * p1)) 0 z4.2 ih42 h)
    · have h := iteF hc h
      refine pw_iconst (pc := 71) F 1 dX9_rank_71 (by decide) ?_
      refine pw_goto (pc := 72) F 76 dX9_rank_72 (by decide) ?_
      exact pw_mask [true, true, true, true, true, true, true] (ls' := [some (vr p0), some (vi p1), some (vi p2), some (vi p3), some (vi (w32 (6 * p1))), none, none]) rfl (jX9_rank_76_ok F q hn hf hl self42 p0 p1 p2 p3 (w32 (6 * p1)) 1 z4.2 ih42 h)
def f_X9_rank (a0 a1 a2 : Int) (H : PH) : RO := vm 9 a0 H <|
  (f_X9_isQuestion a0 a1 H).bind fun z1 => (if z1.1 = 0 then some ((-1), z1.2)
  else (f_X9_isHousehold a0 a2 z1.2).bind fun z2 => (if z2.1 ≠ 0 then (ld 25 z2.2 a0 2).bind fun x3 => (ld 0 z2.2 x3 a1).bind fun x4 => (if x4 ≥ 0 then some ((-2), z2.2)
  else (ld 25 z2.2 a0 1).bind fun x5 => (ld 0 z2.2 x5 a1).bind fun x6 => (if x6 ≠ 1 then lq1 (lX9_rank_42 a0 a1 a2) 6000 0 z2.2
  else some ((-2), z2.2)))
  else some ((-1), z2.2)))
set_option maxHeartbeats 4000000 in
theorem m_X9_rank (l : Launch) (a0 a1 a2 : Int) (H : PH) (rr : Int) (HH : PH) (h : f_X9_rank a0 a1 a2 H = some (rr, HH)) : CT l yX9_rank cX9_rank 7 (some .int) 4 99 [vr a0, vi a1, vi a2] H (some (vi rr)) HH := by
  refine CT.of RX9 (by decide) rfl [some (vr a0), some (vi a1), some (vi a2), none, none, none, none] rfl rfl ?_
  intro E F q hn hf hl hm
  unfold f_X9_rank at h
  obtain ⟨hv, h⟩ := vm_spec h
  refine pw_aload_n (pc := 0) F dX9_rank_0 rfl ?_
  refine pw_iload_n (pc := 1) F dX9_rank_1 rfl ?_
  obtain ⟨z1, ez1, h⟩ := bnd h
  refine pw_callV (pc := 2) (as := [vi a1]) (st := []) (r := (some (vi z1.1))) F 163 9 (by decide) rfl (fun l => m_X9_isQuestion l a0 a1 H z1.1 z1.2 ez1) g_26236cf357 g_504499df23 g_65a9490ac1 g_2759d91faa g_4f2165d1ca hd_X9_isQuestion (rm_ok hf hl (by decide) (by decide)) rfl (vm_spec ez1).1 dX9_rank_2 rfl (stk' := [vi z1.1]) rfl ?_
  refine pw_if_eq (pc := 5) F 16 dX9_rank_5 (by decide) (fun hc => ?_) (fun hc => ?_)
  · have h := iteT hc h
    refine pw_iconst (pc := 16) F (-1) dX9_rank_16 (by decide) ?_
    cases h
    exact pw_iret (pc := 17) F q dX9_rank_17
  · have h := iteF hc h
    refine pw_aload_n (pc := 8) F dX9_rank_8 rfl ?_
    refine pw_iload_n (pc := 9) F dX9_rank_9 rfl ?_
    obtain ⟨z2, ez2, h⟩ := bnd h
    refine pw_callV (pc := 10) (as := [vi a2]) (st := []) (r := (some (vi z2.1))) F 181 9 (by decide) rfl (fun l => m_X9_isHousehold l a0 a2 z1.2 z2.1 z2.2 ez2) g_9d408e4d4c g_afb7bfae38 g_247017f9f2 g_2759d91faa g_8e41464c49 hd_X9_isHousehold (rm_ok hf hl (by decide) (by decide)) rfl (vm_spec ez2).1 dX9_rank_10 rfl (stk' := [vi z2.1]) rfl ?_
    refine pw_if_ne (pc := 13) F 18 dX9_rank_13 (by decide) (fun hc => ?_) (fun hc => ?_)
    · have h := iteT hc h
      refine pw_aload_n (pc := 18) F dX9_rank_18 rfl ?_
      obtain ⟨x3, ex3, h⟩ := bnd h
      refine pw_get (pc := 19) F 9 2 13 (by decide) (by decide) g_0c2899f53f inl_9 2 rfl dX9_rank_19 ex3 ?_
      refine pw_iload_n (pc := 22) F dX9_rank_22 rfl ?_
      obtain ⟨x4, ex4, h⟩ := bnd h
      refine pw_iald (pc := 23) F dX9_rank_23 ex4 ?_
      refine pw_if_ge (pc := 24) F 37 dX9_rank_24 (by decide) (fun hc => ?_) (fun hc => ?_)
      · have h := iteT hc h
        refine pw_bipush (pc := 37) F (-2) dX9_rank_37 (by decide) ?_
        cases h
        exact pw_iret (pc := 39) F q dX9_rank_39
      · have h := iteF hc h
        refine pw_aload_n (pc := 27) F dX9_rank_27 rfl ?_
        obtain ⟨x5, ex5, h⟩ := bnd h
        refine pw_get (pc := 28) F 9 1 7 (by decide) (by decide) g_a89464ec18 inl_9 2 rfl dX9_rank_28 ex5 ?_
        refine pw_iload_n (pc := 31) F dX9_rank_31 rfl ?_
        obtain ⟨x6, ex6, h⟩ := bnd h
        refine pw_iald (pc := 32) F dX9_rank_32 ex6 ?_
        refine pw_iconst (pc := 33) F 1 dX9_rank_33 (by decide) ?_
        refine pw_icmp_ne (pc := 34) F 40 dX9_rank_34 (by decide) (fun hc => ?_) (fun hc => ?_)
        · have h := iteT hc h
          refine pw_iconst (pc := 40) F 0 dX9_rank_40 (by decide) ?_
          refine pw_istore_n (pc := 41) F dX9_rank_41 (lt_nl hn (by decide)) [some (vr a0), some (vi a1), some (vi a2), some (vi 0), none, none, none] rfl ?_
          exact pw_mask [true, true, true, true, true, true, true] (ls' := [some (vr a0), some (vi a1), some (vi a2), some (vi 0), none, none, none]) rfl (lX9_rank_42_ok F q hn hf hl a0 a1 a2  6000 0 z2.2 h)
        · have h := iteF hc h
          refine pw_bipush (pc := 37) F (-2) dX9_rank_37 (by decide) ?_
          cases h
          exact pw_iret (pc := 39) F q dX9_rank_39
    · have h := iteF hc h
      refine pw_iconst (pc := 16) F (-1) dX9_rank_16 (by decide) ?_
      cases h
      exact pw_iret (pc := 17) F q dX9_rank_17
/-! HouseholdVaultModel.part(IIII)J -/
theorem dX9_part_0 : decode cX9_part 0 = .ok (.aload_n 0, 1) := by decide +kernel
theorem dX9_part_1 : decode cX9_part 1 = .ok (.iload_n 1, 1) := by decide +kernel
theorem dX9_part_2 : decode cX9_part 2 = .ok (.invokevirtual 163, 3) := by decide +kernel
theorem dX9_part_5 : decode cX9_part 5 = .ok (.ifCond .eq 36, 3) := by decide +kernel
theorem dX9_part_8 : decode cX9_part 8 = .ok (.aload_n 0, 1) := by decide +kernel
theorem dX9_part_9 : decode cX9_part 9 = .ok (.iload_n 2, 1) := by decide +kernel
theorem dX9_part_10 : decode cX9_part 10 = .ok (.invokevirtual 178, 3) := by decide +kernel
theorem dX9_part_13 : decode cX9_part 13 = .ok (.ifCond .eq 28, 3) := by decide +kernel
theorem dX9_part_16 : decode cX9_part 16 = .ok (.iload 4, 2) := by decide +kernel
theorem dX9_part_18 : decode cX9_part 18 = .ok (.i2l, 1) := by decide +kernel
theorem dX9_part_19 : decode cX9_part 19 = .ok (.lconst 1, 1) := by decide +kernel
theorem dX9_part_20 : decode cX9_part 20 = .ok (.ldc2_w 261, 3) := by decide +kernel
theorem dX9_part_23 : decode cX9_part 23 = .ok (.invokestatic 140, 3) := by decide +kernel
theorem dX9_part_26 : decode cX9_part 26 = .ok (.ifCond .eq 15, 3) := by decide +kernel
theorem dX9_part_29 : decode cX9_part 29 = .ok (.iload_n 3, 1) := by decide +kernel
theorem dX9_part_30 : decode cX9_part 30 = .ok (.i2l, 1) := by decide +kernel
theorem dX9_part_31 : decode cX9_part 31 = .ok (.lconst 0, 1) := by decide +kernel
theorem dX9_part_32 : decode cX9_part 32 = .ok (.iload 4, 2) := by decide +kernel
theorem dX9_part_34 : decode cX9_part 34 = .ok (.i2l, 1) := by decide +kernel
theorem dX9_part_35 : decode cX9_part 35 = .ok (.invokestatic 140, 3) := by decide +kernel
theorem dX9_part_38 : decode cX9_part 38 = .ok (.ifCond .ne 5, 3) := by decide +kernel
theorem dX9_part_41 : decode cX9_part 41 = .ok (.lconst 0, 1) := by decide +kernel
theorem dX9_part_42 : decode cX9_part 42 = .ok (.lreturn, 1) := by decide +kernel
theorem dX9_part_43 : decode cX9_part 43 = .ok (.aload_n 0, 1) := by decide +kernel
theorem dX9_part_44 : decode cX9_part 44 = .ok (.getfield 7, 3) := by decide +kernel
theorem dX9_part_47 : decode cX9_part 47 = .ok (.iload_n 1, 1) := by decide +kernel
theorem dX9_part_48 : decode cX9_part 48 = .ok (.iaload, 1) := by decide +kernel
theorem dX9_part_49 : decode cX9_part 49 = .ok (.iconst 2, 1) := by decide +kernel
theorem dX9_part_50 : decode cX9_part 50 = .ok (.if_icmp .lt 31, 3) := by decide +kernel
theorem dX9_part_53 : decode cX9_part 53 = .ok (.aload_n 0, 1) := by decide +kernel
theorem dX9_part_54 : decode cX9_part 54 = .ok (.getfield 7, 3) := by decide +kernel
theorem dX9_part_57 : decode cX9_part 57 = .ok (.iload_n 1, 1) := by decide +kernel
theorem dX9_part_58 : decode cX9_part 58 = .ok (.iaload, 1) := by decide +kernel
theorem dX9_part_59 : decode cX9_part 59 = .ok (.iconst 4, 1) := by decide +kernel
theorem dX9_part_60 : decode cX9_part 60 = .ok (.if_icmp .gt 21, 3) := by decide +kernel
theorem dX9_part_63 : decode cX9_part 63 = .ok (.aload_n 0, 1) := by decide +kernel
theorem dX9_part_64 : decode cX9_part 64 = .ok (.getfield 13, 3) := by decide +kernel
theorem dX9_part_67 : decode cX9_part 67 = .ok (.iload_n 1, 1) := by decide +kernel
theorem dX9_part_68 : decode cX9_part 68 = .ok (.iaload, 1) := by decide +kernel
theorem dX9_part_69 : decode cX9_part 69 = .ok (.ifCond .ge 12, 3) := by decide +kernel
theorem dX9_part_72 : decode cX9_part 72 = .ok (.aload_n 0, 1) := by decide +kernel
theorem dX9_part_73 : decode cX9_part 73 = .ok (.getfield 78, 3) := by decide +kernel
theorem dX9_part_76 : decode cX9_part 76 = .ok (.iload_n 2, 1) := by decide +kernel
theorem dX9_part_77 : decode cX9_part 77 = .ok (.iaload, 1) := by decide +kernel
theorem dX9_part_78 : decode cX9_part 78 = .ok (.ifCond .lt 5, 3) := by decide +kernel
theorem dX9_part_81 : decode cX9_part 81 = .ok (.lconst 0, 1) := by decide +kernel
theorem dX9_part_82 : decode cX9_part 82 = .ok (.lreturn, 1) := by decide +kernel
theorem dX9_part_83 : decode cX9_part 83 = .ok (.iconst 0, 1) := by decide +kernel
theorem dX9_part_84 : decode cX9_part 84 = .ok (.istore 5, 2) := by decide +kernel
theorem dX9_part_86 : decode cX9_part 86 = .ok (.iconst 0, 1) := by decide +kernel
theorem dX9_part_87 : decode cX9_part 87 = .ok (.istore 6, 2) := by decide +kernel
theorem dX9_part_89 : decode cX9_part 89 = .ok (.iload 6, 2) := by decide +kernel
theorem dX9_part_91 : decode cX9_part 91 = .ok (.aload_n 0, 1) := by decide +kernel
theorem dX9_part_92 : decode cX9_part 92 = .ok (.getfield 144, 3) := by decide +kernel
theorem dX9_part_95 : decode cX9_part 95 = .ok (.if_icmp .ge 108, 3) := by decide +kernel
theorem dX9_part_98 : decode cX9_part 98 = .ok (.aload_n 0, 1) := by decide +kernel
theorem dX9_part_99 : decode cX9_part 99 = .ok (.iload 6, 2) := by decide +kernel
theorem dX9_part_101 : decode cX9_part 101 = .ok (.invokevirtual 228, 3) := by decide +kernel
theorem dX9_part_104 : decode cX9_part 104 = .ok (.aload_n 0, 1) := by decide +kernel
theorem dX9_part_105 : decode cX9_part 105 = .ok (.getfield 121, 3) := by decide +kernel
theorem dX9_part_108 : decode cX9_part 108 = .ok (.bipush 6, 2) := by decide +kernel
theorem dX9_part_110 : decode cX9_part 110 = .ok (.iload_n 2, 1) := by decide +kernel
theorem dX9_part_111 : decode cX9_part 111 = .ok (.imul, 1) := by decide +kernel
theorem dX9_part_112 : decode cX9_part 112 = .ok (.baload, 1) := by decide +kernel
theorem dX9_part_113 : decode cX9_part 113 = .ok (.ifCond .eq 84, 3) := by decide +kernel
theorem dX9_part_116 : decode cX9_part 116 = .ok (.aload_n 0, 1) := by decide +kernel
theorem dX9_part_117 : decode cX9_part 117 = .ok (.getfield 118, 3) := by decide +kernel
theorem dX9_part_120 : decode cX9_part 120 = .ok (.bipush 6, 2) := by decide +kernel
theorem dX9_part_122 : decode cX9_part 122 = .ok (.iload_n 1, 1) := by decide +kernel
theorem dX9_part_123 : decode cX9_part 123 = .ok (.imul, 1) := by decide +kernel
theorem dX9_part_124 : decode cX9_part 124 = .ok (.iaload, 1) := by decide +kernel
theorem dX9_part_125 : decode cX9_part 125 = .ok (.ifCond .ne 72, 3) := by decide +kernel
theorem dX9_part_128 : decode cX9_part 128 = .ok (.aload_n 0, 1) := by decide +kernel
theorem dX9_part_129 : decode cX9_part 129 = .ok (.getfield 115, 3) := by decide +kernel
theorem dX9_part_132 : decode cX9_part 132 = .ok (.bipush 6, 2) := by decide +kernel
theorem dX9_part_134 : decode cX9_part 134 = .ok (.iload_n 1, 1) := by decide +kernel
theorem dX9_part_135 : decode cX9_part 135 = .ok (.imul, 1) := by decide +kernel
theorem dX9_part_136 : decode cX9_part 136 = .ok (.laload, 1) := by decide +kernel
theorem dX9_part_137 : decode cX9_part 137 = .ok (.lstore 7, 2) := by decide +kernel
theorem dX9_part_139 : decode cX9_part 139 = .ok (.iload 5, 2) := by decide +kernel
theorem dX9_part_141 : decode cX9_part 141 = .ok (.istore 9, 2) := by decide +kernel
theorem dX9_part_143 : decode cX9_part 143 = .ok (.iload 9, 2) := by decide +kernel
theorem dX9_part_145 : decode cX9_part 145 = .ok (.ifCond .le 40, 3) := by decide +kernel
theorem dX9_part_148 : decode cX9_part 148 = .ok (.aload_n 0, 1) := by decide +kernel
theorem dX9_part_149 : decode cX9_part 149 = .ok (.getfield 130, 3) := by decide +kernel
theorem dX9_part_152 : decode cX9_part 152 = .ok (.iload 9, 2) := by decide +kernel
theorem dX9_part_154 : decode cX9_part 154 = .ok (.iconst 1, 1) := by decide +kernel
theorem dX9_part_155 : decode cX9_part 155 = .ok (.isub, 1) := by decide +kernel
theorem dX9_part_156 : decode cX9_part 156 = .ok (.laload, 1) := by decide +kernel
theorem dX9_part_157 : decode cX9_part 157 = .ok (.lload 7, 2) := by decide +kernel
theorem dX9_part_159 : decode cX9_part 159 = .ok (.lcmp, 1) := by decide +kernel
theorem dX9_part_160 : decode cX9_part 160 = .ok (.ifCond .le 25, 3) := by decide +kernel
theorem dX9_part_163 : decode cX9_part 163 = .ok (.aload_n 0, 1) := by decide +kernel
theorem dX9_part_164 : decode cX9_part 164 = .ok (.getfield 130, 3) := by decide +kernel
theorem dX9_part_167 : decode cX9_part 167 = .ok (.iload 9, 2) := by decide +kernel
theorem dX9_part_169 : decode cX9_part 169 = .ok (.aload_n 0, 1) := by decide +kernel
theorem dX9_part_170 : decode cX9_part 170 = .ok (.getfield 130, 3) := by decide +kernel
theorem dX9_part_173 : decode cX9_part 173 = .ok (.iload 9, 2) := by decide +kernel
theorem dX9_part_175 : decode cX9_part 175 = .ok (.iconst 1, 1) := by decide +kernel
theorem dX9_part_176 : decode cX9_part 176 = .ok (.isub, 1) := by decide +kernel
theorem dX9_part_177 : decode cX9_part 177 = .ok (.laload, 1) := by decide +kernel
theorem dX9_part_178 : decode cX9_part 178 = .ok (.lastore, 1) := by decide +kernel
theorem dX9_part_179 : decode cX9_part 179 = .ok (.iinc 9 (-1), 3) := by decide +kernel
theorem dX9_part_182 : decode cX9_part 182 = .ok (.goto (-39), 3) := by decide +kernel
theorem dX9_part_185 : decode cX9_part 185 = .ok (.aload_n 0, 1) := by decide +kernel
theorem dX9_part_186 : decode cX9_part 186 = .ok (.getfield 130, 3) := by decide +kernel
theorem dX9_part_189 : decode cX9_part 189 = .ok (.iload 9, 2) := by decide +kernel
theorem dX9_part_191 : decode cX9_part 191 = .ok (.lload 7, 2) := by decide +kernel
theorem dX9_part_193 : decode cX9_part 193 = .ok (.lastore, 1) := by decide +kernel
theorem dX9_part_194 : decode cX9_part 194 = .ok (.iinc 5 1, 3) := by decide +kernel
theorem dX9_part_197 : decode cX9_part 197 = .ok (.iinc 6 1, 3) := by decide +kernel
theorem dX9_part_200 : decode cX9_part 200 = .ok (.goto (-111), 3) := by decide +kernel
theorem dX9_part_203 : decode cX9_part 203 = .ok (.iload 5, 2) := by decide +kernel
theorem dX9_part_205 : decode cX9_part 205 = .ok (.ifCond .ne 7, 3) := by decide +kernel
theorem dX9_part_208 : decode cX9_part 208 = .ok (.lconst 0, 1) := by decide +kernel
theorem dX9_part_209 : decode cX9_part 209 = .ok (.goto 17, 3) := by decide +kernel
theorem dX9_part_212 : decode cX9_part 212 = .ok (.aload_n 0, 1) := by decide +kernel
theorem dX9_part_213 : decode cX9_part 213 = .ok (.getfield 130, 3) := by decide +kernel
theorem dX9_part_216 : decode cX9_part 216 = .ok (.iload 5, 2) := by decide +kernel
theorem dX9_part_218 : decode cX9_part 218 = .ok (.iconst 1, 1) := by decide +kernel
theorem dX9_part_219 : decode cX9_part 219 = .ok (.isub, 1) := by decide +kernel
theorem dX9_part_220 : decode cX9_part 220 = .ok (.iload_n 3, 1) := by decide +kernel
theorem dX9_part_221 : decode cX9_part 221 = .ok (.imul, 1) := by decide +kernel
theorem dX9_part_222 : decode cX9_part 222 = .ok (.iload 4, 2) := by decide +kernel
theorem dX9_part_224 : decode cX9_part 224 = .ok (.idiv, 1) := by decide +kernel
theorem dX9_part_225 : decode cX9_part 225 = .ok (.laload, 1) := by decide +kernel
theorem dX9_part_226 : decode cX9_part 226 = .ok (.lreturn, 1) := by decide +kernel
def jX9_part_197 (self89 : Int → Int → PH → RO) (p0 p1 p2 p3 p4 p5 p6 : Int) (H : PH) : RO :=
  self89 p5 (w32 (p6 + 1)) H
set_option maxHeartbeats 4000000 in
theorem jX9_part_197_ok {E : PE} {rr : Int} {HH : PH} (F : FX E cX9_part RX9) (q : QE E (some (vl rr)) HH (some .long)) (hn : nLof E = 10) (hf : (roomOf E).frames = 4) (hl : (roomOf E).locals = 99) (self89 : Int → Int → PH → RO) (p0 p1 p2 p3 p4 p5 p6 : Int) (H : PH) (ih89 : ∀ (v5 v6 : Int) (HV : PH), self89 v5 v6 HV = some (rr, HH) → PW E 89 [some (vr p0), some (vi p1), some (vi p2), some (vi p3), some (vi p4), some (vi v5), some (vi v6), none, none, none] [] HV) (h : jX9_part_197 self89 p0 p1 p2 p3 p4 p5 p6 H = some (rr, HH)) : PW E 197 [some (vr p0), some (vi p1), some (vi p2), some (vi p3), some (vi p4), some (vi p5), some (vi p6), none, none, none] [] H := by
  unfold jX9_part_197 at h
  refine pw_iinc (pc := 197) F dX9_part_197 rfl (lt_nl hn (by decide)) [some (vr p0), some (vi p1), some (vi p2), some (vi p3), some (vi p4), some (vi p5), some (vi (w32 (p6 + 1))), none, none, none] rfl (by decide) ?_
  refine pw_goto (pc := 200) F 89 dX9_part_200 (by decide) ?_
  exact pw_mask [true, true, true, true, true, true, true, true, true, true] (ls' := [some (vr p0), some (vi p1), some (vi p2), some (vi p3), some (vi p4), some (vi p5), some (vi (w32 (p6 + 1))), none, none, none]) rfl (ih89 p5 (w32 (p6 + 1)) H h)
def jX9_part_185 (self89 : Int → Int → PH → RO) (p0 p1 p2 p3 p4 p5 p6 p7 p9 : Int) (H : PH) : RO :=
  (ld 25 H p0 51).bind fun x1 => (stv 1 H x1 p9 p7).bind fun H2 => jX9_part_197 self89 p0 p1 p2 p3 p4 (w32 (p5 + 1)) p6 H2
set_option maxHeartbeats 4000000 in
theorem jX9_part_185_ok {E : PE} {rr : Int} {HH : PH} (F : FX E cX9_part RX9) (q : QE E (some (vl rr)) HH (some .long)) (hn : nLof E = 10) (hf : (roomOf E).frames = 4) (hl : (roomOf E).locals = 99) (self89 : Int → Int → PH → RO) (p0 p1 p2 p3 p4 p5 p6 p7 p9 : Int) (H : PH) (ih89 : ∀ (v5 v6 : Int) (HV : PH), self89 v5 v6 HV = some (rr, HH) → PW E 89 [some (vr p0), some (vi p1), some (vi p2), some (vi p3), some (vi p4), some (vi v5), some (vi v6), none, none, none] [] HV) (h : jX9_part_185 self89 p0 p1 p2 p3 p4 p5 p6 p7 p9 H = some (rr, HH)) : PW E 185 [some (vr p0), some (vi p1), some (vi p2), some (vi p3), some (vi p4), some (vi p5), some (vi p6), some (vl p7), none, some (vi p9)] [] H := by
  unfold jX9_part_185 at h
  refine pw_aload_n (pc := 185) F dX9_part_185 rfl ?_
  obtain ⟨x1, ex1, h⟩ := bnd h
  refine pw_get (pc := 186) F 9 51 130 (by decide) (by decide) g_efe9f028c9 inl_9 2 rfl dX9_part_186 ex1 ?_
  refine pw_iload (pc := 189) F dX9_part_189 rfl ?_
  refine pw_lload (pc := 191) F dX9_part_191 rfl ?_
  obtain ⟨H2, eH2, h⟩ := bnd h
  refine pw_last (pc := 193) F dX9_part_193 eH2 ?_
  refine pw_iinc (pc := 194) F dX9_part_194 rfl (lt_nl hn (by decide)) [some (vr p0), some (vi p1), some (vi p2), some (vi p3), some (vi p4), some (vi (w32 (p5 + 1))), some (vi p6), some (vl p7), none, some (vi p9)] rfl (by decide) ?_
  exact pw_mask [true, true, true, true, true, true, true, false, true, false] (ls' := [some (vr p0), some (vi p1), some (vi p2), some (vi p3), some (vi p4), some (vi (w32 (p5 + 1))), some (vi p6), none, none, none]) rfl (jX9_part_197_ok F q hn hf hl self89 p0 p1 p2 p3 p4 (w32 (p5 + 1)) p6 H2 ih89 h)
def lX9_part_143 (self89 : Int → Int → PH → RO) (p0 p1 p2 p3 p4 p5 p6 p7 : Int) (self143 : Int → PH → RO) (p9 : Int) (H : PH) : RO :=
  (if p9 ≤ 0 then jX9_part_185 self89 p0 p1 p2 p3 p4 p5 p6 p7 p9 H
  else (ld 25 H p0 51).bind fun x1 => (ld 1 H x1 (w32 (p9 - 1))).bind fun x2 => (if (lc x2 p7) ≤ 0 then jX9_part_185 self89 p0 p1 p2 p3 p4 p5 p6 p7 p9 H
  else (ld 25 H p0 51).bind fun x3 => (ld 25 H p0 51).bind fun x4 => (ld 1 H x4 (w32 (p9 - 1))).bind fun x5 => (stv 1 H x3 p9 x5).bind fun H6 => self143 (w32 (p9 + (-1))) H6))
set_option maxHeartbeats 4000000 in
theorem lX9_part_143_ok {E : PE} {rr : Int} {HH : PH} (F : FX E cX9_part RX9) (q : QE E (some (vl rr)) HH (some .long)) (hn : nLof E = 10) (hf : (roomOf E).frames = 4) (hl : (roomOf E).locals = 99) (self89 : Int → Int → PH → RO) (p0 p1 p2 p3 p4 p5 p6 p7 : Int) (ih89 : ∀ (v5 v6 : Int) (HV : PH), self89 v5 v6 HV = some (rr, HH) → PW E 89 [some (vr p0), some (vi p1), some (vi p2), some (vi p3), some (vi p4), some (vi v5), some (vi v6), none, none, none] [] HV) : ∀ (n : Nat) (p9 : Int) (H : PH), lq1 (lX9_part_143 self89 p0 p1 p2 p3 p4 p5 p6 p7) n p9 H = some (rr, HH) → PW E 143 [some (vr p0), some (vi p1), some (vi p2), some (vi p3), some (vi p4), some (vi p5), some (vi p6), some (vl p7), none, some (vi p9)] [] H := by
  refine lq1_ind (P := fun p9 H => PW E 143 [some (vr p0), some (vi p1), some (vi p2), some (vi p3), some (vi p4), some (vi p5), some (vi p6), some (vl p7), none, some (vi p9)] [] H) ?_
  intro self143 ih143 p9 H h
  unfold lX9_part_143 at h
  refine pw_iload (pc := 143) F dX9_part_143 rfl ?_
  refine pw_if_le (pc := 145) F 185 dX9_part_145 (by decide) (fun hc => ?_) (fun hc => ?_)
  · have h := iteT hc h
    exact pw_mask [true, true, true, true, true, true, true, true, true, true] (ls' := [some (vr p0), some (vi p1), some (vi p2), some (vi p3), some (vi p4), some (vi p5), some (vi p6), some (vl p7), none, some (vi p9)]) rfl (jX9_part_185_ok F q hn hf hl self89 p0 p1 p2 p3 p4 p5 p6 p7 p9 H ih89 h)
  · have h := iteF hc h
    refine pw_aload_n (pc := 148) F dX9_part_148 rfl ?_
    obtain ⟨x1, ex1, h⟩ := bnd h
    refine pw_get (pc := 149) F 9 51 130 (by decide) (by decide) g_efe9f028c9 inl_9 2 rfl dX9_part_149 ex1 ?_
    refine pw_iload (pc := 152) F dX9_part_152 rfl ?_
    refine pw_iconst (pc := 154) F 1 dX9_part_154 (by decide) ?_
    refine pw_isub (pc := 155) F dX9_part_155 ?_
    obtain ⟨x2, ex2, h⟩ := bnd h
    refine pw_lald (pc := 156) F dX9_part_156 ex2 ?_
    refine pw_lload (pc := 157) F dX9_part_157 rfl ?_
    refine pw_lcmp (pc := 159) F dX9_part_159 ?_
    refine pw_if_le (pc := 160) F 185 dX9_part_160 (by decide) (fun hc => ?_) (fun hc => ?_)
    · have h := iteT hc h
      exact pw_mask [true, true, true, true, true, true, true, true, true, true] (ls' := [some (vr p0), some (vi p1), some (vi p2), some (vi p3), some (vi p4), some (vi p5), some (vi p6), some (vl p7), none, some (vi p9)]) rfl (jX9_part_185_ok F q hn hf hl self89 p0 p1 p2 p3 p4 p5 p6 p7 p9 H ih89 h)
    · have h := iteF hc h
      refine pw_aload_n (pc := 163) F dX9_part_163 rfl ?_
      obtain ⟨x3, ex3, h⟩ := bnd h
      refine pw_get (pc := 164) F 9 51 130 (by decide) (by decide) g_efe9f028c9 inl_9 2 rfl dX9_part_164 ex3 ?_
      refine pw_iload (pc := 167) F dX9_part_167 rfl ?_
      refine pw_aload_n (pc := 169) F dX9_part_169 rfl ?_
      obtain ⟨x4, ex4, h⟩ := bnd h
      refine pw_get (pc := 170) F 9 51 130 (by decide) (by decide) g_efe9f028c9 inl_9 2 rfl dX9_part_170 ex4 ?_
      refine pw_iload (pc := 173) F dX9_part_173 rfl ?_
      refine pw_iconst (pc := 175) F 1 dX9_part_175 (by decide) ?_
      refine pw_isub (pc := 176) F dX9_part_176 ?_
      obtain ⟨x5, ex5, h⟩ := bnd h
      refine pw_lald (pc := 177) F dX9_part_177 ex5 ?_
      obtain ⟨H6, eH6, h⟩ := bnd h
      refine pw_last (pc := 178) F dX9_part_178 eH6 ?_
      refine pw_iinc (pc := 179) F dX9_part_179 rfl (lt_nl hn (by decide)) [some (vr p0), some (vi p1), some (vi p2), some (vi p3), some (vi p4), some (vi p5), some (vi p6), some (vl p7), none, some (vi (w32 (p9 + (-1))))] rfl (by decide) ?_
      refine pw_goto (pc := 182) F 143 dX9_part_182 (by decide) ?_
      exact pw_mask [true, true, true, true, true, true, true, true, true, true] (ls' := [some (vr p0), some (vi p1), some (vi p2), some (vi p3), some (vi p4), some (vi p5), some (vi p6), some (vl p7), none, some (vi (w32 (p9 + (-1))))]) rfl (ih143 (w32 (p9 + (-1))) H6 h)
def lX9_part_89 (p0 p1 p2 p3 p4 : Int) (self89 : Int → Int → PH → RO) (p5 p6 : Int) (H : PH) : RO :=
  (ld 25 H p0 14).bind fun x1 => (if p6 ≥ x1 then (if p5 ≠ 0 then (ld 25 H p0 51).bind fun x2 => (if p4 = 0 then none else (ld 1 H x2 (w32 (Int.tdiv (w32 ((w32 (p5 - 1)) * p3)) p4))).bind fun x3 => some (x3, H))
  else some (0, H))
  else (f_X9_workOut p0 p6 H).bind fun z4 => (ld 25 z4.2 p0 45).bind fun x5 => (ld 2 z4.2 x5 (w32 (6 * p2))).bind fun x6 => (if x6 = 0 then jX9_part_197 self89 p0 p1 p2 p3 p4 p5 p6 z4.2
  else (ld 25 z4.2 p0 44).bind fun x7 => (ld 0 z4.2 x7 (w32 (6 * p1))).bind fun x8 => (if x8 ≠ 0 then jX9_part_197 self89 p0 p1 p2 p3 p4 p5 p6 z4.2
  else (ld 25 z4.2 p0 43).bind fun x9 => (ld 1 z4.2 x9 (w32 (6 * p1))).bind fun x10 => lq1 (lX9_part_143 self89 p0 p1 p2 p3 p4 p5 p6 x10) 6000 p5 z4.2)))
set_option maxHeartbeats 4000000 in
theorem lX9_part_89_ok {E : PE} {rr : Int} {HH : PH} (F : FX E cX9_part RX9) (q : QE E (some (vl rr)) HH (some .long)) (hn : nLof E = 10) (hf : (roomOf E).frames = 4) (hl : (roomOf E).locals = 99) (p0 p1 p2 p3 p4 : Int) : ∀ (n : Nat) (p5 p6 : Int) (H : PH), lq2 (lX9_part_89 p0 p1 p2 p3 p4) n p5 p6 H = some (rr, HH) → PW E 89 [some (vr p0), some (vi p1), some (vi p2), some (vi p3), some (vi p4), some (vi p5), some (vi p6), none, none, none] [] H := by
  refine lq2_ind (P := fun p5 p6 H => PW E 89 [some (vr p0), some (vi p1), some (vi p2), some (vi p3), some (vi p4), some (vi p5), some (vi p6), none, none, none] [] H) ?_
  intro self89 ih89 p5 p6 H h
  unfold lX9_part_89 at h
  refine pw_iload (pc := 89) F dX9_part_89 rfl ?_
  refine pw_aload_n (pc := 91) F dX9_part_91 rfl ?_
  obtain ⟨x1, ex1, h⟩ := bnd h
  refine pw_get (pc := 92) F 9 14 144 (by decide) (by decide) g_f4ed299937 inl_9 0 rfl dX9_part_92 ex1 ?_
  refine pw_icmp_ge (pc := 95) F 203 dX9_part_95 (by decide) (fun hc => ?_) (fun hc => ?_)
  · have h := iteT hc h
    refine pw_iload (pc := 203) F dX9_part_203 rfl ?_
    refine pw_if_ne (pc := 205) F 212 dX9_part_205 (by decide) (fun hc => ?_) (fun hc => ?_)
    · have h := iteT hc h
      refine pw_aload_n (pc := 212) F dX9_part_212 rfl ?_
      obtain ⟨x2, ex2, h⟩ := bnd h
      refine pw_get (pc := 213) F 9 51 130 (by decide) (by decide) g_efe9f028c9 inl_9 2 rfl dX9_part_213 ex2 ?_
      refine pw_iload (pc := 216) F dX9_part_216 rfl ?_
      refine pw_iconst (pc := 218) F 1 dX9_part_218 (by decide) ?_
      refine pw_isub (pc := 219) F dX9_part_219 ?_
      refine pw_iload_n (pc := 220) F dX9_part_220 rfl ?_
      refine pw_imul (pc := 221) F dX9_part_221 ?_
      refine pw_iload (pc := 222) F dX9_part_222 rfl ?_
      by_cases hz224 : p4 = 0
      · rw [if_pos hz224] at h; cases h
      have h := iteF hz224 h
      refine pw_idiv (pc := 224) F dX9_part_224 hz224 ?_
      obtain ⟨x3, ex3, h⟩ := bnd h
      refine pw_lald (pc := 225) F dX9_part_225 ex3 ?_
      cases h
      exact pw_lret (pc := 226) F q dX9_part_226
    · have h := iteF hc h
      refine pw_lconst (pc := 208) F 0 dX9_part_208 (by decide) ?_
      refine pw_goto (pc := 209) F 226 dX9_part_209 (by decide) ?_
      cases h
      exact pw_lret (pc := 226) F q dX9_part_226
  · have h := iteF hc h
    refine pw_aload_n (pc := 98) F dX9_part_98 rfl ?_
    refine pw_iload (pc := 99) F dX9_part_99 rfl ?_
    obtain ⟨z4, ez4, h⟩ := bnd h
    refine pw_callV (pc := 101) (as := [vi p6]) (st := []) (r := none) F 228 9 (by decide) rfl (fun l => m_X9_workOut l p0 p6 H z4.1 z4.2 ez4) g_3818fe93c5 g_7e06b14cc4 g_7b1f6500ce g_2759d91faa g_717afd008d hd_X9_workOut (rm_ok hf hl (by decide) (by decide)) rfl (vm_spec ez4).1 dX9_part_101 rfl (stk' := []) rfl ?_
    refine pw_aload_n (pc := 104) F dX9_part_104 rfl ?_
    obtain ⟨x5, ex5, h⟩ := bnd h
    refine pw_get (pc := 105) F 9 45 121 (by decide) (by decide) g_b75f1cdc97 inl_9 2 rfl dX9_part_105 ex5 ?_
    refine pw_bipush (pc := 108) F 6 dX9_part_108 (by decide) ?_
    refine pw_iload_n (pc := 110) F dX9_part_110 rfl ?_
    refine pw_imul (pc := 111) F dX9_part_111 ?_
    obtain ⟨x6, ex6, h⟩ := bnd h
    refine pw_zald (pc := 112) F dX9_part_112 ex6 ?_
    refine pw_if_eq (pc := 113) F 197 dX9_part_113 (by decide) (fun hc => ?_) (fun hc => ?_)
    · have h := iteT hc h
      exact pw_mask [true, true, true, true, true, true, true, true, true, true] (ls' := [some (vr p0), some (vi p1), some (vi p2), some (vi p3), some (vi p4), some (vi p5), some (vi p6), none, none, none]) rfl (jX9_part_197_ok F q hn hf hl self89 p0 p1 p2 p3 p4 p5 p6 z4.2 ih89 h)
    · have h := iteF hc h
      refine pw_aload_n (pc := 116) F dX9_part_116 rfl ?_
      obtain ⟨x7, ex7, h⟩ := bnd h
      refine pw_get (pc := 117) F 9 44 118 (by decide) (by decide) g_5be5e353a9 inl_9 2 rfl dX9_part_117 ex7 ?_
      refine pw_bipush (pc := 120) F 6 dX9_part_120 (by decide) ?_
      refine pw_iload_n (pc := 122) F dX9_part_122 rfl ?_
      refine pw_imul (pc := 123) F dX9_part_123 ?_
      obtain ⟨x8, ex8, h⟩ := bnd h
      refine pw_iald (pc := 124) F dX9_part_124 ex8 ?_
      refine pw_if_ne (pc := 125) F 197 dX9_part_125 (by decide) (fun hc => ?_) (fun hc => ?_)
      · have h := iteT hc h
        exact pw_mask [true, true, true, true, true, true, true, true, true, true] (ls' := [some (vr p0), some (vi p1), some (vi p2), some (vi p3), some (vi p4), some (vi p5), some (vi p6), none, none, none]) rfl (jX9_part_197_ok F q hn hf hl self89 p0 p1 p2 p3 p4 p5 p6 z4.2 ih89 h)
      · have h := iteF hc h
        refine pw_aload_n (pc := 128) F dX9_part_128 rfl ?_
        obtain ⟨x9, ex9, h⟩ := bnd h
        refine pw_get (pc := 129) F 9 43 115 (by decide) (by decide) g_e8763ca537 inl_9 2 rfl dX9_part_129 ex9 ?_
        refine pw_bipush (pc := 132) F 6 dX9_part_132 (by decide) ?_
        refine pw_iload_n (pc := 134) F dX9_part_134 rfl ?_
        refine pw_imul (pc := 135) F dX9_part_135 ?_
        obtain ⟨x10, ex10, h⟩ := bnd h
        refine pw_lald (pc := 136) F dX9_part_136 ex10 ?_
        refine pw_lstore (pc := 137) F dX9_part_137 (lt_nl hn (by decide)) [some (vr p0), some (vi p1), some (vi p2), some (vi p3), some (vi p4), some (vi p5), some (vi p6), some (vl x10), none, none] rfl ?_
        refine pw_iload (pc := 139) F dX9_part_139 rfl ?_
        refine pw_istore (pc := 141) F dX9_part_141 (lt_nl hn (by decide)) [some (vr p0), some (vi p1), some (vi p2), some (vi p3), some (vi p4), some (vi p5), some (vi p6), some (vl x10), none, some (vi p5)] rfl ?_
        exact pw_mask [true, true, true, true, true, true, true, true, true, true] (ls' := [some (vr p0), some (vi p1), some (vi p2), some (vi p3), some (vi p4), some (vi p5), some (vi p6), some (vl x10), none, some (vi p5)]) rfl (lX9_part_143_ok F q hn hf hl self89 p0 p1 p2 p3 p4 p5 p6 x10 ih89  6000 p5 z4.2 h)
def f_X9_part (a0 a1 a2 a3 a4 : Int) (H : PH) : RO := vm 9 a0 H <|
  (f_X9_isQuestion a0 a1 H).bind fun z1 => (if z1.1 = 0 then some (0, z1.2)
  else (f_X9_isCondition a0 a2 z1.2).bind fun z2 => (if z2.1 = 0 then some (0, z2.2)
  else (f_X9_in a4 1 1000 z2.2).bind fun z3 => (if z3.1 = 0 then some (0, z3.2)
  else (f_X9_in a3 0 a4 z3.2).bind fun z4 => (if z4.1 ≠ 0 then (ld 25 z4.2 a0 1).bind fun x5 => (ld 0 z4.2 x5 a1).bind fun x6 => (if x6 < 2 then some (0, z4.2)
  else (ld 25 z4.2 a0 1).bind fun x7 => (ld 0 z4.2 x7 a1).bind fun x8 => (if x8 > 4 then some (0, z4.2)
  else (ld 25 z4.2 a0 2).bind fun x9 => (ld 0 z4.2 x9 a1).bind fun x10 => (if x10 ≥ 0 then some (0, z4.2)
  else (ld 25 z4.2 a0 25).bind fun x11 => (ld 0 z4.2 x11 a2).bind fun x12 => (if x12 < 0 then lq2 (lX9_part_89 a0 a1 a2 a3 a4) 6000 0 0 z4.2
  else some (0, z4.2)))))
  else some (0, z4.2)))))
set_option maxHeartbeats 4000000 in
theorem m_X9_part (l : Launch) (a0 a1 a2 a3 a4 : Int) (H : PH) (rr : Int) (HH : PH) (h : f_X9_part a0 a1 a2 a3 a4 H = some (rr, HH)) : CT l yX9_part cX9_part 10 (some .long) 4 99 [vr a0, vi a1, vi a2, vi a3, vi a4] H (some (vl rr)) HH := by
  refine CT.of RX9 (by decide) rfl [some (vr a0), some (vi a1), some (vi a2), some (vi a3), some (vi a4), none, none, none, none, none] rfl rfl ?_
  intro E F q hn hf hl hm
  unfold f_X9_part at h
  obtain ⟨hv, h⟩ := vm_spec h
  refine pw_aload_n (pc := 0) F dX9_part_0 rfl ?_
  refine pw_iload_n (pc := 1) F dX9_part_1 rfl ?_
  obtain ⟨z1, ez1, h⟩ := bnd h
  refine pw_callV (pc := 2) (as := [vi a1]) (st := []) (r := (some (vi z1.1))) F 163 9 (by decide) rfl (fun l => m_X9_isQuestion l a0 a1 H z1.1 z1.2 ez1) g_26236cf357 g_504499df23 g_65a9490ac1 g_2759d91faa g_4f2165d1ca hd_X9_isQuestion (rm_ok hf hl (by decide) (by decide)) rfl (vm_spec ez1).1 dX9_part_2 rfl (stk' := [vi z1.1]) rfl ?_
  refine pw_if_eq (pc := 5) F 41 dX9_part_5 (by decide) (fun hc => ?_) (fun hc => ?_)
  · have h := iteT hc h
    refine pw_lconst (pc := 41) F 0 dX9_part_41 (by decide) ?_
    cases h
    exact pw_lret (pc := 42) F q dX9_part_42
  · have h := iteF hc h
    refine pw_aload_n (pc := 8) F dX9_part_8 rfl ?_
    refine pw_iload_n (pc := 9) F dX9_part_9 rfl ?_
    obtain ⟨z2, ez2, h⟩ := bnd h
    refine pw_callV (pc := 10) (as := [vi a2]) (st := []) (r := (some (vi z2.1))) F 178 9 (by decide) rfl (fun l => m_X9_isCondition l a0 a2 z1.2 z2.1 z2.2 ez2) g_7eb587748a g_679f284a6f g_67cc1a7d68 g_2759d91faa g_8ca3f2c8d6 hd_X9_isCondition (rm_ok hf hl (by decide) (by decide)) rfl (vm_spec ez2).1 dX9_part_10 rfl (stk' := [vi z2.1]) rfl ?_
    refine pw_if_eq (pc := 13) F 41 dX9_part_13 (by decide) (fun hc => ?_) (fun hc => ?_)
    · have h := iteT hc h
      refine pw_lconst (pc := 41) F 0 dX9_part_41 (by decide) ?_
      cases h
      exact pw_lret (pc := 42) F q dX9_part_42
    · have h := iteF hc h
      refine pw_iload (pc := 16) F dX9_part_16 rfl ?_
      refine pw_i2l (pc := 18) F dX9_part_18 ?_
      refine pw_lconst (pc := 19) F 1 dX9_part_19 (by decide) ?_
      refine pw_ldc2 (pc := 20) F 1000 g_5e18afccfb dX9_part_20 (by decide) ?_
      obtain ⟨z3, ez3, h⟩ := bnd h
      refine pw_callS (pc := 23) (as := [vl a4, vl 1, vl 1000]) (st := []) (r := (some (vi z3.1))) F 140 (fun l => m_X9_in l a4 1 1000 z2.2 z3.1 z3.2 ez3) g_0174c906e2 g_3fadeb3198 g_2759d91faa g_c0c30bc7de hd_X9_in (rm_ok hf hl (by decide) (by decide)) rfl dX9_part_23 rfl (stk' := [vi z3.1]) rfl ?_
      refine pw_if_eq (pc := 26) F 41 dX9_part_26 (by decide) (fun hc => ?_) (fun hc => ?_)
      · have h := iteT hc h
        refine pw_lconst (pc := 41) F 0 dX9_part_41 (by decide) ?_
        cases h
        exact pw_lret (pc := 42) F q dX9_part_42
      · have h := iteF hc h
        refine pw_iload_n (pc := 29) F dX9_part_29 rfl ?_
        refine pw_i2l (pc := 30) F dX9_part_30 ?_
        refine pw_lconst (pc := 31) F 0 dX9_part_31 (by decide) ?_
        refine pw_iload (pc := 32) F dX9_part_32 rfl ?_
        refine pw_i2l (pc := 34) F dX9_part_34 ?_
        obtain ⟨z4, ez4, h⟩ := bnd h
        refine pw_callS (pc := 35) (as := [vl a3, vl 0, vl a4]) (st := []) (r := (some (vi z4.1))) F 140 (fun l => m_X9_in l a3 0 a4 z3.2 z4.1 z4.2 ez4) g_0174c906e2 g_3fadeb3198 g_2759d91faa g_c0c30bc7de hd_X9_in (rm_ok hf hl (by decide) (by decide)) rfl dX9_part_35 rfl (stk' := [vi z4.1]) rfl ?_
        refine pw_if_ne (pc := 38) F 43 dX9_part_38 (by decide) (fun hc => ?_) (fun hc => ?_)
        · have h := iteT hc h
          refine pw_aload_n (pc := 43) F dX9_part_43 rfl ?_
          obtain ⟨x5, ex5, h⟩ := bnd h
          refine pw_get (pc := 44) F 9 1 7 (by decide) (by decide) g_a89464ec18 inl_9 2 rfl dX9_part_44 ex5 ?_
          refine pw_iload_n (pc := 47) F dX9_part_47 rfl ?_
          obtain ⟨x6, ex6, h⟩ := bnd h
          refine pw_iald (pc := 48) F dX9_part_48 ex6 ?_
          refine pw_iconst (pc := 49) F 2 dX9_part_49 (by decide) ?_
          refine pw_icmp_lt (pc := 50) F 81 dX9_part_50 (by decide) (fun hc => ?_) (fun hc => ?_)
          · have h := iteT hc h
            refine pw_lconst (pc := 81) F 0 dX9_part_81 (by decide) ?_
            cases h
            exact pw_lret (pc := 82) F q dX9_part_82
          · have h := iteF hc h
            refine pw_aload_n (pc := 53) F dX9_part_53 rfl ?_
            obtain ⟨x7, ex7, h⟩ := bnd h
            refine pw_get (pc := 54) F 9 1 7 (by decide) (by decide) g_a89464ec18 inl_9 2 rfl dX9_part_54 ex7 ?_
            refine pw_iload_n (pc := 57) F dX9_part_57 rfl ?_
            obtain ⟨x8, ex8, h⟩ := bnd h
            refine pw_iald (pc := 58) F dX9_part_58 ex8 ?_
            refine pw_iconst (pc := 59) F 4 dX9_part_59 (by decide) ?_
            refine pw_icmp_gt (pc := 60) F 81 dX9_part_60 (by decide) (fun hc => ?_) (fun hc => ?_)
            · have h := iteT hc h
              refine pw_lconst (pc := 81) F 0 dX9_part_81 (by decide) ?_
              cases h
              exact pw_lret (pc := 82) F q dX9_part_82
            · have h := iteF hc h
              refine pw_aload_n (pc := 63) F dX9_part_63 rfl ?_
              obtain ⟨x9, ex9, h⟩ := bnd h
              refine pw_get (pc := 64) F 9 2 13 (by decide) (by decide) g_0c2899f53f inl_9 2 rfl dX9_part_64 ex9 ?_
              refine pw_iload_n (pc := 67) F dX9_part_67 rfl ?_
              obtain ⟨x10, ex10, h⟩ := bnd h
              refine pw_iald (pc := 68) F dX9_part_68 ex10 ?_
              refine pw_if_ge (pc := 69) F 81 dX9_part_69 (by decide) (fun hc => ?_) (fun hc => ?_)
              · have h := iteT hc h
                refine pw_lconst (pc := 81) F 0 dX9_part_81 (by decide) ?_
                cases h
                exact pw_lret (pc := 82) F q dX9_part_82
              · have h := iteF hc h
                refine pw_aload_n (pc := 72) F dX9_part_72 rfl ?_
                obtain ⟨x11, ex11, h⟩ := bnd h
                refine pw_get (pc := 73) F 9 25 78 (by decide) (by decide) g_26e1dbdafb inl_9 2 rfl dX9_part_73 ex11 ?_
                refine pw_iload_n (pc := 76) F dX9_part_76 rfl ?_
                obtain ⟨x12, ex12, h⟩ := bnd h
                refine pw_iald (pc := 77) F dX9_part_77 ex12 ?_
                refine pw_if_lt (pc := 78) F 83 dX9_part_78 (by decide) (fun hc => ?_) (fun hc => ?_)
                · have h := iteT hc h
                  refine pw_iconst (pc := 83) F 0 dX9_part_83 (by decide) ?_
                  refine pw_istore (pc := 84) F dX9_part_84 (lt_nl hn (by decide)) [some (vr a0), some (vi a1), some (vi a2), some (vi a3), some (vi a4), some (vi 0), none, none, none, none] rfl ?_
                  refine pw_iconst (pc := 86) F 0 dX9_part_86 (by decide) ?_
                  refine pw_istore (pc := 87) F dX9_part_87 (lt_nl hn (by decide)) [some (vr a0), some (vi a1), some (vi a2), some (vi a3), some (vi a4), some (vi 0), some (vi 0), none, none, none] rfl ?_
                  exact pw_mask [true, true, true, true, true, true, true, true, true, true] (ls' := [some (vr a0), some (vi a1), some (vi a2), some (vi a3), some (vi a4), some (vi 0), some (vi 0), none, none, none]) rfl (lX9_part_89_ok F q hn hf hl a0 a1 a2 a3 a4  6000 0 0 z4.2 h)
                · have h := iteF hc h
                  refine pw_lconst (pc := 81) F 0 dX9_part_81 (by decide) ?_
                  cases h
                  exact pw_lret (pc := 82) F q dX9_part_82
        · have h := iteF hc h
          refine pw_lconst (pc := 41) F 0 dX9_part_41 (by decide) ?_
          cases h
          exact pw_lret (pc := 42) F q dX9_part_42
/-! HouseholdVaultModel.mark(IZ)I -/
theorem dX9_mark_0 : decode cX9_mark 0 = .ok (.aload_n 0, 1) := by decide +kernel
theorem dX9_mark_1 : decode cX9_mark 1 = .ok (.iload_n 1, 1) := by decide +kernel
theorem dX9_mark_2 : decode cX9_mark 2 = .ok (.invokevirtual 163, 3) := by decide +kernel
theorem dX9_mark_5 : decode cX9_mark 5 = .ok (.ifCond .ne 5, 3) := by decide +kernel
theorem dX9_mark_8 : decode cX9_mark 8 = .ok (.iconst (-1), 1) := by decide +kernel
theorem dX9_mark_9 : decode cX9_mark 9 = .ok (.ireturn, 1) := by decide +kernel
theorem dX9_mark_10 : decode cX9_mark 10 = .ok (.aload_n 0, 1) := by decide +kernel
theorem dX9_mark_11 : decode cX9_mark 11 = .ok (.getfield 13, 3) := by decide +kernel
theorem dX9_mark_14 : decode cX9_mark 14 = .ok (.iload_n 1, 1) := by decide +kernel
theorem dX9_mark_15 : decode cX9_mark 15 = .ok (.iaload, 1) := by decide +kernel
theorem dX9_mark_16 : decode cX9_mark 16 = .ok (.ifCond .ge 12, 3) := by decide +kernel
theorem dX9_mark_19 : decode cX9_mark 19 = .ok (.aload_n 0, 1) := by decide +kernel
theorem dX9_mark_20 : decode cX9_mark 20 = .ok (.getfield 16, 3) := by decide +kernel
theorem dX9_mark_23 : decode cX9_mark 23 = .ok (.iload_n 1, 1) := by decide +kernel
theorem dX9_mark_24 : decode cX9_mark 24 = .ok (.iaload, 1) := by decide +kernel
theorem dX9_mark_25 : decode cX9_mark 25 = .ok (.ifCond .le 6, 3) := by decide +kernel
theorem dX9_mark_28 : decode cX9_mark 28 = .ok (.bipush (-2), 2) := by decide +kernel
theorem dX9_mark_30 : decode cX9_mark 30 = .ok (.ireturn, 1) := by decide +kernel
theorem dX9_mark_31 : decode cX9_mark 31 = .ok (.aload_n 0, 1) := by decide +kernel
theorem dX9_mark_32 : decode cX9_mark 32 = .ok (.getfield 28, 3) := by decide +kernel
theorem dX9_mark_35 : decode cX9_mark 35 = .ok (.iload_n 1, 1) := by decide +kernel
theorem dX9_mark_36 : decode cX9_mark 36 = .ok (.baload, 1) := by decide +kernel
theorem dX9_mark_37 : decode cX9_mark 37 = .ok (.ifCond .eq 7, 3) := by decide +kernel
theorem dX9_mark_40 : decode cX9_mark 40 = .ok (.iconst 1, 1) := by decide +kernel
theorem dX9_mark_41 : decode cX9_mark 41 = .ok (.goto 4, 3) := by decide +kernel
theorem dX9_mark_44 : decode cX9_mark 44 = .ok (.iconst 0, 1) := by decide +kernel
theorem dX9_mark_45 : decode cX9_mark 45 = .ok (.istore_n 3, 1) := by decide +kernel
theorem dX9_mark_46 : decode cX9_mark 46 = .ok (.aload_n 0, 1) := by decide +kernel
theorem dX9_mark_47 : decode cX9_mark 47 = .ok (.getfield 28, 3) := by decide +kernel
theorem dX9_mark_50 : decode cX9_mark 50 = .ok (.iload_n 1, 1) := by decide +kernel
theorem dX9_mark_51 : decode cX9_mark 51 = .ok (.iload_n 2, 1) := by decide +kernel
theorem dX9_mark_52 : decode cX9_mark 52 = .ok (.bastore, 1) := by decide +kernel
theorem dX9_mark_53 : decode cX9_mark 53 = .ok (.iload_n 3, 1) := by decide +kernel
theorem dX9_mark_54 : decode cX9_mark 54 = .ok (.ireturn, 1) := by decide +kernel
def jX9_mark_45 (p0 p1 p2 s0 : Int) (H : PH) : RO :=
  (ld 25 H p0 7).bind fun x1 => (stz 2 H x1 p1 p2).bind fun H2 => some (s0, H2)
set_option maxHeartbeats 4000000 in
theorem jX9_mark_45_ok {E : PE} {rr : Int} {HH : PH} (F : FX E cX9_mark RX9) (q : QE E (some (vi rr)) HH (some .int)) (hn : nLof E = 4) (hf : (roomOf E).frames = 2) (hl : (roomOf E).locals = 46) (p0 p1 p2 s0 : Int) (H : PH) (h : jX9_mark_45 p0 p1 p2 s0 H = some (rr, HH)) : PW E 45 [some (vr p0), some (vi p1), some (vi p2), none] [vi s0] H := by
  unfold jX9_mark_45 at h
  refine pw_istore_n (pc := 45) F dX9_mark_45 (lt_nl hn (by decide)) [some (vr p0), some (vi p1), some (vi p2), some (vi s0)] rfl ?_
  refine pw_aload_n (pc := 46) F dX9_mark_46 rfl ?_
  obtain ⟨x1, ex1, h⟩ := bnd h
  refine pw_get (pc := 47) F 9 7 28 (by decide) (by decide) g_993ceefc50 inl_9 2 rfl dX9_mark_47 ex1 ?_
  refine pw_iload_n (pc := 50) F dX9_mark_50 rfl ?_
  refine pw_iload_n (pc := 51) F dX9_mark_51 rfl ?_
  obtain ⟨H2, eH2, h⟩ := bnd h
  refine pw_zast (pc := 52) F dX9_mark_52 (stz_spec eH2).1 (stz_spec eH2).2 ?_
  refine pw_iload_n (pc := 53) F dX9_mark_53 rfl ?_
  cases h
  exact pw_iret (pc := 54) F q dX9_mark_54
def f_X9_mark (a0 a1 a2 : Int) (H : PH) : RO := vm 9 a0 H <|
  (f_X9_isQuestion a0 a1 H).bind fun z1 => (if z1.1 ≠ 0 then (ld 25 z1.2 a0 2).bind fun x2 => (ld 0 z1.2 x2 a1).bind fun x3 => (if x3 ≥ 0 then some ((-2), z1.2)
  else (ld 25 z1.2 a0 3).bind fun x4 => (ld 0 z1.2 x4 a1).bind fun x5 => (if x5 ≤ 0 then (ld 25 z1.2 a0 7).bind fun x6 => (ld 2 z1.2 x6 a1).bind fun x7 => (if x7 = 0 then jX9_mark_45 a0 a1 a2 0 z1.2
  else jX9_mark_45 a0 a1 a2 1 z1.2)
  else some ((-2), z1.2)))
  else some ((-1), z1.2))
set_option maxHeartbeats 4000000 in
theorem m_X9_mark (l : Launch) (a0 a1 a2 : Int) (H : PH) (rr : Int) (HH : PH) (h : f_X9_mark a0 a1 a2 H = some (rr, HH)) : CT l yX9_mark cX9_mark 4 (some .int) 2 46 [vr a0, vi a1, vi a2] H (some (vi rr)) HH := by
  refine CT.of RX9 (by decide) rfl [some (vr a0), some (vi a1), some (vi a2), none] rfl rfl ?_
  intro E F q hn hf hl hm
  unfold f_X9_mark at h
  obtain ⟨hv, h⟩ := vm_spec h
  refine pw_aload_n (pc := 0) F dX9_mark_0 rfl ?_
  refine pw_iload_n (pc := 1) F dX9_mark_1 rfl ?_
  obtain ⟨z1, ez1, h⟩ := bnd h
  refine pw_callV (pc := 2) (as := [vi a1]) (st := []) (r := (some (vi z1.1))) F 163 9 (by decide) rfl (fun l => m_X9_isQuestion l a0 a1 H z1.1 z1.2 ez1) g_26236cf357 g_504499df23 g_65a9490ac1 g_2759d91faa g_4f2165d1ca hd_X9_isQuestion (rm_ok hf hl (by decide) (by decide)) rfl (vm_spec ez1).1 dX9_mark_2 rfl (stk' := [vi z1.1]) rfl ?_
  refine pw_if_ne (pc := 5) F 10 dX9_mark_5 (by decide) (fun hc => ?_) (fun hc => ?_)
  · have h := iteT hc h
    refine pw_aload_n (pc := 10) F dX9_mark_10 rfl ?_
    obtain ⟨x2, ex2, h⟩ := bnd h
    refine pw_get (pc := 11) F 9 2 13 (by decide) (by decide) g_0c2899f53f inl_9 2 rfl dX9_mark_11 ex2 ?_
    refine pw_iload_n (pc := 14) F dX9_mark_14 rfl ?_
    obtain ⟨x3, ex3, h⟩ := bnd h
    refine pw_iald (pc := 15) F dX9_mark_15 ex3 ?_
    refine pw_if_ge (pc := 16) F 28 dX9_mark_16 (by decide) (fun hc => ?_) (fun hc => ?_)
    · have h := iteT hc h
      refine pw_bipush (pc := 28) F (-2) dX9_mark_28 (by decide) ?_
      cases h
      exact pw_iret (pc := 30) F q dX9_mark_30
    · have h := iteF hc h
      refine pw_aload_n (pc := 19) F dX9_mark_19 rfl ?_
      obtain ⟨x4, ex4, h⟩ := bnd h
      refine pw_get (pc := 20) F 9 3 16 (by decide) (by decide) g_bd19d270ba inl_9 2 rfl dX9_mark_20 ex4 ?_
      refine pw_iload_n (pc := 23) F dX9_mark_23 rfl ?_
      obtain ⟨x5, ex5, h⟩ := bnd h
      refine pw_iald (pc := 24) F dX9_mark_24 ex5 ?_
      refine pw_if_le (pc := 25) F 31 dX9_mark_25 (by decide) (fun hc => ?_) (fun hc => ?_)
      · have h := iteT hc h
        refine pw_aload_n (pc := 31) F dX9_mark_31 rfl ?_
        obtain ⟨x6, ex6, h⟩ := bnd h
        refine pw_get (pc := 32) F 9 7 28 (by decide) (by decide) g_993ceefc50 inl_9 2 rfl dX9_mark_32 ex6 ?_
        refine pw_iload_n (pc := 35) F dX9_mark_35 rfl ?_
        obtain ⟨x7, ex7, h⟩ := bnd h
        refine pw_zald (pc := 36) F dX9_mark_36 ex7 ?_
        refine pw_if_eq (pc := 37) F 44 dX9_mark_37 (by decide) (fun hc => ?_) (fun hc => ?_)
        · have h := iteT hc h
          refine pw_iconst (pc := 44) F 0 dX9_mark_44 (by decide) ?_
          exact pw_mask [true, true, true, true] (ls' := [some (vr a0), some (vi a1), some (vi a2), none]) rfl (jX9_mark_45_ok F q hn hf hl a0 a1 a2 0 z1.2 h)
        · have h := iteF hc h
          refine pw_iconst (pc := 40) F 1 dX9_mark_40 (by decide) ?_
          refine pw_goto (pc := 41) F 45 dX9_mark_41 (by decide) ?_
          exact pw_mask [true, true, true, true] (ls' := [some (vr a0), some (vi a1), some (vi a2), none]) rfl (jX9_mark_45_ok F q hn hf hl a0 a1 a2 1 z1.2 h)
      · have h := iteF hc h
        refine pw_bipush (pc := 28) F (-2) dX9_mark_28 (by decide) ?_
        cases h
        exact pw_iret (pc := 30) F q dX9_mark_30
  · have h := iteF hc h
    refine pw_iconst (pc := 8) F (-1) dX9_mark_8 (by decide) ?_
    cases h
    exact pw_iret (pc := 9) F q dX9_mark_9
/-! HouseholdVaultModel.areLike(IIII)Z -/
theorem dX9_areLike_0 : decode cX9_areLike 0 = .ok (.iload_n 1, 1) := by decide +kernel
theorem dX9_areLike_1 : decode cX9_areLike 1 = .ok (.iload_n 3, 1) := by decide +kernel
theorem dX9_areLike_2 : decode cX9_areLike 2 = .ok (.iload 4, 2) := by decide +kernel
theorem dX9_areLike_4 : decode cX9_areLike 4 = .ok (.invokestatic 150, 3) := by decide +kernel
theorem dX9_areLike_7 : decode cX9_areLike 7 = .ok (.istore 5, 2) := by decide +kernel
theorem dX9_areLike_9 : decode cX9_areLike 9 = .ok (.iload_n 2, 1) := by decide +kernel
theorem dX9_areLike_10 : decode cX9_areLike 10 = .ok (.iload_n 3, 1) := by decide +kernel
theorem dX9_areLike_11 : decode cX9_areLike 11 = .ok (.iload 4, 2) := by decide +kernel
theorem dX9_areLike_13 : decode cX9_areLike 13 = .ok (.invokestatic 150, 3) := by decide +kernel
theorem dX9_areLike_16 : decode cX9_areLike 16 = .ok (.istore 6, 2) := by decide +kernel
theorem dX9_areLike_18 : decode cX9_areLike 18 = .ok (.aload_n 0, 1) := by decide +kernel
theorem dX9_areLike_19 : decode cX9_areLike 19 = .ok (.getfield 54, 3) := by decide +kernel
theorem dX9_areLike_22 : decode cX9_areLike 22 = .ok (.iload 5, 2) := by decide +kernel
theorem dX9_areLike_24 : decode cX9_areLike 24 = .ok (.iaload, 1) := by decide +kernel
theorem dX9_areLike_25 : decode cX9_areLike 25 = .ok (.aload_n 0, 1) := by decide +kernel
theorem dX9_areLike_26 : decode cX9_areLike 26 = .ok (.getfield 54, 3) := by decide +kernel
theorem dX9_areLike_29 : decode cX9_areLike 29 = .ok (.iload 6, 2) := by decide +kernel
theorem dX9_areLike_31 : decode cX9_areLike 31 = .ok (.iaload, 1) := by decide +kernel
theorem dX9_areLike_32 : decode cX9_areLike 32 = .ok (.if_icmp .ne 35, 3) := by decide +kernel
theorem dX9_areLike_35 : decode cX9_areLike 35 = .ok (.aload_n 0, 1) := by decide +kernel
theorem dX9_areLike_36 : decode cX9_areLike 36 = .ok (.getfield 54, 3) := by decide +kernel
theorem dX9_areLike_39 : decode cX9_areLike 39 = .ok (.iload 5, 2) := by decide +kernel
theorem dX9_areLike_41 : decode cX9_areLike 41 = .ok (.iaload, 1) := by decide +kernel
theorem dX9_areLike_42 : decode cX9_areLike 42 = .ok (.ifCond .gt 21, 3) := by decide +kernel
theorem dX9_areLike_45 : decode cX9_areLike 45 = .ok (.aload_n 0, 1) := by decide +kernel
theorem dX9_areLike_46 : decode cX9_areLike 46 = .ok (.getfield 51, 3) := by decide +kernel
theorem dX9_areLike_49 : decode cX9_areLike 49 = .ok (.iload 5, 2) := by decide +kernel
theorem dX9_areLike_51 : decode cX9_areLike 51 = .ok (.laload, 1) := by decide +kernel
theorem dX9_areLike_52 : decode cX9_areLike 52 = .ok (.aload_n 0, 1) := by decide +kernel
theorem dX9_areLike_53 : decode cX9_areLike 53 = .ok (.getfield 51, 3) := by decide +kernel
theorem dX9_areLike_56 : decode cX9_areLike 56 = .ok (.iload 6, 2) := by decide +kernel
theorem dX9_areLike_58 : decode cX9_areLike 58 = .ok (.laload, 1) := by decide +kernel
theorem dX9_areLike_59 : decode cX9_areLike 59 = .ok (.lcmp, 1) := by decide +kernel
theorem dX9_areLike_60 : decode cX9_areLike 60 = .ok (.ifCond .ne 7, 3) := by decide +kernel
theorem dX9_areLike_63 : decode cX9_areLike 63 = .ok (.iconst 1, 1) := by decide +kernel
theorem dX9_areLike_64 : decode cX9_areLike 64 = .ok (.goto 4, 3) := by decide +kernel
theorem dX9_areLike_67 : decode cX9_areLike 67 = .ok (.iconst 0, 1) := by decide +kernel
theorem dX9_areLike_68 : decode cX9_areLike 68 = .ok (.ireturn, 1) := by decide +kernel
def jX9_areLike_63 (H : PH) : RO :=
  some (1, H)
set_option maxHeartbeats 4000000 in
theorem jX9_areLike_63_ok {E : PE} {rr : Int} {HH : PH} (F : FX E cX9_areLike RX9) (q : QE E (some (vi rr)) HH (some .boolean)) (hn : nLof E = 7) (hf : (roomOf E).frames = 1) (hl : (roomOf E).locals = 22) (H : PH) (h : jX9_areLike_63  H = some (rr, HH)) : PW E 63 [none, none, none, none, none, none, none] [] H := by
  unfold jX9_areLike_63 at h
  refine pw_iconst (pc := 63) F 1 dX9_areLike_63 (by decide) ?_
  refine pw_goto (pc := 64) F 68 dX9_areLike_64 (by decide) ?_
  cases h
  exact pw_zret (pc := 68) F q (by decide) dX9_areLike_68
def f_X9_areLike (a0 a1 a2 a3 a4 : Int) (H : PH) : RO := vm 9 a0 H <|
  (f_X9_place a1 a3 a4 H).bind fun z1 => (f_X9_place a2 a3 a4 z1.2).bind fun z2 => (ld 25 z2.2 a0 16).bind fun x3 => (ld 0 z2.2 x3 z1.1).bind fun x4 => (ld 25 z2.2 a0 16).bind fun x5 => (ld 0 z2.2 x5 z2.1).bind fun x6 => (if x4 ≠ x6 then some (0, z2.2)
  else (ld 25 z2.2 a0 16).bind fun x7 => (ld 0 z2.2 x7 z1.1).bind fun x8 => (if x8 > 0 then jX9_areLike_63  z2.2
  else (ld 25 z2.2 a0 15).bind fun x9 => (ld 1 z2.2 x9 z1.1).bind fun x10 => (ld 25 z2.2 a0 15).bind fun x11 => (ld 1 z2.2 x11 z2.1).bind fun x12 => (if (lc x10 x12) ≠ 0 then some (0, z2.2)
  else jX9_areLike_63  z2.2)))
set_option maxHeartbeats 4000000 in
theorem m_X9_areLike (l : Launch) (a0 a1 a2 a3 a4 : Int) (H : PH) (rr : Int) (HH : PH) (h : f_X9_areLike a0 a1 a2 a3 a4 H = some (rr, HH)) : CT l yX9_areLike cX9_areLike 7 (some .boolean) 1 22 [vr a0, vi a1, vi a2, vi a3, vi a4] H (some (vi rr)) HH := by
  refine CT.of RX9 (by decide) rfl [some (vr a0), some (vi a1), some (vi a2), some (vi a3), some (vi a4), none, none] rfl rfl ?_
  intro E F q hn hf hl hm
  unfold f_X9_areLike at h
  obtain ⟨hv, h⟩ := vm_spec h
  refine pw_iload_n (pc := 0) F dX9_areLike_0 rfl ?_
  refine pw_iload_n (pc := 1) F dX9_areLike_1 rfl ?_
  refine pw_iload (pc := 2) F dX9_areLike_2 rfl ?_
  obtain ⟨z1, ez1, h⟩ := bnd h
  refine pw_callS (pc := 4) (as := [vi a1, vi a3, vi a4]) (st := []) (r := (some (vi z1.1))) F 150 (fun l => m_X9_place l a1 a3 a4 H z1.1 z1.2 ez1) g_ace1a9f84c g_ec0534314d g_2759d91faa g_205510d507 hd_X9_place (rm_ok hf hl (by decide) (by decide)) rfl dX9_areLike_4 rfl (stk' := [vi z1.1]) rfl ?_
  refine pw_istore (pc := 7) F dX9_areLike_7 (lt_nl hn (by decide)) [some (vr a0), some (vi a1), some (vi a2), some (vi a3), some (vi a4), some (vi z1.1), none] rfl ?_
  refine pw_iload_n (pc := 9) F dX9_areLike_9 rfl ?_
  refine pw_iload_n (pc := 10) F dX9_areLike_10 rfl ?_
  refine pw_iload (pc := 11) F dX9_areLike_11 rfl ?_
  obtain ⟨z2, ez2, h⟩ := bnd h
  refine pw_callS (pc := 13) (as := [vi a2, vi a3, vi a4]) (st := []) (r := (some (vi z2.1))) F 150 (fun l => m_X9_place l a2 a3 a4 z1.2 z2.1 z2.2 ez2) g_ace1a9f84c g_ec0534314d g_2759d91faa g_205510d507 hd_X9_place (rm_ok hf hl (by decide) (by decide)) rfl dX9_areLike_13 rfl (stk' := [vi z2.1]) rfl ?_
  refine pw_istore (pc := 16) F dX9_areLike_16 (lt_nl hn (by decide)) [some (vr a0), some (vi a1), some (vi a2), some (vi a3), some (vi a4), some (vi z1.1), some (vi z2.1)] rfl ?_
  refine pw_aload_n (pc := 18) F dX9_areLike_18 rfl ?_
  obtain ⟨x3, ex3, h⟩ := bnd h
  refine pw_get (pc := 19) F 9 16 54 (by decide) (by decide) g_fd9fcec31c inl_9 2 rfl dX9_areLike_19 ex3 ?_
  refine pw_iload (pc := 22) F dX9_areLike_22 rfl ?_
  obtain ⟨x4, ex4, h⟩ := bnd h
  refine pw_iald (pc := 24) F dX9_areLike_24 ex4 ?_
  refine pw_aload_n (pc := 25) F dX9_areLike_25 rfl ?_
  obtain ⟨x5, ex5, h⟩ := bnd h
  refine pw_get (pc := 26) F 9 16 54 (by decide) (by decide) g_fd9fcec31c inl_9 2 rfl dX9_areLike_26 ex5 ?_
  refine pw_iload (pc := 29) F dX9_areLike_29 rfl ?_
  obtain ⟨x6, ex6, h⟩ := bnd h
  refine pw_iald (pc := 31) F dX9_areLike_31 ex6 ?_
  refine pw_icmp_ne (pc := 32) F 67 dX9_areLike_32 (by decide) (fun hc => ?_) (fun hc => ?_)
  · have h := iteT hc h
    refine pw_iconst (pc := 67) F 0 dX9_areLike_67 (by decide) ?_
    cases h
    exact pw_zret (pc := 68) F q (by decide) dX9_areLike_68
  · have h := iteF hc h
    refine pw_aload_n (pc := 35) F dX9_areLike_35 rfl ?_
    obtain ⟨x7, ex7, h⟩ := bnd h
    refine pw_get (pc := 36) F 9 16 54 (by decide) (by decide) g_fd9fcec31c inl_9 2 rfl dX9_areLike_36 ex7 ?_
    refine pw_iload (pc := 39) F dX9_areLike_39 rfl ?_
    obtain ⟨x8, ex8, h⟩ := bnd h
    refine pw_iald (pc := 41) F dX9_areLike_41 ex8 ?_
    refine pw_if_gt (pc := 42) F 63 dX9_areLike_42 (by decide) (fun hc => ?_) (fun hc => ?_)
    · have h := iteT hc h
      exact pw_mask [false, false, false, false, false, false, false] (ls' := [none, none, none, none, none, none, none]) rfl (jX9_areLike_63_ok F q hn hf hl  z2.2 h)
    · have h := iteF hc h
      refine pw_aload_n (pc := 45) F dX9_areLike_45 rfl ?_
      obtain ⟨x9, ex9, h⟩ := bnd h
      refine pw_get (pc := 46) F 9 15 51 (by decide) (by decide) g_948f79b8fe inl_9 2 rfl dX9_areLike_46 ex9 ?_
      refine pw_iload (pc := 49) F dX9_areLike_49 rfl ?_
      obtain ⟨x10, ex10, h⟩ := bnd h
      refine pw_lald (pc := 51) F dX9_areLike_51 ex10 ?_
      refine pw_aload_n (pc := 52) F dX9_areLike_52 rfl ?_
      obtain ⟨x11, ex11, h⟩ := bnd h
      refine pw_get (pc := 53) F 9 15 51 (by decide) (by decide) g_948f79b8fe inl_9 2 rfl dX9_areLike_53 ex11 ?_
      refine pw_iload (pc := 56) F dX9_areLike_56 rfl ?_
      obtain ⟨x12, ex12, h⟩ := bnd h
      refine pw_lald (pc := 58) F dX9_areLike_58 ex12 ?_
      refine pw_lcmp (pc := 59) F dX9_areLike_59 ?_
      refine pw_if_ne (pc := 60) F 67 dX9_areLike_60 (by decide) (fun hc => ?_) (fun hc => ?_)
      · have h := iteT hc h
        refine pw_iconst (pc := 67) F 0 dX9_areLike_67 (by decide) ?_
        cases h
        exact pw_zret (pc := 68) F q (by decide) dX9_areLike_68
      · have h := iteF hc h
        exact pw_mask [false, false, false, false, false, false, false] (ls' := [none, none, none, none, none, none, none]) rfl (jX9_areLike_63_ok F q hn hf hl  z2.2 h)
/-! HouseholdVaultModel.areDouble(II)Z -/
theorem dX9_areDouble_0 : decode cX9_areDouble 0 = .ok (.iconst 0, 1) := by decide +kernel
theorem dX9_areDouble_1 : decode cX9_areDouble 1 = .ok (.istore_n 3, 1) := by decide +kernel
theorem dX9_areDouble_2 : decode cX9_areDouble 2 = .ok (.iconst 1, 1) := by decide +kernel
theorem dX9_areDouble_3 : decode cX9_areDouble 3 = .ok (.istore 4, 2) := by decide +kernel
theorem dX9_areDouble_5 : decode cX9_areDouble 5 = .ok (.iconst 0, 1) := by decide +kernel
theorem dX9_areDouble_6 : decode cX9_areDouble 6 = .ok (.istore 5, 2) := by decide +kernel
theorem dX9_areDouble_8 : decode cX9_areDouble 8 = .ok (.iload 5, 2) := by decide +kernel
theorem dX9_areDouble_10 : decode cX9_areDouble 10 = .ok (.aload_n 0, 1) := by decide +kernel
theorem dX9_areDouble_11 : decode cX9_areDouble 11 = .ok (.getfield 136, 3) := by decide +kernel
theorem dX9_areDouble_14 : decode cX9_areDouble 14 = .ok (.if_icmp .ge 37, 3) := by decide +kernel
theorem dX9_areDouble_17 : decode cX9_areDouble 17 = .ok (.iload 4, 2) := by decide +kernel
theorem dX9_areDouble_19 : decode cX9_areDouble 19 = .ok (.ifCond .eq 32, 3) := by decide +kernel
theorem dX9_areDouble_22 : decode cX9_areDouble 22 = .ok (.aload_n 0, 1) := by decide +kernel
theorem dX9_areDouble_23 : decode cX9_areDouble 23 = .ok (.getfield 28, 3) := by decide +kernel
theorem dX9_areDouble_26 : decode cX9_areDouble 26 = .ok (.iload 5, 2) := by decide +kernel
theorem dX9_areDouble_28 : decode cX9_areDouble 28 = .ok (.baload, 1) := by decide +kernel
theorem dX9_areDouble_29 : decode cX9_areDouble 29 = .ok (.ifCond .eq 16, 3) := by decide +kernel
theorem dX9_areDouble_32 : decode cX9_areDouble 32 = .ok (.iconst 1, 1) := by decide +kernel
theorem dX9_areDouble_33 : decode cX9_areDouble 33 = .ok (.istore_n 3, 1) := by decide +kernel
theorem dX9_areDouble_34 : decode cX9_areDouble 34 = .ok (.aload_n 0, 1) := by decide +kernel
theorem dX9_areDouble_35 : decode cX9_areDouble 35 = .ok (.iload_n 1, 1) := by decide +kernel
theorem dX9_areDouble_36 : decode cX9_areDouble 36 = .ok (.iload_n 2, 1) := by decide +kernel
theorem dX9_areDouble_37 : decode cX9_areDouble 37 = .ok (.iload 5, 2) := by decide +kernel
theorem dX9_areDouble_39 : decode cX9_areDouble 39 = .ok (.iconst 0, 1) := by decide +kernel
theorem dX9_areDouble_40 : decode cX9_areDouble 40 = .ok (.invokevirtual 306, 3) := by decide +kernel
theorem dX9_areDouble_43 : decode cX9_areDouble 43 = .ok (.istore 4, 2) := by decide +kernel
theorem dX9_areDouble_45 : decode cX9_areDouble 45 = .ok (.iinc 5 1, 3) := by decide +kernel
theorem dX9_areDouble_48 : decode cX9_areDouble 48 = .ok (.goto (-40), 3) := by decide +kernel
theorem dX9_areDouble_51 : decode cX9_areDouble 51 = .ok (.iconst 0, 1) := by decide +kernel
theorem dX9_areDouble_52 : decode cX9_areDouble 52 = .ok (.istore 5, 2) := by decide +kernel
theorem dX9_areDouble_54 : decode cX9_areDouble 54 = .ok (.iload 5, 2) := by decide +kernel
theorem dX9_areDouble_56 : decode cX9_areDouble 56 = .ok (.aload_n 0, 1) := by decide +kernel
theorem dX9_areDouble_57 : decode cX9_areDouble 57 = .ok (.getfield 136, 3) := by decide +kernel
theorem dX9_areDouble_60 : decode cX9_areDouble 60 = .ok (.if_icmp .ge 92, 3) := by decide +kernel
theorem dX9_areDouble_63 : decode cX9_areDouble 63 = .ok (.iload 4, 2) := by decide +kernel
theorem dX9_areDouble_65 : decode cX9_areDouble 65 = .ok (.ifCond .eq 87, 3) := by decide +kernel
theorem dX9_areDouble_68 : decode cX9_areDouble 68 = .ok (.aload_n 0, 1) := by decide +kernel
theorem dX9_areDouble_69 : decode cX9_areDouble 69 = .ok (.getfield 13, 3) := by decide +kernel
theorem dX9_areDouble_72 : decode cX9_areDouble 72 = .ok (.iload 5, 2) := by decide +kernel
theorem dX9_areDouble_74 : decode cX9_areDouble 74 = .ok (.iaload, 1) := by decide +kernel
theorem dX9_areDouble_75 : decode cX9_areDouble 75 = .ok (.ifCond .lt 71, 3) := by decide +kernel
theorem dX9_areDouble_78 : decode cX9_areDouble 78 = .ok (.aload_n 0, 1) := by decide +kernel
theorem dX9_areDouble_79 : decode cX9_areDouble 79 = .ok (.getfield 16, 3) := by decide +kernel
theorem dX9_areDouble_82 : decode cX9_areDouble 82 = .ok (.iload 5, 2) := by decide +kernel
theorem dX9_areDouble_84 : decode cX9_areDouble 84 = .ok (.iaload, 1) := by decide +kernel
theorem dX9_areDouble_85 : decode cX9_areDouble 85 = .ok (.ifCond .ne 61, 3) := by decide +kernel
theorem dX9_areDouble_88 : decode cX9_areDouble 88 = .ok (.aload_n 0, 1) := by decide +kernel
theorem dX9_areDouble_89 : decode cX9_areDouble 89 = .ok (.getfield 28, 3) := by decide +kernel
theorem dX9_areDouble_92 : decode cX9_areDouble 92 = .ok (.aload_n 0, 1) := by decide +kernel
theorem dX9_areDouble_93 : decode cX9_areDouble 93 = .ok (.getfield 13, 3) := by decide +kernel
theorem dX9_areDouble_96 : decode cX9_areDouble 96 = .ok (.iload 5, 2) := by decide +kernel
theorem dX9_areDouble_98 : decode cX9_areDouble 98 = .ok (.iaload, 1) := by decide +kernel
theorem dX9_areDouble_99 : decode cX9_areDouble 99 = .ok (.baload, 1) := by decide +kernel
theorem dX9_areDouble_100 : decode cX9_areDouble 100 = .ok (.ifCond .eq 46, 3) := by decide +kernel
theorem dX9_areDouble_103 : decode cX9_areDouble 103 = .ok (.iconst 1, 1) := by decide +kernel
theorem dX9_areDouble_104 : decode cX9_areDouble 104 = .ok (.istore 6, 2) := by decide +kernel
theorem dX9_areDouble_106 : decode cX9_areDouble 106 = .ok (.iload 6, 2) := by decide +kernel
theorem dX9_areDouble_108 : decode cX9_areDouble 108 = .ok (.aload_n 0, 1) := by decide +kernel
theorem dX9_areDouble_109 : decode cX9_areDouble 109 = .ok (.iload_n 1, 1) := by decide +kernel
theorem dX9_areDouble_110 : decode cX9_areDouble 110 = .ok (.aload_n 0, 1) := by decide +kernel
theorem dX9_areDouble_111 : decode cX9_areDouble 111 = .ok (.getfield 13, 3) := by decide +kernel
theorem dX9_areDouble_114 : decode cX9_areDouble 114 = .ok (.iload 5, 2) := by decide +kernel
theorem dX9_areDouble_116 : decode cX9_areDouble 116 = .ok (.iaload, 1) := by decide +kernel
theorem dX9_areDouble_117 : decode cX9_areDouble 117 = .ok (.invokevirtual 184, 3) := by decide +kernel
theorem dX9_areDouble_120 : decode cX9_areDouble 120 = .ok (.if_icmp .gt 26, 3) := by decide +kernel
theorem dX9_areDouble_123 : decode cX9_areDouble 123 = .ok (.iload 4, 2) := by decide +kernel
theorem dX9_areDouble_125 : decode cX9_areDouble 125 = .ok (.ifCond .eq 21, 3) := by decide +kernel
theorem dX9_areDouble_128 : decode cX9_areDouble 128 = .ok (.aload_n 0, 1) := by decide +kernel
theorem dX9_areDouble_129 : decode cX9_areDouble 129 = .ok (.iload_n 1, 1) := by decide +kernel
theorem dX9_areDouble_130 : decode cX9_areDouble 130 = .ok (.iload_n 2, 1) := by decide +kernel
theorem dX9_areDouble_131 : decode cX9_areDouble 131 = .ok (.iload 5, 2) := by decide +kernel
theorem dX9_areDouble_133 : decode cX9_areDouble 133 = .ok (.iload 6, 2) := by decide +kernel
theorem dX9_areDouble_135 : decode cX9_areDouble 135 = .ok (.invokevirtual 306, 3) := by decide +kernel
theorem dX9_areDouble_138 : decode cX9_areDouble 138 = .ok (.istore 4, 2) := by decide +kernel
theorem dX9_areDouble_140 : decode cX9_areDouble 140 = .ok (.iinc 6 1, 3) := by decide +kernel
theorem dX9_areDouble_143 : decode cX9_areDouble 143 = .ok (.goto (-37), 3) := by decide +kernel
theorem dX9_areDouble_146 : decode cX9_areDouble 146 = .ok (.iinc 5 1, 3) := by decide +kernel
theorem dX9_areDouble_149 : decode cX9_areDouble 149 = .ok (.goto (-95), 3) := by decide +kernel
theorem dX9_areDouble_152 : decode cX9_areDouble 152 = .ok (.iload_n 3, 1) := by decide +kernel
theorem dX9_areDouble_153 : decode cX9_areDouble 153 = .ok (.ifCond .eq 12, 3) := by decide +kernel
theorem dX9_areDouble_156 : decode cX9_areDouble 156 = .ok (.iload 4, 2) := by decide +kernel
theorem dX9_areDouble_158 : decode cX9_areDouble 158 = .ok (.ifCond .eq 7, 3) := by decide +kernel
theorem dX9_areDouble_161 : decode cX9_areDouble 161 = .ok (.iconst 1, 1) := by decide +kernel
theorem dX9_areDouble_162 : decode cX9_areDouble 162 = .ok (.goto 4, 3) := by decide +kernel
theorem dX9_areDouble_165 : decode cX9_areDouble 165 = .ok (.iconst 0, 1) := by decide +kernel
theorem dX9_areDouble_166 : decode cX9_areDouble 166 = .ok (.ireturn, 1) := by decide +kernel
def jX9_areDouble_152 (p3 p4 : Int) (H : PH) : RO :=
  (if p3 = 0 then some (0, H)
  else (if p4 = 0 then some (0, H)
  else some (1, H)))
set_option maxHeartbeats 4000000 in
theorem jX9_areDouble_152_ok {E : PE} {rr : Int} {HH : PH} (F : FX E cX9_areDouble RX9) (q : QE E (some (vi rr)) HH (some .boolean)) (hn : nLof E = 7) (hf : (roomOf E).frames = 2) (hl : (roomOf E).locals = 48) (p3 p4 : Int) (H : PH) (h : jX9_areDouble_152 p3 p4 H = some (rr, HH)) : PW E 152 [none, none, none, some (vi p3), some (vi p4), none, none] [] H := by
  unfold jX9_areDouble_152 at h
  refine pw_iload_n (pc := 152) F dX9_areDouble_152 rfl ?_
  refine pw_if_eq (pc := 153) F 165 dX9_areDouble_153 (by decide) (fun hc => ?_) (fun hc => ?_)
  · have h := iteT hc h
    refine pw_iconst (pc := 165) F 0 dX9_areDouble_165 (by decide) ?_
    cases h
    exact pw_zret (pc := 166) F q (by decide) dX9_areDouble_166
  · have h := iteF hc h
    refine pw_iload (pc := 156) F dX9_areDouble_156 rfl ?_
    refine pw_if_eq (pc := 158) F 165 dX9_areDouble_158 (by decide) (fun hc => ?_) (fun hc => ?_)
    · have h := iteT hc h
      refine pw_iconst (pc := 165) F 0 dX9_areDouble_165 (by decide) ?_
      cases h
      exact pw_zret (pc := 166) F q (by decide) dX9_areDouble_166
    · have h := iteF hc h
      refine pw_iconst (pc := 161) F 1 dX9_areDouble_161 (by decide) ?_
      refine pw_goto (pc := 162) F 166 dX9_areDouble_162 (by decide) ?_
      cases h
      exact pw_zret (pc := 166) F q (by decide) dX9_areDouble_166
def jX9_areDouble_146 (self54 : Int → Int → PH → RO) (p0 p1 p2 p3 p4 p5 : Int) (H : PH) : RO :=
  self54 p4 (w32 (p5 + 1)) H
set_option maxHeartbeats 4000000 in
theorem jX9_areDouble_146_ok {E : PE} {rr : Int} {HH : PH} (F : FX E cX9_areDouble RX9) (q : QE E (some (vi rr)) HH (some .boolean)) (hn : nLof E = 7) (hf : (roomOf E).frames = 2) (hl : (roomOf E).locals = 48) (self54 : Int → Int → PH → RO) (p0 p1 p2 p3 p4 p5 : Int) (H : PH) (ih54 : ∀ (v4 v5 : Int) (HV : PH), self54 v4 v5 HV = some (rr, HH) → PW E 54 [some (vr p0), some (vi p1), some (vi p2), some (vi p3), some (vi v4), some (vi v5), none] [] HV) (h : jX9_areDouble_146 self54 p0 p1 p2 p3 p4 p5 H = some (rr, HH)) : PW E 146 [some (vr p0), some (vi p1), some (vi p2), some (vi p3), some (vi p4), some (vi p5), none] [] H := by
  unfold jX9_areDouble_146 at h
  refine pw_iinc (pc := 146) F dX9_areDouble_146 rfl (lt_nl hn (by decide)) [some (vr p0), some (vi p1), some (vi p2), some (vi p3), some (vi p4), some (vi (w32 (p5 + 1))), none] rfl (by decide) ?_
  refine pw_goto (pc := 149) F 54 dX9_areDouble_149 (by decide) ?_
  exact pw_mask [true, true, true, true, true, true, true] (ls' := [some (vr p0), some (vi p1), some (vi p2), some (vi p3), some (vi p4), some (vi (w32 (p5 + 1))), none]) rfl (ih54 p4 (w32 (p5 + 1)) H h)
def lX9_areDouble_106 (self54 : Int → Int → PH → RO) (p0 p1 p2 p3 p5 : Int) (self106 : Int → Int → PH → RO) (p4 p6 : Int) (H : PH) : RO :=
  (ld 25 H p0 2).bind fun x1 => (ld 0 H x1 p5).bind fun x2 => (f_X9_persons p0 p1 x2 H).bind fun z3 => (if p6 > z3.1 then jX9_areDouble_146 self54 p0 p1 p2 p3 p4 p5 z3.2
  else (if p4 = 0 then jX9_areDouble_146 self54 p0 p1 p2 p3 p4 p5 z3.2
  else (f_X9_areLike p0 p1 p2 p5 p6 z3.2).bind fun z4 => self106 z4.1 (w32 (p6 + 1)) z4.2))
set_option maxHeartbeats 4000000 in
theorem lX9_areDouble_106_ok {E : PE} {rr : Int} {HH : PH} (F : FX E cX9_areDouble RX9) (q : QE E (some (vi rr)) HH (some .boolean)) (hn : nLof E = 7) (hf : (roomOf E).frames = 2) (hl : (roomOf E).locals = 48) (self54 : Int → Int → PH → RO) (p0 p1 p2 p3 p5 : Int) (ih54 : ∀ (v4 v5 : Int) (HV : PH), self54 v4 v5 HV = some (rr, HH) → PW E 54 [some (vr p0), some (vi p1), some (vi p2), some (vi p3), some (vi v4), some (vi v5), none] [] HV) : ∀ (n : Nat) (p4 p6 : Int) (H : PH), lq2 (lX9_areDouble_106 self54 p0 p1 p2 p3 p5) n p4 p6 H = some (rr, HH) → PW E 106 [some (vr p0), some (vi p1), some (vi p2), some (vi p3), some (vi p4), some (vi p5), some (vi p6)] [] H := by
  refine lq2_ind (P := fun p4 p6 H => PW E 106 [some (vr p0), some (vi p1), some (vi p2), some (vi p3), some (vi p4), some (vi p5), some (vi p6)] [] H) ?_
  intro self106 ih106 p4 p6 H h
  unfold lX9_areDouble_106 at h
  refine pw_iload (pc := 106) F dX9_areDouble_106 rfl ?_
  refine pw_aload_n (pc := 108) F dX9_areDouble_108 rfl ?_
  refine pw_iload_n (pc := 109) F dX9_areDouble_109 rfl ?_
  refine pw_aload_n (pc := 110) F dX9_areDouble_110 rfl ?_
  obtain ⟨x1, ex1, h⟩ := bnd h
  refine pw_get (pc := 111) F 9 2 13 (by decide) (by decide) g_0c2899f53f inl_9 2 rfl dX9_areDouble_111 ex1 ?_
  refine pw_iload (pc := 114) F dX9_areDouble_114 rfl ?_
  obtain ⟨x2, ex2, h⟩ := bnd h
  refine pw_iald (pc := 116) F dX9_areDouble_116 ex2 ?_
  obtain ⟨z3, ez3, h⟩ := bnd h
  refine pw_callV (pc := 117) (as := [vi p1, vi x2]) (st := [vi p6]) (r := (some (vi z3.1))) F 184 9 (by decide) rfl (fun l => m_X9_persons l p0 p1 x2 H z3.1 z3.2 ez3) g_de33c5095d g_d70a88cf42 g_2197e2f2b8 g_2759d91faa g_c55f0dc1c5 hd_X9_persons (rm_ok hf hl (by decide) (by decide)) rfl (vm_spec ez3).1 dX9_areDouble_117 rfl (stk' := [vi z3.1, vi p6]) rfl ?_
  refine pw_icmp_gt (pc := 120) F 146 dX9_areDouble_120 (by decide) (fun hc => ?_) (fun hc => ?_)
  · have h := iteT hc h
    exact pw_mask [true, true, true, true, true, true, false] (ls' := [some (vr p0), some (vi p1), some (vi p2), some (vi p3), some (vi p4), some (vi p5), none]) rfl (jX9_areDouble_146_ok F q hn hf hl self54 p0 p1 p2 p3 p4 p5 z3.2 ih54 h)
  · have h := iteF hc h
    refine pw_iload (pc := 123) F dX9_areDouble_123 rfl ?_
    refine pw_if_eq (pc := 125) F 146 dX9_areDouble_125 (by decide) (fun hc => ?_) (fun hc => ?_)
    · have h := iteT hc h
      exact pw_mask [true, true, true, true, true, true, false] (ls' := [some (vr p0), some (vi p1), some (vi p2), some (vi p3), some (vi p4), some (vi p5), none]) rfl (jX9_areDouble_146_ok F q hn hf hl self54 p0 p1 p2 p3 p4 p5 z3.2 ih54 h)
    · have h := iteF hc h
      refine pw_aload_n (pc := 128) F dX9_areDouble_128 rfl ?_
      refine pw_iload_n (pc := 129) F dX9_areDouble_129 rfl ?_
      refine pw_iload_n (pc := 130) F dX9_areDouble_130 rfl ?_
      refine pw_iload (pc := 131) F dX9_areDouble_131 rfl ?_
      refine pw_iload (pc := 133) F dX9_areDouble_133 rfl ?_
      obtain ⟨z4, ez4, h⟩ := bnd h
      refine pw_callV (pc := 135) (as := [vi p1, vi p2, vi p5, vi p6]) (st := []) (r := (some (vi z4.1))) F 306 9 (by decide) rfl (fun l => m_X9_areLike l p0 p1 p2 p5 p6 z3.2 z4.1 z4.2 ez4) g_e38dbce6f2 g_35dcb62ee8 g_40377aece0 g_2759d91faa g_b3b37602a2 hd_X9_areLike (rm_ok hf hl (by decide) (by decide)) rfl (vm_spec ez4).1 dX9_areDouble_135 rfl (stk' := [vi z4.1]) rfl ?_
      refine pw_istore (pc := 138) F dX9_areDouble_138 (lt_nl hn (by decide)) [some (vr p0), some (vi p1), some (vi p2), some (vi p3), some (vi z4.1), some (vi p5), some (vi p6)] rfl ?_
      refine pw_iinc (pc := 140) F dX9_areDouble_140 rfl (lt_nl hn (by decide)) [some (vr p0), some (vi p1), some (vi p2), some (vi p3), some (vi z4.1), some (vi p5), some (vi (w32 (p6 + 1)))] rfl (by decide) ?_
      refine pw_goto (pc := 143) F 106 dX9_areDouble_143 (by decide) ?_
      exact pw_mask [true, true, true, true, true, true, true] (ls' := [some (vr p0), some (vi p1), some (vi p2), some (vi p3), some (vi z4.1), some (vi p5), some (vi (w32 (p6 + 1)))]) rfl (ih106 z4.1 (w32 (p6 + 1)) z4.2 h)
def lX9_areDouble_54 (p0 p1 p2 p3 : Int) (self54 : Int → Int → PH → RO) (p4 p5 : Int) (H : PH) : RO :=
  (ld 25 H p0 0).bind fun x1 => (if p5 ≥ x1 then jX9_areDouble_152 p3 p4 H
  else (if p4 = 0 then jX9_areDouble_152 p3 p4 H
  else (ld 25 H p0 2).bind fun x2 => (ld 0 H x2 p5).bind fun x3 => (if x3 < 0 then jX9_areDouble_146 self54 p0 p1 p2 p3 p4 p5 H
  else (ld 25 H p0 3).bind fun x4 => (ld 0 H x4 p5).bind fun x5 => (if x5 ≠ 0 then jX9_areDouble_146 self54 p0 p1 p2 p3 p4 p5 H
  else (ld 25 H p0 7).bind fun x6 => (ld 25 H p0 2).bind fun x7 => (ld 0 H x7 p5).bind fun x8 => (ld 2 H x6 x8).bind fun x9 => (if x9 = 0 then jX9_areDouble_146 self54 p0 p1 p2 p3 p4 p5 H
  else lq2 (lX9_areDouble_106 self54 p0 p1 p2 p3 p5) 6000 p4 1 H)))))
set_option maxHeartbeats 4000000 in
theorem lX9_areDouble_54_ok {E : PE} {rr : Int} {HH : PH} (F : FX E cX9_areDouble RX9) (q : QE E (some (vi rr)) HH (some .boolean)) (hn : nLof E = 7) (hf : (roomOf E).frames = 2) (hl : (roomOf E).locals = 48) (p0 p1 p2 p3 : Int) : ∀ (n : Nat) (p4 p5 : Int) (H : PH), lq2 (lX9_areDouble_54 p0 p1 p2 p3) n p4 p5 H = some (rr, HH) → PW E 54 [some (vr p0), some (vi p1), some (vi p2), some (vi p3), some (vi p4), some (vi p5), none] [] H := by
  refine lq2_ind (P := fun p4 p5 H => PW E 54 [some (vr p0), some (vi p1), some (vi p2), some (vi p3), some (vi p4), some (vi p5), none] [] H) ?_
  intro self54 ih54 p4 p5 H h
  unfold lX9_areDouble_54 at h
  refine pw_iload (pc := 54) F dX9_areDouble_54 rfl ?_
  refine pw_aload_n (pc := 56) F dX9_areDouble_56 rfl ?_
  obtain ⟨x1, ex1, h⟩ := bnd h
  refine pw_get (pc := 57) F 9 0 136 (by decide) (by decide) g_eb25be88a8 inl_9 0 rfl dX9_areDouble_57 ex1 ?_
  refine pw_icmp_ge (pc := 60) F 152 dX9_areDouble_60 (by decide) (fun hc => ?_) (fun hc => ?_)
  · have h := iteT hc h
    exact pw_mask [false, false, false, true, true, false, true] (ls' := [none, none, none, some (vi p3), some (vi p4), none, none]) rfl (jX9_areDouble_152_ok F q hn hf hl p3 p4 H h)
  · have h := iteF hc h
    refine pw_iload (pc := 63) F dX9_areDouble_63 rfl ?_
    refine pw_if_eq (pc := 65) F 152 dX9_areDouble_65 (by decide) (fun hc => ?_) (fun hc => ?_)
    · have h := iteT hc h
      exact pw_mask [false, false, false, true, true, false, true] (ls' := [none, none, none, some (vi p3), some (vi p4), none, none]) rfl (jX9_areDouble_152_ok F q hn hf hl p3 p4 H h)
    · have h := iteF hc h
      refine pw_aload_n (pc := 68) F dX9_areDouble_68 rfl ?_
      obtain ⟨x2, ex2, h⟩ := bnd h
      refine pw_get (pc := 69) F 9 2 13 (by decide) (by decide) g_0c2899f53f inl_9 2 rfl dX9_areDouble_69 ex2 ?_
      refine pw_iload (pc := 72) F dX9_areDouble_72 rfl ?_
      obtain ⟨x3, ex3, h⟩ := bnd h
      refine pw_iald (pc := 74) F dX9_areDouble_74 ex3 ?_
      refine pw_if_lt (pc := 75) F 146 dX9_areDouble_75 (by decide) (fun hc => ?_) (fun hc => ?_)
      · have h := iteT hc h
        exact pw_mask [true, true, true, true, true, true, true] (ls' := [some (vr p0), some (vi p1), some (vi p2), some (vi p3), some (vi p4), some (vi p5), none]) rfl (jX9_areDouble_146_ok F q hn hf hl self54 p0 p1 p2 p3 p4 p5 H ih54 h)
      · have h := iteF hc h
        refine pw_aload_n (pc := 78) F dX9_areDouble_78 rfl ?_
        obtain ⟨x4, ex4, h⟩ := bnd h
        refine pw_get (pc := 79) F 9 3 16 (by decide) (by decide) g_bd19d270ba inl_9 2 rfl dX9_areDouble_79 ex4 ?_
        refine pw_iload (pc := 82) F dX9_areDouble_82 rfl ?_
        obtain ⟨x5, ex5, h⟩ := bnd h
        refine pw_iald (pc := 84) F dX9_areDouble_84 ex5 ?_
        refine pw_if_ne (pc := 85) F 146 dX9_areDouble_85 (by decide) (fun hc => ?_) (fun hc => ?_)
        · have h := iteT hc h
          exact pw_mask [true, true, true, true, true, true, true] (ls' := [some (vr p0), some (vi p1), some (vi p2), some (vi p3), some (vi p4), some (vi p5), none]) rfl (jX9_areDouble_146_ok F q hn hf hl self54 p0 p1 p2 p3 p4 p5 H ih54 h)
        · have h := iteF hc h
          refine pw_aload_n (pc := 88) F dX9_areDouble_88 rfl ?_
          obtain ⟨x6, ex6, h⟩ := bnd h
          refine pw_get (pc := 89) F 9 7 28 (by decide) (by decide) g_993ceefc50 inl_9 2 rfl dX9_areDouble_89 ex6 ?_
          refine pw_aload_n (pc := 92) F dX9_areDouble_92 rfl ?_
          obtain ⟨x7, ex7, h⟩ := bnd h
          refine pw_get (pc := 93) F 9 2 13 (by decide) (by decide) g_0c2899f53f inl_9 2 rfl dX9_areDouble_93 ex7 ?_
          refine pw_iload (pc := 96) F dX9_areDouble_96 rfl ?_
          obtain ⟨x8, ex8, h⟩ := bnd h
          refine pw_iald (pc := 98) F dX9_areDouble_98 ex8 ?_
          obtain ⟨x9, ex9, h⟩ := bnd h
          refine pw_zald (pc := 99) F dX9_areDouble_99 ex9 ?_
          refine pw_if_eq (pc := 100) F 146 dX9_areDouble_100 (by decide) (fun hc => ?_) (fun hc => ?_)
          · have h := iteT hc h
            exact pw_mask [true, true, true, true, true, true, true] (ls' := [some (vr p0), some (vi p1), some (vi p2), some (vi p3), some (vi p4), some (vi p5), none]) rfl (jX9_areDouble_146_ok F q hn hf hl self54 p0 p1 p2 p3 p4 p5 H ih54 h)
          · have h := iteF hc h
            refine pw_iconst (pc := 103) F 1 dX9_areDouble_103 (by decide) ?_
            refine pw_istore (pc := 104) F dX9_areDouble_104 (lt_nl hn (by decide)) [some (vr p0), some (vi p1), some (vi p2), some (vi p3), some (vi p4), some (vi p5), some (vi 1)] rfl ?_
            exact pw_mask [true, true, true, true, true, true, true] (ls' := [some (vr p0), some (vi p1), some (vi p2), some (vi p3), some (vi p4), some (vi p5), some (vi 1)]) rfl (lX9_areDouble_106_ok F q hn hf hl self54 p0 p1 p2 p3 p5 ih54  6000 p4 1 H h)
def jX9_areDouble_51 (p0 p1 p2 p3 p4 : Int) (H : PH) : RO :=
  lq2 (lX9_areDouble_54 p0 p1 p2 p3) 6000 p4 0 H
set_option maxHeartbeats 4000000 in
theorem jX9_areDouble_51_ok {E : PE} {rr : Int} {HH : PH} (F : FX E cX9_areDouble RX9) (q : QE E (some (vi rr)) HH (some .boolean)) (hn : nLof E = 7) (hf : (roomOf E).frames = 2) (hl : (roomOf E).locals = 48) (p0 p1 p2 p3 p4 : Int) (H : PH) (h : jX9_areDouble_51 p0 p1 p2 p3 p4 H = some (rr, HH)) : PW E 51 [some (vr p0), some (vi p1), some (vi p2), some (vi p3), some (vi p4), none, none] [] H := by
  unfold jX9_areDouble_51 at h
  refine pw_iconst (pc := 51) F 0 dX9_areDouble_51 (by decide) ?_
  refine pw_istore (pc := 52) F dX9_areDouble_52 (lt_nl hn (by decide)) [some (vr p0), some (vi p1), some (vi p2), some (vi p3), some (vi p4), some (vi 0), none] rfl ?_
  exact pw_mask [true, true, true, true, true, true, true] (ls' := [some (vr p0), some (vi p1), some (vi p2), some (vi p3), some (vi p4), some (vi 0), none]) rfl (lX9_areDouble_54_ok F q hn hf hl p0 p1 p2 p3  6000 p4 0 H h)
def jX9_areDouble_45 (self8 : Int → Int → Int → PH → RO) (p0 p1 p2 p3 p4 p5 : Int) (H : PH) : RO :=
  self8 p3 p4 (w32 (p5 + 1)) H
set_option maxHeartbeats 4000000 in
theorem jX9_areDouble_45_ok {E : PE} {rr : Int} {HH : PH} (F : FX E cX9_areDouble RX9) (q : QE E (some (vi rr)) HH (some .boolean)) (hn : nLof E = 7) (hf : (roomOf E).frames = 2) (hl : (roomOf E).locals = 48) (self8 : Int → Int → Int → PH → RO) (p0 p1 p2 p3 p4 p5 : Int) (H : PH) (ih8 : ∀ (v3 v4 v5 : Int) (HV : PH), self8 v3 v4 v5 HV = some (rr, HH) → PW E 8 [some (vr p0), some (vi p1), some (vi p2), some (vi v3), some (vi v4), some (vi v5), none] [] HV) (h : jX9_areDouble_45 self8 p0 p1 p2 p3 p4 p5 H = some (rr, HH)) : PW E 45 [some (vr p0), some (vi p1), some (vi p2), some (vi p3), some (vi p4), some (vi p5), none] [] H := by
  unfold jX9_areDouble_45 at h
  refine pw_iinc (pc := 45) F dX9_areDouble_45 rfl (lt_nl hn (by decide)) [some (vr p0), some (vi p1), some (vi p2), some (vi p3), some (vi p4), some (vi (w32 (p5 + 1))), none] rfl (by decide) ?_
  refine pw_goto (pc := 48) F 8 dX9_areDouble_48 (by decide) ?_
  exact pw_mask [true, true, true, true, true, true, true] (ls' := [some (vr p0), some (vi p1), some (vi p2), some (vi p3), some (vi p4), some (vi (w32 (p5 + 1))), none]) rfl (ih8 p3 p4 (w32 (p5 + 1)) H h)
def lX9_areDouble_8 (p0 p1 p2 : Int) (self8 : Int → Int → Int → PH → RO) (p3 p4 p5 : Int) (H : PH) : RO :=
  (ld 25 H p0 0).bind fun x1 => (if p5 ≥ x1 then jX9_areDouble_51 p0 p1 p2 p3 p4 H
  else (if p4 = 0 then jX9_areDouble_51 p0 p1 p2 p3 p4 H
  else (ld 25 H p0 7).bind fun x2 => (ld 2 H x2 p5).bind fun x3 => (if x3 = 0 then jX9_areDouble_45 self8 p0 p1 p2 p3 p4 p5 H
  else (f_X9_areLike p0 p1 p2 p5 0 H).bind fun z4 => jX9_areDouble_45 self8 p0 p1 p2 1 z4.1 p5 z4.2)))
set_option maxHeartbeats 4000000 in
theorem lX9_areDouble_8_ok {E : PE} {rr : Int} {HH : PH} (F : FX E cX9_areDouble RX9) (q : QE E (some (vi rr)) HH (some .boolean)) (hn : nLof E = 7) (hf : (roomOf E).frames = 2) (hl : (roomOf E).locals = 48) (p0 p1 p2 : Int) : ∀ (n : Nat) (p3 p4 p5 : Int) (H : PH), lq3 (lX9_areDouble_8 p0 p1 p2) n p3 p4 p5 H = some (rr, HH) → PW E 8 [some (vr p0), some (vi p1), some (vi p2), some (vi p3), some (vi p4), some (vi p5), none] [] H := by
  refine lq3_ind (P := fun p3 p4 p5 H => PW E 8 [some (vr p0), some (vi p1), some (vi p2), some (vi p3), some (vi p4), some (vi p5), none] [] H) ?_
  intro self8 ih8 p3 p4 p5 H h
  unfold lX9_areDouble_8 at h
  refine pw_iload (pc := 8) F dX9_areDouble_8 rfl ?_
  refine pw_aload_n (pc := 10) F dX9_areDouble_10 rfl ?_
  obtain ⟨x1, ex1, h⟩ := bnd h
  refine pw_get (pc := 11) F 9 0 136 (by decide) (by decide) g_eb25be88a8 inl_9 0 rfl dX9_areDouble_11 ex1 ?_
  refine pw_icmp_ge (pc := 14) F 51 dX9_areDouble_14 (by decide) (fun hc => ?_) (fun hc => ?_)
  · have h := iteT hc h
    exact pw_mask [true, true, true, true, true, false, true] (ls' := [some (vr p0), some (vi p1), some (vi p2), some (vi p3), some (vi p4), none, none]) rfl (jX9_areDouble_51_ok F q hn hf hl p0 p1 p2 p3 p4 H h)
  · have h := iteF hc h
    refine pw_iload (pc := 17) F dX9_areDouble_17 rfl ?_
    refine pw_if_eq (pc := 19) F 51 dX9_areDouble_19 (by decide) (fun hc => ?_) (fun hc => ?_)
    · have h := iteT hc h
      exact pw_mask [true, true, true, true, true, false, true] (ls' := [some (vr p0), some (vi p1), some (vi p2), some (vi p3), some (vi p4), none, none]) rfl (jX9_areDouble_51_ok F q hn hf hl p0 p1 p2 p3 p4 H h)
    · have h := iteF hc h
      refine pw_aload_n (pc := 22) F dX9_areDouble_22 rfl ?_
      obtain ⟨x2, ex2, h⟩ := bnd h
      refine pw_get (pc := 23) F 9 7 28 (by decide) (by decide) g_993ceefc50 inl_9 2 rfl dX9_areDouble_23 ex2 ?_
      refine pw_iload (pc := 26) F dX9_areDouble_26 rfl ?_
      obtain ⟨x3, ex3, h⟩ := bnd h
      refine pw_zald (pc := 28) F dX9_areDouble_28 ex3 ?_
      refine pw_if_eq (pc := 29) F 45 dX9_areDouble_29 (by decide) (fun hc => ?_) (fun hc => ?_)
      · have h := iteT hc h
        exact pw_mask [true, true, true, true, true, true, true] (ls' := [some (vr p0), some (vi p1), some (vi p2), some (vi p3), some (vi p4), some (vi p5), none]) rfl (jX9_areDouble_45_ok F q hn hf hl self8 p0 p1 p2 p3 p4 p5 H ih8 h)
      · have h := iteF hc h
        refine pw_iconst (pc := 32) F 1 dX9_areDouble_32 (by decide) ?_
        refine pw_istore_n (pc := 33) F dX9_areDouble_33 (lt_nl hn (by decide)) [some (vr p0), some (vi p1), some (vi p2), some (vi 1), some (vi p4), some (vi p5), none] rfl ?_
        refine pw_aload_n (pc := 34) F dX9_areDouble_34 rfl ?_
        refine pw_iload_n (pc := 35) F dX9_areDouble_35 rfl ?_
        refine pw_iload_n (pc := 36) F dX9_areDouble_36 rfl ?_
        refine pw_iload (pc := 37) F dX9_areDouble_37 rfl ?_
        refine pw_iconst (pc := 39) F 0 dX9_areDouble_39 (by decide) ?_
        obtain ⟨z4, ez4, h⟩ := bnd h
        refine pw_callV (pc := 40) (as := [vi p1, vi p2, vi p5, vi 0]) (st := []) (r := (some (vi z4.1))) F 306 9 (by decide) rfl (fun l => m_X9_areLike l p0 p1 p2 p5 0 H z4.1 z4.2 ez4) g_e38dbce6f2 g_35dcb62ee8 g_40377aece0 g_2759d91faa g_b3b37602a2 hd_X9_areLike (rm_ok hf hl (by decide) (by decide)) rfl (vm_spec ez4).1 dX9_areDouble_40 rfl (stk' := [vi z4.1]) rfl ?_
        refine pw_istore (pc := 43) F dX9_areDouble_43 (lt_nl hn (by decide)) [some (vr p0), some (vi p1), some (vi p2), some (vi 1), some (vi z4.1), some (vi p5), none] rfl ?_
        exact pw_mask [true, true, true, true, true, true, true] (ls' := [some (vr p0), some (vi p1), some (vi p2), some (vi 1), some (vi z4.1), some (vi p5), none]) rfl (jX9_areDouble_45_ok F q hn hf hl self8 p0 p1 p2 1 z4.1 p5 z4.2 ih8 h)
def f_X9_areDouble (a0 a1 a2 : Int) (H : PH) : RO := vm 9 a0 H <|
  lq3 (lX9_areDouble_8 a0 a1 a2) 6000 0 1 0 H
set_option maxHeartbeats 4000000 in
theorem m_X9_areDouble (l : Launch) (a0 a1 a2 : Int) (H : PH) (rr : Int) (HH : PH) (h : f_X9_areDouble a0 a1 a2 H = some (rr, HH)) : CT l yX9_areDouble cX9_areDouble 7 (some .boolean) 2 48 [vr a0, vi a1, vi a2] H (some (vi rr)) HH := by
  refine CT.of RX9 (by decide) rfl [some (vr a0), some (vi a1), some (vi a2), none, none, none, none] rfl rfl ?_
  intro E F q hn hf hl hm
  unfold f_X9_areDouble at h
  obtain ⟨hv, h⟩ := vm_spec h
  refine pw_iconst (pc := 0) F 0 dX9_areDouble_0 (by decide) ?_
  refine pw_istore_n (pc := 1) F dX9_areDouble_1 (lt_nl hn (by decide)) [some (vr a0), some (vi a1), some (vi a2), some (vi 0), none, none, none] rfl ?_
  refine pw_iconst (pc := 2) F 1 dX9_areDouble_2 (by decide) ?_
  refine pw_istore (pc := 3) F dX9_areDouble_3 (lt_nl hn (by decide)) [some (vr a0), some (vi a1), some (vi a2), some (vi 0), some (vi 1), none, none] rfl ?_
  refine pw_iconst (pc := 5) F 0 dX9_areDouble_5 (by decide) ?_
  refine pw_istore (pc := 6) F dX9_areDouble_6 (lt_nl hn (by decide)) [some (vr a0), some (vi a1), some (vi a2), some (vi 0), some (vi 1), some (vi 0), none] rfl ?_
  exact pw_mask [true, true, true, true, true, true, true] (ls' := [some (vr a0), some (vi a1), some (vi a2), some (vi 0), some (vi 1), some (vi 0), none]) rfl (lX9_areDouble_8_ok F q hn hf hl a0 a1 a2  6000 0 1 0 H h)
/-! HouseholdVaultModel.countDoubles(I)I -/
theorem dX9_countDoubles_0 : decode cX9_countDoubles 0 = .ok (.iconst 0, 1) := by decide +kernel
theorem dX9_countDoubles_1 : decode cX9_countDoubles 1 = .ok (.istore_n 2, 1) := by decide +kernel
theorem dX9_countDoubles_2 : decode cX9_countDoubles 2 = .ok (.iconst 0, 1) := by decide +kernel
theorem dX9_countDoubles_3 : decode cX9_countDoubles 3 = .ok (.istore_n 3, 1) := by decide +kernel
theorem dX9_countDoubles_4 : decode cX9_countDoubles 4 = .ok (.iload_n 3, 1) := by decide +kernel
theorem dX9_countDoubles_5 : decode cX9_countDoubles 5 = .ok (.aload_n 0, 1) := by decide +kernel
theorem dX9_countDoubles_6 : decode cX9_countDoubles 6 = .ok (.getfield 144, 3) := by decide +kernel
theorem dX9_countDoubles_9 : decode cX9_countDoubles 9 = .ok (.if_icmp .ge 58, 3) := by decide +kernel
theorem dX9_countDoubles_12 : decode cX9_countDoubles 12 = .ok (.iload_n 3, 1) := by decide +kernel
theorem dX9_countDoubles_13 : decode cX9_countDoubles 13 = .ok (.iconst 1, 1) := by decide +kernel
theorem dX9_countDoubles_14 : decode cX9_countDoubles 14 = .ok (.iadd, 1) := by decide +kernel
theorem dX9_countDoubles_15 : decode cX9_countDoubles 15 = .ok (.istore 4, 2) := by decide +kernel
theorem dX9_countDoubles_17 : decode cX9_countDoubles 17 = .ok (.iload 4, 2) := by decide +kernel
theorem dX9_countDoubles_19 : decode cX9_countDoubles 19 = .ok (.aload_n 0, 1) := by decide +kernel
theorem dX9_countDoubles_20 : decode cX9_countDoubles 20 = .ok (.getfield 144, 3) := by decide +kernel
theorem dX9_countDoubles_23 : decode cX9_countDoubles 23 = .ok (.if_icmp .ge 38, 3) := by decide +kernel
theorem dX9_countDoubles_26 : decode cX9_countDoubles 26 = .ok (.aload_n 0, 1) := by decide +kernel
theorem dX9_countDoubles_27 : decode cX9_countDoubles 27 = .ok (.iload_n 3, 1) := by decide +kernel
theorem dX9_countDoubles_28 : decode cX9_countDoubles 28 = .ok (.iload 4, 2) := by decide +kernel
theorem dX9_countDoubles_30 : decode cX9_countDoubles 30 = .ok (.invokevirtual 310, 3) := by decide +kernel
theorem dX9_countDoubles_33 : decode cX9_countDoubles 33 = .ok (.ifCond .eq 22, 3) := by decide +kernel
theorem dX9_countDoubles_36 : decode cX9_countDoubles 36 = .ok (.iload_n 2, 1) := by decide +kernel
theorem dX9_countDoubles_37 : decode cX9_countDoubles 37 = .ok (.iload_n 1, 1) := by decide +kernel
theorem dX9_countDoubles_38 : decode cX9_countDoubles 38 = .ok (.if_icmp .ne 14, 3) := by decide +kernel
theorem dX9_countDoubles_41 : decode cX9_countDoubles 41 = .ok (.aload_n 0, 1) := by decide +kernel
theorem dX9_countDoubles_42 : decode cX9_countDoubles 42 = .ok (.iload_n 3, 1) := by decide +kernel
theorem dX9_countDoubles_43 : decode cX9_countDoubles 43 = .ok (.putfield 245, 3) := by decide +kernel
theorem dX9_countDoubles_46 : decode cX9_countDoubles 46 = .ok (.aload_n 0, 1) := by decide +kernel
theorem dX9_countDoubles_47 : decode cX9_countDoubles 47 = .ok (.iload 4, 2) := by decide +kernel
theorem dX9_countDoubles_49 : decode cX9_countDoubles 49 = .ok (.putfield 248, 3) := by decide +kernel
theorem dX9_countDoubles_52 : decode cX9_countDoubles 52 = .ok (.iinc 2 1, 3) := by decide +kernel
theorem dX9_countDoubles_55 : decode cX9_countDoubles 55 = .ok (.iinc 4 1, 3) := by decide +kernel
theorem dX9_countDoubles_58 : decode cX9_countDoubles 58 = .ok (.goto (-41), 3) := by decide +kernel
theorem dX9_countDoubles_61 : decode cX9_countDoubles 61 = .ok (.iinc 3 1, 3) := by decide +kernel
theorem dX9_countDoubles_64 : decode cX9_countDoubles 64 = .ok (.goto (-60), 3) := by decide +kernel
theorem dX9_countDoubles_67 : decode cX9_countDoubles 67 = .ok (.iload_n 2, 1) := by decide +kernel
theorem dX9_countDoubles_68 : decode cX9_countDoubles 68 = .ok (.ireturn, 1) := by decide +kernel
def jX9_countDoubles_55 (self4 : Int → Int → PH → RO) (self17 : Int → Int → PH → RO) (p0 p1 p2 p3 p4 : Int) (H : PH) : RO :=
  self17 p2 (w32 (p4 + 1)) H
set_option maxHeartbeats 4000000 in
theorem jX9_countDoubles_55_ok {E : PE} {rr : Int} {HH : PH} (F : FX E cX9_countDoubles RX9) (q : QE E (some (vi rr)) HH (some .int)) (hn : nLof E = 5) (hf : (roomOf E).frames = 3) (hl : (roomOf E).locals = 74) (self4 : Int → Int → PH → RO) (self17 : Int → Int → PH → RO) (p0 p1 p2 p3 p4 : Int) (H : PH) (ih4 : ∀ (v2 v3 : Int) (HV : PH), self4 v2 v3 HV = some (rr, HH) → PW E 4 [some (vr p0), some (vi p1), some (vi v2), some (vi v3), none] [] HV) (ih17 : ∀ (v2 v4 : Int) (HV : PH), self17 v2 v4 HV = some (rr, HH) → PW E 17 [some (vr p0), some (vi p1), some (vi v2), some (vi p3), some (vi v4)] [] HV) (h : jX9_countDoubles_55 self4 self17 p0 p1 p2 p3 p4 H = some (rr, HH)) : PW E 55 [some (vr p0), some (vi p1), some (vi p2), some (vi p3), some (vi p4)] [] H := by
  unfold jX9_countDoubles_55 at h
  refine pw_iinc (pc := 55) F dX9_countDoubles_55 rfl (lt_nl hn (by decide)) [some (vr p0), some (vi p1), some (vi p2), some (vi p3), some (vi (w32 (p4 + 1)))] rfl (by decide) ?_
  refine pw_goto (pc := 58) F 17 dX9_countDoubles_58 (by decide) ?_
  exact pw_mask [true, true, true, true, true] (ls' := [some (vr p0), some (vi p1), some (vi p2), some (vi p3), some (vi (w32 (p4 + 1)))]) rfl (ih17 p2 (w32 (p4 + 1)) H h)
def jX9_countDoubles_52 (self4 : Int → Int → PH → RO) (self17 : Int → Int → PH → RO) (p0 p1 p2 p3 p4 : Int) (H : PH) : RO :=
  jX9_countDoubles_55 self4 self17 p0 p1 (w32 (p2 + 1)) p3 p4 H
set_option maxHeartbeats 4000000 in
theorem jX9_countDoubles_52_ok {E : PE} {rr : Int} {HH : PH} (F : FX E cX9_countDoubles RX9) (q : QE E (some (vi rr)) HH (some .int)) (hn : nLof E = 5) (hf : (roomOf E).frames = 3) (hl : (roomOf E).locals = 74) (self4 : Int → Int → PH → RO) (self17 : Int → Int → PH → RO) (p0 p1 p2 p3 p4 : Int) (H : PH) (ih4 : ∀ (v2 v3 : Int) (HV : PH), self4 v2 v3 HV = some (rr, HH) → PW E 4 [some (vr p0), some (vi p1), some (vi v2), some (vi v3), none] [] HV) (ih17 : ∀ (v2 v4 : Int) (HV : PH), self17 v2 v4 HV = some (rr, HH) → PW E 17 [some (vr p0), some (vi p1), some (vi v2), some (vi p3), some (vi v4)] [] HV) (h : jX9_countDoubles_52 self4 self17 p0 p1 p2 p3 p4 H = some (rr, HH)) : PW E 52 [some (vr p0), some (vi p1), some (vi p2), some (vi p3), some (vi p4)] [] H := by
  unfold jX9_countDoubles_52 at h
  refine pw_iinc (pc := 52) F dX9_countDoubles_52 rfl (lt_nl hn (by decide)) [some (vr p0), some (vi p1), some (vi (w32 (p2 + 1))), some (vi p3), some (vi p4)] rfl (by decide) ?_
  exact pw_mask [true, true, true, true, true] (ls' := [some (vr p0), some (vi p1), some (vi (w32 (p2 + 1))), some (vi p3), some (vi p4)]) rfl (jX9_countDoubles_55_ok F q hn hf hl self4 self17 p0 p1 (w32 (p2 + 1)) p3 p4 H ih4 ih17 h)
def lX9_countDoubles_17 (self4 : Int → Int → PH → RO) (p0 p1 p3 : Int) (self17 : Int → Int → PH → RO) (p2 p4 : Int) (H : PH) : RO :=
  (ld 25 H p0 14).bind fun x1 => (if p4 ≥ x1 then self4 p2 (w32 (p3 + 1)) H
  else (f_X9_areDouble p0 p3 p4 H).bind fun z2 => (if z2.1 = 0 then jX9_countDoubles_55 self4 self17 p0 p1 p2 p3 p4 z2.2
  else (if p2 ≠ p1 then jX9_countDoubles_52 self4 self17 p0 p1 p2 p3 p4 z2.2
  else (stv 25 z2.2 p0 46 p3).bind fun H3 => (stv 25 H3 p0 47 p4).bind fun H4 => jX9_countDoubles_52 self4 self17 p0 p1 p2 p3 p4 H4)))
set_option maxHeartbeats 4000000 in
theorem lX9_countDoubles_17_ok {E : PE} {rr : Int} {HH : PH} (F : FX E cX9_countDoubles RX9) (q : QE E (some (vi rr)) HH (some .int)) (hn : nLof E = 5) (hf : (roomOf E).frames = 3) (hl : (roomOf E).locals = 74) (self4 : Int → Int → PH → RO) (p0 p1 p3 : Int) (ih4 : ∀ (v2 v3 : Int) (HV : PH), self4 v2 v3 HV = some (rr, HH) → PW E 4 [some (vr p0), some (vi p1), some (vi v2), some (vi v3), none] [] HV) : ∀ (n : Nat) (p2 p4 : Int) (H : PH), lq2 (lX9_countDoubles_17 self4 p0 p1 p3) n p2 p4 H = some (rr, HH) → PW E 17 [some (vr p0), some (vi p1), some (vi p2), some (vi p3), some (vi p4)] [] H := by
  refine lq2_ind (P := fun p2 p4 H => PW E 17 [some (vr p0), some (vi p1), some (vi p2), some (vi p3), some (vi p4)] [] H) ?_
  intro self17 ih17 p2 p4 H h
  unfold lX9_countDoubles_17 at h
  refine pw_iload (pc := 17) F dX9_countDoubles_17 rfl ?_
  refine pw_aload_n (pc := 19) F dX9_countDoubles_19 rfl ?_
  obtain ⟨x1, ex1, h⟩ := bnd h
  refine pw_get (pc := 20) F 9 14 144 (by decide) (by decide) g_f4ed299937 inl_9 0 rfl dX9_countDoubles_20 ex1 ?_
  refine pw_icmp_ge (pc := 23) F 61 dX9_countDoubles_23 (by decide) (fun hc => ?_) (fun hc => ?_)
  · have h := iteT hc h
    refine pw_iinc (pc := 61) F dX9_countDoubles_61 rfl (lt_nl hn (by decide)) [some (vr p0), some (vi p1), some (vi p2), some (vi (w32 (p3 + 1))), some (vi p4)] rfl (by decide) ?_
    refine pw_goto (pc := 64) F 4 dX9_countDoubles_64 (by decide) ?_
    exact pw_mask [true, true, true, true, false] (ls' := [some (vr p0), some (vi p1), some (vi p2), some (vi (w32 (p3 + 1))), none]) rfl (ih4 p2 (w32 (p3 + 1)) H h)
  · have h := iteF hc h
    refine pw_aload_n (pc := 26) F dX9_countDoubles_26 rfl ?_
    refine pw_iload_n (pc := 27) F dX9_countDoubles_27 rfl ?_
    refine pw_iload (pc := 28) F dX9_countDoubles_28 rfl ?_
    obtain ⟨z2, ez2, h⟩ := bnd h
    refine pw_callV (pc := 30) (as := [vi p3, vi p4]) (st := []) (r := (some (vi z2.1))) F 310 9 (by decide) rfl (fun l => m_X9_areDouble l p0 p3 p4 H z2.1 z2.2 ez2) g_30ef6cf20e g_8b13c7edd8 g_ca3aa3001a g_2759d91faa g_7351feb6e4 hd_X9_areDouble (rm_ok hf hl (by decide) (by decide)) rfl (vm_spec ez2).1 dX9_countDoubles_30 rfl (stk' := [vi z2.1]) rfl ?_
    refine pw_if_eq (pc := 33) F 55 dX9_countDoubles_33 (by decide) (fun hc => ?_) (fun hc => ?_)
    · have h := iteT hc h
      exact pw_mask [true, true, true, true, true] (ls' := [some (vr p0), some (vi p1), some (vi p2), some (vi p3), some (vi p4)]) rfl (jX9_countDoubles_55_ok F q hn hf hl self4 self17 p0 p1 p2 p3 p4 z2.2 ih4 ih17 h)
    · have h := iteF hc h
      refine pw_iload_n (pc := 36) F dX9_countDoubles_36 rfl ?_
      refine pw_iload_n (pc := 37) F dX9_countDoubles_37 rfl ?_
      refine pw_icmp_ne (pc := 38) F 52 dX9_countDoubles_38 (by decide) (fun hc => ?_) (fun hc => ?_)
      · have h := iteT hc h
        exact pw_mask [true, true, true, true, true] (ls' := [some (vr p0), some (vi p1), some (vi p2), some (vi p3), some (vi p4)]) rfl (jX9_countDoubles_52_ok F q hn hf hl self4 self17 p0 p1 p2 p3 p4 z2.2 ih4 ih17 h)
      · have h := iteF hc h
        refine pw_aload_n (pc := 41) F dX9_countDoubles_41 rfl ?_
        refine pw_iload_n (pc := 42) F dX9_countDoubles_42 rfl ?_
        obtain ⟨H3, eH3, h⟩ := bnd h
        refine pw_put (pc := 43) F 9 46 245 (by decide) (by decide) g_5eda813601 inl_9 rfl 0 rfl dX9_countDoubles_43 trivial eH3 ?_
        refine pw_aload_n (pc := 46) F dX9_countDoubles_46 rfl ?_
        refine pw_iload (pc := 47) F dX9_countDoubles_47 rfl ?_
        obtain ⟨H4, eH4, h⟩ := bnd h
        refine pw_put (pc := 49) F 9 47 248 (by decide) (by decide) g_b49cc09124 inl_9 rfl 0 rfl dX9_countDoubles_49 trivial eH4 ?_
        exact pw_mask [true, true, true, true, true] (ls' := [some (vr p0), some (vi p1), some (vi p2), some (vi p3), some (vi p4)]) rfl (jX9_countDoubles_52_ok F q hn hf hl self4 self17 p0 p1 p2 p3 p4 H4 ih4 ih17 h)
def lX9_countDoubles_4 (p0 p1 : Int) (self4 : Int → Int → PH → RO) (p2 p3 : Int) (H : PH) : RO :=
  (ld 25 H p0 14).bind fun x1 => (if p3 ≥ x1 then some (p2, H)
  else lq2 (lX9_countDoubles_17 self4 p0 p1 p3) 6000 p2 (w32 (p3 + 1)) H)
set_option maxHeartbeats 4000000 in
theorem lX9_countDoubles_4_ok {E : PE} {rr : Int} {HH : PH} (F : FX E cX9_countDoubles RX9) (q : QE E (some (vi rr)) HH (some .int)) (hn : nLof E = 5) (hf : (roomOf E).frames = 3) (hl : (roomOf E).locals = 74) (p0 p1 : Int) : ∀ (n : Nat) (p2 p3 : Int) (H : PH), lq2 (lX9_countDoubles_4 p0 p1) n p2 p3 H = some (rr, HH) → PW E 4 [some (vr p0), some (vi p1), some (vi p2), some (vi p3), none] [] H := by
  refine lq2_ind (P := fun p2 p3 H => PW E 4 [some (vr p0), some (vi p1), some (vi p2), some (vi p3), none] [] H) ?_
  intro self4 ih4 p2 p3 H h
  unfold lX9_countDoubles_4 at h
  refine pw_iload_n (pc := 4) F dX9_countDoubles_4 rfl ?_
  refine pw_aload_n (pc := 5) F dX9_countDoubles_5 rfl ?_
  obtain ⟨x1, ex1, h⟩ := bnd h
  refine pw_get (pc := 6) F 9 14 144 (by decide) (by decide) g_f4ed299937 inl_9 0 rfl dX9_countDoubles_6 ex1 ?_
  refine pw_icmp_ge (pc := 9) F 67 dX9_countDoubles_9 (by decide) (fun hc => ?_) (fun hc => ?_)
  · have h := iteT hc h
    refine pw_iload_n (pc := 67) F dX9_countDoubles_67 rfl ?_
    cases h
    exact pw_iret (pc := 68) F q dX9_countDoubles_68
  · have h := iteF hc h
    refine pw_iload_n (pc := 12) F dX9_countDoubles_12 rfl ?_
    refine pw_iconst (pc := 13) F 1 dX9_countDoubles_13 (by decide) ?_
    refine pw_iadd (pc := 14) F dX9_countDoubles_14 ?_
    refine pw_istore (pc := 15) F dX9_countDoubles_15 (lt_nl hn (by decide)) [some (vr p0), some (vi p1), some (vi p2), some (vi p3), some (vi (w32 (p3 + 1)))] rfl ?_
    exact pw_mask [true, true, true, true, true] (ls' := [some (vr p0), some (vi p1), some (vi p2), some (vi p3), some (vi (w32 (p3 + 1)))]) rfl (lX9_countDoubles_17_ok F q hn hf hl self4 p0 p1 p3 ih4  6000 p2 (w32 (p3 + 1)) H h)
def f_X9_countDoubles (a0 a1 : Int) (H : PH) : RO := vm 9 a0 H <|
  lq2 (lX9_countDoubles_4 a0 a1) 6000 0 0 H
set_option maxHeartbeats 4000000 in
theorem m_X9_countDoubles (l : Launch) (a0 a1 : Int) (H : PH) (rr : Int) (HH : PH) (h : f_X9_countDoubles a0 a1 H = some (rr, HH)) : CT l yX9_countDoubles cX9_countDoubles 5 (some .int) 3 74 [vr a0, vi a1] H (some (vi rr)) HH := by
  refine CT.of RX9 (by decide) rfl [some (vr a0), some (vi a1), none, none, none] rfl rfl ?_
  intro E F q hn hf hl hm
  unfold f_X9_countDoubles at h
  obtain ⟨hv, h⟩ := vm_spec h
  refine pw_iconst (pc := 0) F 0 dX9_countDoubles_0 (by decide) ?_
  refine pw_istore_n (pc := 1) F dX9_countDoubles_1 (lt_nl hn (by decide)) [some (vr a0), some (vi a1), some (vi 0), none, none] rfl ?_
  refine pw_iconst (pc := 2) F 0 dX9_countDoubles_2 (by decide) ?_
  refine pw_istore_n (pc := 3) F dX9_countDoubles_3 (lt_nl hn (by decide)) [some (vr a0), some (vi a1), some (vi 0), some (vi 0), none] rfl ?_
  exact pw_mask [true, true, true, true, true] (ls' := [some (vr a0), some (vi a1), some (vi 0), some (vi 0), none]) rfl (lX9_countDoubles_4_ok F q hn hf hl a0 a1  6000 0 0 H h)
/-! HouseholdVaultModel.doubles()I -/
theorem dX9_doubles_0 : decode cX9_doubles 0 = .ok (.aload_n 0, 1) := by decide +kernel
theorem dX9_doubles_1 : decode cX9_doubles 1 = .ok (.iconst (-1), 1) := by decide +kernel
theorem dX9_doubles_2 : decode cX9_doubles 2 = .ok (.invokevirtual 313, 3) := by decide +kernel
theorem dX9_doubles_5 : decode cX9_doubles 5 = .ok (.ireturn, 1) := by decide +kernel
def f_X9_doubles (a0 : Int) (H : PH) : RO := vm 9 a0 H <|
  (f_X9_countDoubles a0 (-1) H).bind fun z1 => some (z1.1, z1.2)
set_option maxHeartbeats 4000000 in
theorem m_X9_doubles (l : Launch) (a0 : Int) (H : PH) (rr : Int) (HH : PH) (h : f_X9_doubles a0 H = some (rr, HH)) : CT l yX9_doubles cX9_doubles 1 (some .int) 4 98 [vr a0] H (some (vi rr)) HH := by
  refine CT.of RX9 (by decide) rfl [some (vr a0)] rfl rfl ?_
  intro E F q hn hf hl hm
  unfold f_X9_doubles at h
  obtain ⟨hv, h⟩ := vm_spec h
  refine pw_aload_n (pc := 0) F dX9_doubles_0 rfl ?_
  refine pw_iconst (pc := 1) F (-1) dX9_doubles_1 (by decide) ?_
  obtain ⟨z1, ez1, h⟩ := bnd h
  refine pw_callV (pc := 2) (as := [vi (-1)]) (st := []) (r := (some (vi z1.1))) F 313 9 (by decide) rfl (fun l => m_X9_countDoubles l a0 (-1) H z1.1 z1.2 ez1) g_a69e9cb8d1 g_3c8513a85e g_9b3e9fb0d8 g_2759d91faa g_d7b6962cae hd_X9_countDoubles (rm_ok hf hl (by decide) (by decide)) rfl (vm_spec ez1).1 dX9_doubles_2 rfl (stk' := [vi z1.1]) rfl ?_
  cases h
  exact pw_iret (pc := 5) F q dX9_doubles_5
/-! HouseholdVaultModel.doubleAt(II)I -/
theorem dX9_doubleAt_0 : decode cX9_doubleAt 0 = .ok (.iload_n 2, 1) := by decide +kernel
theorem dX9_doubleAt_1 : decode cX9_doubleAt 1 = .ok (.i2l, 1) := by decide +kernel
theorem dX9_doubleAt_2 : decode cX9_doubleAt 2 = .ok (.lconst 0, 1) := by decide +kernel
theorem dX9_doubleAt_3 : decode cX9_doubleAt 3 = .ok (.lconst 1, 1) := by decide +kernel
theorem dX9_doubleAt_4 : decode cX9_doubleAt 4 = .ok (.invokestatic 140, 3) := by decide +kernel
theorem dX9_doubleAt_7 : decode cX9_doubleAt 7 = .ok (.ifCond .eq 16, 3) := by decide +kernel
theorem dX9_doubleAt_10 : decode cX9_doubleAt 10 = .ok (.iload_n 1, 1) := by decide +kernel
theorem dX9_doubleAt_11 : decode cX9_doubleAt 11 = .ok (.ifCond .lt 12, 3) := by decide +kernel
theorem dX9_doubleAt_14 : decode cX9_doubleAt 14 = .ok (.iload_n 1, 1) := by decide +kernel
theorem dX9_doubleAt_15 : decode cX9_doubleAt 15 = .ok (.aload_n 0, 1) := by decide +kernel
theorem dX9_doubleAt_16 : decode cX9_doubleAt 16 = .ok (.iload_n 1, 1) := by decide +kernel
theorem dX9_doubleAt_17 : decode cX9_doubleAt 17 = .ok (.invokevirtual 313, 3) := by decide +kernel
theorem dX9_doubleAt_20 : decode cX9_doubleAt 20 = .ok (.if_icmp .lt 7, 3) := by decide +kernel
theorem dX9_doubleAt_23 : decode cX9_doubleAt 23 = .ok (.iconst (-1), 1) := by decide +kernel
theorem dX9_doubleAt_24 : decode cX9_doubleAt 24 = .ok (.goto 18, 3) := by decide +kernel
theorem dX9_doubleAt_27 : decode cX9_doubleAt 27 = .ok (.iload_n 2, 1) := by decide +kernel
theorem dX9_doubleAt_28 : decode cX9_doubleAt 28 = .ok (.ifCond .ne 10, 3) := by decide +kernel
theorem dX9_doubleAt_31 : decode cX9_doubleAt 31 = .ok (.aload_n 0, 1) := by decide +kernel
theorem dX9_doubleAt_32 : decode cX9_doubleAt 32 = .ok (.getfield 245, 3) := by decide +kernel
theorem dX9_doubleAt_35 : decode cX9_doubleAt 35 = .ok (.goto 7, 3) := by decide +kernel
theorem dX9_doubleAt_38 : decode cX9_doubleAt 38 = .ok (.aload_n 0, 1) := by decide +kernel
theorem dX9_doubleAt_39 : decode cX9_doubleAt 39 = .ok (.getfield 248, 3) := by decide +kernel
theorem dX9_doubleAt_42 : decode cX9_doubleAt 42 = .ok (.ireturn, 1) := by decide +kernel
def jX9_doubleAt_23 (H : PH) : RO :=
  some ((-1), H)
set_option maxHeartbeats 4000000 in
theorem jX9_doubleAt_23_ok {E : PE} {rr : Int} {HH : PH} (F : FX E cX9_doubleAt RX9) (q : QE E (some (vi rr)) HH (some .int)) (hn : nLof E = 3) (hf : (roomOf E).frames = 4) (hl : (roomOf E).locals = 98) (H : PH) (h : jX9_doubleAt_23  H = some (rr, HH)) : PW E 23 [none, none, none] [] H := by
  unfold jX9_doubleAt_23 at h
  refine pw_iconst (pc := 23) F (-1) dX9_doubleAt_23 (by decide) ?_
  refine pw_goto (pc := 24) F 42 dX9_doubleAt_24 (by decide) ?_
  cases h
  exact pw_iret (pc := 42) F q dX9_doubleAt_42
def f_X9_doubleAt (a0 a1 a2 : Int) (H : PH) : RO := vm 9 a0 H <|
  (f_X9_in a2 0 1 H).bind fun z1 => (if z1.1 = 0 then jX9_doubleAt_23  z1.2
  else (if a1 < 0 then jX9_doubleAt_23  z1.2
  else (f_X9_countDoubles a0 a1 z1.2).bind fun z2 => (if a1 < z2.1 then (if a2 ≠ 0 then (ld 25 z2.2 a0 47).bind fun x3 => some (x3, z2.2)
  else (ld 25 z2.2 a0 46).bind fun x4 => some (x4, z2.2))
  else jX9_doubleAt_23  z2.2)))
set_option maxHeartbeats 4000000 in
theorem m_X9_doubleAt (l : Launch) (a0 a1 a2 : Int) (H : PH) (rr : Int) (HH : PH) (h : f_X9_doubleAt a0 a1 a2 H = some (rr, HH)) : CT l yX9_doubleAt cX9_doubleAt 3 (some .int) 4 98 [vr a0, vi a1, vi a2] H (some (vi rr)) HH := by
  refine CT.of RX9 (by decide) rfl [some (vr a0), some (vi a1), some (vi a2)] rfl rfl ?_
  intro E F q hn hf hl hm
  unfold f_X9_doubleAt at h
  obtain ⟨hv, h⟩ := vm_spec h
  refine pw_iload_n (pc := 0) F dX9_doubleAt_0 rfl ?_
  refine pw_i2l (pc := 1) F dX9_doubleAt_1 ?_
  refine pw_lconst (pc := 2) F 0 dX9_doubleAt_2 (by decide) ?_
  refine pw_lconst (pc := 3) F 1 dX9_doubleAt_3 (by decide) ?_
  obtain ⟨z1, ez1, h⟩ := bnd h
  refine pw_callS (pc := 4) (as := [vl a2, vl 0, vl 1]) (st := []) (r := (some (vi z1.1))) F 140 (fun l => m_X9_in l a2 0 1 H z1.1 z1.2 ez1) g_0174c906e2 g_3fadeb3198 g_2759d91faa g_c0c30bc7de hd_X9_in (rm_ok hf hl (by decide) (by decide)) rfl dX9_doubleAt_4 rfl (stk' := [vi z1.1]) rfl ?_
  refine pw_if_eq (pc := 7) F 23 dX9_doubleAt_7 (by decide) (fun hc => ?_) (fun hc => ?_)
  · have h := iteT hc h
    exact pw_mask [false, false, false] (ls' := [none, none, none]) rfl (jX9_doubleAt_23_ok F q hn hf hl  z1.2 h)
  · have h := iteF hc h
    refine pw_iload_n (pc := 10) F dX9_doubleAt_10 rfl ?_
    refine pw_if_lt (pc := 11) F 23 dX9_doubleAt_11 (by decide) (fun hc => ?_) (fun hc => ?_)
    · have h := iteT hc h
      exact pw_mask [false, false, false] (ls' := [none, none, none]) rfl (jX9_doubleAt_23_ok F q hn hf hl  z1.2 h)
    · have h := iteF hc h
      refine pw_iload_n (pc := 14) F dX9_doubleAt_14 rfl ?_
      refine pw_aload_n (pc := 15) F dX9_doubleAt_15 rfl ?_
      refine pw_iload_n (pc := 16) F dX9_doubleAt_16 rfl ?_
      obtain ⟨z2, ez2, h⟩ := bnd h
      refine pw_callV (pc := 17) (as := [vi a1]) (st := [vi a1]) (r := (some (vi z2.1))) F 313 9 (by decide) rfl (fun l => m_X9_countDoubles l a0 a1 z1.2 z2.1 z2.2 ez2) g_a69e9cb8d1 g_3c8513a85e g_9b3e9fb0d8 g_2759d91faa g_d7b6962cae hd_X9_countDoubles (rm_ok hf hl (by decide) (by decide)) rfl (vm_spec ez2).1 dX9_doubleAt_17 rfl (stk' := [vi z2.1, vi a1]) rfl ?_
      refine pw_icmp_lt (pc := 20) F 27 dX9_doubleAt_20 (by decide) (fun hc => ?_) (fun hc => ?_)
      · have h := iteT hc h
        refine pw_iload_n (pc := 27) F dX9_doubleAt_27 rfl ?_
        refine pw_if_ne (pc := 28) F 38 dX9_doubleAt_28 (by decide) (fun hc => ?_) (fun hc => ?_)
        · have h := iteT hc h
          refine pw_aload_n (pc := 38) F dX9_doubleAt_38 rfl ?_
          obtain ⟨x3, ex3, h⟩ := bnd h
          refine pw_get (pc := 39) F 9 47 248 (by decide) (by decide) g_b49cc09124 inl_9 0 rfl dX9_doubleAt_39 ex3 ?_
          cases h
          exact pw_iret (pc := 42) F q dX9_doubleAt_42
        · have h := iteF hc h
          refine pw_aload_n (pc := 31) F dX9_doubleAt_31 rfl ?_
          obtain ⟨x4, ex4, h⟩ := bnd h
          refine pw_get (pc := 32) F 9 46 245 (by decide) (by decide) g_5eda813601 inl_9 0 rfl dX9_doubleAt_32 ex4 ?_
          refine pw_goto (pc := 35) F 42 dX9_doubleAt_35 (by decide) ?_
          cases h
          exact pw_iret (pc := 42) F q dX9_doubleAt_42
      · have h := iteF hc h
        exact pw_mask [false, false, false] (ls' := [none, none, none]) rfl (jX9_doubleAt_23_ok F q hn hf hl  z2.2 h)
/-! HouseholdVaultModel.freeze()I -/
theorem dX9_freeze_0 : decode cX9_freeze 0 = .ok (.aload_n 0, 1) := by decide +kernel
theorem dX9_freeze_1 : decode cX9_freeze 1 = .ok (.getfield 316, 3) := by decide +kernel
theorem dX9_freeze_4 : decode cX9_freeze 4 = .ok (.bipush 6, 2) := by decide +kernel
theorem dX9_freeze_6 : decode cX9_freeze 6 = .ok (.if_icmp .ne 6, 3) := by decide +kernel
theorem dX9_freeze_9 : decode cX9_freeze 9 = .ok (.bipush (-4), 2) := by decide +kernel
theorem dX9_freeze_11 : decode cX9_freeze 11 = .ok (.ireturn, 1) := by decide +kernel
theorem dX9_freeze_12 : decode cX9_freeze 12 = .ok (.iconst 0, 1) := by decide +kernel
theorem dX9_freeze_13 : decode cX9_freeze 13 = .ok (.istore_n 1, 1) := by decide +kernel
theorem dX9_freeze_14 : decode cX9_freeze 14 = .ok (.iload_n 1, 1) := by decide +kernel
theorem dX9_freeze_15 : decode cX9_freeze 15 = .ok (.sipush 5760, 3) := by decide +kernel
theorem dX9_freeze_18 : decode cX9_freeze 18 = .ok (.if_icmp .ge 51, 3) := by decide +kernel
theorem dX9_freeze_21 : decode cX9_freeze 21 = .ok (.aload_n 0, 1) := by decide +kernel
theorem dX9_freeze_22 : decode cX9_freeze 22 = .ok (.getfield 97, 3) := by decide +kernel
theorem dX9_freeze_25 : decode cX9_freeze 25 = .ok (.sipush 5760, 3) := by decide +kernel
theorem dX9_freeze_28 : decode cX9_freeze 28 = .ok (.aload_n 0, 1) := by decide +kernel
theorem dX9_freeze_29 : decode cX9_freeze 29 = .ok (.getfield 316, 3) := by decide +kernel
theorem dX9_freeze_32 : decode cX9_freeze 32 = .ok (.imul, 1) := by decide +kernel
theorem dX9_freeze_33 : decode cX9_freeze 33 = .ok (.iload_n 1, 1) := by decide +kernel
theorem dX9_freeze_34 : decode cX9_freeze 34 = .ok (.iadd, 1) := by decide +kernel
theorem dX9_freeze_35 : decode cX9_freeze 35 = .ok (.aload_n 0, 1) := by decide +kernel
theorem dX9_freeze_36 : decode cX9_freeze 36 = .ok (.getfield 51, 3) := by decide +kernel
theorem dX9_freeze_39 : decode cX9_freeze 39 = .ok (.iload_n 1, 1) := by decide +kernel
theorem dX9_freeze_40 : decode cX9_freeze 40 = .ok (.laload, 1) := by decide +kernel
theorem dX9_freeze_41 : decode cX9_freeze 41 = .ok (.lastore, 1) := by decide +kernel
theorem dX9_freeze_42 : decode cX9_freeze 42 = .ok (.aload_n 0, 1) := by decide +kernel
theorem dX9_freeze_43 : decode cX9_freeze 43 = .ok (.getfield 100, 3) := by decide +kernel
theorem dX9_freeze_46 : decode cX9_freeze 46 = .ok (.sipush 5760, 3) := by decide +kernel
theorem dX9_freeze_49 : decode cX9_freeze 49 = .ok (.aload_n 0, 1) := by decide +kernel
theorem dX9_freeze_50 : decode cX9_freeze 50 = .ok (.getfield 316, 3) := by decide +kernel
theorem dX9_freeze_53 : decode cX9_freeze 53 = .ok (.imul, 1) := by decide +kernel
theorem dX9_freeze_54 : decode cX9_freeze 54 = .ok (.iload_n 1, 1) := by decide +kernel
theorem dX9_freeze_55 : decode cX9_freeze 55 = .ok (.iadd, 1) := by decide +kernel
theorem dX9_freeze_56 : decode cX9_freeze 56 = .ok (.aload_n 0, 1) := by decide +kernel
theorem dX9_freeze_57 : decode cX9_freeze 57 = .ok (.getfield 54, 3) := by decide +kernel
theorem dX9_freeze_60 : decode cX9_freeze 60 = .ok (.iload_n 1, 1) := by decide +kernel
theorem dX9_freeze_61 : decode cX9_freeze 61 = .ok (.iaload, 1) := by decide +kernel
theorem dX9_freeze_62 : decode cX9_freeze 62 = .ok (.iastore, 1) := by decide +kernel
theorem dX9_freeze_63 : decode cX9_freeze 63 = .ok (.iinc 1 1, 3) := by decide +kernel
theorem dX9_freeze_66 : decode cX9_freeze 66 = .ok (.goto (-52), 3) := by decide +kernel
theorem dX9_freeze_69 : decode cX9_freeze 69 = .ok (.aload_n 0, 1) := by decide +kernel
theorem dX9_freeze_70 : decode cX9_freeze 70 = .ok (.getfield 90, 3) := by decide +kernel
theorem dX9_freeze_73 : decode cX9_freeze 73 = .ok (.aload_n 0, 1) := by decide +kernel
theorem dX9_freeze_74 : decode cX9_freeze 74 = .ok (.getfield 316, 3) := by decide +kernel
theorem dX9_freeze_77 : decode cX9_freeze 77 = .ok (.aload_n 0, 1) := by decide +kernel
theorem dX9_freeze_78 : decode cX9_freeze 78 = .ok (.getfield 144, 3) := by decide +kernel
theorem dX9_freeze_81 : decode cX9_freeze 81 = .ok (.iastore, 1) := by decide +kernel
theorem dX9_freeze_82 : decode cX9_freeze 82 = .ok (.aload_n 0, 1) := by decide +kernel
theorem dX9_freeze_83 : decode cX9_freeze 83 = .ok (.getfield 93, 3) := by decide +kernel
theorem dX9_freeze_86 : decode cX9_freeze 86 = .ok (.aload_n 0, 1) := by decide +kernel
theorem dX9_freeze_87 : decode cX9_freeze 87 = .ok (.getfield 316, 3) := by decide +kernel
theorem dX9_freeze_90 : decode cX9_freeze 90 = .ok (.aload_n 0, 1) := by decide +kernel
theorem dX9_freeze_91 : decode cX9_freeze 91 = .ok (.getfield 136, 3) := by decide +kernel
theorem dX9_freeze_94 : decode cX9_freeze 94 = .ok (.iastore, 1) := by decide +kernel
theorem dX9_freeze_95 : decode cX9_freeze 95 = .ok (.aload_n 0, 1) := by decide +kernel
theorem dX9_freeze_96 : decode cX9_freeze 96 = .ok (.dup, 1) := by decide +kernel
theorem dX9_freeze_97 : decode cX9_freeze 97 = .ok (.getfield 316, 3) := by decide +kernel
theorem dX9_freeze_100 : decode cX9_freeze 100 = .ok (.iconst 1, 1) := by decide +kernel
theorem dX9_freeze_101 : decode cX9_freeze 101 = .ok (.iadd, 1) := by decide +kernel
theorem dX9_freeze_102 : decode cX9_freeze 102 = .ok (.putfield 316, 3) := by decide +kernel
theorem dX9_freeze_105 : decode cX9_freeze 105 = .ok (.aload_n 0, 1) := by decide +kernel
theorem dX9_freeze_106 : decode cX9_freeze 106 = .ok (.getfield 316, 3) := by decide +kernel
theorem dX9_freeze_109 : decode cX9_freeze 109 = .ok (.iconst 1, 1) := by decide +kernel
theorem dX9_freeze_110 : decode cX9_freeze 110 = .ok (.isub, 1) := by decide +kernel
theorem dX9_freeze_111 : decode cX9_freeze 111 = .ok (.ireturn, 1) := by decide +kernel
def lX9_freeze_14 (p0 : Int) (self14 : Int → PH → RO) (p1 : Int) (H : PH) : RO :=
  (if p1 ≥ 5760 then (ld 25 H p0 31).bind fun x1 => (ld 25 H p0 30).bind fun x2 => (ld 25 H p0 14).bind fun x3 => (stv 0 H x1 x2 x3).bind fun H4 => (ld 25 H4 p0 32).bind fun x5 => (ld 25 H4 p0 30).bind fun x6 => (ld 25 H4 p0 0).bind fun x7 => (stv 0 H4 x5 x6 x7).bind fun H8 => (ld 25 H8 p0 30).bind fun x9 => (stv 25 H8 p0 30 (w32 (x9 + 1))).bind fun H10 => (ld 25 H10 p0 30).bind fun x11 => some ((w32 (x11 - 1)), H10)
  else (ld 25 H p0 33).bind fun x12 => (ld 25 H p0 30).bind fun x13 => (ld 25 H p0 15).bind fun x14 => (ld 1 H x14 p1).bind fun x15 => (stv 1 H x12 (w32 ((w32 (5760 * x13)) + p1)) x15).bind fun H16 => (ld 25 H16 p0 34).bind fun x17 => (ld 25 H16 p0 30).bind fun x18 => (ld 25 H16 p0 16).bind fun x19 => (ld 0 H16 x19 p1).bind fun x20 => (stv 0 H16 x17 (w32 ((w32 (5760 * x18)) + p1)) x20).bind fun H21 => self14 (w32 (p1 + 1)) H21)
set_option maxHeartbeats 4000000 in
theorem lX9_freeze_14_ok {E : PE} {rr : Int} {HH : PH} (F : FX E cX9_freeze RX9) (q : QE E (some (vi rr)) HH (some .int)) (hn : nLof E = 2) (hf : (roomOf E).frames = 0) (hl : (roomOf E).locals = 0) (p0 : Int) : ∀ (n : Nat) (p1 : Int) (H : PH), lq1 (lX9_freeze_14 p0) n p1 H = some (rr, HH) → PW E 14 [some (vr p0), some (vi p1)] [] H := by
  refine lq1_ind (P := fun p1 H => PW E 14 [some (vr p0), some (vi p1)] [] H) ?_
  intro self14 ih14 p1 H h
  unfold lX9_freeze_14 at h
  refine pw_iload_n (pc := 14) F dX9_freeze_14 rfl ?_
  refine pw_sipush (pc := 15) F 5760 dX9_freeze_15 (by decide) ?_
  refine pw_icmp_ge (pc := 18) F 69 dX9_freeze_18 (by decide) (fun hc => ?_) (fun hc => ?_)
  · have h := iteT hc h
    refine pw_aload_n (pc := 69) F dX9_freeze_69 rfl ?_
    obtain ⟨x1, ex1, h⟩ := bnd h
    refine pw_get (pc := 70) F 9 31 90 (by decide) (by decide) g_b2cdc3fd82 inl_9 2 rfl dX9_freeze_70 ex1 ?_
    refine pw_aload_n (pc := 73) F dX9_freeze_73 rfl ?_
    obtain ⟨x2, ex2, h⟩ := bnd h
    refine pw_get (pc := 74) F 9 30 316 (by decide) (by decide) g_3bdbf5cb09 inl_9 0 rfl dX9_freeze_74 ex2 ?_
    refine pw_aload_n (pc := 77) F dX9_freeze_77 rfl ?_
    obtain ⟨x3, ex3, h⟩ := bnd h
    refine pw_get (pc := 78) F 9 14 144 (by decide) (by decide) g_f4ed299937 inl_9 0 rfl dX9_freeze_78 ex3 ?_
    obtain ⟨H4, eH4, h⟩ := bnd h
    refine pw_iast (pc := 81) F dX9_freeze_81 eH4 ?_
    refine pw_aload_n (pc := 82) F dX9_freeze_82 rfl ?_
    obtain ⟨x5, ex5, h⟩ := bnd h
    refine pw_get (pc := 83) F 9 32 93 (by decide) (by decide) g_f2c3c3bf67 inl_9 2 rfl dX9_freeze_83 ex5 ?_
    refine pw_aload_n (pc := 86) F dX9_freeze_86 rfl ?_
    obtain ⟨x6, ex6, h⟩ := bnd h
    refine pw_get (pc := 87) F 9 30 316 (by decide) (by decide) g_3bdbf5cb09 inl_9 0 rfl dX9_freeze_87 ex6 ?_
    refine pw_aload_n (pc := 90) F dX9_freeze_90 rfl ?_
    obtain ⟨x7, ex7, h⟩ := bnd h
    refine pw_get (pc := 91) F 9 0 136 (by decide) (by decide) g_eb25be88a8 inl_9 0 rfl dX9_freeze_91 ex7 ?_
    obtain ⟨H8, eH8, h⟩ := bnd h
    refine pw_iast (pc := 94) F dX9_freeze_94 eH8 ?_
    refine pw_aload_n (pc := 95) F dX9_freeze_95 rfl ?_
    refine pw_dup (pc := 96) F dX9_freeze_96 (pvne rfl) ?_
    obtain ⟨x9, ex9, h⟩ := bnd h
    refine pw_get (pc := 97) F 9 30 316 (by decide) (by decide) g_3bdbf5cb09 inl_9 0 rfl dX9_freeze_97 ex9 ?_
    refine pw_iconst (pc := 100) F 1 dX9_freeze_100 (by decide) ?_
    refine pw_iadd (pc := 101) F dX9_freeze_101 ?_
    obtain ⟨H10, eH10, h⟩ := bnd h
    refine pw_put (pc := 102) F 9 30 316 (by decide) (by decide) g_3bdbf5cb09 inl_9 rfl 0 rfl dX9_freeze_102 trivial eH10 ?_
    refine pw_aload_n (pc := 105) F dX9_freeze_105 rfl ?_
    obtain ⟨x11, ex11, h⟩ := bnd h
    refine pw_get (pc := 106) F 9 30 316 (by decide) (by decide) g_3bdbf5cb09 inl_9 0 rfl dX9_freeze_106 ex11 ?_
    refine pw_iconst (pc := 109) F 1 dX9_freeze_109 (by decide) ?_
    refine pw_isub (pc := 110) F dX9_freeze_110 ?_
    cases h
    exact pw_iret (pc := 111) F q dX9_freeze_111
  · have h := iteF hc h
    refine pw_aload_n (pc := 21) F dX9_freeze_21 rfl ?_
    obtain ⟨x12, ex12, h⟩ := bnd h
    refine pw_get (pc := 22) F 9 33 97 (by decide) (by decide) g_e5d5e6041e inl_9 2 rfl dX9_freeze_22 ex12 ?_
    refine pw_sipush (pc := 25) F 5760 dX9_freeze_25 (by decide) ?_
    refine pw_aload_n (pc := 28) F dX9_freeze_28 rfl ?_
    obtain ⟨x13, ex13, h⟩ := bnd h
    refine pw_get (pc := 29) F 9 30 316 (by decide) (by decide) g_3bdbf5cb09 inl_9 0 rfl dX9_freeze_29 ex13 ?_
    refine pw_imul (pc := 32) F dX9_freeze_32 ?_
    refine pw_iload_n (pc := 33) F dX9_freeze_33 rfl ?_
    refine pw_iadd (pc := 34) F dX9_freeze_34 ?_
    refine pw_aload_n (pc := 35) F dX9_freeze_35 rfl ?_
    obtain ⟨x14, ex14, h⟩ := bnd h
    refine pw_get (pc := 36) F 9 15 51 (by decide) (by decide) g_948f79b8fe inl_9 2 rfl dX9_freeze_36 ex14 ?_
    refine pw_iload_n (pc := 39) F dX9_freeze_39 rfl ?_
    obtain ⟨x15, ex15, h⟩ := bnd h
    refine pw_lald (pc := 40) F dX9_freeze_40 ex15 ?_
    obtain ⟨H16, eH16, h⟩ := bnd h
    refine pw_last (pc := 41) F dX9_freeze_41 eH16 ?_
    refine pw_aload_n (pc := 42) F dX9_freeze_42 rfl ?_
    obtain ⟨x17, ex17, h⟩ := bnd h
    refine pw_get (pc := 43) F 9 34 100 (by decide) (by decide) g_41a86a255d inl_9 2 rfl dX9_freeze_43 ex17 ?_
    refine pw_sipush (pc := 46) F 5760 dX9_freeze_46 (by decide) ?_
    refine pw_aload_n (pc := 49) F dX9_freeze_49 rfl ?_
    obtain ⟨x18, ex18, h⟩ := bnd h
    refine pw_get (pc := 50) F 9 30 316 (by decide) (by decide) g_3bdbf5cb09 inl_9 0 rfl dX9_freeze_50 ex18 ?_
    refine pw_imul (pc := 53) F dX9_freeze_53 ?_
    refine pw_iload_n (pc := 54) F dX9_freeze_54 rfl ?_
    refine pw_iadd (pc := 55) F dX9_freeze_55 ?_
    refine pw_aload_n (pc := 56) F dX9_freeze_56 rfl ?_
    obtain ⟨x19, ex19, h⟩ := bnd h
    refine pw_get (pc := 57) F 9 16 54 (by decide) (by decide) g_fd9fcec31c inl_9 2 rfl dX9_freeze_57 ex19 ?_
    refine pw_iload_n (pc := 60) F dX9_freeze_60 rfl ?_
    obtain ⟨x20, ex20, h⟩ := bnd h
    refine pw_iald (pc := 61) F dX9_freeze_61 ex20 ?_
    obtain ⟨H21, eH21, h⟩ := bnd h
    refine pw_iast (pc := 62) F dX9_freeze_62 eH21 ?_
    refine pw_iinc (pc := 63) F dX9_freeze_63 rfl (lt_nl hn (by decide)) [some (vr p0), some (vi (w32 (p1 + 1)))] rfl (by decide) ?_
    refine pw_goto (pc := 66) F 14 dX9_freeze_66 (by decide) ?_
    exact pw_mask [true, true] (ls' := [some (vr p0), some (vi (w32 (p1 + 1)))]) rfl (ih14 (w32 (p1 + 1)) H21 h)
def f_X9_freeze (a0 : Int) (H : PH) : RO := vm 9 a0 H <|
  (ld 25 H a0 30).bind fun x1 => (if x1 ≠ 6 then lq1 (lX9_freeze_14 a0) 6000 0 H
  else some ((-4), H))
set_option maxHeartbeats 4000000 in
theorem m_X9_freeze (l : Launch) (a0 : Int) (H : PH) (rr : Int) (HH : PH) (h : f_X9_freeze a0 H = some (rr, HH)) : CT l yX9_freeze cX9_freeze 2 (some .int) 0 0 [vr a0] H (some (vi rr)) HH := by
  refine CT.of RX9 (by decide) rfl [some (vr a0), none] rfl rfl ?_
  intro E F q hn hf hl hm
  unfold f_X9_freeze at h
  obtain ⟨hv, h⟩ := vm_spec h
  refine pw_aload_n (pc := 0) F dX9_freeze_0 rfl ?_
  obtain ⟨x1, ex1, h⟩ := bnd h
  refine pw_get (pc := 1) F 9 30 316 (by decide) (by decide) g_3bdbf5cb09 inl_9 0 rfl dX9_freeze_1 ex1 ?_
  refine pw_bipush (pc := 4) F 6 dX9_freeze_4 (by decide) ?_
  refine pw_icmp_ne (pc := 6) F 12 dX9_freeze_6 (by decide) (fun hc => ?_) (fun hc => ?_)
  · have h := iteT hc h
    refine pw_iconst (pc := 12) F 0 dX9_freeze_12 (by decide) ?_
    refine pw_istore_n (pc := 13) F dX9_freeze_13 (lt_nl hn (by decide)) [some (vr a0), some (vi 0)] rfl ?_
    exact pw_mask [true, true] (ls' := [some (vr a0), some (vi 0)]) rfl (lX9_freeze_14_ok F q hn hf hl a0  6000 0 H h)
  · have h := iteF hc h
    refine pw_bipush (pc := 9) F (-4) dX9_freeze_9 (by decide) ?_
    cases h
    exact pw_iret (pc := 11) F q dX9_freeze_11
