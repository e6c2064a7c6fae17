/-! HouseholdVault$Form.makeSum(LHouseholdVault$Sheet;I)V -/
theorem dX3_makeSum_0 : decode cX3_makeSum 0 = .ok (.aload_n 0, 1) := by decide +kernel
theorem dX3_makeSum_1 : decode cX3_makeSum 1 = .ok (.getfield 11, 3) := by decide +kernel
theorem dX3_makeSum_4 : decode cX3_makeSum 4 = .ok (.iload_n 2, 1) := by decide +kernel
theorem dX3_makeSum_5 : decode cX3_makeSum 5 = .ok (.aaload, 1) := by decide +kernel
theorem dX3_makeSum_6 : decode cX3_makeSum 6 = .ok (.astore_n 3, 1) := by decide +kernel
theorem dX3_makeSum_7 : decode cX3_makeSum 7 = .ok (.aload_n 1, 1) := by decide +kernel
theorem dX3_makeSum_8 : decode cX3_makeSum 8 = .ok (.aload_n 0, 1) := by decide +kernel
theorem dX3_makeSum_9 : decode cX3_makeSum 9 = .ok (.getfield 11, 3) := by decide +kernel
theorem dX3_makeSum_12 : decode cX3_makeSum 12 = .ok (.aload_n 3, 1) := by decide +kernel
theorem dX3_makeSum_13 : decode cX3_makeSum 13 = .ok (.getfield 92, 3) := by decide +kernel
theorem dX3_makeSum_16 : decode cX3_makeSum 16 = .ok (.aaload, 1) := by decide +kernel
theorem dX3_makeSum_17 : decode cX3_makeSum 17 = .ok (.getfield 106, 3) := by decide +kernel
theorem dX3_makeSum_20 : decode cX3_makeSum 20 = .ok (.invokevirtual 131, 3) := by decide +kernel
theorem dX3_makeSum_23 : decode cX3_makeSum 23 = .ok (.istore 4, 2) := by decide +kernel
theorem dX3_makeSum_25 : decode cX3_makeSum 25 = .ok (.lconst 0, 1) := by decide +kernel
theorem dX3_makeSum_26 : decode cX3_makeSum 26 = .ok (.lstore 5, 2) := by decide +kernel
theorem dX3_makeSum_28 : decode cX3_makeSum 28 = .ok (.iconst 1, 1) := by decide +kernel
theorem dX3_makeSum_29 : decode cX3_makeSum 29 = .ok (.istore 7, 2) := by decide +kernel
theorem dX3_makeSum_31 : decode cX3_makeSum 31 = .ok (.iconst 0, 1) := by decide +kernel
theorem dX3_makeSum_32 : decode cX3_makeSum 32 = .ok (.istore 8, 2) := by decide +kernel
theorem dX3_makeSum_34 : decode cX3_makeSum 34 = .ok (.iload 8, 2) := by decide +kernel
theorem dX3_makeSum_36 : decode cX3_makeSum 36 = .ok (.iload 4, 2) := by decide +kernel
theorem dX3_makeSum_38 : decode cX3_makeSum 38 = .ok (.if_icmp .ge 48, 3) := by decide +kernel
theorem dX3_makeSum_41 : decode cX3_makeSum 41 = .ok (.aload_n 3, 1) := by decide +kernel
theorem dX3_makeSum_42 : decode cX3_makeSum 42 = .ok (.getfield 92, 3) := by decide +kernel
theorem dX3_makeSum_45 : decode cX3_makeSum 45 = .ok (.iload 8, 2) := by decide +kernel
theorem dX3_makeSum_47 : decode cX3_makeSum 47 = .ok (.invokestatic 85, 3) := by decide +kernel
theorem dX3_makeSum_50 : decode cX3_makeSum 50 = .ok (.istore 9, 2) := by decide +kernel
theorem dX3_makeSum_52 : decode cX3_makeSum 52 = .ok (.aload_n 1, 1) := by decide +kernel
theorem dX3_makeSum_53 : decode cX3_makeSum 53 = .ok (.getfield 121, 3) := by decide +kernel
theorem dX3_makeSum_56 : decode cX3_makeSum 56 = .ok (.iload 9, 2) := by decide +kernel
theorem dX3_makeSum_58 : decode cX3_makeSum 58 = .ok (.iaload, 1) := by decide +kernel
theorem dX3_makeSum_59 : decode cX3_makeSum 59 = .ok (.ifCond .eq 6, 3) := by decide +kernel
theorem dX3_makeSum_62 : decode cX3_makeSum 62 = .ok (.goto 18, 3) := by decide +kernel
theorem dX3_makeSum_65 : decode cX3_makeSum 65 = .ok (.lload 5, 2) := by decide +kernel
theorem dX3_makeSum_67 : decode cX3_makeSum 67 = .ok (.aload_n 1, 1) := by decide +kernel
theorem dX3_makeSum_68 : decode cX3_makeSum 68 = .ok (.getfield 113, 3) := by decide +kernel
theorem dX3_makeSum_71 : decode cX3_makeSum 71 = .ok (.iload 9, 2) := by decide +kernel
theorem dX3_makeSum_73 : decode cX3_makeSum 73 = .ok (.laload, 1) := by decide +kernel
theorem dX3_makeSum_74 : decode cX3_makeSum 74 = .ok (.ladd, 1) := by decide +kernel
theorem dX3_makeSum_75 : decode cX3_makeSum 75 = .ok (.lstore 5, 2) := by decide +kernel
theorem dX3_makeSum_77 : decode cX3_makeSum 77 = .ok (.iconst 0, 1) := by decide +kernel
theorem dX3_makeSum_78 : decode cX3_makeSum 78 = .ok (.istore 7, 2) := by decide +kernel
theorem dX3_makeSum_80 : decode cX3_makeSum 80 = .ok (.iinc 8 1, 3) := by decide +kernel
theorem dX3_makeSum_83 : decode cX3_makeSum 83 = .ok (.goto (-49), 3) := by decide +kernel
theorem dX3_makeSum_86 : decode cX3_makeSum 86 = .ok (.aload_n 3, 1) := by decide +kernel
theorem dX3_makeSum_87 : decode cX3_makeSum 87 = .ok (.getfield 134, 3) := by decide +kernel
theorem dX3_makeSum_90 : decode cX3_makeSum 90 = .ok (.iconst 2, 1) := by decide +kernel
theorem dX3_makeSum_91 : decode cX3_makeSum 91 = .ok (.if_icmp .ne 17, 3) := by decide +kernel
theorem dX3_makeSum_94 : decode cX3_makeSum 94 = .ok (.lload 5, 2) := by decide +kernel
theorem dX3_makeSum_96 : decode cX3_makeSum 96 = .ok (.lload 5, 2) := by decide +kernel
theorem dX3_makeSum_98 : decode cX3_makeSum 98 = .ok (.l2i, 1) := by decide +kernel
theorem dX3_makeSum_99 : decode cX3_makeSum 99 = .ok (.i2l, 1) := by decide +kernel
theorem dX3_makeSum_100 : decode cX3_makeSum 100 = .ok (.lcmp, 1) := by decide +kernel
theorem dX3_makeSum_101 : decode cX3_makeSum 101 = .ok (.ifCond .eq 7, 3) := by decide +kernel
theorem dX3_makeSum_104 : decode cX3_makeSum 104 = .ok (.iconst 1, 1) := by decide +kernel
theorem dX3_makeSum_105 : decode cX3_makeSum 105 = .ok (.goto 4, 3) := by decide +kernel
theorem dX3_makeSum_108 : decode cX3_makeSum 108 = .ok (.iconst 0, 1) := by decide +kernel
theorem dX3_makeSum_109 : decode cX3_makeSum 109 = .ok (.istore 8, 2) := by decide +kernel
theorem dX3_makeSum_111 : decode cX3_makeSum 111 = .ok (.iload 7, 2) := by decide +kernel
theorem dX3_makeSum_113 : decode cX3_makeSum 113 = .ok (.ifCond .ne 8, 3) := by decide +kernel
theorem dX3_makeSum_116 : decode cX3_makeSum 116 = .ok (.iload 8, 2) := by decide +kernel
theorem dX3_makeSum_118 : decode cX3_makeSum 118 = .ok (.ifCond .eq 16, 3) := by decide +kernel
theorem dX3_makeSum_121 : decode cX3_makeSum 121 = .ok (.aload_n 1, 1) := by decide +kernel
theorem dX3_makeSum_122 : decode cX3_makeSum 122 = .ok (.iload_n 2, 1) := by decide +kernel
theorem dX3_makeSum_123 : decode cX3_makeSum 123 = .ok (.iconst (-1), 1) := by decide +kernel
theorem dX3_makeSum_124 : decode cX3_makeSum 124 = .ok (.invokestatic 85, 3) := by decide +kernel
theorem dX3_makeSum_127 : decode cX3_makeSum 127 = .ok (.iconst 5, 1) := by decide +kernel
theorem dX3_makeSum_128 : decode cX3_makeSum 128 = .ok (.invokevirtual 124, 3) := by decide +kernel
theorem dX3_makeSum_131 : decode cX3_makeSum 131 = .ok (.goto 14, 3) := by decide +kernel
theorem dX3_makeSum_134 : decode cX3_makeSum 134 = .ok (.aload_n 1, 1) := by decide +kernel
theorem dX3_makeSum_135 : decode cX3_makeSum 135 = .ok (.iload_n 2, 1) := by decide +kernel
theorem dX3_makeSum_136 : decode cX3_makeSum 136 = .ok (.iconst (-1), 1) := by decide +kernel
theorem dX3_makeSum_137 : decode cX3_makeSum 137 = .ok (.invokestatic 85, 3) := by decide +kernel
theorem dX3_makeSum_140 : decode cX3_makeSum 140 = .ok (.lload 5, 2) := by decide +kernel
theorem dX3_makeSum_142 : decode cX3_makeSum 142 = .ok (.invokevirtual 100, 3) := by decide +kernel
theorem dX3_makeSum_145 : decode cX3_makeSum 145 = .ok (.return_, 1) := by decide +kernel
def jX3_makeSum_121 (p1 p2 : Int) (H : PH) : RO :=
  (f_X8_spot p2 (-1) H).bind fun z1 => (f_X6_lack p1 z1.1 5 z1.2).bind fun z2 => some (0, z2.2)
set_option maxHeartbeats 4000000 in
theorem jX3_makeSum_121_ok {E : PE} {rr : Int} {HH : PH} (F : FX E cX3_makeSum RX3) (q : QE E none HH none) (hn : nLof E = 10) (hf : (roomOf E).frames = 2) (hl : (roomOf E).locals = 42) (p1 p2 : Int) (H : PH) (h : jX3_makeSum_121 p1 p2 H = some (rr, HH)) : PW E 121 [none, some (vr p1), some (vi p2), none, none, none, none, none, none, none] [] H := by
  unfold jX3_makeSum_121 at h
  refine pw_aload_n (pc := 121) F dX3_makeSum_121 rfl ?_
  refine pw_iload_n (pc := 122) F dX3_makeSum_122 rfl ?_
  refine pw_iconst (pc := 123) F (-1) dX3_makeSum_123 (by decide) ?_
  obtain ⟨z1, ez1, h⟩ := bnd h
  refine pw_callSN (pc := 124) (as := [vi p2, vi (-1)]) (st := [vr p1]) (r := (some (vi z1.1))) F 85 RX8 (fun l => m_X8_spot l p2 (-1) H z1.1 z1.2 ez1) (fun _ _ _ h => h.2.2.2.2.2.1) g_aa0997f699 g_99e03e18e2 g_0d0469f624 hd_X8_spot (rm_ok hf hl (by decide) (by decide)) rfl dX3_makeSum_124 rfl (stk' := [vi z1.1, vr p1]) rfl ?_
  refine pw_iconst (pc := 127) F 5 dX3_makeSum_127 (by decide) ?_
  obtain ⟨z2, ez2, h⟩ := bnd h
  refine pw_callV (pc := 128) (as := [vi z1.1, vi 5]) (st := []) (r := none) F 124 6 (by decide) rfl (fun l => m_X6_lack l p1 z1.1 5 z1.2 z2.1 z2.2 ez2) g_4d052febd2 g_003e5e4580 g_33f4dd9f6c g_6d91b6d2eb g_27df96ccd7 hd_X6_lack (rm_ok hf hl (by decide) (by decide)) rfl (vm_spec ez2).1 dX3_makeSum_128 rfl (stk' := []) rfl ?_
  refine pw_goto (pc := 131) F 145 dX3_makeSum_131 (by decide) ?_
  cases h
  exact pw_vret (pc := 145) F q dX3_makeSum_145
def jX3_makeSum_109 (p1 p2 p5 p7 s0 : Int) (H : PH) : RO :=
  (if p7 ≠ 0 then jX3_makeSum_121 p1 p2 H
  else (if s0 = 0 then (f_X8_spot p2 (-1) H).bind fun z1 => (f_X6_put p1 z1.1 p5 z1.2).bind fun z2 => some (0, z2.2)
  else jX3_makeSum_121 p1 p2 H))
set_option maxHeartbeats 4000000 in
theorem jX3_makeSum_109_ok {E : PE} {rr : Int} {HH : PH} (F : FX E cX3_makeSum RX3) (q : QE E none HH none) (hn : nLof E = 10) (hf : (roomOf E).frames = 2) (hl : (roomOf E).locals = 42) (p1 p2 p5 p7 s0 : Int) (H : PH) (h : jX3_makeSum_109 p1 p2 p5 p7 s0 H = some (rr, HH)) : PW E 109 [none, some (vr p1), some (vi p2), none, none, some (vl p5), none, some (vi p7), none, none] [vi s0] H := by
  unfold jX3_makeSum_109 at h
  refine pw_istore (pc := 109) F dX3_makeSum_109 (lt_nl hn (by decide)) [none, some (vr p1), some (vi p2), none, none, some (vl p5), none, some (vi p7), some (vi s0), none] rfl ?_
  refine pw_iload (pc := 111) F dX3_makeSum_111 rfl ?_
  refine pw_if_ne (pc := 113) F 121 dX3_makeSum_113 (by decide) (fun hc => ?_) (fun hc => ?_)
  · have h := iteT hc h
    exact pw_mask [true, true, true, true, true, false, true, false, false, true] (ls' := [none, some (vr p1), some (vi p2), none, none, none, none, none, none, none]) rfl (jX3_makeSum_121_ok F q hn hf hl p1 p2 H h)
  · have h := iteF hc h
    refine pw_iload (pc := 116) F dX3_makeSum_116 rfl ?_
    refine pw_if_eq (pc := 118) F 134 dX3_makeSum_118 (by decide) (fun hc => ?_) (fun hc => ?_)
    · have h := iteT hc h
      refine pw_aload_n (pc := 134) F dX3_makeSum_134 rfl ?_
      refine pw_iload_n (pc := 135) F dX3_makeSum_135 rfl ?_
      refine pw_iconst (pc := 136) F (-1) dX3_makeSum_136 (by decide) ?_
      obtain ⟨z1, ez1, h⟩ := bnd h
      refine pw_callSN (pc := 137) (as := [vi p2, vi (-1)]) (st := [vr p1]) (r := (some (vi z1.1))) F 85 RX8 (fun l => m_X8_spot l p2 (-1) H z1.1 z1.2 ez1) (fun _ _ _ h => h.2.2.2.2.2.1) g_aa0997f699 g_99e03e18e2 g_0d0469f624 hd_X8_spot (rm_ok hf hl (by decide) (by decide)) rfl dX3_makeSum_137 rfl (stk' := [vi z1.1, vr p1]) rfl ?_
      refine pw_lload (pc := 140) F dX3_makeSum_140 rfl ?_
      obtain ⟨z2, ez2, h⟩ := bnd h
      refine pw_callV (pc := 142) (as := [vi z1.1, vl p5]) (st := []) (r := none) F 100 6 (by decide) rfl (fun l => m_X6_put l p1 z1.1 p5 z1.2 z2.1 z2.2 ez2) g_4ab4df0845 g_a4f482ed8e g_a6da26925e g_6d91b6d2eb g_5239673ccb hd_X6_put (rm_ok hf hl (by decide) (by decide)) rfl (vm_spec ez2).1 dX3_makeSum_142 rfl (stk' := []) rfl ?_
      cases h
      exact pw_vret (pc := 145) F q dX3_makeSum_145
    · have h := iteF hc h
      exact pw_mask [true, true, true, true, true, false, true, false, false, true] (ls' := [none, some (vr p1), some (vi p2), none, none, none, none, none, none, none]) rfl (jX3_makeSum_121_ok F q hn hf hl p1 p2 H h)
def jX3_makeSum_108 (p1 p2 p5 p7 : Int) (H : PH) : RO :=
  jX3_makeSum_109 p1 p2 p5 p7 0 H
set_option maxHeartbeats 4000000 in
theorem jX3_makeSum_108_ok {E : PE} {rr : Int} {HH : PH} (F : FX E cX3_makeSum RX3) (q : QE E none HH none) (hn : nLof E = 10) (hf : (roomOf E).frames = 2) (hl : (roomOf E).locals = 42) (p1 p2 p5 p7 : Int) (H : PH) (h : jX3_makeSum_108 p1 p2 p5 p7 H = some (rr, HH)) : PW E 108 [none, some (vr p1), some (vi p2), none, none, some (vl p5), none, some (vi p7), none, none] [] H := by
  unfold jX3_makeSum_108 at h
  refine pw_iconst (pc := 108) F 0 dX3_makeSum_108 (by decide) ?_
  exact pw_mask [true, true, true, true, true, true, true, true, true, true] (ls' := [none, some (vr p1), some (vi p2), none, none, some (vl p5), none, some (vi p7), none, none]) rfl (jX3_makeSum_109_ok F q hn hf hl p1 p2 p5 p7 0 H h)
def jX3_makeSum_80 (self34 : Int → Int → Int → PH → RO) (p1 p2 p3 p4 p5 p7 p8 : Int) (H : PH) : RO :=
  self34 p5 p7 (w32 (p8 + 1)) H
set_option maxHeartbeats 4000000 in
theorem jX3_makeSum_80_ok {E : PE} {rr : Int} {HH : PH} (F : FX E cX3_makeSum RX3) (q : QE E none HH none) (hn : nLof E = 10) (hf : (roomOf E).frames = 2) (hl : (roomOf E).locals = 42) (self34 : Int → Int → Int → PH → RO) (p1 p2 p3 p4 p5 p7 p8 : Int) (H : PH) (ih34 : ∀ (v5 v7 v8 : Int) (HV : PH), self34 v5 v7 v8 HV = some (rr, HH) → PW E 34 [none, some (vr p1), some (vi p2), some (vr p3), some (vi p4), some (vl v5), none, some (vi v7), some (vi v8), none] [] HV) (h : jX3_makeSum_80 self34 p1 p2 p3 p4 p5 p7 p8 H = some (rr, HH)) : PW E 80 [none, some (vr p1), some (vi p2), some (vr p3), some (vi p4), some (vl p5), none, some (vi p7), some (vi p8), none] [] H := by
  unfold jX3_makeSum_80 at h
  refine pw_iinc (pc := 80) F dX3_makeSum_80 rfl (lt_nl hn (by decide)) [none, some (vr p1), some (vi p2), some (vr p3), some (vi p4), some (vl p5), none, some (vi p7), some (vi (w32 (p8 + 1))), none] rfl (by decide) ?_
  refine pw_goto (pc := 83) F 34 dX3_makeSum_83 (by decide) ?_
  exact pw_mask [true, true, true, true, true, true, true, true, true, true] (ls' := [none, some (vr p1), some (vi p2), some (vr p3), some (vi p4), some (vl p5), none, some (vi p7), some (vi (w32 (p8 + 1))), none]) rfl (ih34 p5 p7 (w32 (p8 + 1)) H h)
def lX3_makeSum_34 (p1 p2 p3 p4 : Int) (self34 : Int → Int → Int → PH → RO) (p5 p7 p8 : Int) (H : PH) : RO :=
  (if p8 ≥ p4 then (ld 21 H p3 0).bind fun x1 => (if x1 ≠ 2 then jX3_makeSum_108 p1 p2 p5 p7 H
  else (if (lc p5 (w32 p5)) = 0 then jX3_makeSum_108 p1 p2 p5 p7 H
  else jX3_makeSum_109 p1 p2 p5 p7 1 H))
  else (ld 21 H p3 3).bind fun x2 => (f_X8_spot x2 p8 H).bind fun z3 => (ld 22 z3.2 p1 1).bind fun x4 => (ld 0 z3.2 x4 z3.1).bind fun x5 => (if x5 = 0 then (ld 22 z3.2 p1 0).bind fun x6 => (ld 1 z3.2 x6 z3.1).bind fun x7 => jX3_makeSum_80 self34 p1 p2 p3 p4 (w64 (p5 + x7)) 0 p8 z3.2
  else jX3_makeSum_80 self34 p1 p2 p3 p4 p5 p7 p8 z3.2))
set_option maxHeartbeats 4000000 in
theorem lX3_makeSum_34_ok {E : PE} {rr : Int} {HH : PH} (F : FX E cX3_makeSum RX3) (q : QE E none HH none) (hn : nLof E = 10) (hf : (roomOf E).frames = 2) (hl : (roomOf E).locals = 42) (p1 p2 p3 p4 : Int) : ∀ (n : Nat) (p5 p7 p8 : Int) (H : PH), lq3 (lX3_makeSum_34 p1 p2 p3 p4) n p5 p7 p8 H = some (rr, HH) → PW E 34 [none, some (vr p1), some (vi p2), some (vr p3), some (vi p4), some (vl p5), none, some (vi p7), some (vi p8), none] [] H := by
  refine lq3_ind (P := fun p5 p7 p8 H => PW E 34 [none, some (vr p1), some (vi p2), some (vr p3), some (vi p4), some (vl p5), none, some (vi p7), some (vi p8), none] [] H) ?_
  intro self34 ih34 p5 p7 p8 H h
  unfold lX3_makeSum_34 at h
  refine pw_iload (pc := 34) F dX3_makeSum_34 rfl ?_
  refine pw_iload (pc := 36) F dX3_makeSum_36 rfl ?_
  refine pw_icmp_ge (pc := 38) F 86 dX3_makeSum_38 (by decide) (fun hc => ?_) (fun hc => ?_)
  · have h := iteT hc h
    refine pw_aload_n (pc := 86) F dX3_makeSum_86 rfl ?_
    obtain ⟨x1, ex1, h⟩ := bnd h
    refine pw_get (pc := 87) F 5 0 134 (by decide) (by decide) g_fae99af0fd inl_5 0 rfl dX3_makeSum_87 ex1 ?_
    refine pw_iconst (pc := 90) F 2 dX3_makeSum_90 (by decide) ?_
    refine pw_icmp_ne (pc := 91) F 108 dX3_makeSum_91 (by decide) (fun hc => ?_) (fun hc => ?_)
    · have h := iteT hc h
      exact pw_mask [true, true, true, false, false, true, true, true, false, true] (ls' := [none, some (vr p1), some (vi p2), none, none, some (vl p5), none, some (vi p7), none, none]) rfl (jX3_makeSum_108_ok F q hn hf hl p1 p2 p5 p7 H h)
    · have h := iteF hc h
      refine pw_lload (pc := 94) F dX3_makeSum_94 rfl ?_
      refine pw_lload (pc := 96) F dX3_makeSum_96 rfl ?_
      refine pw_l2i (pc := 98) F dX3_makeSum_98 ?_
      refine pw_i2l (pc := 99) F dX3_makeSum_99 ?_
      refine pw_lcmp (pc := 100) F dX3_makeSum_100 ?_
      refine pw_if_eq (pc := 101) F 108 dX3_makeSum_101 (by decide) (fun hc => ?_) (fun hc => ?_)
      · have h := iteT hc h
        exact pw_mask [true, true, true, false, false, true, true, true, false, true] (ls' := [none, some (vr p1), some (vi p2), none, none, some (vl p5), none, some (vi p7), none, none]) rfl (jX3_makeSum_108_ok F q hn hf hl p1 p2 p5 p7 H h)
      · have h := iteF hc h
        refine pw_iconst (pc := 104) F 1 dX3_makeSum_104 (by decide) ?_
        refine pw_goto (pc := 105) F 109 dX3_makeSum_105 (by decide) ?_
        exact pw_mask [true, true, true, false, false, true, true, true, false, true] (ls' := [none, some (vr p1), some (vi p2), none, none, some (vl p5), none, some (vi p7), none, none]) rfl (jX3_makeSum_109_ok F q hn hf hl p1 p2 p5 p7 1 H h)
  · have h := iteF hc h
    refine pw_aload_n (pc := 41) F dX3_makeSum_41 rfl ?_
    obtain ⟨x2, ex2, h⟩ := bnd h
    refine pw_get (pc := 42) F 5 3 92 (by decide) (by decide) g_304c2d7096 inl_5 0 rfl dX3_makeSum_42 ex2 ?_
    refine pw_iload (pc := 45) F dX3_makeSum_45 rfl ?_
    obtain ⟨z3, ez3, h⟩ := bnd h
    refine pw_callSN (pc := 47) (as := [vi x2, vi p8]) (st := []) (r := (some (vi z3.1))) F 85 RX8 (fun l => m_X8_spot l x2 p8 H z3.1 z3.2 ez3) (fun _ _ _ h => h.2.2.2.2.2.1) g_aa0997f699 g_99e03e18e2 g_0d0469f624 hd_X8_spot (rm_ok hf hl (by decide) (by decide)) rfl dX3_makeSum_47 rfl (stk' := [vi z3.1]) rfl ?_
    refine pw_istore (pc := 50) F dX3_makeSum_50 (lt_nl hn (by decide)) [none, some (vr p1), some (vi p2), some (vr p3), some (vi p4), some (vl p5), none, some (vi p7), some (vi p8), some (vi z3.1)] rfl ?_
    refine pw_aload_n (pc := 52) F dX3_makeSum_52 rfl ?_
    obtain ⟨x4, ex4, h⟩ := bnd h
    refine pw_get (pc := 53) F 6 1 121 (by decide) (by decide) g_a70b9a2a57 inl_6 2 rfl dX3_makeSum_53 ex4 ?_
    refine pw_iload (pc := 56) F dX3_makeSum_56 rfl ?_
    obtain ⟨x5, ex5, h⟩ := bnd h
    refine pw_iald (pc := 58) F dX3_makeSum_58 ex5 ?_
    refine pw_if_eq (pc := 59) F 65 dX3_makeSum_59 (by decide) (fun hc => ?_) (fun hc => ?_)
    · have h := iteT hc h
      refine pw_lload (pc := 65) F dX3_makeSum_65 rfl ?_
      refine pw_aload_n (pc := 67) F dX3_makeSum_67 rfl ?_
      obtain ⟨x6, ex6, h⟩ := bnd h
      refine pw_get (pc := 68) F 6 0 113 (by decide) (by decide) g_0a429a6f3f inl_6 2 rfl dX3_makeSum_68 ex6 ?_
      refine pw_iload (pc := 71) F dX3_makeSum_71 rfl ?_
      obtain ⟨x7, ex7, h⟩ := bnd h
      refine pw_lald (pc := 73) F dX3_makeSum_73 ex7 ?_
      refine pw_ladd (pc := 74) F dX3_makeSum_74 ?_
      refine pw_lstore (pc := 75) F dX3_makeSum_75 (lt_nl hn (by decide)) [none, some (vr p1), some (vi p2), some (vr p3), some (vi p4), some (vl (w64 (p5 + x7))), none, some (vi p7), some (vi p8), some (vi z3.1)] rfl ?_
      refine pw_iconst (pc := 77) F 0 dX3_makeSum_77 (by decide) ?_
      refine pw_istore (pc := 78) F dX3_makeSum_78 (lt_nl hn (by decide)) [none, some (vr p1), some (vi p2), some (vr p3), some (vi p4), some (vl (w64 (p5 + x7))), none, some (vi 0), some (vi p8), some (vi z3.1)] rfl ?_
      exact pw_mask [true, true, true, true, true, true, true, true, true, false] (ls' := [none, some (vr p1), some (vi p2), some (vr p3), some (vi p4), some (vl (w64 (p5 + x7))), none, some (vi 0), some (vi p8), none]) rfl (jX3_makeSum_80_ok F q hn hf hl self34 p1 p2 p3 p4 (w64 (p5 + x7)) 0 p8 z3.2 ih34 h)
    · have h := iteF hc h
      refine pw_goto (pc := 62) F 80 dX3_makeSum_62 (by decide) ?_
      exact pw_mask [true, true, true, true, true, true, true, true, true, false] (ls' := [none, some (vr p1), some (vi p2), some (vr p3), some (vi p4), some (vl p5), none, some (vi p7), some (vi p8), none]) rfl (jX3_makeSum_80_ok F q hn hf hl self34 p1 p2 p3 p4 p5 p7 p8 z3.2 ih34 h)
def f_X3_makeSum (a0 a1 a2 : Int) (H : PH) : RO := vm 3 a0 H <|
  (ld 19 H a0 0).bind fun x1 => (ld 6 H x1 a2).bind fun x2 => (ld 19 H a0 0).bind fun x3 => (ld 21 H x2 3).bind fun x4 => (ld 6 H x3 x4).bind fun x5 => (ld 21 H x5 1).bind fun x6 => (f_X6_persons a1 x6 H).bind fun z7 => lq3 (lX3_makeSum_34 a1 a2 x2 z7.1) 6000 0 1 0 z7.2
set_option maxHeartbeats 4000000 in
theorem m_X3_makeSum (l : Launch) (a0 a1 a2 : Int) (H : PH) (rr : Int) (HH : PH) (h : f_X3_makeSum a0 a1 a2 H = some (rr, HH)) : CT l yX3_makeSum cX3_makeSum 10 none 2 42 [vr a0, vr a1, vi a2] H none HH := by
  refine CT.of RX3 (by decide) rfl [some (vr a0), some (vr a1), some (vi a2), none, none, none, none, none, none, none] rfl rfl ?_
  intro E F q hn hf hl hm
  unfold f_X3_makeSum at h
  obtain ⟨hv, h⟩ := vm_spec h
  refine pw_aload_n (pc := 0) F dX3_makeSum_0 rfl ?_
  obtain ⟨x1, ex1, h⟩ := bnd h
  refine pw_get (pc := 1) F 3 0 11 (by decide) (by decide) g_b400760f80 inl_3 2 rfl dX3_makeSum_1 ex1 ?_
  refine pw_iload_n (pc := 4) F dX3_makeSum_4 rfl ?_
  obtain ⟨x2, ex2, h⟩ := bnd h
  refine pw_aald (pc := 5) F 6 (by decide) dX3_makeSum_5 ex2 ?_
  refine pw_astore_n (pc := 6) F dX3_makeSum_6 (lt_nl hn (by decide)) [some (vr a0), some (vr a1), some (vi a2), some (vr x2), none, none, none, none, none, none] rfl ?_
  refine pw_aload_n (pc := 7) F dX3_makeSum_7 rfl ?_
  refine pw_aload_n (pc := 8) F dX3_makeSum_8 rfl ?_
  obtain ⟨x3, ex3, h⟩ := bnd h
  refine pw_get (pc := 9) F 3 0 11 (by decide) (by decide) g_b400760f80 inl_3 2 rfl dX3_makeSum_9 ex3 ?_
  refine pw_aload_n (pc := 12) F dX3_makeSum_12 rfl ?_
  obtain ⟨x4, ex4, h⟩ := bnd h
  refine pw_get (pc := 13) F 5 3 92 (by decide) (by decide) g_304c2d7096 inl_5 0 rfl dX3_makeSum_13 ex4 ?_
  obtain ⟨x5, ex5, h⟩ := bnd h
  refine pw_aald (pc := 16) F 6 (by decide) dX3_makeSum_16 ex5 ?_
  obtain ⟨x6, ex6, h⟩ := bnd h
  refine pw_get (pc := 17) F 5 1 106 (by decide) (by decide) g_f9f49b6d42 inl_5 0 rfl dX3_makeSum_17 ex6 ?_
  obtain ⟨z7, ez7, h⟩ := bnd h
  refine pw_callV (pc := 20) (as := [vi x6]) (st := []) (r := (some (vi z7.1))) F 131 6 (by decide) rfl (fun l => m_X6_persons l a1 x6 H z7.1 z7.2 ez7) g_28683674ec g_57e4f7bfca g_eafb5ccad4 g_6d91b6d2eb g_7de7b516aa hd_X6_persons (rm_ok hf hl (by decide) (by decide)) rfl (vm_spec ez7).1 dX3_makeSum_20 rfl (stk' := [vi z7.1]) rfl ?_
  refine pw_istore (pc := 23) F dX3_makeSum_23 (lt_nl hn (by decide)) [some (vr a0), some (vr a1), some (vi a2), some (vr x2), some (vi z7.1), none, none, none, none, none] rfl ?_
  refine pw_lconst (pc := 25) F 0 dX3_makeSum_25 (by decide) ?_
  refine pw_lstore (pc := 26) F dX3_makeSum_26 (lt_nl hn (by decide)) [some (vr a0), some (vr a1), some (vi a2), some (vr x2), some (vi z7.1), some (vl 0), none, none, none, none] rfl ?_
  refine pw_iconst (pc := 28) F 1 dX3_makeSum_28 (by decide) ?_
  refine pw_istore (pc := 29) F dX3_makeSum_29 (lt_nl hn (by decide)) [some (vr a0), some (vr a1), some (vi a2), some (vr x2), some (vi z7.1), some (vl 0), none, some (vi 1), none, none] rfl ?_
  refine pw_iconst (pc := 31) F 0 dX3_makeSum_31 (by decide) ?_
  refine pw_istore (pc := 32) F dX3_makeSum_32 (lt_nl hn (by decide)) [some (vr a0), some (vr a1), some (vi a2), some (vr x2), some (vi z7.1), some (vl 0), none, some (vi 1), some (vi 0), none] rfl ?_
  exact pw_mask [false, true, true, true, true, true, true, true, true, true] (ls' := [none, some (vr a1), some (vi a2), some (vr x2), some (vi z7.1), some (vl 0), none, some (vi 1), some (vi 0), none]) rfl (lX3_makeSum_34_ok F q hn hf hl a1 a2 x2 z7.1  6000 0 1 0 z7.2 h)
/-! HouseholdVault$Form.makeHowMany(LHouseholdVault$Household;I)V -/
theorem dX3_makeHowMany_0 : decode cX3_makeHowMany 0 = .ok (.aload_n 1, 1) := by decide +kernel
theorem dX3_makeHowMany_1 : decode cX3_makeHowMany 1 = .ok (.getfield 71, 3) := by decide +kernel
theorem dX3_makeHowMany_4 : decode cX3_makeHowMany 4 = .ok (.iload_n 2, 1) := by decide +kernel
theorem dX3_makeHowMany_5 : decode cX3_makeHowMany 5 = .ok (.iconst (-1), 1) := by decide +kernel
theorem dX3_makeHowMany_6 : decode cX3_makeHowMany 6 = .ok (.invokestatic 85, 3) := by decide +kernel
theorem dX3_makeHowMany_9 : decode cX3_makeHowMany 9 = .ok (.aload_n 1, 1) := by decide +kernel
theorem dX3_makeHowMany_10 : decode cX3_makeHowMany 10 = .ok (.getfield 89, 3) := by decide +kernel
theorem dX3_makeHowMany_13 : decode cX3_makeHowMany 13 = .ok (.aload_n 0, 1) := by decide +kernel
theorem dX3_makeHowMany_14 : decode cX3_makeHowMany 14 = .ok (.getfield 11, 3) := by decide +kernel
theorem dX3_makeHowMany_17 : decode cX3_makeHowMany 17 = .ok (.iload_n 2, 1) := by decide +kernel
theorem dX3_makeHowMany_18 : decode cX3_makeHowMany 18 = .ok (.aaload, 1) := by decide +kernel
theorem dX3_makeHowMany_19 : decode cX3_makeHowMany 19 = .ok (.getfield 92, 3) := by decide +kernel
theorem dX3_makeHowMany_22 : decode cX3_makeHowMany 22 = .ok (.iaload, 1) := by decide +kernel
theorem dX3_makeHowMany_23 : decode cX3_makeHowMany 23 = .ok (.invokestatic 95, 3) := by decide +kernel
theorem dX3_makeHowMany_26 : decode cX3_makeHowMany 26 = .ok (.i2l, 1) := by decide +kernel
theorem dX3_makeHowMany_27 : decode cX3_makeHowMany 27 = .ok (.invokevirtual 100, 3) := by decide +kernel
theorem dX3_makeHowMany_30 : decode cX3_makeHowMany 30 = .ok (.return_, 1) := by decide +kernel
def f_X3_makeHowMany (a0 a1 a2 : Int) (H : PH) : RO := vm 3 a0 H <|
  (ld 20 H a1 0).bind fun x1 => (f_X8_spot a2 (-1) H).bind fun z2 => (ld 20 z2.2 a1 1).bind fun x3 => (ld 19 z2.2 a0 0).bind fun x4 => (ld 6 z2.2 x4 a2).bind fun x5 => (ld 21 z2.2 x5 3).bind fun x6 => (ld 0 z2.2 x3 x6).bind fun x7 => (f_J6_bitCount_0f7a4 x7 z2.2).bind fun z8 => (f_X6_put x1 z2.1 z8.1 z8.2).bind fun z9 => some (0, z9.2)
set_option maxHeartbeats 4000000 in
theorem m_X3_makeHowMany (l : Launch) (a0 a1 a2 : Int) (H : PH) (rr : Int) (HH : PH) (h : f_X3_makeHowMany a0 a1 a2 H = some (rr, HH)) : CT l yX3_makeHowMany cX3_makeHowMany 3 none 1 23 [vr a0, vr a1, vi a2] H none HH := by
  refine CT.of RX3 (by decide) rfl [some (vr a0), some (vr a1), some (vi a2)] rfl rfl ?_
  intro E F q hn hf hl hm
  unfold f_X3_makeHowMany at h
  obtain ⟨hv, h⟩ := vm_spec h
  refine pw_aload_n (pc := 0) F dX3_makeHowMany_0 rfl ?_
  obtain ⟨x1, ex1, h⟩ := bnd h
  refine pw_get (pc := 1) F 4 0 71 (by decide) (by decide) g_393e23b85c inl_4 2 rfl dX3_makeHowMany_1 ex1 ?_
  refine pw_iload_n (pc := 4) F dX3_makeHowMany_4 rfl ?_
  refine pw_iconst (pc := 5) F (-1) dX3_makeHowMany_5 (by decide) ?_
  obtain ⟨z2, ez2, h⟩ := bnd h
  refine pw_callSN (pc := 6) (as := [vi a2, vi (-1)]) (st := [vr x1]) (r := (some (vi z2.1))) F 85 RX8 (fun l => m_X8_spot l a2 (-1) H z2.1 z2.2 ez2) (fun _ _ _ h => h.2.2.2.2.2.1) g_aa0997f699 g_99e03e18e2 g_0d0469f624 hd_X8_spot (rm_ok hf hl (by decide) (by decide)) rfl dX3_makeHowMany_6 rfl (stk' := [vi z2.1, vr x1]) rfl ?_
  refine pw_aload_n (pc := 9) F dX3_makeHowMany_9 rfl ?_
  obtain ⟨x3, ex3, h⟩ := bnd h
  refine pw_get (pc := 10) F 4 1 89 (by decide) (by decide) g_55662c9da8 inl_4 2 rfl dX3_makeHowMany_10 ex3 ?_
  refine pw_aload_n (pc := 13) F dX3_makeHowMany_13 rfl ?_
  obtain ⟨x4, ex4, h⟩ := bnd h
  refine pw_get (pc := 14) F 3 0 11 (by decide) (by decide) g_b400760f80 inl_3 2 rfl dX3_makeHowMany_14 ex4 ?_
  refine pw_iload_n (pc := 17) F dX3_makeHowMany_17 rfl ?_
  obtain ⟨x5, ex5, h⟩ := bnd h
  refine pw_aald (pc := 18) F 6 (by decide) dX3_makeHowMany_18 ex5 ?_
  obtain ⟨x6, ex6, h⟩ := bnd h
  refine pw_get (pc := 19) F 5 3 92 (by decide) (by decide) g_304c2d7096 inl_5 0 rfl dX3_makeHowMany_19 ex6 ?_
  obtain ⟨x7, ex7, h⟩ := bnd h
  refine pw_iald (pc := 22) F dX3_makeHowMany_22 ex7 ?_
  obtain ⟨z8, ez8, h⟩ := bnd h
  refine pw_callS (pc := 23) (as := [vi x7]) (st := [vi z2.1, vr x1]) (r := (some (vi z8.1))) F 95 (fun l => m_J6_bitCount_0f7a4 l x7 z2.2 z8.1 z8.2 ez8) g_100318fa4f g_d625a12f10 g_adf3f26831 g_723f897fba hd_J6_bitCount_0f7a4 (rm_ok hf hl (by decide) (by decide)) rfl dX3_makeHowMany_23 rfl (stk' := [vi z8.1, vi z2.1, vr x1]) rfl ?_
  refine pw_i2l (pc := 26) F dX3_makeHowMany_26 ?_
  obtain ⟨z9, ez9, h⟩ := bnd h
  refine pw_callV (pc := 27) (as := [vi z2.1, vl z8.1]) (st := []) (r := none) F 100 6 (by decide) rfl (fun l => m_X6_put l x1 z2.1 z8.1 z8.2 z9.1 z9.2 ez9) g_4ab4df0845 g_a4f482ed8e g_a6da26925e g_6d91b6d2eb g_5239673ccb hd_X6_put (rm_ok hf hl (by decide) (by decide)) rfl (vm_spec ez9).1 dX3_makeHowMany_27 rfl (stk' := []) rfl ?_
  cases h
  exact pw_vret (pc := 30) F q dX3_makeHowMany_30
/-! HouseholdVault$Form.settle(LHouseholdVault$Household;)V -/
theorem dX3_settle_0 : decode cX3_settle 0 = .ok (.aload_n 1, 1) := by decide +kernel
theorem dX3_settle_1 : decode cX3_settle 1 = .ok (.getfield 62, 3) := by decide +kernel
theorem dX3_settle_4 : decode cX3_settle 4 = .ok (.istore_n 2, 1) := by decide +kernel
theorem dX3_settle_5 : decode cX3_settle 5 = .ok (.iload_n 2, 1) := by decide +kernel
theorem dX3_settle_6 : decode cX3_settle 6 = .ok (.aload_n 0, 1) := by decide +kernel
theorem dX3_settle_7 : decode cX3_settle 7 = .ok (.getfield 55, 3) := by decide +kernel
theorem dX3_settle_10 : decode cX3_settle 10 = .ok (.if_icmp .ge 90, 3) := by decide +kernel
theorem dX3_settle_13 : decode cX3_settle 13 = .ok (.aload_n 0, 1) := by decide +kernel
theorem dX3_settle_14 : decode cX3_settle 14 = .ok (.getfield 23, 3) := by decide +kernel
theorem dX3_settle_17 : decode cX3_settle 17 = .ok (.iload_n 2, 1) := by decide +kernel
theorem dX3_settle_18 : decode cX3_settle 18 = .ok (.iaload, 1) := by decide +kernel
theorem dX3_settle_19 : decode cX3_settle 19 = .ok (.istore_n 3, 1) := by decide +kernel
theorem dX3_settle_20 : decode cX3_settle 20 = .ok (.iload_n 3, 1) := by decide +kernel
theorem dX3_settle_21 : decode cX3_settle 21 = .ok (.bipush 24, 2) := by decide +kernel
theorem dX3_settle_23 : decode cX3_settle 23 = .ok (.if_icmp .lt 15, 3) := by decide +kernel
theorem dX3_settle_26 : decode cX3_settle 26 = .ok (.aload_n 0, 1) := by decide +kernel
theorem dX3_settle_27 : decode cX3_settle 27 = .ok (.aload_n 1, 1) := by decide +kernel
theorem dX3_settle_28 : decode cX3_settle 28 = .ok (.iload_n 3, 1) := by decide +kernel
theorem dX3_settle_29 : decode cX3_settle 29 = .ok (.bipush 24, 2) := by decide +kernel
theorem dX3_settle_31 : decode cX3_settle 31 = .ok (.isub, 1) := by decide +kernel
theorem dX3_settle_32 : decode cX3_settle 32 = .ok (.invokevirtual 67, 3) := by decide +kernel
theorem dX3_settle_35 : decode cX3_settle 35 = .ok (.goto 59, 3) := by decide +kernel
theorem dX3_settle_38 : decode cX3_settle 38 = .ok (.aload_n 0, 1) := by decide +kernel
theorem dX3_settle_39 : decode cX3_settle 39 = .ok (.getfield 11, 3) := by decide +kernel
theorem dX3_settle_42 : decode cX3_settle 42 = .ok (.iload_n 3, 1) := by decide +kernel
theorem dX3_settle_43 : decode cX3_settle 43 = .ok (.aaload, 1) := by decide +kernel
theorem dX3_settle_44 : decode cX3_settle 44 = .ok (.getfield 38, 3) := by decide +kernel
theorem dX3_settle_47 : decode cX3_settle 47 = .ok (.iconst 1, 1) := by decide +kernel
theorem dX3_settle_48 : decode cX3_settle 48 = .ok (.if_icmp .ne 15, 3) := by decide +kernel
theorem dX3_settle_51 : decode cX3_settle 51 = .ok (.aload_n 0, 1) := by decide +kernel
theorem dX3_settle_52 : decode cX3_settle 52 = .ok (.aload_n 1, 1) := by decide +kernel
theorem dX3_settle_53 : decode cX3_settle 53 = .ok (.getfield 71, 3) := by decide +kernel
theorem dX3_settle_56 : decode cX3_settle 56 = .ok (.iload_n 3, 1) := by decide +kernel
theorem dX3_settle_57 : decode cX3_settle 57 = .ok (.invokevirtual 75, 3) := by decide +kernel
theorem dX3_settle_60 : decode cX3_settle 60 = .ok (.goto 34, 3) := by decide +kernel
theorem dX3_settle_63 : decode cX3_settle 63 = .ok (.aload_n 0, 1) := by decide +kernel
theorem dX3_settle_64 : decode cX3_settle 64 = .ok (.getfield 11, 3) := by decide +kernel
theorem dX3_settle_67 : decode cX3_settle 67 = .ok (.iload_n 3, 1) := by decide +kernel
theorem dX3_settle_68 : decode cX3_settle 68 = .ok (.aaload, 1) := by decide +kernel
theorem dX3_settle_69 : decode cX3_settle 69 = .ok (.getfield 38, 3) := by decide +kernel
theorem dX3_settle_72 : decode cX3_settle 72 = .ok (.iconst 3, 1) := by decide +kernel
theorem dX3_settle_73 : decode cX3_settle 73 = .ok (.if_icmp .ne 15, 3) := by decide +kernel
theorem dX3_settle_76 : decode cX3_settle 76 = .ok (.aload_n 0, 1) := by decide +kernel
theorem dX3_settle_77 : decode cX3_settle 77 = .ok (.aload_n 1, 1) := by decide +kernel
theorem dX3_settle_78 : decode cX3_settle 78 = .ok (.getfield 71, 3) := by decide +kernel
theorem dX3_settle_81 : decode cX3_settle 81 = .ok (.iload_n 3, 1) := by decide +kernel
theorem dX3_settle_82 : decode cX3_settle 82 = .ok (.invokevirtual 79, 3) := by decide +kernel
theorem dX3_settle_85 : decode cX3_settle 85 = .ok (.goto 9, 3) := by decide +kernel
theorem dX3_settle_88 : decode cX3_settle 88 = .ok (.aload_n 0, 1) := by decide +kernel
theorem dX3_settle_89 : decode cX3_settle 89 = .ok (.aload_n 1, 1) := by decide +kernel
theorem dX3_settle_90 : decode cX3_settle 90 = .ok (.iload_n 3, 1) := by decide +kernel
theorem dX3_settle_91 : decode cX3_settle 91 = .ok (.invokevirtual 82, 3) := by decide +kernel
theorem dX3_settle_94 : decode cX3_settle 94 = .ok (.iinc 2 1, 3) := by decide +kernel
theorem dX3_settle_97 : decode cX3_settle 97 = .ok (.goto (-92), 3) := by decide +kernel
theorem dX3_settle_100 : decode cX3_settle 100 = .ok (.aload_n 1, 1) := by decide +kernel
theorem dX3_settle_101 : decode cX3_settle 101 = .ok (.aload_n 0, 1) := by decide +kernel
theorem dX3_settle_102 : decode cX3_settle 102 = .ok (.getfield 55, 3) := by decide +kernel
theorem dX3_settle_105 : decode cX3_settle 105 = .ok (.putfield 62, 3) := by decide +kernel
theorem dX3_settle_108 : decode cX3_settle 108 = .ok (.return_, 1) := by decide +kernel
def jX3_settle_94 (self5 : Int → PH → RO) (p0 p1 p2 : Int) (H : PH) : RO :=
  self5 (w32 (p2 + 1)) H
set_option maxHeartbeats 4000000 in
theorem jX3_settle_94_ok {E : PE} {rr : Int} {HH : PH} (F : FX E cX3_settle RX3) (q : QE E none HH none) (hn : nLof E = 4) (hf : (roomOf E).frames = 4) (hl : (roomOf E).locals = 91) (self5 : Int → PH → RO) (p0 p1 p2 : Int) (H : PH) (ih5 : ∀ (v2 : Int) (HV : PH), self5 v2 HV = some (rr, HH) → PW E 5 [some (vr p0), some (vr p1), some (vi v2), none] [] HV) (h : jX3_settle_94 self5 p0 p1 p2 H = some (rr, HH)) : PW E 94 [some (vr p0), some (vr p1), some (vi p2), none] [] H := by
  unfold jX3_settle_94 at h
  refine pw_iinc (pc := 94) F dX3_settle_94 rfl (lt_nl hn (by decide)) [some (vr p0), some (vr p1), some (vi (w32 (p2 + 1))), none] rfl (by decide) ?_
  refine pw_goto (pc := 97) F 5 dX3_settle_97 (by decide) ?_
  exact pw_mask [true, true, true, true] (ls' := [some (vr p0), some (vr p1), some (vi (w32 (p2 + 1))), none]) rfl (ih5 (w32 (p2 + 1)) H h)
def lX3_settle_5 (p0 p1 : Int) (self5 : Int → PH → RO) (p2 : Int) (H : PH) : RO :=
  (ld 19 H p0 5).bind fun x1 => (if p2 ≥ x1 then (ld 19 H p0 5).bind fun x2 => (stv 20 H p1 2 x2).bind fun H3 => some (0, H3)
  else (ld 19 H p0 4).bind fun x4 => (ld 0 H x4 p2).bind fun x5 => (if x5 < 24 then (ld 19 H p0 0).bind fun x6 => (ld 6 H x6 x5).bind fun x7 => (ld 21 H x7 2).bind fun x8 => (if x8 ≠ 1 then (ld 19 H p0 0).bind fun x9 => (ld 6 H x9 x5).bind fun x10 => (ld 21 H x10 2).bind fun x11 => (if x11 ≠ 3 then (f_X3_makeHowMany p0 p1 x5 H).bind fun z12 => jX3_settle_94 self5 p0 p1 p2 z12.2
  else (ld 20 H p1 0).bind fun x13 => (f_X3_makeSum p0 x13 x5 H).bind fun z14 => jX3_settle_94 self5 p0 p1 p2 z14.2)
  else (ld 20 H p1 0).bind fun x15 => (f_X3_makeMapped p0 x15 x5 H).bind fun z16 => jX3_settle_94 self5 p0 p1 p2 z16.2)
  else (f_X3_makeTruths p0 p1 (w32 (x5 - 24)) H).bind fun z17 => jX3_settle_94 self5 p0 p1 p2 z17.2))
set_option maxHeartbeats 4000000 in
theorem lX3_settle_5_ok {E : PE} {rr : Int} {HH : PH} (F : FX E cX3_settle RX3) (q : QE E none HH none) (hn : nLof E = 4) (hf : (roomOf E).frames = 4) (hl : (roomOf E).locals = 91) (p0 p1 : Int) : ∀ (n : Nat) (p2 : Int) (H : PH), lq1 (lX3_settle_5 p0 p1) n p2 H = some (rr, HH) → PW E 5 [some (vr p0), some (vr p1), some (vi p2), none] [] H := by
  refine lq1_ind (P := fun p2 H => PW E 5 [some (vr p0), some (vr p1), some (vi p2), none] [] H) ?_
  intro self5 ih5 p2 H h
  unfold lX3_settle_5 at h
  refine pw_iload_n (pc := 5) F dX3_settle_5 rfl ?_
  refine pw_aload_n (pc := 6) F dX3_settle_6 rfl ?_
  obtain ⟨x1, ex1, h⟩ := bnd h
  refine pw_get (pc := 7) F 3 5 55 (by decide) (by decide) g_ef6ab81c3b inl_3 0 rfl dX3_settle_7 ex1 ?_
  refine pw_icmp_ge (pc := 10) F 100 dX3_settle_10 (by decide) (fun hc => ?_) (fun hc => ?_)
  · have h := iteT hc h
    refine pw_aload_n (pc := 100) F dX3_settle_100 rfl ?_
    refine pw_aload_n (pc := 101) F dX3_settle_101 rfl ?_
    obtain ⟨x2, ex2, h⟩ := bnd h
    refine pw_get (pc := 102) F 3 5 55 (by decide) (by decide) g_ef6ab81c3b inl_3 0 rfl dX3_settle_102 ex2 ?_
    obtain ⟨H3, eH3, h⟩ := bnd h
    refine pw_put (pc := 105) F 4 2 62 (by decide) (by decide) g_2e29f0927d inl_4 rfl 0 rfl dX3_settle_105 trivial eH3 ?_
    cases h
    exact pw_vret (pc := 108) F q dX3_settle_108
  · have h := iteF hc h
    refine pw_aload_n (pc := 13) F dX3_settle_13 rfl ?_
    obtain ⟨x4, ex4, h⟩ := bnd h
    refine pw_get (pc := 14) F 3 4 23 (by decide) (by decide) g_508b17616b inl_3 2 rfl dX3_settle_14 ex4 ?_
    refine pw_iload_n (pc := 17) F dX3_settle_17 rfl ?_
    obtain ⟨x5, ex5, h⟩ := bnd h
    refine pw_iald (pc := 18) F dX3_settle_18 ex5 ?_
    refine pw_istore_n (pc := 19) F dX3_settle_19 (lt_nl hn (by decide)) [some (vr p0), some (vr p1), some (vi p2), some (vi x5)] rfl ?_
    refine pw_iload_n (pc := 20) F dX3_settle_20 rfl ?_
    refine pw_bipush (pc := 21) F 24 dX3_settle_21 (by decide) ?_
    refine pw_icmp_lt (pc := 23) F 38 dX3_settle_23 (by decide) (fun hc => ?_) (fun hc => ?_)
    · have h := iteT hc h
      refine pw_aload_n (pc := 38) F dX3_settle_38 rfl ?_
      obtain ⟨x6, ex6, h⟩ := bnd h
      refine pw_get (pc := 39) F 3 0 11 (by decide) (by decide) g_b400760f80 inl_3 2 rfl dX3_settle_39 ex6 ?_
      refine pw_iload_n (pc := 42) F dX3_settle_42 rfl ?_
      obtain ⟨x7, ex7, h⟩ := bnd h
      refine pw_aald (pc := 43) F 6 (by decide) dX3_settle_43 ex7 ?_
      obtain ⟨x8, ex8, h⟩ := bnd h
      refine pw_get (pc := 44) F 5 2 38 (by decide) (by decide) g_44b2781333 inl_5 0 rfl dX3_settle_44 ex8 ?_
      refine pw_iconst (pc := 47) F 1 dX3_settle_47 (by decide) ?_
      refine pw_icmp_ne (pc := 48) F 63 dX3_settle_48 (by decide) (fun hc => ?_) (fun hc => ?_)
      · have h := iteT hc h
        refine pw_aload_n (pc := 63) F dX3_settle_63 rfl ?_
        obtain ⟨x9, ex9, h⟩ := bnd h
        refine pw_get (pc := 64) F 3 0 11 (by decide) (by decide) g_b400760f80 inl_3 2 rfl dX3_settle_64 ex9 ?_
        refine pw_iload_n (pc := 67) F dX3_settle_67 rfl ?_
        obtain ⟨x10, ex10, h⟩ := bnd h
        refine pw_aald (pc := 68) F 6 (by decide) dX3_settle_68 ex10 ?_
        obtain ⟨x11, ex11, h⟩ := bnd h
        refine pw_get (pc := 69) F 5 2 38 (by decide) (by decide) g_44b2781333 inl_5 0 rfl dX3_settle_69 ex11 ?_
        refine pw_iconst (pc := 72) F 3 dX3_settle_72 (by decide) ?_
        refine pw_icmp_ne (pc := 73) F 88 dX3_settle_73 (by decide) (fun hc => ?_) (fun hc => ?_)
        · have h := iteT hc h
          refine pw_aload_n (pc := 88) F dX3_settle_88 rfl ?_
          refine pw_aload_n (pc := 89) F dX3_settle_89 rfl ?_
          refine pw_iload_n (pc := 90) F dX3_settle_90 rfl ?_
          obtain ⟨z12, ez12, h⟩ := bnd h
          refine pw_callV (pc := 91) (as := [vr p1, vi x5]) (st := []) (r := none) F 82 3 (by decide) rfl (fun l => m_X3_makeHowMany l p0 p1 x5 H z12.1 z12.2 ez12) g_3e22aabfd0 g_cb23f8b7d9 g_5e4b8f9da6 g_106b72596f g_86450edef1 hd_X3_makeHowMany (rm_ok hf hl (by decide) (by decide)) rfl (vm_spec ez12).1 dX3_settle_91 rfl (stk' := []) rfl ?_
          exact pw_mask [true, true, true, false] (ls' := [some (vr p0), some (vr p1), some (vi p2), none]) rfl (jX3_settle_94_ok F q hn hf hl self5 p0 p1 p2 z12.2 ih5 h)
        · have h := iteF hc h
          refine pw_aload_n (pc := 76) F dX3_settle_76 rfl ?_
          refine pw_aload_n (pc := 77) F dX3_settle_77 rfl ?_
          obtain ⟨x13, ex13, h⟩ := bnd h
          refine pw_get (pc := 78) F 4 0 71 (by decide) (by decide) g_393e23b85c inl_4 2 rfl dX3_settle_78 ex13 ?_
          refine pw_iload_n (pc := 81) F dX3_settle_81 rfl ?_
          obtain ⟨z14, ez14, h⟩ := bnd h
          refine pw_callV (pc := 82) (as := [vr x13, vi x5]) (st := []) (r := none) F 79 3 (by decide) rfl (fun l => m_X3_makeSum l p0 x13 x5 H z14.1 z14.2 ez14) g_bfdea9ccea g_1f15513c11 g_39f2794b99 g_106b72596f g_0ad19b0235 hd_X3_makeSum (rm_ok hf hl (by decide) (by decide)) rfl (vm_spec ez14).1 dX3_settle_82 rfl (stk' := []) rfl ?_
          refine pw_goto (pc := 85) F 94 dX3_settle_85 (by decide) ?_
          exact pw_mask [true, true, true, false] (ls' := [some (vr p0), some (vr p1), some (vi p2), none]) rfl (jX3_settle_94_ok F q hn hf hl self5 p0 p1 p2 z14.2 ih5 h)
      · have h := iteF hc h
        refine pw_aload_n (pc := 51) F dX3_settle_51 rfl ?_
        refine pw_aload_n (pc := 52) F dX3_settle_52 rfl ?_
        obtain ⟨x15, ex15, h⟩ := bnd h
        refine pw_get (pc := 53) F 4 0 71 (by decide) (by decide) g_393e23b85c inl_4 2 rfl dX3_settle_53 ex15 ?_
        refine pw_iload_n (pc := 56) F dX3_settle_56 rfl ?_
        obtain ⟨z16, ez16, h⟩ := bnd h
        refine pw_callV (pc := 57) (as := [vr x15, vi x5]) (st := []) (r := none) F 75 3 (by decide) rfl (fun l => m_X3_makeMapped l p0 x15 x5 H z16.1 z16.2 ez16) g_7c0979fafe g_4028f8027a g_dbad68bcd8 g_106b72596f g_11e7f9ed13 hd_X3_makeMapped (rm_ok hf hl (by decide) (by decide)) rfl (vm_spec ez16).1 dX3_settle_57 rfl (stk' := []) rfl ?_
        refine pw_goto (pc := 60) F 94 dX3_settle_60 (by decide) ?_
        exact pw_mask [true, true, true, false] (ls' := [some (vr p0), some (vr p1), some (vi p2), none]) rfl (jX3_settle_94_ok F q hn hf hl self5 p0 p1 p2 z16.2 ih5 h)
    · have h := iteF hc h
      refine pw_aload_n (pc := 26) F dX3_settle_26 rfl ?_
      refine pw_aload_n (pc := 27) F dX3_settle_27 rfl ?_
      refine pw_iload_n (pc := 28) F dX3_settle_28 rfl ?_
      refine pw_bipush (pc := 29) F 24 dX3_settle_29 (by decide) ?_
      refine pw_isub (pc := 31) F dX3_settle_31 ?_
      obtain ⟨z17, ez17, h⟩ := bnd h
      refine pw_callV (pc := 32) (as := [vr p1, vi (w32 (x5 - 24))]) (st := []) (r := none) F 67 3 (by decide) rfl (fun l => m_X3_makeTruths l p0 p1 (w32 (x5 - 24)) H z17.1 z17.2 ez17) g_339c01efb6 g_712ac3a3ca g_1534c8ec07 g_106b72596f g_5eb3fd9bba hd_X3_makeTruths (rm_ok hf hl (by decide) (by decide)) rfl (vm_spec ez17).1 dX3_settle_32 rfl (stk' := []) rfl ?_
      refine pw_goto (pc := 35) F 94 dX3_settle_35 (by decide) ?_
      exact pw_mask [true, true, true, false] (ls' := [some (vr p0), some (vr p1), some (vi p2), none]) rfl (jX3_settle_94_ok F q hn hf hl self5 p0 p1 p2 z17.2 ih5 h)
def f_X3_settle (a0 a1 : Int) (H : PH) : RO := vm 3 a0 H <|
  (ld 20 H a1 2).bind fun x1 => lq1 (lX3_settle_5 a0 a1) 6000 x1 H
set_option maxHeartbeats 4000000 in
theorem m_X3_settle (l : Launch) (a0 a1 : Int) (H : PH) (rr : Int) (HH : PH) (h : f_X3_settle a0 a1 H = some (rr, HH)) : CT l yX3_settle cX3_settle 4 none 4 91 [vr a0, vr a1] H none HH := by
  refine CT.of RX3 (by decide) rfl [some (vr a0), some (vr a1), none, none] rfl rfl ?_
  intro E F q hn hf hl hm
  unfold f_X3_settle at h
  obtain ⟨hv, h⟩ := vm_spec h
  refine pw_aload_n (pc := 0) F dX3_settle_0 rfl ?_
  obtain ⟨x1, ex1, h⟩ := bnd h
  refine pw_get (pc := 1) F 4 2 62 (by decide) (by decide) g_2e29f0927d inl_4 0 rfl dX3_settle_1 ex1 ?_
  refine pw_istore_n (pc := 4) F dX3_settle_4 (lt_nl hn (by decide)) [some (vr a0), some (vr a1), some (vi x1), none] rfl ?_
  exact pw_mask [true, true, true, true] (ls' := [some (vr a0), some (vr a1), some (vi x1), none]) rfl (lX3_settle_5_ok F q hn hf hl a0 a1  6000 x1 H h)
/-! HouseholdVault$Sheet.<init>()V -/
theorem dX6_init_0 : decode cX6_init 0 = .ok (.aload_n 0, 1) := by decide +kernel
theorem dX6_init_1 : decode cX6_init 1 = .ok (.invokespecial 3, 3) := by decide +kernel
theorem dX6_init_4 : decode cX6_init 4 = .ok (.aload_n 0, 1) := by decide +kernel
theorem dX6_init_5 : decode cX6_init 5 = .ok (.bipush 120, 2) := by decide +kernel
theorem dX6_init_7 : decode cX6_init 7 = .ok (.newarray .long, 2) := by decide +kernel
theorem dX6_init_9 : decode cX6_init 9 = .ok (.putfield 9, 3) := by decide +kernel
theorem dX6_init_12 : decode cX6_init 12 = .ok (.aload_n 0, 1) := by decide +kernel
theorem dX6_init_13 : decode cX6_init 13 = .ok (.bipush 120, 2) := by decide +kernel
theorem dX6_init_15 : decode cX6_init 15 = .ok (.newarray .int, 2) := by decide +kernel
theorem dX6_init_17 : decode cX6_init 17 = .ok (.putfield 15, 3) := by decide +kernel
theorem dX6_init_20 : decode cX6_init 20 = .ok (.aload_n 0, 1) := by decide +kernel
theorem dX6_init_21 : decode cX6_init 21 = .ok (.getfield 15, 3) := by decide +kernel
theorem dX6_init_24 : decode cX6_init 24 = .ok (.iconst 1, 1) := by decide +kernel
theorem dX6_init_25 : decode cX6_init 25 = .ok (.invokestatic 19, 3) := by decide +kernel
theorem dX6_init_28 : decode cX6_init 28 = .ok (.return_, 1) := by decide +kernel
def f_X6_init (a0 : Int) (H : PH) : RO := vm 6 a0 H <|
  (newa 1 120 H).bind fun z1 => (stv 22 z1.2 a0 0 z1.1).bind fun H2 => (newa 0 120 H2).bind fun z3 => (stv 22 z3.2 a0 1 z3.1).bind fun H4 => (ld 22 H4 a0 1).bind fun x5 => (f_J7_fill_53178 x5 1 H4).bind fun z6 => some (0, z6.2)
set_option maxHeartbeats 4000000 in
theorem m_X6_init (l : Launch) (a0 : Int) (H : PH) (rr : Int) (HH : PH) (h : f_X6_init a0 H = some (rr, HH)) : CT l yX6_init cX6_init 1 none 1 23 [vr a0] H none HH := by
  refine CT.of RX6 (by decide) rfl [some (vr a0)] rfl rfl ?_
  intro E F q hn hf hl hm
  unfold f_X6_init at h
  obtain ⟨hv, h⟩ := vm_spec h
  refine pw_aload_n (pc := 0) F dX6_init_0 rfl ?_
  refine pw_objInit (pc := 1) F 3 g_f24f68bff4 g_93fb852fc9 g_ecc6a87410 (rm_ok hf hl (by decide) (by decide)) dX6_init_1 (vm_nn hv) ?_
  refine pw_aload_n (pc := 4) F dX6_init_4 rfl ?_
  refine pw_bipush (pc := 5) F 120 dX6_init_5 (by decide) ?_
  obtain ⟨z1, ez1, h⟩ := bnd h
  refine pw_newa (pc := 7) F 1 (by decide) g_5bec7c7dcf dX6_init_7 ez1 ?_
  obtain ⟨H2, eH2, h⟩ := bnd h
  refine pw_putF (pc := 9) F 6 0 9 (by decide) (by decide) g_72f7a14260 inl_6 rfl hm rfl 2 rfl dX6_init_9 trivial eH2 ?_
  refine pw_aload_n (pc := 12) F dX6_init_12 rfl ?_
  refine pw_bipush (pc := 13) F 120 dX6_init_13 (by decide) ?_
  obtain ⟨z3, ez3, h⟩ := bnd h
  refine pw_newa (pc := 15) F 0 (by decide) g_c17bb956eb dX6_init_15 ez3 ?_
  obtain ⟨H4, eH4, h⟩ := bnd h
  refine pw_putF (pc := 17) F 6 1 15 (by decide) (by decide) g_89df54ea64 inl_6 rfl hm rfl 2 rfl dX6_init_17 trivial eH4 ?_
  refine pw_aload_n (pc := 20) F dX6_init_20 rfl ?_
  obtain ⟨x5, ex5, h⟩ := bnd h
  refine pw_get (pc := 21) F 6 1 15 (by decide) (by decide) g_89df54ea64 inl_6 2 rfl dX6_init_21 ex5 ?_
  refine pw_iconst (pc := 24) F 1 dX6_init_24 (by decide) ?_
  obtain ⟨z6, ez6, h⟩ := bnd h
  refine pw_callS (pc := 25) (as := [vr x5, vi 1]) (st := []) (r := none) F 19 (fun l => m_J7_fill_53178 l x5 1 H4 z6.1 z6.2 ez6) g_43d11fbe27 g_68318bac72 g_242181dc25 g_eeb4d3e40c hd_J7_fill_53178 (rm_ok hf hl (by decide) (by decide)) rfl dX6_init_25 rfl (stk' := []) rfl ?_
  cases h
  exact pw_vret (pc := 28) F q dX6_init_28
/-! HouseholdVault$Household.<init>()V -/
theorem dX4_init_0 : decode cX4_init 0 = .ok (.aload_n 0, 1) := by decide +kernel
theorem dX4_init_1 : decode cX4_init 1 = .ok (.invokespecial 3, 3) := by decide +kernel
theorem dX4_init_4 : decode cX4_init 4 = .ok (.aload_n 0, 1) := by decide +kernel
theorem dX4_init_5 : decode cX4_init 5 = .ok (.new 9, 3) := by decide +kernel
theorem dX4_init_8 : decode cX4_init 8 = .ok (.dup, 1) := by decide +kernel
theorem dX4_init_9 : decode cX4_init 9 = .ok (.invokespecial 11, 3) := by decide +kernel
theorem dX4_init_12 : decode cX4_init 12 = .ok (.putfield 12, 3) := by decide +kernel
theorem dX4_init_15 : decode cX4_init 15 = .ok (.aload_n 0, 1) := by decide +kernel
theorem dX4_init_16 : decode cX4_init 16 = .ok (.bipush 60, 2) := by decide +kernel
theorem dX4_init_18 : decode cX4_init 18 = .ok (.newarray .int, 2) := by decide +kernel
theorem dX4_init_20 : decode cX4_init 20 = .ok (.putfield 18, 3) := by decide +kernel
theorem dX4_init_23 : decode cX4_init 23 = .ok (.aload_n 0, 1) := by decide +kernel
theorem dX4_init_24 : decode cX4_init 24 = .ok (.sipush 2520, 3) := by decide +kernel
theorem dX4_init_27 : decode cX4_init 27 = .ok (.putfield 22, 3) := by decide +kernel
theorem dX4_init_30 : decode cX4_init 30 = .ok (.return_, 1) := by decide +kernel
def f_X4_init (a0 : Int) (H : PH) : RO := vm 4 a0 H <|
  (newo 6 H).bind fun z1 => (f_X6_init z1.1 z1.2).bind fun z2 => (stv 20 z2.2 a0 0 z1.1).bind fun H3 => (newa 0 60 H3).bind fun z4 => (stv 20 z4.2 a0 1 z4.1).bind fun H5 => (stv 20 H5 a0 3 2520).bind fun H6 => some (0, H6)
set_option maxHeartbeats 4000000 in
theorem m_X4_init (l : Launch) (a0 : Int) (H : PH) (rr : Int) (HH : PH) (h : f_X4_init a0 H = some (rr, HH)) : CT l yX4_init cX4_init 1 none 2 43 [vr a0] H none HH := by
  refine CT.of RX4 (by decide) rfl [some (vr a0)] rfl rfl ?_
  intro E F q hn hf hl hm
  unfold f_X4_init at h
  obtain ⟨hv, h⟩ := vm_spec h
  refine pw_aload_n (pc := 0) F dX4_init_0 rfl ?_
  refine pw_objInit (pc := 1) F 3 g_e26db97033 g_93fb852fc9 g_ecc6a87410 (rm_ok hf hl (by decide) (by decide)) dX4_init_1 (vm_nn hv) ?_
  refine pw_aload_n (pc := 4) F dX4_init_4 rfl ?_
  obtain ⟨z1, ez1, h⟩ := bnd h
  refine pw_new (pc := 5) F 6 9 (by decide) g_ee233f99d7 g_17df4778bc g_761596d198 inl_6 dX4_init_5 ez1 ?_
  refine pw_dup (pc := 8) F dX4_init_8 (pvne rfl) ?_
  obtain ⟨z2, ez2, h⟩ := bnd h
  refine pw_callI (pc := 9) (as := []) (st := [vr z1.1, vr a0]) F 11 (vm_nn (vm_spec ez2).1) (fun l => m_X6_init l z1.1 z1.2 z2.1 z2.2 ez2) rfl g_6b230bcf0e g_85c98f22bc g_6d91b6d2eb g_5eee904427 hd_X6_init (rm_ok hf hl (by decide) (by decide)) rfl dX4_init_9 rfl ?_
  obtain ⟨H3, eH3, h⟩ := bnd h
  refine pw_putF (pc := 12) F 4 0 12 (by decide) (by decide) g_388a57b48e inl_4 rfl hm rfl 2 rfl dX4_init_12 trivial eH3 ?_
  refine pw_aload_n (pc := 15) F dX4_init_15 rfl ?_
  refine pw_bipush (pc := 16) F 60 dX4_init_16 (by decide) ?_
  obtain ⟨z4, ez4, h⟩ := bnd h
  refine pw_newa (pc := 18) F 0 (by decide) g_c17bb956eb dX4_init_18 ez4 ?_
  obtain ⟨H5, eH5, h⟩ := bnd h
  refine pw_putF (pc := 20) F 4 1 18 (by decide) (by decide) g_f27e4cde6e inl_4 rfl hm rfl 2 rfl dX4_init_20 trivial eH5 ?_
  refine pw_aload_n (pc := 23) F dX4_init_23 rfl ?_
  refine pw_sipush (pc := 24) F 2520 dX4_init_24 (by decide) ?_
  obtain ⟨H6, eH6, h⟩ := bnd h
  refine pw_put (pc := 27) F 4 3 22 (by decide) (by decide) g_1e78f4eb9d inl_4 rfl 0 rfl dX4_init_27 trivial eH6 ?_
  cases h
  exact pw_vret (pc := 30) F q dX4_init_30
/-! HouseholdVault$Household.unsettle(I)V -/
theorem dX4_unsettle_0 : decode cX4_unsettle 0 = .ok (.aload_n 0, 1) := by decide +kernel
theorem dX4_unsettle_1 : decode cX4_unsettle 1 = .ok (.aload_n 0, 1) := by decide +kernel
theorem dX4_unsettle_2 : decode cX4_unsettle 2 = .ok (.getfield 26, 3) := by decide +kernel
theorem dX4_unsettle_5 : decode cX4_unsettle 5 = .ok (.iload_n 1, 1) := by decide +kernel
theorem dX4_unsettle_6 : decode cX4_unsettle 6 = .ok (.invokestatic 29, 3) := by decide +kernel
theorem dX4_unsettle_9 : decode cX4_unsettle 9 = .ok (.putfield 26, 3) := by decide +kernel
theorem dX4_unsettle_12 : decode cX4_unsettle 12 = .ok (.return_, 1) := by decide +kernel
def f_X4_unsettle (a0 a1 : Int) (H : PH) : RO := vm 4 a0 H <|
  (ld 20 H a0 2).bind fun x1 => (stv 20 H a0 2 (imin x1 a1)).bind fun H2 => some (0, H2)
set_option maxHeartbeats 4000000 in
theorem m_X4_unsettle (l : Launch) (a0 a1 : Int) (H : PH) (rr : Int) (HH : PH) (h : f_X4_unsettle a0 a1 H = some (rr, HH)) : CT l yX4_unsettle cX4_unsettle 2 none 1 21 [vr a0, vi a1] H none HH := by
  refine CT.of RX4 (by decide) rfl [some (vr a0), some (vi a1)] rfl rfl ?_
  intro E F q hn hf hl hm
  unfold f_X4_unsettle at h
  obtain ⟨hv, h⟩ := vm_spec h
  refine pw_aload_n (pc := 0) F dX4_unsettle_0 rfl ?_
  refine pw_aload_n (pc := 1) F dX4_unsettle_1 rfl ?_
  obtain ⟨x1, ex1, h⟩ := bnd h
  refine pw_get (pc := 2) F 4 2 26 (by decide) (by decide) g_7c02a4b645 inl_4 0 rfl dX4_unsettle_2 ex1 ?_
  refine pw_iload_n (pc := 5) F dX4_unsettle_5 rfl ?_
  refine pw_mmin (pc := 6) F 29 g_858cc0dceb g_6443835c00 g_544deca7c6 g_4cca852340 (rm_ok hf hl (by decide) (by decide)) rfl dX4_unsettle_6 ?_
  obtain ⟨H2, eH2, h⟩ := bnd h
  refine pw_put (pc := 9) F 4 2 26 (by decide) (by decide) g_7c02a4b645 inl_4 rfl 0 rfl dX4_unsettle_9 trivial eH2 ?_
  cases h
  exact pw_vret (pc := 12) F q dX4_unsettle_12
/-! HouseholdVault$Household.isSo(III)Z -/
theorem dX4_isSo_0 : decode cX4_isSo 0 = .ok (.iload_n 2, 1) := by decide +kernel
theorem dX4_isSo_1 : decode cX4_isSo 1 = .ok (.iconst (-1), 1) := by decide +kernel
theorem dX4_isSo_2 : decode cX4_isSo 2 = .ok (.if_icmp .ne 7, 3) := by decide +kernel
theorem dX4_isSo_5 : decode cX4_isSo 5 = .ok (.iconst 0, 1) := by decide +kernel
theorem dX4_isSo_6 : decode cX4_isSo 6 = .ok (.goto 4, 3) := by decide +kernel
theorem dX4_isSo_9 : decode cX4_isSo 9 = .ok (.iload_n 3, 1) := by decide +kernel
theorem dX4_isSo_10 : decode cX4_isSo 10 = .ok (.istore 4, 2) := by decide +kernel
theorem dX4_isSo_12 : decode cX4_isSo 12 = .ok (.aload_n 0, 1) := by decide +kernel
theorem dX4_isSo_13 : decode cX4_isSo 13 = .ok (.getfield 18, 3) := by decide +kernel
theorem dX4_isSo_16 : decode cX4_isSo 16 = .ok (.iload_n 1, 1) := by decide +kernel
theorem dX4_isSo_17 : decode cX4_isSo 17 = .ok (.iaload, 1) := by decide +kernel
theorem dX4_isSo_18 : decode cX4_isSo 18 = .ok (.iload 4, 2) := by decide +kernel
theorem dX4_isSo_20 : decode cX4_isSo 20 = .ok (.ishr, 1) := by decide +kernel
theorem dX4_isSo_21 : decode cX4_isSo 21 = .ok (.iconst 1, 1) := by decide +kernel
theorem dX4_isSo_22 : decode cX4_isSo 22 = .ok (.iand, 1) := by decide +kernel
theorem dX4_isSo_23 : decode cX4_isSo 23 = .ok (.ifCond .eq 7, 3) := by decide +kernel
theorem dX4_isSo_26 : decode cX4_isSo 26 = .ok (.iconst 1, 1) := by decide +kernel
theorem dX4_isSo_27 : decode cX4_isSo 27 = .ok (.goto 4, 3) := by decide +kernel
theorem dX4_isSo_30 : decode cX4_isSo 30 = .ok (.iconst 0, 1) := by decide +kernel
theorem dX4_isSo_31 : decode cX4_isSo 31 = .ok (.ireturn, 1) := by decide +kernel
def jX4_isSo_10 (p0 p1 s0 : Int) (H : PH) : RO :=
  (ld 20 H p0 1).bind fun x1 => (ld 0 H x1 p1).bind fun x2 => (if (i_and (i_shr x2 s0) 1) = 0 then some (0, H)
  else some (1, H))
set_option maxHeartbeats 4000000 in
theorem jX4_isSo_10_ok {E : PE} {rr : Int} {HH : PH} (F : FX E cX4_isSo RX4) (q : QE E (some (vi rr)) HH (some .boolean)) (hn : nLof E = 5) (hf : (roomOf E).frames = 0) (hl : (roomOf E).locals = 0) (p0 p1 s0 : Int) (H : PH) (h : jX4_isSo_10 p0 p1 s0 H = some (rr, HH)) : PW E 10 [some (vr p0), some (vi p1), none, none, none] [vi s0] H := by
  unfold jX4_isSo_10 at h
  refine pw_istore (pc := 10) F dX4_isSo_10 (lt_nl hn (by decide)) [some (vr p0), some (vi p1), none, none, some (vi s0)] rfl ?_
  refine pw_aload_n (pc := 12) F dX4_isSo_12 rfl ?_
  obtain ⟨x1, ex1, h⟩ := bnd h
  refine pw_get (pc := 13) F 4 1 18 (by decide) (by decide) g_f27e4cde6e inl_4 2 rfl dX4_isSo_13 ex1 ?_
  refine pw_iload_n (pc := 16) F dX4_isSo_16 rfl ?_
  obtain ⟨x2, ex2, h⟩ := bnd h
  refine pw_iald (pc := 17) F dX4_isSo_17 ex2 ?_
  refine pw_iload (pc := 18) F dX4_isSo_18 rfl ?_
  refine pw_ishr (pc := 20) F dX4_isSo_20 ?_
  refine pw_iconst (pc := 21) F 1 dX4_isSo_21 (by decide) ?_
  refine pw_iand (pc := 22) F dX4_isSo_22 ?_
  refine pw_if_eq (pc := 23) F 30 dX4_isSo_23 (by decide) (fun hc => ?_) (fun hc => ?_)
  · have h := iteT hc h
    refine pw_iconst (pc := 30) F 0 dX4_isSo_30 (by decide) ?_
    cases h
    exact pw_zret (pc := 31) F q (by decide) dX4_isSo_31
  · have h := iteF hc h
    refine pw_iconst (pc := 26) F 1 dX4_isSo_26 (by decide) ?_
    refine pw_goto (pc := 27) F 31 dX4_isSo_27 (by decide) ?_
    cases h
    exact pw_zret (pc := 31) F q (by decide) dX4_isSo_31
def f_X4_isSo (a0 a1 a2 a3 : Int) (H : PH) : RO := vm 4 a0 H <|
  (if a2 ≠ (-1) then jX4_isSo_10 a0 a1 a3 H
  else jX4_isSo_10 a0 a1 0 H)
set_option maxHeartbeats 4000000 in
theorem m_X4_isSo (l : Launch) (a0 a1 a2 a3 : Int) (H : PH) (rr : Int) (HH : PH) (h : f_X4_isSo a0 a1 a2 a3 H = some (rr, HH)) : CT l yX4_isSo cX4_isSo 5 (some .boolean) 0 0 [vr a0, vi a1, vi a2, vi a3] H (some (vi rr)) HH := by
  refine CT.of RX4 (by decide) rfl [some (vr a0), some (vi a1), some (vi a2), some (vi a3), none] rfl rfl ?_
  intro E F q hn hf hl hm
  unfold f_X4_isSo at h
  obtain ⟨hv, h⟩ := vm_spec h
  refine pw_iload_n (pc := 0) F dX4_isSo_0 rfl ?_
  refine pw_iconst (pc := 1) F (-1) dX4_isSo_1 (by decide) ?_
  refine pw_icmp_ne (pc := 2) F 9 dX4_isSo_2 (by decide) (fun hc => ?_) (fun hc => ?_)
  · have h := iteT hc h
    refine pw_iload_n (pc := 9) F dX4_isSo_9 rfl ?_
    exact pw_mask [true, true, false, false, true] (ls' := [some (vr a0), some (vi a1), none, none, none]) rfl (jX4_isSo_10_ok F q hn hf hl a0 a1 a3 H h)
  · have h := iteF hc h
    refine pw_iconst (pc := 5) F 0 dX4_isSo_5 (by decide) ?_
    refine pw_goto (pc := 6) F 10 dX4_isSo_6 (by decide) ?_
    exact pw_mask [true, true, false, false, true] (ls' := [some (vr a0), some (vi a1), none, none, none]) rfl (jX4_isSo_10_ok F q hn hf hl a0 a1 0 H h)
/-! HouseholdVault$Question.<init>(IIII)V -/
theorem dX5_init_0 : decode cX5_init 0 = .ok (.aload_n 0, 1) := by decide +kernel
theorem dX5_init_1 : decode cX5_init 1 = .ok (.invokespecial 3, 3) := by decide +kernel
theorem dX5_init_4 : decode cX5_init 4 = .ok (.aload_n 0, 1) := by decide +kernel
theorem dX5_init_5 : decode cX5_init 5 = .ok (.iload_n 1, 1) := by decide +kernel
theorem dX5_init_6 : decode cX5_init 6 = .ok (.putfield 9, 3) := by decide +kernel
theorem dX5_init_9 : decode cX5_init 9 = .ok (.aload_n 0, 1) := by decide +kernel
theorem dX5_init_10 : decode cX5_init 10 = .ok (.iload_n 2, 1) := by decide +kernel
theorem dX5_init_11 : decode cX5_init 11 = .ok (.putfield 15, 3) := by decide +kernel
theorem dX5_init_14 : decode cX5_init 14 = .ok (.aload_n 0, 1) := by decide +kernel
theorem dX5_init_15 : decode cX5_init 15 = .ok (.iload_n 3, 1) := by decide +kernel
theorem dX5_init_16 : decode cX5_init 16 = .ok (.putfield 18, 3) := by decide +kernel
theorem dX5_init_19 : decode cX5_init 19 = .ok (.aload_n 0, 1) := by decide +kernel
theorem dX5_init_20 : decode cX5_init 20 = .ok (.iload 4, 2) := by decide +kernel
theorem dX5_init_22 : decode cX5_init 22 = .ok (.putfield 21, 3) := by decide +kernel
theorem dX5_init_25 : decode cX5_init 25 = .ok (.aload_n 0, 1) := by decide +kernel
theorem dX5_init_26 : decode cX5_init 26 = .ok (.bipush 8, 2) := by decide +kernel
theorem dX5_init_28 : decode cX5_init 28 = .ok (.newarray .int, 2) := by decide +kernel
theorem dX5_init_30 : decode cX5_init 30 = .ok (.putfield 24, 3) := by decide +kernel
theorem dX5_init_33 : decode cX5_init 33 = .ok (.iload_n 3, 1) := by decide +kernel
theorem dX5_init_34 : decode cX5_init 34 = .ok (.iconst 1, 1) := by decide +kernel
theorem dX5_init_35 : decode cX5_init 35 = .ok (.if_icmp .ne 8, 3) := by decide +kernel
theorem dX5_init_38 : decode cX5_init 38 = .ok (.bipush 8, 2) := by decide +kernel
theorem dX5_init_40 : decode cX5_init 40 = .ok (.goto 4, 3) := by decide +kernel
theorem dX5_init_43 : decode cX5_init 43 = .ok (.iconst 0, 1) := by decide +kernel
theorem dX5_init_44 : decode cX5_init 44 = .ok (.istore 5, 2) := by decide +kernel
theorem dX5_init_46 : decode cX5_init 46 = .ok (.aload_n 0, 1) := by decide +kernel
theorem dX5_init_47 : decode cX5_init 47 = .ok (.iload 5, 2) := by decide +kernel
theorem dX5_init_49 : decode cX5_init 49 = .ok (.newarray .long, 2) := by decide +kernel
theorem dX5_init_51 : decode cX5_init 51 = .ok (.putfield 28, 3) := by decide +kernel
theorem dX5_init_54 : decode cX5_init 54 = .ok (.aload_n 0, 1) := by decide +kernel
theorem dX5_init_55 : decode cX5_init 55 = .ok (.iload 5, 2) := by decide +kernel
theorem dX5_init_57 : decode cX5_init 57 = .ok (.newarray .long, 2) := by decide +kernel
theorem dX5_init_59 : decode cX5_init 59 = .ok (.putfield 32, 3) := by decide +kernel
theorem dX5_init_62 : decode cX5_init 62 = .ok (.aload_n 0, 1) := by decide +kernel
theorem dX5_init_63 : decode cX5_init 63 = .ok (.iload 5, 2) := by decide +kernel
theorem dX5_init_65 : decode cX5_init 65 = .ok (.newarray .int, 2) := by decide +kernel
theorem dX5_init_67 : decode cX5_init 67 = .ok (.putfield 35, 3) := by decide +kernel
theorem dX5_init_70 : decode cX5_init 70 = .ok (.aload_n 0, 1) := by decide +kernel
theorem dX5_init_71 : decode cX5_init 71 = .ok (.iconst (-1), 1) := by decide +kernel
theorem dX5_init_72 : decode cX5_init 72 = .ok (.putfield 38, 3) := by decide +kernel
theorem dX5_init_75 : decode cX5_init 75 = .ok (.return_, 1) := by decide +kernel
def jX5_init_44 (p0 s0 : Int) (H : PH) : RO :=
  (newa 1 s0 H).bind fun z1 => (stv 21 z1.2 p0 6 z1.1).bind fun H2 => (newa 1 s0 H2).bind fun z3 => (stv 21 z3.2 p0 7 z3.1).bind fun H4 => (newa 0 s0 H4).bind fun z5 => (stv 21 z5.2 p0 8 z5.1).bind fun H6 => (stv 21 H6 p0 10 (-1)).bind fun H7 => some (0, H7)
set_option maxHeartbeats 4000000 in
theorem jX5_init_44_ok {E : PE} {rr : Int} {HH : PH} (F : FX E cX5_init RX5) (q : QE E none HH none) (hn : nLof E = 6) (hf : (roomOf E).frames = 1) (hl : (roomOf E).locals = 12) (hm : methOf E = "<init>") (p0 s0 : Int) (H : PH) (h : jX5_init_44 p0 s0 H = some (rr, HH)) : PW E 44 [some (vr p0), none, none, none, none, none] [vi s0] H := by
  unfold jX5_init_44 at h
  refine pw_istore (pc := 44) F dX5_init_44 (lt_nl hn (by decide)) [some (vr p0), none, none, none, none, some (vi s0)] rfl ?_
  refine pw_aload_n (pc := 46) F dX5_init_46 rfl ?_
  refine pw_iload (pc := 47) F dX5_init_47 rfl ?_
  obtain ⟨z1, ez1, h⟩ := bnd h
  refine pw_newa (pc := 49) F 1 (by decide) g_5bec7c7dcf dX5_init_49 ez1 ?_
  obtain ⟨H2, eH2, h⟩ := bnd h
  refine pw_putF (pc := 51) F 5 6 28 (by decide) (by decide) g_50634ba720 inl_5 rfl hm rfl 2 rfl dX5_init_51 trivial eH2 ?_
  refine pw_aload_n (pc := 54) F dX5_init_54 rfl ?_
  refine pw_iload (pc := 55) F dX5_init_55 rfl ?_
  obtain ⟨z3, ez3, h⟩ := bnd h
  refine pw_newa (pc := 57) F 1 (by decide) g_5bec7c7dcf dX5_init_57 ez3 ?_
  obtain ⟨H4, eH4, h⟩ := bnd h
  refine pw_putF (pc := 59) F 5 7 32 (by decide) (by decide) g_568b27af1b inl_5 rfl hm rfl 2 rfl dX5_init_59 trivial eH4 ?_
  refine pw_aload_n (pc := 62) F dX5_init_62 rfl ?_
  refine pw_iload (pc := 63) F dX5_init_63 rfl ?_
  obtain ⟨z5, ez5, h⟩ := bnd h
  refine pw_newa (pc := 65) F 0 (by decide) g_c17bb956eb dX5_init_65 ez5 ?_
  obtain ⟨H6, eH6, h⟩ := bnd h
  refine pw_putF (pc := 67) F 5 8 35 (by decide) (by decide) g_a61bef37a4 inl_5 rfl hm rfl 2 rfl dX5_init_67 trivial eH6 ?_
  refine pw_aload_n (pc := 70) F dX5_init_70 rfl ?_
  refine pw_iconst (pc := 71) F (-1) dX5_init_71 (by decide) ?_
  obtain ⟨H7, eH7, h⟩ := bnd h
  refine pw_put (pc := 72) F 5 10 38 (by decide) (by decide) g_835d4a81f2 inl_5 rfl 0 rfl dX5_init_72 trivial eH7 ?_
  cases h
  exact pw_vret (pc := 75) F q dX5_init_75
def f_X5_init (a0 a1 a2 a3 a4 : Int) (H : PH) : RO := vm 5 a0 H <|
  (stv 21 H a0 0 a1).bind fun H1 => (stv 21 H1 a0 1 a2).bind fun H2 => (stv 21 H2 a0 2 a3).bind fun H3 => (stv 21 H3 a0 3 a4).bind fun H4 => (newa 0 8 H4).bind fun z5 => (stv 21 z5.2 a0 4 z5.1).bind fun H6 => (if a3 ≠ 1 then jX5_init_44 a0 0 H6
  else jX5_init_44 a0 8 H6)
set_option maxHeartbeats 4000000 in
theorem m_X5_init (l : Launch) (a0 a1 a2 a3 a4 : Int) (H : PH) (rr : Int) (HH : PH) (h : f_X5_init a0 a1 a2 a3 a4 H = some (rr, HH)) : CT l yX5_init cX5_init 6 none 1 12 [vr a0, vi a1, vi a2, vi a3, vi a4] H none HH := by
  refine CT.of RX5 (by decide) rfl [some (vr a0), some (vi a1), some (vi a2), some (vi a3), some (vi a4), none] rfl rfl ?_
  intro E F q hn hf hl hm
  unfold f_X5_init at h
  obtain ⟨hv, h⟩ := vm_spec h
  refine pw_aload_n (pc := 0) F dX5_init_0 rfl ?_
  refine pw_objInit (pc := 1) F 3 g_aa0ee00f0f g_93fb852fc9 g_ecc6a87410 (rm_ok hf hl (by decide) (by decide)) dX5_init_1 (vm_nn hv) ?_
  refine pw_aload_n (pc := 4) F dX5_init_4 rfl ?_
  refine pw_iload_n (pc := 5) F dX5_init_5 rfl ?_
  obtain ⟨H1, eH1, h⟩ := bnd h
  refine pw_putF (pc := 6) F 5 0 9 (by decide) (by decide) g_9c99a9e193 inl_5 rfl hm rfl 0 rfl dX5_init_6 trivial eH1 ?_
  refine pw_aload_n (pc := 9) F dX5_init_9 rfl ?_
  refine pw_iload_n (pc := 10) F dX5_init_10 rfl ?_
  obtain ⟨H2, eH2, h⟩ := bnd h
  refine pw_putF (pc := 11) F 5 1 15 (by decide) (by decide) g_dbd9ff6c69 inl_5 rfl hm rfl 0 rfl dX5_init_11 trivial eH2 ?_
  refine pw_aload_n (pc := 14) F dX5_init_14 rfl ?_
  refine pw_iload_n (pc := 15) F dX5_init_15 rfl ?_
  obtain ⟨H3, eH3, h⟩ := bnd h
  refine pw_putF (pc := 16) F 5 2 18 (by decide) (by decide) g_ee9fab3031 inl_5 rfl hm rfl 0 rfl dX5_init_16 trivial eH3 ?_
  refine pw_aload_n (pc := 19) F dX5_init_19 rfl ?_
  refine pw_iload (pc := 20) F dX5_init_20 rfl ?_
  obtain ⟨H4, eH4, h⟩ := bnd h
  refine pw_putF (pc := 22) F 5 3 21 (by decide) (by decide) g_e546dd3fbc inl_5 rfl hm rfl 0 rfl dX5_init_22 trivial eH4 ?_
  refine pw_aload_n (pc := 25) F dX5_init_25 rfl ?_
  refine pw_bipush (pc := 26) F 8 dX5_init_26 (by decide) ?_
  obtain ⟨z5, ez5, h⟩ := bnd h
  refine pw_newa (pc := 28) F 0 (by decide) g_c17bb956eb dX5_init_28 ez5 ?_
  obtain ⟨H6, eH6, h⟩ := bnd h
  refine pw_putF (pc := 30) F 5 4 24 (by decide) (by decide) g_263512e477 inl_5 rfl hm rfl 2 rfl dX5_init_30 trivial eH6 ?_
  refine pw_iload_n (pc := 33) F dX5_init_33 rfl ?_
  refine pw_iconst (pc := 34) F 1 dX5_init_34 (by decide) ?_
  refine pw_icmp_ne (pc := 35) F 43 dX5_init_35 (by decide) (fun hc => ?_) (fun hc => ?_)
  · have h := iteT hc h
    refine pw_iconst (pc := 43) F 0 dX5_init_43 (by decide) ?_
    exact pw_mask [true, false, false, false, false, true] (ls' := [some (vr a0), none, none, none, none, none]) rfl (jX5_init_44_ok F q hn hf hl hm a0 0 H6 h)
  · have h := iteF hc h
    refine pw_bipush (pc := 38) F 8 dX5_init_38 (by decide) ?_
    refine pw_goto (pc := 40) F 44 dX5_init_40 (by decide) ?_
    exact pw_mask [true, false, false, false, false, true] (ls' := [some (vr a0), none, none, none, none, none]) rfl (jX5_init_44_ok F q hn hf hl hm a0 8 H6 h)
/-! HouseholdVault$Question.codeIndex(J)I -/
theorem dX5_codeIndex_0 : decode cX5_codeIndex 0 = .ok (.iconst 0, 1) := by decide +kernel
theorem dX5_codeIndex_1 : decode cX5_codeIndex 1 = .ok (.istore_n 3, 1) := by decide +kernel
theorem dX5_codeIndex_2 : decode cX5_codeIndex 2 = .ok (.iload_n 3, 1) := by decide +kernel
theorem dX5_codeIndex_3 : decode cX5_codeIndex 3 = .ok (.aload_n 0, 1) := by decide +kernel
theorem dX5_codeIndex_4 : decode cX5_codeIndex 4 = .ok (.getfield 41, 3) := by decide +kernel
theorem dX5_codeIndex_7 : decode cX5_codeIndex 7 = .ok (.if_icmp .ge 23, 3) := by decide +kernel
theorem dX5_codeIndex_10 : decode cX5_codeIndex 10 = .ok (.aload_n 0, 1) := by decide +kernel
theorem dX5_codeIndex_11 : decode cX5_codeIndex 11 = .ok (.getfield 24, 3) := by decide +kernel
theorem dX5_codeIndex_14 : decode cX5_codeIndex 14 = .ok (.iload_n 3, 1) := by decide +kernel
theorem dX5_codeIndex_15 : decode cX5_codeIndex 15 = .ok (.iaload, 1) := by decide +kernel
theorem dX5_codeIndex_16 : decode cX5_codeIndex 16 = .ok (.i2l, 1) := by decide +kernel
theorem dX5_codeIndex_17 : decode cX5_codeIndex 17 = .ok (.lload_n 1, 1) := by decide +kernel
theorem dX5_codeIndex_18 : decode cX5_codeIndex 18 = .ok (.lcmp, 1) := by decide +kernel
theorem dX5_codeIndex_19 : decode cX5_codeIndex 19 = .ok (.ifCond .ne 5, 3) := by decide +kernel
theorem dX5_codeIndex_22 : decode cX5_codeIndex 22 = .ok (.iload_n 3, 1) := by decide +kernel
theorem dX5_codeIndex_23 : decode cX5_codeIndex 23 = .ok (.ireturn, 1) := by decide +kernel
theorem dX5_codeIndex_24 : decode cX5_codeIndex 24 = .ok (.iinc 3 1, 3) := by decide +kernel
theorem dX5_codeIndex_27 : decode cX5_codeIndex 27 = .ok (.goto (-25), 3) := by decide +kernel
theorem dX5_codeIndex_30 : decode cX5_codeIndex 30 = .ok (.iconst (-1), 1) := by decide +kernel
theorem dX5_codeIndex_31 : decode cX5_codeIndex 31 = .ok (.ireturn, 1) := by decide +kernel
def lX5_codeIndex_2 (p0 p1 : Int) (self2 : Int → PH → RO) (p3 : Int) (H : PH) : RO :=
  (ld 21 H p0 5).bind fun x1 => (if p3 ≥ x1 then some ((-1), H)
  else (ld 21 H p0 4).bind fun x2 => (ld 0 H x2 p3).bind fun x3 => (if (lc x3 p1) ≠ 0 then self2 (w32 (p3 + 1)) H
  else some (p3, H)))
set_option maxHeartbeats 4000000 in
theorem lX5_codeIndex_2_ok {E : PE} {rr : Int} {HH : PH} (F : FX E cX5_codeIndex RX5) (q : QE E (some (vi rr)) HH (some .int)) (hn : nLof E = 4) (hf : (roomOf E).frames = 0) (hl : (roomOf E).locals = 0) (p0 p1 : Int) : ∀ (n : Nat) (p3 : Int) (H : PH), lq1 (lX5_codeIndex_2 p0 p1) n p3 H = some (rr, HH) → PW E 2 [some (vr p0), some (vl p1), none, some (vi p3)] [] H := by
  refine lq1_ind (P := fun p3 H => PW E 2 [some (vr p0), some (vl p1), none, some (vi p3)] [] H) ?_
  intro self2 ih2 p3 H h
  unfold lX5_codeIndex_2 at h
  refine pw_iload_n (pc := 2) F dX5_codeIndex_2 rfl ?_
  refine pw_aload_n (pc := 3) F dX5_codeIndex_3 rfl ?_
  obtain ⟨x1, ex1, h⟩ := bnd h
  refine pw_get (pc := 4) F 5 5 41 (by decide) (by decide) g_a2d82bf241 inl_5 0 rfl dX5_codeIndex_4 ex1 ?_
  refine pw_icmp_ge (pc := 7) F 30 dX5_codeIndex_7 (by decide) (fun hc => ?_) (fun hc => ?_)
  · have h := iteT hc h
    refine pw_iconst (pc := 30) F (-1) dX5_codeIndex_30 (by decide) ?_
    cases h
    exact pw_iret (pc := 31) F q dX5_codeIndex_31
  · have h := iteF hc h
    refine pw_aload_n (pc := 10) F dX5_codeIndex_10 rfl ?_
    obtain ⟨x2, ex2, h⟩ := bnd h
    refine pw_get (pc := 11) F 5 4 24 (by decide) (by decide) g_263512e477 inl_5 2 rfl dX5_codeIndex_11 ex2 ?_
    refine pw_iload_n (pc := 14) F dX5_codeIndex_14 rfl ?_
    obtain ⟨x3, ex3, h⟩ := bnd h
    refine pw_iald (pc := 15) F dX5_codeIndex_15 ex3 ?_
    refine pw_i2l (pc := 16) F dX5_codeIndex_16 ?_
    refine pw_lload_n (pc := 17) F dX5_codeIndex_17 rfl ?_
    refine pw_lcmp (pc := 18) F dX5_codeIndex_18 ?_
    refine pw_if_ne (pc := 19) F 24 dX5_codeIndex_19 (by decide) (fun hc => ?_) (fun hc => ?_)
    · have h := iteT hc h
      refine pw_iinc (pc := 24) F dX5_codeIndex_24 rfl (lt_nl hn (by decide)) [some (vr p0), some (vl p1), none, some (vi (w32 (p3 + 1)))] rfl (by decide) ?_
      refine pw_goto (pc := 27) F 2 dX5_codeIndex_27 (by decide) ?_
      exact pw_mask [true, true, true, true] (ls' := [some (vr p0), some (vl p1), none, some (vi (w32 (p3 + 1)))]) rfl (ih2 (w32 (p3 + 1)) H h)
    · have h := iteF hc h
      refine pw_iload_n (pc := 22) F dX5_codeIndex_22 rfl ?_
      cases h
      exact pw_iret (pc := 23) F q dX5_codeIndex_23
def f_X5_codeIndex (a0 a1 : Int) (H : PH) : RO := vm 5 a0 H <|
  lq1 (lX5_codeIndex_2 a0 a1) 6000 0 H
set_option maxHeartbeats 4000000 in
theorem m_X5_codeIndex (l : Launch) (a0 a1 : Int) (H : PH) (rr : Int) (HH : PH) (h : f_X5_codeIndex a0 a1 H = some (rr, HH)) : CT l yX5_codeIndex cX5_codeIndex 4 (some .int) 0 0 [vr a0, vl a1] H (some (vi rr)) HH := by
  refine CT.of RX5 (by decide) rfl [some (vr a0), some (vl a1), none, none] rfl rfl ?_
  intro E F q hn hf hl hm
  unfold f_X5_codeIndex at h
  obtain ⟨hv, h⟩ := vm_spec h
  refine pw_iconst (pc := 0) F 0 dX5_codeIndex_0 (by decide) ?_
  refine pw_istore_n (pc := 1) F dX5_codeIndex_1 (lt_nl hn (by decide)) [some (vr a0), some (vl a1), none, some (vi 0)] rfl ?_
  exact pw_mask [true, true, true, true] (ls' := [some (vr a0), some (vl a1), none, some (vi 0)]) rfl (lX5_codeIndex_2_ok F q hn hf hl a0 a1  6000 0 H h)
/-! HouseholdVault$Question.addCode(I)V -/
theorem dX5_addCode_0 : decode cX5_addCode 0 = .ok (.aload_n 0, 1) := by decide +kernel
theorem dX5_addCode_1 : decode cX5_addCode 1 = .ok (.getfield 41, 3) := by decide +kernel
theorem dX5_addCode_4 : decode cX5_addCode 4 = .ok (.bipush 8, 2) := by decide +kernel
theorem dX5_addCode_6 : decode cX5_addCode 6 = .ok (.if_icmp .lt 4, 3) := by decide +kernel
theorem dX5_addCode_9 : decode cX5_addCode 9 = .ok (.return_, 1) := by decide +kernel
theorem dX5_addCode_10 : decode cX5_addCode 10 = .ok (.aload_n 0, 1) := by decide +kernel
theorem dX5_addCode_11 : decode cX5_addCode 11 = .ok (.getfield 24, 3) := by decide +kernel
theorem dX5_addCode_14 : decode cX5_addCode 14 = .ok (.aload_n 0, 1) := by decide +kernel
theorem dX5_addCode_15 : decode cX5_addCode 15 = .ok (.getfield 41, 3) := by decide +kernel
theorem dX5_addCode_18 : decode cX5_addCode 18 = .ok (.iload_n 1, 1) := by decide +kernel
theorem dX5_addCode_19 : decode cX5_addCode 19 = .ok (.iastore, 1) := by decide +kernel
theorem dX5_addCode_20 : decode cX5_addCode 20 = .ok (.aload_n 0, 1) := by decide +kernel
theorem dX5_addCode_21 : decode cX5_addCode 21 = .ok (.dup, 1) := by decide +kernel
theorem dX5_addCode_22 : decode cX5_addCode 22 = .ok (.getfield 41, 3) := by decide +kernel
theorem dX5_addCode_25 : decode cX5_addCode 25 = .ok (.iconst 1, 1) := by decide +kernel
theorem dX5_addCode_26 : decode cX5_addCode 26 = .ok (.iadd, 1) := by decide +kernel
theorem dX5_addCode_27 : decode cX5_addCode 27 = .ok (.putfield 41, 3) := by decide +kernel
theorem dX5_addCode_30 : decode cX5_addCode 30 = .ok (.return_, 1) := by decide +kernel
def f_X5_addCode (a0 a1 : Int) (H : PH) : RO := vm 5 a0 H <|
  (ld 21 H a0 5).bind fun x1 => (if x1 < 8 then (ld 21 H a0 4).bind fun x2 => (ld 21 H a0 5).bind fun x3 => (stv 0 H x2 x3 a1).bind fun H4 => (ld 21 H4 a0 5).bind fun x5 => (stv 21 H4 a0 5 (w32 (x5 + 1))).bind fun H6 => some (0, H6)
  else some (0, H))
set_option maxHeartbeats 4000000 in
theorem m_X5_addCode (l : Launch) (a0 a1 : Int) (H : PH) (rr : Int) (HH : PH) (h : f_X5_addCode a0 a1 H = some (rr, HH)) : CT l yX5_addCode cX5_addCode 2 none 0 0 [vr a0, vi a1] H none HH := by
  refine CT.of RX5 (by decide) rfl [some (vr a0), some (vi a1)] rfl rfl ?_
  intro E F q hn hf hl hm
  unfold f_X5_addCode at h
  obtain ⟨hv, h⟩ := vm_spec h
  refine pw_aload_n (pc := 0) F dX5_addCode_0 rfl ?_
  obtain ⟨x1, ex1, h⟩ := bnd h
  refine pw_get (pc := 1) F 5 5 41 (by decide) (by decide) g_a2d82bf241 inl_5 0 rfl dX5_addCode_1 ex1 ?_
  refine pw_bipush (pc := 4) F 8 dX5_addCode_4 (by decide) ?_
  refine pw_icmp_lt (pc := 6) F 10 dX5_addCode_6 (by decide) (fun hc => ?_) (fun hc => ?_)
  · have h := iteT hc h
    refine pw_aload_n (pc := 10) F dX5_addCode_10 rfl ?_
    obtain ⟨x2, ex2, h⟩ := bnd h
    refine pw_get (pc := 11) F 5 4 24 (by decide) (by decide) g_263512e477 inl_5 2 rfl dX5_addCode_11 ex2 ?_
    refine pw_aload_n (pc := 14) F dX5_addCode_14 rfl ?_
    obtain ⟨x3, ex3, h⟩ := bnd h
    refine pw_get (pc := 15) F 5 5 41 (by decide) (by decide) g_a2d82bf241 inl_5 0 rfl dX5_addCode_15 ex3 ?_
    refine pw_iload_n (pc := 18) F dX5_addCode_18 rfl ?_
    obtain ⟨H4, eH4, h⟩ := bnd h
    refine pw_iast (pc := 19) F dX5_addCode_19 eH4 ?_
    refine pw_aload_n (pc := 20) F dX5_addCode_20 rfl ?_
    refine pw_dup (pc := 21) F dX5_addCode_21 (pvne rfl) ?_
    obtain ⟨x5, ex5, h⟩ := bnd h
    refine pw_get (pc := 22) F 5 5 41 (by decide) (by decide) g_a2d82bf241 inl_5 0 rfl dX5_addCode_22 ex5 ?_
    refine pw_iconst (pc := 25) F 1 dX5_addCode_25 (by decide) ?_
    refine pw_iadd (pc := 26) F dX5_addCode_26 ?_
    obtain ⟨H6, eH6, h⟩ := bnd h
    refine pw_put (pc := 27) F 5 5 41 (by decide) (by decide) g_a2d82bf241 inl_5 rfl 0 rfl dX5_addCode_27 trivial eH6 ?_
    cases h
    exact pw_vret (pc := 30) F q dX5_addCode_30
  · have h := iteF hc h
    cases h
    exact pw_vret (pc := 9) F q dX5_addCode_9
/-! HouseholdVault$Question.addRow(JJI)V -/
theorem dX5_addRow_0 : decode cX5_addRow 0 = .ok (.aload_n 0, 1) := by decide +kernel
theorem dX5_addRow_1 : decode cX5_addRow 1 = .ok (.getfield 44, 3) := by decide +kernel
theorem dX5_addRow_4 : decode cX5_addRow 4 = .ok (.aload_n 0, 1) := by decide +kernel
theorem dX5_addRow_5 : decode cX5_addRow 5 = .ok (.getfield 35, 3) := by decide +kernel
theorem dX5_addRow_8 : decode cX5_addRow 8 = .ok (.arraylength, 1) := by decide +kernel
theorem dX5_addRow_9 : decode cX5_addRow 9 = .ok (.if_icmp .lt 4, 3) := by decide +kernel
theorem dX5_addRow_12 : decode cX5_addRow 12 = .ok (.return_, 1) := by decide +kernel
theorem dX5_addRow_13 : decode cX5_addRow 13 = .ok (.aload_n 0, 1) := by decide +kernel
theorem dX5_addRow_14 : decode cX5_addRow 14 = .ok (.getfield 28, 3) := by decide +kernel
theorem dX5_addRow_17 : decode cX5_addRow 17 = .ok (.aload_n 0, 1) := by decide +kernel
theorem dX5_addRow_18 : decode cX5_addRow 18 = .ok (.getfield 44, 3) := by decide +kernel
theorem dX5_addRow_21 : decode cX5_addRow 21 = .ok (.lload_n 1, 1) := by decide +kernel
theorem dX5_addRow_22 : decode cX5_addRow 22 = .ok (.lastore, 1) := by decide +kernel
theorem dX5_addRow_23 : decode cX5_addRow 23 = .ok (.aload_n 0, 1) := by decide +kernel
theorem dX5_addRow_24 : decode cX5_addRow 24 = .ok (.getfield 32, 3) := by decide +kernel
theorem dX5_addRow_27 : decode cX5_addRow 27 = .ok (.aload_n 0, 1) := by decide +kernel
theorem dX5_addRow_28 : decode cX5_addRow 28 = .ok (.getfield 44, 3) := by decide +kernel
theorem dX5_addRow_31 : decode cX5_addRow 31 = .ok (.lload_n 3, 1) := by decide +kernel
theorem dX5_addRow_32 : decode cX5_addRow 32 = .ok (.lastore, 1) := by decide +kernel
theorem dX5_addRow_33 : decode cX5_addRow 33 = .ok (.aload_n 0, 1) := by decide +kernel
theorem dX5_addRow_34 : decode cX5_addRow 34 = .ok (.getfield 35, 3) := by decide +kernel
theorem dX5_addRow_37 : decode cX5_addRow 37 = .ok (.aload_n 0, 1) := by decide +kernel
theorem dX5_addRow_38 : decode cX5_addRow 38 = .ok (.getfield 44, 3) := by decide +kernel
theorem dX5_addRow_41 : decode cX5_addRow 41 = .ok (.iload 5, 2) := by decide +kernel
theorem dX5_addRow_43 : decode cX5_addRow 43 = .ok (.iastore, 1) := by decide +kernel
theorem dX5_addRow_44 : decode cX5_addRow 44 = .ok (.aload_n 0, 1) := by decide +kernel
theorem dX5_addRow_45 : decode cX5_addRow 45 = .ok (.dup, 1) := by decide +kernel
theorem dX5_addRow_46 : decode cX5_addRow 46 = .ok (.getfield 44, 3) := by decide +kernel
theorem dX5_addRow_49 : decode cX5_addRow 49 = .ok (.iconst 1, 1) := by decide +kernel
theorem dX5_addRow_50 : decode cX5_addRow 50 = .ok (.iadd, 1) := by decide +kernel
theorem dX5_addRow_51 : decode cX5_addRow 51 = .ok (.putfield 44, 3) := by decide +kernel
theorem dX5_addRow_54 : decode cX5_addRow 54 = .ok (.aload_n 0, 1) := by decide +kernel
theorem dX5_addRow_55 : decode cX5_addRow 55 = .ok (.iload 5, 2) := by decide +kernel
theorem dX5_addRow_57 : decode cX5_addRow 57 = .ok (.i2l, 1) := by decide +kernel
theorem dX5_addRow_58 : decode cX5_addRow 58 = .ok (.invokevirtual 47, 3) := by decide +kernel
theorem dX5_addRow_61 : decode cX5_addRow 61 = .ok (.iconst (-1), 1) := by decide +kernel
theorem dX5_addRow_62 : decode cX5_addRow 62 = .ok (.if_icmp .ne 9, 3) := by decide +kernel
theorem dX5_addRow_65 : decode cX5_addRow 65 = .ok (.aload_n 0, 1) := by decide +kernel
theorem dX5_addRow_66 : decode cX5_addRow 66 = .ok (.iload 5, 2) := by decide +kernel
theorem dX5_addRow_68 : decode cX5_addRow 68 = .ok (.invokevirtual 51, 3) := by decide +kernel
theorem dX5_addRow_71 : decode cX5_addRow 71 = .ok (.return_, 1) := by decide +kernel
def f_X5_addRow (a0 a1 a2 a3 : Int) (H : PH) : RO := vm 5 a0 H <|
  (ld 21 H a0 9).bind fun x1 => (ld 21 H a0 8).bind fun x2 => (alen H x2).bind fun x3 => (if x1 < x3 then (ld 21 H a0 6).bind fun x4 => (ld 21 H a0 9).bind fun x5 => (stv 1 H x4 x5 a1).bind fun H6 => (ld 21 H6 a0 7).bind fun x7 => (ld 21 H6 a0 9).bind fun x8 => (stv 1 H6 x7 x8 a2).bind fun H9 => (ld 21 H9 a0 8).bind fun x10 => (ld 21 H9 a0 9).bind fun x11 => (stv 0 H9 x10 x11 a3).bind fun H12 => (ld 21 H12 a0 9).bind fun x13 => (stv 21 H12 a0 9 (w32 (x13 + 1))).bind fun H14 => (f_X5_codeIndex a0 a3 H14).bind fun z15 => (if z15.1 ≠ (-1) then some (0, z15.2)
  else (f_X5_addCode a0 a3 z15.2).bind fun z16 => some (0, z16.2))
  else some (0, H))
set_option maxHeartbeats 4000000 in
theorem m_X5_addRow (l : Launch) (a0 a1 a2 a3 : Int) (H : PH) (rr : Int) (HH : PH) (h : f_X5_addRow a0 a1 a2 a3 H = some (rr, HH)) : CT l yX5_addRow cX5_addRow 6 none 1 23 [vr a0, vl a1, vl a2, vi a3] H none HH := by
  refine CT.of RX5 (by decide) rfl [some (vr a0), some (vl a1), none, some (vl a2), none, some (vi a3)] rfl rfl ?_
  intro E F q hn hf hl hm
  unfold f_X5_addRow at h
  obtain ⟨hv, h⟩ := vm_spec h
  refine pw_aload_n (pc := 0) F dX5_addRow_0 rfl ?_
  obtain ⟨x1, ex1, h⟩ := bnd h
  refine pw_get (pc := 1) F 5 9 44 (by decide) (by decide) g_c27b71773b inl_5 0 rfl dX5_addRow_1 ex1 ?_
  refine pw_aload_n (pc := 4) F dX5_addRow_4 rfl ?_
  obtain ⟨x2, ex2, h⟩ := bnd h
  refine pw_get (pc := 5) F 5 8 35 (by decide) (by decide) g_a61bef37a4 inl_5 2 rfl dX5_addRow_5 ex2 ?_
  obtain ⟨x3, ex3, h⟩ := bnd h
  refine pw_alen (pc := 8) F dX5_addRow_8 ex3 ?_
  refine pw_icmp_lt (pc := 9) F 13 dX5_addRow_9 (by decide) (fun hc => ?_) (fun hc => ?_)
  · have h := iteT hc h
    refine pw_aload_n (pc := 13) F dX5_addRow_13 rfl ?_
    obtain ⟨x4, ex4, h⟩ := bnd h
    refine pw_get (pc := 14) F 5 6 28 (by decide) (by decide) g_50634ba720 inl_5 2 rfl dX5_addRow_14 ex4 ?_
    refine pw_aload_n (pc := 17) F dX5_addRow_17 rfl ?_
    obtain ⟨x5, ex5, h⟩ := bnd h
    refine pw_get (pc := 18) F 5 9 44 (by decide) (by decide) g_c27b71773b inl_5 0 rfl dX5_addRow_18 ex5 ?_
    refine pw_lload_n (pc := 21) F dX5_addRow_21 rfl ?_
    obtain ⟨H6, eH6, h⟩ := bnd h
    refine pw_last (pc := 22) F dX5_addRow_22 eH6 ?_
    refine pw_aload_n (pc := 23) F dX5_addRow_23 rfl ?_
    obtain ⟨x7, ex7, h⟩ := bnd h
    refine pw_get (pc := 24) F 5 7 32 (by decide) (by decide) g_568b27af1b inl_5 2 rfl dX5_addRow_24 ex7 ?_
    refine pw_aload_n (pc := 27) F dX5_addRow_27 rfl ?_
    obtain ⟨x8, ex8, h⟩ := bnd h
    refine pw_get (pc := 28) F 5 9 44 (by decide) (by decide) g_c27b71773b inl_5 0 rfl dX5_addRow_28 ex8 ?_
    refine pw_lload_n (pc := 31) F dX5_addRow_31 rfl ?_
    obtain ⟨H9, eH9, h⟩ := bnd h
    refine pw_last (pc := 32) F dX5_addRow_32 eH9 ?_
    refine pw_aload_n (pc := 33) F dX5_addRow_33 rfl ?_
    obtain ⟨x10, ex10, h⟩ := bnd h
    refine pw_get (pc := 34) F 5 8 35 (by decide) (by decide) g_a61bef37a4 inl_5 2 rfl dX5_addRow_34 ex10 ?_
    refine pw_aload_n (pc := 37) F dX5_addRow_37 rfl ?_
    obtain ⟨x11, ex11, h⟩ := bnd h
    refine pw_get (pc := 38) F 5 9 44 (by decide) (by decide) g_c27b71773b inl_5 0 rfl dX5_addRow_38 ex11 ?_
    refine pw_iload (pc := 41) F dX5_addRow_41 rfl ?_
    obtain ⟨H12, eH12, h⟩ := bnd h
    refine pw_iast (pc := 43) F dX5_addRow_43 eH12 ?_
    refine pw_aload_n (pc := 44) F dX5_addRow_44 rfl ?_
    refine pw_dup (pc := 45) F dX5_addRow_45 (pvne rfl) ?_
    obtain ⟨x13, ex13, h⟩ := bnd h
    refine pw_get (pc := 46) F 5 9 44 (by decide) (by decide) g_c27b71773b inl_5 0 rfl dX5_addRow_46 ex13 ?_
    refine pw_iconst (pc := 49) F 1 dX5_addRow_49 (by decide) ?_
    refine pw_iadd (pc := 50) F dX5_addRow_50 ?_
    obtain ⟨H14, eH14, h⟩ := bnd h
    refine pw_put (pc := 51) F 5 9 44 (by decide) (by decide) g_c27b71773b inl_5 rfl 0 rfl dX5_addRow_51 trivial eH14 ?_
    refine pw_aload_n (pc := 54) F dX5_addRow_54 rfl ?_
    refine pw_iload (pc := 55) F dX5_addRow_55 rfl ?_
    refine pw_i2l (pc := 57) F dX5_addRow_57 ?_
    obtain ⟨z15, ez15, h⟩ := bnd h
    refine pw_callV (pc := 58) (as := [vl a3]) (st := []) (r := (some (vi z15.1))) F 47 5 (by decide) rfl (fun l => m_X5_codeIndex l a0 a3 H14 z15.1 z15.2 ez15) g_22658e7647 g_badf7ddd51 g_77ec39cdaf g_5f14f7581a g_dacd68e1e9 hd_X5_codeIndex (rm_ok hf hl (by decide) (by decide)) rfl (vm_spec ez15).1 dX5_addRow_58 rfl (stk' := [vi z15.1]) rfl ?_
    refine pw_iconst (pc := 61) F (-1) dX5_addRow_61 (by decide) ?_
    refine pw_icmp_ne (pc := 62) F 71 dX5_addRow_62 (by decide) (fun hc => ?_) (fun hc => ?_)
    · have h := iteT hc h
      cases h
      exact pw_vret (pc := 71) F q dX5_addRow_71
    · have h := iteF hc h
      refine pw_aload_n (pc := 65) F dX5_addRow_65 rfl ?_
      refine pw_iload (pc := 66) F dX5_addRow_66 rfl ?_
      obtain ⟨z16, ez16, h⟩ := bnd h
      refine pw_callV (pc := 68) (as := [vi a3]) (st := []) (r := none) F 51 5 (by decide) rfl (fun l => m_X5_addCode l a0 a3 z15.2 z16.1 z16.2 ez16) g_4b3cf19447 g_a0597c9762 g_f7c8001723 g_5f14f7581a g_c839b202be hd_X5_addCode (rm_ok hf hl (by decide) (by decide)) rfl (vm_spec ez16).1 dX5_addRow_68 rfl (stk' := []) rfl ?_
      cases h
      exact pw_vret (pc := 71) F q dX5_addRow_71
  · have h := iteF hc h
    cases h
    exact pw_vret (pc := 12) F q dX5_addRow_12
/-! HouseholdVault$Question.takes(J)Z -/
theorem dX5_takes_0 : decode cX5_takes 0 = .ok (.aload_n 0, 1) := by decide +kernel
theorem dX5_takes_1 : decode cX5_takes 1 = .ok (.getfield 9, 3) := by decide +kernel
theorem dX5_takes_4 : decode cX5_takes 4 = .ok (.tableswitch 132 0 4 #[36, 51, 74, 88, 110], 36) := by decide +kernel
theorem dX5_takes_40 : decode cX5_takes 40 = .ok (.aload_n 0, 1) := by decide +kernel
theorem dX5_takes_41 : decode cX5_takes 41 = .ok (.lload_n 1, 1) := by decide +kernel
theorem dX5_takes_42 : decode cX5_takes 42 = .ok (.invokevirtual 47, 3) := by decide +kernel
theorem dX5_takes_45 : decode cX5_takes 45 = .ok (.iconst (-1), 1) := by decide +kernel
theorem dX5_takes_46 : decode cX5_takes 46 = .ok (.if_icmp .eq 7, 3) := by decide +kernel
theorem dX5_takes_49 : decode cX5_takes 49 = .ok (.iconst 1, 1) := by decide +kernel
theorem dX5_takes_50 : decode cX5_takes 50 = .ok (.goto 4, 3) := by decide +kernel
theorem dX5_takes_53 : decode cX5_takes 53 = .ok (.iconst 0, 1) := by decide +kernel
theorem dX5_takes_54 : decode cX5_takes 54 = .ok (.ireturn, 1) := by decide +kernel
theorem dX5_takes_55 : decode cX5_takes 55 = .ok (.lload_n 1, 1) := by decide +kernel
theorem dX5_takes_56 : decode cX5_takes 56 = .ok (.lconst 0, 1) := by decide +kernel
theorem dX5_takes_57 : decode cX5_takes 57 = .ok (.lcmp, 1) := by decide +kernel
theorem dX5_takes_58 : decode cX5_takes 58 = .ok (.ifCond .lt 18, 3) := by decide +kernel
theorem dX5_takes_61 : decode cX5_takes 61 = .ok (.lload_n 1, 1) := by decide +kernel
theorem dX5_takes_62 : decode cX5_takes 62 = .ok (.lconst 1, 1) := by decide +kernel
theorem dX5_takes_63 : decode cX5_takes 63 = .ok (.aload_n 0, 1) := by decide +kernel
theorem dX5_takes_64 : decode cX5_takes 64 = .ok (.getfield 41, 3) := by decide +kernel
theorem dX5_takes_67 : decode cX5_takes 67 = .ok (.lshl, 1) := by decide +kernel
theorem dX5_takes_68 : decode cX5_takes 68 = .ok (.lcmp, 1) := by decide +kernel
theorem dX5_takes_69 : decode cX5_takes 69 = .ok (.ifCond .ge 7, 3) := by decide +kernel
theorem dX5_takes_72 : decode cX5_takes 72 = .ok (.iconst 1, 1) := by decide +kernel
theorem dX5_takes_73 : decode cX5_takes 73 = .ok (.goto 4, 3) := by decide +kernel
theorem dX5_takes_76 : decode cX5_takes 76 = .ok (.iconst 0, 1) := by decide +kernel
theorem dX5_takes_77 : decode cX5_takes 77 = .ok (.ireturn, 1) := by decide +kernel
theorem dX5_takes_78 : decode cX5_takes 78 = .ok (.lload_n 1, 1) := by decide +kernel
theorem dX5_takes_79 : decode cX5_takes 79 = .ok (.lload_n 1, 1) := by decide +kernel
theorem dX5_takes_80 : decode cX5_takes 80 = .ok (.l2i, 1) := by decide +kernel
theorem dX5_takes_81 : decode cX5_takes 81 = .ok (.i2l, 1) := by decide +kernel
theorem dX5_takes_82 : decode cX5_takes 82 = .ok (.lcmp, 1) := by decide +kernel
theorem dX5_takes_83 : decode cX5_takes 83 = .ok (.ifCond .ne 7, 3) := by decide +kernel
theorem dX5_takes_86 : decode cX5_takes 86 = .ok (.iconst 1, 1) := by decide +kernel
theorem dX5_takes_87 : decode cX5_takes 87 = .ok (.goto 4, 3) := by decide +kernel
theorem dX5_takes_90 : decode cX5_takes 90 = .ok (.iconst 0, 1) := by decide +kernel
theorem dX5_takes_91 : decode cX5_takes 91 = .ok (.ireturn, 1) := by decide +kernel
theorem dX5_takes_92 : decode cX5_takes 92 = .ok (.lload_n 1, 1) := by decide +kernel
theorem dX5_takes_93 : decode cX5_takes 93 = .ok (.ldc2_w 55, 3) := by decide +kernel
theorem dX5_takes_96 : decode cX5_takes 96 = .ok (.lcmp, 1) := by decide +kernel
theorem dX5_takes_97 : decode cX5_takes 97 = .ok (.ifCond .lt 15, 3) := by decide +kernel
theorem dX5_takes_100 : decode cX5_takes 100 = .ok (.lload_n 1, 1) := by decide +kernel
theorem dX5_takes_101 : decode cX5_takes 101 = .ok (.ldc2_w 57, 3) := by decide +kernel
theorem dX5_takes_104 : decode cX5_takes 104 = .ok (.lcmp, 1) := by decide +kernel
theorem dX5_takes_105 : decode cX5_takes 105 = .ok (.ifCond .gt 7, 3) := by decide +kernel
theorem dX5_takes_108 : decode cX5_takes 108 = .ok (.iconst 1, 1) := by decide +kernel
theorem dX5_takes_109 : decode cX5_takes 109 = .ok (.goto 4, 3) := by decide +kernel
theorem dX5_takes_112 : decode cX5_takes 112 = .ok (.iconst 0, 1) := by decide +kernel
theorem dX5_takes_113 : decode cX5_takes 113 = .ok (.ireturn, 1) := by decide +kernel
theorem dX5_takes_114 : decode cX5_takes 114 = .ok (.lload_n 1, 1) := by decide +kernel
theorem dX5_takes_115 : decode cX5_takes 115 = .ok (.ldc2_w 59, 3) := by decide +kernel
theorem dX5_takes_118 : decode cX5_takes 118 = .ok (.lcmp, 1) := by decide +kernel
theorem dX5_takes_119 : decode cX5_takes 119 = .ok (.ifCond .lt 15, 3) := by decide +kernel
theorem dX5_takes_122 : decode cX5_takes 122 = .ok (.lload_n 1, 1) := by decide +kernel
theorem dX5_takes_123 : decode cX5_takes 123 = .ok (.ldc2_w 61, 3) := by decide +kernel
theorem dX5_takes_126 : decode cX5_takes 126 = .ok (.lcmp, 1) := by decide +kernel
theorem dX5_takes_127 : decode cX5_takes 127 = .ok (.ifCond .gt 7, 3) := by decide +kernel
theorem dX5_takes_130 : decode cX5_takes 130 = .ok (.iconst 1, 1) := by decide +kernel
theorem dX5_takes_131 : decode cX5_takes 131 = .ok (.goto 4, 3) := by decide +kernel
theorem dX5_takes_134 : decode cX5_takes 134 = .ok (.iconst 0, 1) := by decide +kernel
theorem dX5_takes_135 : decode cX5_takes 135 = .ok (.ireturn, 1) := by decide +kernel
theorem dX5_takes_136 : decode cX5_takes 136 = .ok (.lload_n 1, 1) := by decide +kernel
theorem dX5_takes_137 : decode cX5_takes 137 = .ok (.lconst 0, 1) := by decide +kernel
theorem dX5_takes_138 : decode cX5_takes 138 = .ok (.lcmp, 1) := by decide +kernel
theorem dX5_takes_139 : decode cX5_takes 139 = .ok (.ifCond .lt 15, 3) := by decide +kernel
theorem dX5_takes_142 : decode cX5_takes 142 = .ok (.lload_n 1, 1) := by decide +kernel
theorem dX5_takes_143 : decode cX5_takes 143 = .ok (.ldc2_w 63, 3) := by decide +kernel
theorem dX5_takes_146 : decode cX5_takes 146 = .ok (.lcmp, 1) := by decide +kernel
theorem dX5_takes_147 : decode cX5_takes 147 = .ok (.ifCond .gt 7, 3) := by decide +kernel
theorem dX5_takes_150 : decode cX5_takes 150 = .ok (.iconst 1, 1) := by decide +kernel
theorem dX5_takes_151 : decode cX5_takes 151 = .ok (.goto 4, 3) := by decide +kernel
theorem dX5_takes_154 : decode cX5_takes 154 = .ok (.iconst 0, 1) := by decide +kernel
theorem dX5_takes_155 : decode cX5_takes 155 = .ok (.ireturn, 1) := by decide +kernel
def f_X5_takes (a0 a1 : Int) (H : PH) : RO := vm 5 a0 H <|
  (ld 21 H a0 0).bind fun x1 => (if x1 < 0 ∨ 4 < x1 then (if (lc a1 0) < 0 then some (0, H)
  else (if (lc a1 5) > 0 then some (0, H)
  else some (1, H)))
  else List.getD [(f_X5_codeIndex a0 a1 H).bind fun z2 => (if z2.1 = (-1) then some (0, z2.2)
  else some (1, z2.2)), (if (lc a1 0) < 0 then some (0, H)
  else (ld 21 H a0 5).bind fun x3 => (if (lc a1 (l_shl 1 x3)) ≥ 0 then some (0, H)
  else some (1, H))), (if (lc a1 (w32 a1)) ≠ 0 then some (0, H)
  else some (1, H)), (if (lc a1 (-1000000000000000)) < 0 then some (0, H)
  else (if (lc a1 1000000000000000) > 0 then some (0, H)
  else some (1, H))), (if (lc a1 (-30000)) < 0 then some (0, H)
  else (if (lc a1 30000) > 0 then some (0, H)
  else some (1, H)))] (x1 - 0).toNat none)
set_option maxHeartbeats 4000000 in
theorem m_X5_takes (l : Launch) (a0 a1 : Int) (H : PH) (rr : Int) (HH : PH) (h : f_X5_takes a0 a1 H = some (rr, HH)) : CT l yX5_takes cX5_takes 3 (some .boolean) 1 23 [vr a0, vl a1] H (some (vi rr)) HH := by
  refine CT.of RX5 (by decide) rfl [some (vr a0), some (vl a1), none] rfl rfl ?_
  intro E F q hn hf hl hm
  unfold f_X5_takes at h
  obtain ⟨hv, h⟩ := vm_spec h
  refine pw_aload_n (pc := 0) F dX5_takes_0 rfl ?_
  obtain ⟨x1, ex1, h⟩ := bnd h
  refine pw_get (pc := 1) F 5 0 9 (by decide) (by decide) g_9c99a9e193 inl_5 0 rfl dX5_takes_1 ex1 ?_
  refine pw_table (pc := 4) F dX5_takes_4 136 (by decide) [40, 55, 78, 92, 114] (by decide) (by decide) (fun hc => ?_) (fun i t ht ha => ?_)
  · have h := iteT hc h
    refine pw_lload_n (pc := 136) F dX5_takes_136 rfl ?_
    refine pw_lconst (pc := 137) F 0 dX5_takes_137 (by decide) ?_
    refine pw_lcmp (pc := 138) F dX5_takes_138 ?_
    refine pw_if_lt (pc := 139) F 154 dX5_takes_139 (by decide) (fun hc => ?_) (fun hc => ?_)
    · have h := iteT hc h
      refine pw_iconst (pc := 154) F 0 dX5_takes_154 (by decide) ?_
      cases h
      exact pw_zret (pc := 155) F q (by decide) dX5_takes_155
    · have h := iteF hc h
      refine pw_lload_n (pc := 142) F dX5_takes_142 rfl ?_
      refine pw_ldc2 (pc := 143) F 5 g_0e5d502fa1 dX5_takes_143 (by decide) ?_
      refine pw_lcmp (pc := 146) F dX5_takes_146 ?_
      refine pw_if_gt (pc := 147) F 154 dX5_takes_147 (by decide) (fun hc => ?_) (fun hc => ?_)
      · have h := iteT hc h
        refine pw_iconst (pc := 154) F 0 dX5_takes_154 (by decide) ?_
        cases h
        exact pw_zret (pc := 155) F q (by decide) dX5_takes_155
      · have h := iteF hc h
        refine pw_iconst (pc := 150) F 1 dX5_takes_150 (by decide) ?_
        refine pw_goto (pc := 151) F 155 dX5_takes_151 (by decide) ?_
        cases h
        exact pw_zret (pc := 155) F q (by decide) dX5_takes_155
  · have hc : ¬ (x1 < 0 ∨ 4 < x1) := sw_in 5 ht ha (by decide) (by decide)
    have h := iteF hc h
    have h := sw_at ha h
    match i, ht, h with
    | 0, ht, h =>
      obtain rfl : 40 = t := Option.some.inj ht
      have h : ((f_X5_codeIndex a0 a1 H).bind fun z2 => (if z2.1 = (-1) then some (0, z2.2)
  else some (1, z2.2)) : RO) = some (rr, HH) := h
      refine pw_aload_n (pc := 40) F dX5_takes_40 rfl ?_
      refine pw_lload_n (pc := 41) F dX5_takes_41 rfl ?_
      obtain ⟨z2, ez2, h⟩ := bnd h
      refine pw_callV (pc := 42) (as := [vl a1]) (st := []) (r := (some (vi z2.1))) F 47 5 (by decide) rfl (fun l => m_X5_codeIndex l a0 a1 H z2.1 z2.2 ez2) g_22658e7647 g_badf7ddd51 g_77ec39cdaf g_5f14f7581a g_dacd68e1e9 hd_X5_codeIndex (rm_ok hf hl (by decide) (by decide)) rfl (vm_spec ez2).1 dX5_takes_42 rfl (stk' := [vi z2.1]) rfl ?_
      refine pw_iconst (pc := 45) F (-1) dX5_takes_45 (by decide) ?_
      refine pw_icmp_eq (pc := 46) F 53 dX5_takes_46 (by decide) (fun hc => ?_) (fun hc => ?_)
      · have h := iteT hc h
        refine pw_iconst (pc := 53) F 0 dX5_takes_53 (by decide) ?_
        cases h
        exact pw_zret (pc := 54) F q (by decide) dX5_takes_54
      · have h := iteF hc h
        refine pw_iconst (pc := 49) F 1 dX5_takes_49 (by decide) ?_
        refine pw_goto (pc := 50) F 54 dX5_takes_50 (by decide) ?_
        cases h
        exact pw_zret (pc := 54) F q (by decide) dX5_takes_54
    | 1, ht, h =>
      obtain rfl : 55 = t := Option.some.inj ht
      have h : ((if (lc a1 0) < 0 then some (0, H)
  else (ld 21 H a0 5).bind fun x3 => (if (lc a1 (l_shl 1 x3)) ≥ 0 then some (0, H)
  else some (1, H))) : RO) = some (rr, HH) := h
      refine pw_lload_n (pc := 55) F dX5_takes_55 rfl ?_
      refine pw_lconst (pc := 56) F 0 dX5_takes_56 (by decide) ?_
      refine pw_lcmp (pc := 57) F dX5_takes_57 ?_
      refine pw_if_lt (pc := 58) F 76 dX5_takes_58 (by decide) (fun hc => ?_) (fun hc => ?_)
      · have h := iteT hc h
        refine pw_iconst (pc := 76) F 0 dX5_takes_76 (by decide) ?_
        cases h
        exact pw_zret (pc := 77) F q (by decide) dX5_takes_77
      · have h := iteF hc h
        refine pw_lload_n (pc := 61) F dX5_takes_61 rfl ?_
        refine pw_lconst (pc := 62) F 1 dX5_takes_62 (by decide) ?_
        refine pw_aload_n (pc := 63) F dX5_takes_63 rfl ?_
        obtain ⟨x3, ex3, h⟩ := bnd h
        refine pw_get (pc := 64) F 5 5 41 (by decide) (by decide) g_a2d82bf241 inl_5 0 rfl dX5_takes_64 ex3 ?_
        refine pw_lshl (pc := 67) F dX5_takes_67 ?_
        refine pw_lcmp (pc := 68) F dX5_takes_68 ?_
        refine pw_if_ge (pc := 69) F 76 dX5_takes_69 (by decide) (fun hc => ?_) (fun hc => ?_)
        · have h := iteT hc h
          refine pw_iconst (pc := 76) F 0 dX5_takes_76 (by decide) ?_
          cases h
          exact pw_zret (pc := 77) F q (by decide) dX5_takes_77
        · have h := iteF hc h
          refine pw_iconst (pc := 72) F 1 dX5_takes_72 (by decide) ?_
          refine pw_goto (pc := 73) F 77 dX5_takes_73 (by decide) ?_
          cases h
          exact pw_zret (pc := 77) F q (by decide) dX5_takes_77
    | 2, ht, h =>
      obtain rfl : 78 = t := Option.some.inj ht
      have h : ((if (lc a1 (w32 a1)) ≠ 0 then some (0, H)
  else some (1, H)) : RO) = some (rr, HH) := h
      refine pw_lload_n (pc := 78) F dX5_takes_78 rfl ?_
      refine pw_lload_n (pc := 79) F dX5_takes_79 rfl ?_
      refine pw_l2i (pc := 80) F dX5_takes_80 ?_
      refine pw_i2l (pc := 81) F dX5_takes_81 ?_
      refine pw_lcmp (pc := 82) F dX5_takes_82 ?_
      refine pw_if_ne (pc := 83) F 90 dX5_takes_83 (by decide) (fun hc => ?_) (fun hc => ?_)
      · have h := iteT hc h
        refine pw_iconst (pc := 90) F 0 dX5_takes_90 (by decide) ?_
        cases h
        exact pw_zret (pc := 91) F q (by decide) dX5_takes_91
      · have h := iteF hc h
        refine pw_iconst (pc := 86) F 1 dX5_takes_86 (by decide) ?_
        refine pw_goto (pc := 87) F 91 dX5_takes_87 (by decide) ?_
        cases h
        exact pw_zret (pc := 91) F q (by decide) dX5_takes_91
    | 3, ht, h =>
      obtain rfl : 92 = t := Option.some.inj ht
      have h : ((if (lc a1 (-1000000000000000)) < 0 then some (0, H)
  else (if (lc a1 1000000000000000) > 0 then some (0, H)
  else some (1, H))) : RO) = some (rr, HH) := h
      refine pw_lload_n (pc := 92) F dX5_takes_92 rfl ?_
      refine pw_ldc2 (pc := 93) F (-1000000000000000) g_8272c56ec2 dX5_takes_93 (by decide) ?_
      refine pw_lcmp (pc := 96) F dX5_takes_96 ?_
      refine pw_if_lt (pc := 97) F 112 dX5_takes_97 (by decide) (fun hc => ?_) (fun hc => ?_)
      · have h := iteT hc h
        refine pw_iconst (pc := 112) F 0 dX5_takes_112 (by decide) ?_
        cases h
        exact pw_zret (pc := 113) F q (by decide) dX5_takes_113
      · have h := iteF hc h
        refine pw_lload_n (pc := 100) F dX5_takes_100 rfl ?_
        refine pw_ldc2 (pc := 101) F 1000000000000000 g_7667baf1ad dX5_takes_101 (by decide) ?_
        refine pw_lcmp (pc := 104) F dX5_takes_104 ?_
        refine pw_if_gt (pc := 105) F 112 dX5_takes_105 (by decide) (fun hc => ?_) (fun hc => ?_)
        · have h := iteT hc h
          refine pw_iconst (pc := 112) F 0 dX5_takes_112 (by decide) ?_
          cases h
          exact pw_zret (pc := 113) F q (by decide) dX5_takes_113
        · have h := iteF hc h
          refine pw_iconst (pc := 108) F 1 dX5_takes_108 (by decide) ?_
          refine pw_goto (pc := 109) F 113 dX5_takes_109 (by decide) ?_
          cases h
          exact pw_zret (pc := 113) F q (by decide) dX5_takes_113
    | 4, ht, h =>
      obtain rfl : 114 = t := Option.some.inj ht
      have h : ((if (lc a1 (-30000)) < 0 then some (0, H)
  else (if (lc a1 30000) > 0 then some (0, H)
  else some (1, H))) : RO) = some (rr, HH) := h
      refine pw_lload_n (pc := 114) F dX5_takes_114 rfl ?_
      refine pw_ldc2 (pc := 115) F (-30000) g_3db483a591 dX5_takes_115 (by decide) ?_
      refine pw_lcmp (pc := 118) F dX5_takes_118 ?_
      refine pw_if_lt (pc := 119) F 134 dX5_takes_119 (by decide) (fun hc => ?_) (fun hc => ?_)
      · have h := iteT hc h
        refine pw_iconst (pc := 134) F 0 dX5_takes_134 (by decide) ?_
        cases h
        exact pw_zret (pc := 135) F q (by decide) dX5_takes_135
      · have h := iteF hc h
        refine pw_lload_n (pc := 122) F dX5_takes_122 rfl ?_
        refine pw_ldc2 (pc := 123) F 30000 g_4d73c7f6e4 dX5_takes_123 (by decide) ?_
        refine pw_lcmp (pc := 126) F dX5_takes_126 ?_
        refine pw_if_gt (pc := 127) F 134 dX5_takes_127 (by decide) (fun hc => ?_) (fun hc => ?_)
        · have h := iteT hc h
          refine pw_iconst (pc := 134) F 0 dX5_takes_134 (by decide) ?_
          cases h
          exact pw_zret (pc := 135) F q (by decide) dX5_takes_135
        · have h := iteF hc h
          refine pw_iconst (pc := 130) F 1 dX5_takes_130 (by decide) ?_
          refine pw_goto (pc := 131) F 135 dX5_takes_131 (by decide) ?_
          cases h
          exact pw_zret (pc := 135) F q (by decide) dX5_takes_135
    | i + 5, ht, h => simp at ht
/-! HouseholdVault$Question.makesLines()Z -/
theorem dX5_makesLines_0 : decode cX5_makesLines 0 = .ok (.aload_n 0, 1) := by decide +kernel
theorem dX5_makesLines_1 : decode cX5_makesLines 1 = .ok (.getfield 9, 3) := by decide +kernel
theorem dX5_makesLines_4 : decode cX5_makesLines 4 = .ok (.ifCond .ne 15, 3) := by decide +kernel
theorem dX5_makesLines_7 : decode cX5_makesLines 7 = .ok (.aload_n 0, 1) := by decide +kernel
theorem dX5_makesLines_8 : decode cX5_makesLines 8 = .ok (.getfield 15, 3) := by decide +kernel
theorem dX5_makesLines_11 : decode cX5_makesLines 11 = .ok (.iconst (-1), 1) := by decide +kernel
theorem dX5_makesLines_12 : decode cX5_makesLines 12 = .ok (.if_icmp .ne 7, 3) := by decide +kernel
theorem dX5_makesLines_15 : decode cX5_makesLines 15 = .ok (.iconst 1, 1) := by decide +kernel
theorem dX5_makesLines_16 : decode cX5_makesLines 16 = .ok (.goto 4, 3) := by decide +kernel
theorem dX5_makesLines_19 : decode cX5_makesLines 19 = .ok (.iconst 0, 1) := by decide +kernel
theorem dX5_makesLines_20 : decode cX5_makesLines 20 = .ok (.ireturn, 1) := by decide +kernel
def f_X5_makesLines (a0 : Int) (H : PH) : RO := vm 5 a0 H <|
  (ld 21 H a0 0).bind fun x1 => (if x1 ≠ 0 then some (0, H)
  else (ld 21 H a0 1).bind fun x2 => (if x2 ≠ (-1) then some (0, H)
  else some (1, H)))
set_option maxHeartbeats 4000000 in
theorem m_X5_makesLines (l : Launch) (a0 : Int) (H : PH) (rr : Int) (HH : PH) (h : f_X5_makesLines a0 H = some (rr, HH)) : CT l yX5_makesLines cX5_makesLines 1 (some .boolean) 0 0 [vr a0] H (some (vi rr)) HH := by
  refine CT.of RX5 (by decide) rfl [some (vr a0)] rfl rfl ?_
  intro E F q hn hf hl hm
  unfold f_X5_makesLines at h
  obtain ⟨hv, h⟩ := vm_spec h
  refine pw_aload_n (pc := 0) F dX5_makesLines_0 rfl ?_
  obtain ⟨x1, ex1, h⟩ := bnd h
  refine pw_get (pc := 1) F 5 0 9 (by decide) (by decide) g_9c99a9e193 inl_5 0 rfl dX5_makesLines_1 ex1 ?_
  refine pw_if_ne (pc := 4) F 19 dX5_makesLines_4 (by decide) (fun hc => ?_) (fun hc => ?_)
  · have h := iteT hc h
    refine pw_iconst (pc := 19) F 0 dX5_makesLines_19 (by decide) ?_
    cases h
    exact pw_zret (pc := 20) F q (by decide) dX5_makesLines_20
  · have h := iteF hc h
    refine pw_aload_n (pc := 7) F dX5_makesLines_7 rfl ?_
    obtain ⟨x2, ex2, h⟩ := bnd h
    refine pw_get (pc := 8) F 5 1 15 (by decide) (by decide) g_dbd9ff6c69 inl_5 0 rfl dX5_makesLines_8 ex2 ?_
    refine pw_iconst (pc := 11) F (-1) dX5_makesLines_11 (by decide) ?_
    refine pw_icmp_ne (pc := 12) F 19 dX5_makesLines_12 (by decide) (fun hc => ?_) (fun hc => ?_)
    · have h := iteT hc h
      refine pw_iconst (pc := 19) F 0 dX5_makesLines_19 (by decide) ?_
      cases h
      exact pw_zret (pc := 20) F q (by decide) dX5_makesLines_20
    · have h := iteF hc h
      refine pw_iconst (pc := 15) F 1 dX5_makesLines_15 (by decide) ?_
      refine pw_goto (pc := 16) F 20 dX5_makesLines_16 (by decide) ?_
      cases h
      exact pw_zret (pc := 20) F q (by decide) dX5_makesLines_20
/-! HouseholdVault$Question.lineOf(LHouseholdVault$Sheet;I)I -/
theorem dX5_lineOf_0 : decode cX5_lineOf 0 = .ok (.aload_n 1, 1) := by decide +kernel
theorem dX5_lineOf_1 : decode cX5_lineOf 1 = .ok (.getfield 65, 3) := by decide +kernel
theorem dX5_lineOf_4 : decode cX5_lineOf 4 = .ok (.iload_n 2, 1) := by decide +kernel
theorem dX5_lineOf_5 : decode cX5_lineOf 5 = .ok (.iaload, 1) := by decide +kernel
theorem dX5_lineOf_6 : decode cX5_lineOf 6 = .ok (.ifCond .eq 8, 3) := by decide +kernel
theorem dX5_lineOf_9 : decode cX5_lineOf 9 = .ok (.aload_n 0, 1) := by decide +kernel
theorem dX5_lineOf_10 : decode cX5_lineOf 10 = .ok (.getfield 41, 3) := by decide +kernel
theorem dX5_lineOf_13 : decode cX5_lineOf 13 = .ok (.ireturn, 1) := by decide +kernel
theorem dX5_lineOf_14 : decode cX5_lineOf 14 = .ok (.aload_n 0, 1) := by decide +kernel
theorem dX5_lineOf_15 : decode cX5_lineOf 15 = .ok (.aload_n 1, 1) := by decide +kernel
theorem dX5_lineOf_16 : decode cX5_lineOf 16 = .ok (.getfield 70, 3) := by decide +kernel
theorem dX5_lineOf_19 : decode cX5_lineOf 19 = .ok (.iload_n 2, 1) := by decide +kernel
theorem dX5_lineOf_20 : decode cX5_lineOf 20 = .ok (.laload, 1) := by decide +kernel
theorem dX5_lineOf_21 : decode cX5_lineOf 21 = .ok (.invokevirtual 47, 3) := by decide +kernel
theorem dX5_lineOf_24 : decode cX5_lineOf 24 = .ok (.istore_n 3, 1) := by decide +kernel
theorem dX5_lineOf_25 : decode cX5_lineOf 25 = .ok (.iload_n 3, 1) := by decide +kernel
theorem dX5_lineOf_26 : decode cX5_lineOf 26 = .ok (.iconst (-1), 1) := by decide +kernel
theorem dX5_lineOf_27 : decode cX5_lineOf 27 = .ok (.if_icmp .ne 10, 3) := by decide +kernel
theorem dX5_lineOf_30 : decode cX5_lineOf 30 = .ok (.aload_n 0, 1) := by decide +kernel
theorem dX5_lineOf_31 : decode cX5_lineOf 31 = .ok (.getfield 41, 3) := by decide +kernel
theorem dX5_lineOf_34 : decode cX5_lineOf 34 = .ok (.goto 4, 3) := by decide +kernel
theorem dX5_lineOf_37 : decode cX5_lineOf 37 = .ok (.iload_n 3, 1) := by decide +kernel
theorem dX5_lineOf_38 : decode cX5_lineOf 38 = .ok (.ireturn, 1) := by decide +kernel
def f_X5_lineOf (a0 a1 a2 : Int) (H : PH) : RO := vm 5 a0 H <|
  (ld 22 H a1 1).bind fun x1 => (ld 0 H x1 a2).bind fun x2 => (if x2 = 0 then (ld 22 H a1 0).bind fun x3 => (ld 1 H x3 a2).bind fun x4 => (f_X5_codeIndex a0 x4 H).bind fun z5 => (if z5.1 ≠ (-1) then some (z5.1, z5.2)
  else (ld 21 z5.2 a0 5).bind fun x6 => some (x6, z5.2))
  else (ld 21 H a0 5).bind fun x7 => some (x7, H))
set_option maxHeartbeats 4000000 in
theorem m_X5_lineOf (l : Launch) (a0 a1 a2 : Int) (H : PH) (rr : Int) (HH : PH) (h : f_X5_lineOf a0 a1 a2 H = some (rr, HH)) : CT l yX5_lineOf cX5_lineOf 4 (some .int) 1 23 [vr a0, vr a1, vi a2] H (some (vi rr)) HH := by
  refine CT.of RX5 (by decide) rfl [some (vr a0), some (vr a1), some (vi a2), none] rfl rfl ?_
  intro E F q hn hf hl hm
  unfold f_X5_lineOf at h
  obtain ⟨hv, h⟩ := vm_spec h
  refine pw_aload_n (pc := 0) F dX5_lineOf_0 rfl ?_
  obtain ⟨x1, ex1, h⟩ := bnd h
  refine pw_get (pc := 1) F 6 1 65 (by decide) (by decide) g_9b235ef6b4 inl_6 2 rfl dX5_lineOf_1 ex1 ?_
  refine pw_iload_n (pc := 4) F dX5_lineOf_4 rfl ?_
  obtain ⟨x2, ex2, h⟩ := bnd h
  refine pw_iald (pc := 5) F dX5_lineOf_5 ex2 ?_
  refine pw_if_eq (pc := 6) F 14 dX5_lineOf_6 (by decide) (fun hc => ?_) (fun hc => ?_)
  · have h := iteT hc h
    refine pw_aload_n (pc := 14) F dX5_lineOf_14 rfl ?_
    refine pw_aload_n (pc := 15) F dX5_lineOf_15 rfl ?_
    obtain ⟨x3, ex3, h⟩ := bnd h
    refine pw_get (pc := 16) F 6 0 70 (by decide) (by decide) g_d11355c094 inl_6 2 rfl dX5_lineOf_16 ex3 ?_
    refine pw_iload_n (pc := 19) F dX5_lineOf_19 rfl ?_
    obtain ⟨x4, ex4, h⟩ := bnd h
    refine pw_lald (pc := 20) F dX5_lineOf_20 ex4 ?_
    obtain ⟨z5, ez5, h⟩ := bnd h
    refine pw_callV (pc := 21) (as := [vl x4]) (st := []) (r := (some (vi z5.1))) F 47 5 (by decide) rfl (fun l => m_X5_codeIndex l a0 x4 H z5.1 z5.2 ez5) g_22658e7647 g_badf7ddd51 g_77ec39cdaf g_5f14f7581a g_dacd68e1e9 hd_X5_codeIndex (rm_ok hf hl (by decide) (by decide)) rfl (vm_spec ez5).1 dX5_lineOf_21 rfl (stk' := [vi z5.1]) rfl ?_
    refine pw_istore_n (pc := 24) F dX5_lineOf_24 (lt_nl hn (by decide)) [some (vr a0), some (vr a1), some (vi a2), some (vi z5.1)] rfl ?_
    refine pw_iload_n (pc := 25) F dX5_lineOf_25 rfl ?_
    refine pw_iconst (pc := 26) F (-1) dX5_lineOf_26 (by decide) ?_
    refine pw_icmp_ne (pc := 27) F 37 dX5_lineOf_27 (by decide) (fun hc => ?_) (fun hc => ?_)
    · have h := iteT hc h
      refine pw_iload_n (pc := 37) F dX5_lineOf_37 rfl ?_
      cases h
      exact pw_iret (pc := 38) F q dX5_lineOf_38
    · have h := iteF hc h
      refine pw_aload_n (pc := 30) F dX5_lineOf_30 rfl ?_
      obtain ⟨x6, ex6, h⟩ := bnd h
      refine pw_get (pc := 31) F 5 5 41 (by decide) (by decide) g_a2d82bf241 inl_5 0 rfl dX5_lineOf_31 ex6 ?_
      refine pw_goto (pc := 34) F 38 dX5_lineOf_34 (by decide) ?_
      cases h
      exact pw_iret (pc := 38) F q dX5_lineOf_38
  · have h := iteF hc h
    refine pw_aload_n (pc := 9) F dX5_lineOf_9 rfl ?_
    obtain ⟨x7, ex7, h⟩ := bnd h
    refine pw_get (pc := 10) F 5 5 41 (by decide) (by decide) g_a2d82bf241 inl_5 0 rfl dX5_lineOf_10 ex7 ?_
    cases h
    exact pw_iret (pc := 13) F q dX5_lineOf_13
/-! HouseholdVault$Sheet.<init>(LHouseholdVault$Sheet;I)V -/
theorem dX6_init__0 : decode cX6_init_ 0 = .ok (.aload_n 0, 1) := by decide +kernel
theorem dX6_init__1 : decode cX6_init_ 1 = .ok (.invokespecial 3, 3) := by decide +kernel
theorem dX6_init__4 : decode cX6_init_ 4 = .ok (.iload_n 2, 1) := by decide +kernel
theorem dX6_init__5 : decode cX6_init_ 5 = .ok (.iconst 0, 1) := by decide +kernel
theorem dX6_init__6 : decode cX6_init_ 6 = .ok (.invokestatic 25, 3) := by decide +kernel
theorem dX6_init__9 : decode cX6_init_ 9 = .ok (.bipush 24, 2) := by decide +kernel
theorem dX6_init__11 : decode cX6_init_ 11 = .ok (.invokestatic 31, 3) := by decide +kernel
theorem dX6_init__14 : decode cX6_init_ 14 = .ok (.iconst 5, 1) := by decide +kernel
theorem dX6_init__15 : decode cX6_init_ 15 = .ok (.imul, 1) := by decide +kernel
theorem dX6_init__16 : decode cX6_init_ 16 = .ok (.istore_n 3, 1) := by decide +kernel
theorem dX6_init__17 : decode cX6_init_ 17 = .ok (.aload_n 0, 1) := by decide +kernel
theorem dX6_init__18 : decode cX6_init_ 18 = .ok (.aload_n 1, 1) := by decide +kernel
theorem dX6_init__19 : decode cX6_init_ 19 = .ok (.getfield 9, 3) := by decide +kernel
theorem dX6_init__22 : decode cX6_init_ 22 = .ok (.iload_n 3, 1) := by decide +kernel
theorem dX6_init__23 : decode cX6_init_ 23 = .ok (.invokestatic 34, 3) := by decide +kernel
theorem dX6_init__26 : decode cX6_init_ 26 = .ok (.putfield 9, 3) := by decide +kernel
theorem dX6_init__29 : decode cX6_init_ 29 = .ok (.aload_n 0, 1) := by decide +kernel
theorem dX6_init__30 : decode cX6_init_ 30 = .ok (.aload_n 1, 1) := by decide +kernel
theorem dX6_init__31 : decode cX6_init_ 31 = .ok (.getfield 15, 3) := by decide +kernel
theorem dX6_init__34 : decode cX6_init_ 34 = .ok (.iload_n 3, 1) := by decide +kernel
theorem dX6_init__35 : decode cX6_init_ 35 = .ok (.invokestatic 38, 3) := by decide +kernel
theorem dX6_init__38 : decode cX6_init_ 38 = .ok (.putfield 15, 3) := by decide +kernel
theorem dX6_init__41 : decode cX6_init_ 41 = .ok (.return_, 1) := by decide +kernel
def f_X6_init_ (a0 a1 a2 : Int) (H : PH) : RO := vm 6 a0 H <|
  (ld 22 H a1 0).bind fun x1 => (f_J7_copyOf_c38d5 x1 (w32 ((imin (imax a2 0) 24) * 5)) H).bind fun z2 => (stv 22 z2.2 a0 0 z2.1).bind fun H3 => (ld 22 H3 a1 1).bind fun x4 => (f_J7_copyOf_59c91 x4 (w32 ((imin (imax a2 0) 24) * 5)) H3).bind fun z5 => (stv 22 z5.2 a0 1 z5.1).bind fun H6 => some (0, H6)
set_option maxHeartbeats 4000000 in
theorem m_X6_init_ (l : Launch) (a0 a1 a2 : Int) (H : PH) (rr : Int) (HH : PH) (h : f_X6_init_ a0 a1 a2 H = some (rr, HH)) : CT l yX6_init_ cX6_init_ 4 none 3 86 [vr a0, vr a1, vi a2] H none HH := by
  refine CT.of RX6 (by decide) rfl [some (vr a0), some (vr a1), some (vi a2), none] rfl rfl ?_
  intro E F q hn hf hl hm
  unfold f_X6_init_ at h
  obtain ⟨hv, h⟩ := vm_spec h
  refine pw_aload_n (pc := 0) F dX6_init__0 rfl ?_
  refine pw_objInit (pc := 1) F 3 g_f24f68bff4 g_93fb852fc9 g_ecc6a87410 (rm_ok hf hl (by decide) (by decide)) dX6_init__1 (vm_nn hv) ?_
  refine pw_iload_n (pc := 4) F dX6_init__4 rfl ?_
  refine pw_iconst (pc := 5) F 0 dX6_init__5 (by decide) ?_
  refine pw_mmax (pc := 6) F 25 g_ff0da30281 g_8b9497d0c0 g_544deca7c6 g_7292adb7fd (rm_ok hf hl (by decide) (by decide)) rfl dX6_init__6 ?_
  refine pw_bipush (pc := 9) F 24 dX6_init__9 (by decide) ?_
  refine pw_mmin (pc := 11) F 31 g_826dfb57b8 g_6443835c00 g_544deca7c6 g_4cca852340 (rm_ok hf hl (by decide) (by decide)) rfl dX6_init__11 ?_
  refine pw_iconst (pc := 14) F 5 dX6_init__14 (by decide) ?_
  refine pw_imul (pc := 15) F dX6_init__15 ?_
  refine pw_istore_n (pc := 16) F dX6_init__16 (lt_nl hn (by decide)) [some (vr a0), some (vr a1), some (vi a2), some (vi (w32 ((imin (imax a2 0) 24) * 5)))] rfl ?_
  refine pw_aload_n (pc := 17) F dX6_init__17 rfl ?_
  refine pw_aload_n (pc := 18) F dX6_init__18 rfl ?_
  obtain ⟨x1, ex1, h⟩ := bnd h
  refine pw_get (pc := 19) F 6 0 9 (by decide) (by decide) g_72f7a14260 inl_6 2 rfl dX6_init__19 ex1 ?_
  refine pw_iload_n (pc := 22) F dX6_init__22 rfl ?_
  obtain ⟨z2, ez2, h⟩ := bnd h
  refine pw_callS (pc := 23) (as := [vr x1, vi (w32 ((imin (imax a2 0) 24) * 5))]) (st := [vr a0]) (r := (some (vr z2.1))) F 34 (fun l => m_J7_copyOf_c38d5 l x1 (w32 ((imin (imax a2 0) 24) * 5)) H z2.1 z2.2 ez2) g_e120e5ccb1 g_957f08b128 g_242181dc25 g_a15cf0554f hd_J7_copyOf_c38d5 (rm_ok hf hl (by decide) (by decide)) rfl dX6_init__23 rfl (stk' := [vr z2.1, vr a0]) rfl ?_
  obtain ⟨H3, eH3, h⟩ := bnd h
  refine pw_putF (pc := 26) F 6 0 9 (by decide) (by decide) g_72f7a14260 inl_6 rfl hm rfl 2 rfl dX6_init__26 trivial eH3 ?_
  refine pw_aload_n (pc := 29) F dX6_init__29 rfl ?_
  refine pw_aload_n (pc := 30) F dX6_init__30 rfl ?_
  obtain ⟨x4, ex4, h⟩ := bnd h
  refine pw_get (pc := 31) F 6 1 15 (by decide) (by decide) g_89df54ea64 inl_6 2 rfl dX6_init__31 ex4 ?_
  refine pw_iload_n (pc := 34) F dX6_init__34 rfl ?_
  obtain ⟨z5, ez5, h⟩ := bnd h
  refine pw_callS (pc := 35) (as := [vr x4, vi (w32 ((imin (imax a2 0) 24) * 5))]) (st := [vr a0]) (r := (some (vr z5.1))) F 38 (fun l => m_J7_copyOf_59c91 l x4 (w32 ((imin (imax a2 0) 24) * 5)) H3 z5.1 z5.2 ez5) g_5051afb2b4 g_88c03b934a g_242181dc25 g_022ec0e8e9 hd_J7_copyOf_59c91 (rm_ok hf hl (by decide) (by decide)) rfl dX6_init__35 rfl (stk' := [vr z5.1, vr a0]) rfl ?_
  obtain ⟨H6, eH6, h⟩ := bnd h
  refine pw_putF (pc := 38) F 6 1 15 (by decide) (by decide) g_89df54ea64 inl_6 rfl hm rfl 2 rfl dX6_init__38 trivial eH6 ?_
  cases h
  exact pw_vret (pc := 41) F q dX6_init__41
/-! HouseholdVault$Sheet.isLike(LHouseholdVault$Sheet;I)Z -/
theorem dX6_isLike_0 : decode cX6_isLike 0 = .ok (.aload_n 0, 1) := by decide +kernel
theorem dX6_isLike_1 : decode cX6_isLike 1 = .ok (.getfield 9, 3) := by decide +kernel
theorem dX6_isLike_4 : decode cX6_isLike 4 = .ok (.iload_n 2, 1) := by decide +kernel
theorem dX6_isLike_5 : decode cX6_isLike 5 = .ok (.laload, 1) := by decide +kernel
theorem dX6_isLike_6 : decode cX6_isLike 6 = .ok (.aload_n 1, 1) := by decide +kernel
theorem dX6_isLike_7 : decode cX6_isLike 7 = .ok (.getfield 9, 3) := by decide +kernel
theorem dX6_isLike_10 : decode cX6_isLike 10 = .ok (.iload_n 2, 1) := by decide +kernel
theorem dX6_isLike_11 : decode cX6_isLike 11 = .ok (.laload, 1) := by decide +kernel
theorem dX6_isLike_12 : decode cX6_isLike 12 = .ok (.lcmp, 1) := by decide +kernel
theorem dX6_isLike_13 : decode cX6_isLike 13 = .ok (.ifCond .ne 22, 3) := by decide +kernel
theorem dX6_isLike_16 : decode cX6_isLike 16 = .ok (.aload_n 0, 1) := by decide +kernel
theorem dX6_isLike_17 : decode cX6_isLike 17 = .ok (.getfield 15, 3) := by decide +kernel
theorem dX6_isLike_20 : decode cX6_isLike 20 = .ok (.iload_n 2, 1) := by decide +kernel
theorem dX6_isLike_21 : decode cX6_isLike 21 = .ok (.iaload, 1) := by decide +kernel
theorem dX6_isLike_22 : decode cX6_isLike 22 = .ok (.aload_n 1, 1) := by decide +kernel
theorem dX6_isLike_23 : decode cX6_isLike 23 = .ok (.getfield 15, 3) := by decide +kernel
theorem dX6_isLike_26 : decode cX6_isLike 26 = .ok (.iload_n 2, 1) := by decide +kernel
theorem dX6_isLike_27 : decode cX6_isLike 27 = .ok (.iaload, 1) := by decide +kernel
theorem dX6_isLike_28 : decode cX6_isLike 28 = .ok (.if_icmp .ne 7, 3) := by decide +kernel
theorem dX6_isLike_31 : decode cX6_isLike 31 = .ok (.iconst 1, 1) := by decide +kernel
theorem dX6_isLike_32 : decode cX6_isLike 32 = .ok (.goto 4, 3) := by decide +kernel
theorem dX6_isLike_35 : decode cX6_isLike 35 = .ok (.iconst 0, 1) := by decide +kernel
theorem dX6_isLike_36 : decode cX6_isLike 36 = .ok (.ireturn, 1) := by decide +kernel
def f_X6_isLike (a0 a1 a2 : Int) (H : PH) : RO := vm 6 a0 H <|
  (ld 22 H a0 0).bind fun x1 => (ld 1 H x1 a2).bind fun x2 => (ld 22 H a1 0).bind fun x3 => (ld 1 H x3 a2).bind fun x4 => (if (lc x2 x4) ≠ 0 then some (0, H)
  else (ld 22 H a0 1).bind fun x5 => (ld 0 H x5 a2).bind fun x6 => (ld 22 H a1 1).bind fun x7 => (ld 0 H x7 a2).bind fun x8 => (if x6 ≠ x8 then some (0, H)
  else some (1, H)))
set_option maxHeartbeats 4000000 in
theorem m_X6_isLike (l : Launch) (a0 a1 a2 : Int) (H : PH) (rr : Int) (HH : PH) (h : f_X6_isLike a0 a1 a2 H = some (rr, HH)) : CT l yX6_isLike cX6_isLike 3 (some .boolean) 0 0 [vr a0, vr a1, vi a2] H (some (vi rr)) HH := by
  refine CT.of RX6 (by decide) rfl [some (vr a0), some (vr a1), some (vi a2)] rfl rfl ?_
  intro E F q hn hf hl hm
  unfold f_X6_isLike at h
  obtain ⟨hv, h⟩ := vm_spec h
  refine pw_aload_n (pc := 0) F dX6_isLike_0 rfl ?_
  obtain ⟨x1, ex1, h⟩ := bnd h
  refine pw_get (pc := 1) F 6 0 9 (by decide) (by decide) g_72f7a14260 inl_6 2 rfl dX6_isLike_1 ex1 ?_
  refine pw_iload_n (pc := 4) F dX6_isLike_4 rfl ?_
  obtain ⟨x2, ex2, h⟩ := bnd h
  refine pw_lald (pc := 5) F dX6_isLike_5 ex2 ?_
  refine pw_aload_n (pc := 6) F dX6_isLike_6 rfl ?_
  obtain ⟨x3, ex3, h⟩ := bnd h
  refine pw_get (pc := 7) F 6 0 9 (by decide) (by decide) g_72f7a14260 inl_6 2 rfl dX6_isLike_7 ex3 ?_
  refine pw_iload_n (pc := 10) F dX6_isLike_10 rfl ?_
  obtain ⟨x4, ex4, h⟩ := bnd h
  refine pw_lald (pc := 11) F dX6_isLike_11 ex4 ?_
  refine pw_lcmp (pc := 12) F dX6_isLike_12 ?_
  refine pw_if_ne (pc := 13) F 35 dX6_isLike_13 (by decide) (fun hc => ?_) (fun hc => ?_)
  · have h := iteT hc h
    refine pw_iconst (pc := 35) F 0 dX6_isLike_35 (by decide) ?_
    cases h
    exact pw_zret (pc := 36) F q (by decide) dX6_isLike_36
  · have h := iteF hc h
    refine pw_aload_n (pc := 16) F dX6_isLike_16 rfl ?_
    obtain ⟨x5, ex5, h⟩ := bnd h
    refine pw_get (pc := 17) F 6 1 15 (by decide) (by decide) g_89df54ea64 inl_6 2 rfl dX6_isLike_17 ex5 ?_
    refine pw_iload_n (pc := 20) F dX6_isLike_20 rfl ?_
    obtain ⟨x6, ex6, h⟩ := bnd h
    refine pw_iald (pc := 21) F dX6_isLike_21 ex6 ?_
    refine pw_aload_n (pc := 22) F dX6_isLike_22 rfl ?_
    obtain ⟨x7, ex7, h⟩ := bnd h
    refine pw_get (pc := 23) F 6 1 15 (by decide) (by decide) g_89df54ea64 inl_6 2 rfl dX6_isLike_23 ex7 ?_
    refine pw_iload_n (pc := 26) F dX6_isLike_26 rfl ?_
    obtain ⟨x8, ex8, h⟩ := bnd h
    refine pw_iald (pc := 27) F dX6_isLike_27 ex8 ?_
    refine pw_icmp_ne (pc := 28) F 35 dX6_isLike_28 (by decide) (fun hc => ?_) (fun hc => ?_)
    · have h := iteT hc h
      refine pw_iconst (pc := 35) F 0 dX6_isLike_35 (by decide) ?_
      cases h
      exact pw_zret (pc := 36) F q (by decide) dX6_isLike_36
    · have h := iteF hc h
      refine pw_iconst (pc := 31) F 1 dX6_isLike_31 (by decide) ?_
      refine pw_goto (pc := 32) F 36 dX6_isLike_32 (by decide) ?_
      cases h
      exact pw_zret (pc := 36) F q (by decide) dX6_isLike_36
/-! HouseholdVault$Sheet.takeFrom(LHouseholdVault$Sheet;I)Z -/
theorem dX6_takeFrom_0 : decode cX6_takeFrom 0 = .ok (.aload_n 0, 1) := by decide +kernel
theorem dX6_takeFrom_1 : decode cX6_takeFrom 1 = .ok (.getfield 15, 3) := by decide +kernel
theorem dX6_takeFrom_4 : decode cX6_takeFrom 4 = .ok (.iload_n 2, 1) := by decide +kernel
theorem dX6_takeFrom_5 : decode cX6_takeFrom 5 = .ok (.iaload, 1) := by decide +kernel
theorem dX6_takeFrom_6 : decode cX6_takeFrom 6 = .ok (.ifCond .eq 12, 3) := by decide +kernel
theorem dX6_takeFrom_9 : decode cX6_takeFrom 9 = .ok (.aload_n 1, 1) := by decide +kernel
theorem dX6_takeFrom_10 : decode cX6_takeFrom 10 = .ok (.getfield 15, 3) := by decide +kernel
theorem dX6_takeFrom_13 : decode cX6_takeFrom 13 = .ok (.iload_n 2, 1) := by decide +kernel
theorem dX6_takeFrom_14 : decode cX6_takeFrom 14 = .ok (.iaload, 1) := by decide +kernel
theorem dX6_takeFrom_15 : decode cX6_takeFrom 15 = .ok (.ifCond .eq 5, 3) := by decide +kernel
theorem dX6_takeFrom_18 : decode cX6_takeFrom 18 = .ok (.iconst 0, 1) := by decide +kernel
theorem dX6_takeFrom_19 : decode cX6_takeFrom 19 = .ok (.ireturn, 1) := by decide +kernel
theorem dX6_takeFrom_20 : decode cX6_takeFrom 20 = .ok (.aload_n 0, 1) := by decide +kernel
theorem dX6_takeFrom_21 : decode cX6_takeFrom 21 = .ok (.iload_n 2, 1) := by decide +kernel
theorem dX6_takeFrom_22 : decode cX6_takeFrom 22 = .ok (.aload_n 1, 1) := by decide +kernel
theorem dX6_takeFrom_23 : decode cX6_takeFrom 23 = .ok (.getfield 9, 3) := by decide +kernel
theorem dX6_takeFrom_26 : decode cX6_takeFrom 26 = .ok (.iload_n 2, 1) := by decide +kernel
theorem dX6_takeFrom_27 : decode cX6_takeFrom 27 = .ok (.laload, 1) := by decide +kernel
theorem dX6_takeFrom_28 : decode cX6_takeFrom 28 = .ok (.invokevirtual 44, 3) := by decide +kernel
theorem dX6_takeFrom_31 : decode cX6_takeFrom 31 = .ok (.iconst 1, 1) := by decide +kernel
theorem dX6_takeFrom_32 : decode cX6_takeFrom 32 = .ok (.ireturn, 1) := by decide +kernel
def f_X6_takeFrom (a0 a1 a2 : Int) (H : PH) : RO := vm 6 a0 H <|
  (ld 22 H a0 1).bind fun x1 => (ld 0 H x1 a2).bind fun x2 => (if x2 = 0 then some (0, H)
  else (ld 22 H a1 1).bind fun x3 => (ld 0 H x3 a2).bind fun x4 => (if x4 = 0 then (ld 22 H a1 0).bind fun x5 => (ld 1 H x5 a2).bind fun x6 => (f_X6_put a0 a2 x6 H).bind fun z7 => some (1, z7.2)
  else some (0, H)))
set_option maxHeartbeats 4000000 in
theorem m_X6_takeFrom (l : Launch) (a0 a1 a2 : Int) (H : PH) (rr : Int) (HH : PH) (h : f_X6_takeFrom a0 a1 a2 H = some (rr, HH)) : CT l yX6_takeFrom cX6_takeFrom 3 (some .boolean) 1 23 [vr a0, vr a1, vi a2] H (some (vi rr)) HH := by
  refine CT.of RX6 (by decide) rfl [some (vr a0), some (vr a1), some (vi a2)] rfl rfl ?_
  intro E F q hn hf hl hm
  unfold f_X6_takeFrom at h
  obtain ⟨hv, h⟩ := vm_spec h
  refine pw_aload_n (pc := 0) F dX6_takeFrom_0 rfl ?_
  obtain ⟨x1, ex1, h⟩ := bnd h
  refine pw_get (pc := 1) F 6 1 15 (by decide) (by decide) g_89df54ea64 inl_6 2 rfl dX6_takeFrom_1 ex1 ?_
  refine pw_iload_n (pc := 4) F dX6_takeFrom_4 rfl ?_
  obtain ⟨x2, ex2, h⟩ := bnd h
  refine pw_iald (pc := 5) F dX6_takeFrom_5 ex2 ?_
  refine pw_if_eq (pc := 6) F 18 dX6_takeFrom_6 (by decide) (fun hc => ?_) (fun hc => ?_)
  · have h := iteT hc h
    refine pw_iconst (pc := 18) F 0 dX6_takeFrom_18 (by decide) ?_
    cases h
    exact pw_zret (pc := 19) F q (by decide) dX6_takeFrom_19
  · have h := iteF hc h
    refine pw_aload_n (pc := 9) F dX6_takeFrom_9 rfl ?_
    obtain ⟨x3, ex3, h⟩ := bnd h
    refine pw_get (pc := 10) F 6 1 15 (by decide) (by decide) g_89df54ea64 inl_6 2 rfl dX6_takeFrom_10 ex3 ?_
    refine pw_iload_n (pc := 13) F dX6_takeFrom_13 rfl ?_
    obtain ⟨x4, ex4, h⟩ := bnd h
    refine pw_iald (pc := 14) F dX6_takeFrom_14 ex4 ?_
    refine pw_if_eq (pc := 15) F 20 dX6_takeFrom_15 (by decide) (fun hc => ?_) (fun hc => ?_)
    · have h := iteT hc h
      refine pw_aload_n (pc := 20) F dX6_takeFrom_20 rfl ?_
      refine pw_iload_n (pc := 21) F dX6_takeFrom_21 rfl ?_
      refine pw_aload_n (pc := 22) F dX6_takeFrom_22 rfl ?_
      obtain ⟨x5, ex5, h⟩ := bnd h
      refine pw_get (pc := 23) F 6 0 9 (by decide) (by decide) g_72f7a14260 inl_6 2 rfl dX6_takeFrom_23 ex5 ?_
      refine pw_iload_n (pc := 26) F dX6_takeFrom_26 rfl ?_
      obtain ⟨x6, ex6, h⟩ := bnd h
      refine pw_lald (pc := 27) F dX6_takeFrom_27 ex6 ?_
      obtain ⟨z7, ez7, h⟩ := bnd h
      refine pw_callV (pc := 28) (as := [vi a2, vl x6]) (st := []) (r := none) F 44 6 (by decide) rfl (fun l => m_X6_put l a0 a2 x6 H z7.1 z7.2 ez7) g_84437ea564 g_a4f482ed8e g_a6da26925e g_6d91b6d2eb g_5239673ccb hd_X6_put (rm_ok hf hl (by decide) (by decide)) rfl (vm_spec ez7).1 dX6_takeFrom_28 rfl (stk' := []) rfl ?_
      refine pw_iconst (pc := 31) F 1 dX6_takeFrom_31 (by decide) ?_
      cases h
      exact pw_zret (pc := 32) F q (by decide) dX6_takeFrom_32
    · have h := iteF hc h
      refine pw_iconst (pc := 18) F 0 dX6_takeFrom_18 (by decide) ?_
      cases h
      exact pw_zret (pc := 19) F q (by decide) dX6_takeFrom_19
/-! HouseholdVault$Table.<init>()V -/
theorem dX7_init_0 : decode cX7_init 0 = .ok (.aload_n 0, 1) := by decide +kernel
theorem dX7_init_1 : decode cX7_init 1 = .ok (.invokespecial 3, 3) := by decide +kernel
theorem dX7_init_4 : decode cX7_init 4 = .ok (.aload_n 0, 1) := by decide +kernel
theorem dX7_init_5 : decode cX7_init 5 = .ok (.bipush 81, 2) := by decide +kernel
theorem dX7_init_7 : decode cX7_init 7 = .ok (.newarray .int, 2) := by decide +kernel
theorem dX7_init_9 : decode cX7_init 9 = .ok (.putfield 9, 3) := by decide +kernel
theorem dX7_init_12 : decode cX7_init 12 = .ok (.aload_n 0, 1) := by decide +kernel
theorem dX7_init_13 : decode cX7_init 13 = .ok (.bipush 81, 2) := by decide +kernel
theorem dX7_init_15 : decode cX7_init 15 = .ok (.newarray .long, 2) := by decide +kernel
theorem dX7_init_17 : decode cX7_init 17 = .ok (.putfield 15, 3) := by decide +kernel
theorem dX7_init_20 : decode cX7_init 20 = .ok (.aload_n 0, 1) := by decide +kernel
theorem dX7_init_21 : decode cX7_init 21 = .ok (.bipush 81, 2) := by decide +kernel
theorem dX7_init_23 : decode cX7_init 23 = .ok (.newarray .int, 2) := by decide +kernel
theorem dX7_init_25 : decode cX7_init 25 = .ok (.putfield 19, 3) := by decide +kernel
theorem dX7_init_28 : decode cX7_init 28 = .ok (.aload_n 0, 1) := by decide +kernel
theorem dX7_init_29 : decode cX7_init 29 = .ok (.bipush 81, 2) := by decide +kernel
theorem dX7_init_31 : decode cX7_init 31 = .ok (.newarray .long, 2) := by decide +kernel
theorem dX7_init_33 : decode cX7_init 33 = .ok (.putfield 22, 3) := by decide +kernel
theorem dX7_init_36 : decode cX7_init 36 = .ok (.aload_n 0, 1) := by decide +kernel
theorem dX7_init_37 : decode cX7_init 37 = .ok (.bipush 9, 2) := by decide +kernel
theorem dX7_init_39 : decode cX7_init 39 = .ok (.newarray .int, 2) := by decide +kernel
theorem dX7_init_41 : decode cX7_init 41 = .ok (.putfield 25, 3) := by decide +kernel
theorem dX7_init_44 : decode cX7_init 44 = .ok (.return_, 1) := by decide +kernel
def f_X7_init (a0 : Int) (H : PH) : RO := vm 7 a0 H <|
  (newa 0 81 H).bind fun z1 => (stv 23 z1.2 a0 3 z1.1).bind fun H2 => (newa 1 81 H2).bind fun z3 => (stv 23 z3.2 a0 4 z3.1).bind fun H4 => (newa 0 81 H4).bind fun z5 => (stv 23 z5.2 a0 5 z5.1).bind fun H6 => (newa 1 81 H6).bind fun z7 => (stv 23 z7.2 a0 6 z7.1).bind fun H8 => (newa 0 9 H8).bind fun z9 => (stv 23 z9.2 a0 7 z9.1).bind fun H10 => some (0, H10)
set_option maxHeartbeats 4000000 in
theorem m_X7_init (l : Launch) (a0 : Int) (H : PH) (rr : Int) (HH : PH) (h : f_X7_init a0 H = some (rr, HH)) : CT l yX7_init cX7_init 1 none 1 12 [vr a0] H none HH := by
  refine CT.of RX7 (by decide) rfl [some (vr a0)] rfl rfl ?_
  intro E F q hn hf hl hm
  unfold f_X7_init at h
  obtain ⟨hv, h⟩ := vm_spec h
  refine pw_aload_n (pc := 0) F dX7_init_0 rfl ?_
  refine pw_objInit (pc := 1) F 3 g_cbadd1ad6d g_93fb852fc9 g_ecc6a87410 (rm_ok hf hl (by decide) (by decide)) dX7_init_1 (vm_nn hv) ?_
  refine pw_aload_n (pc := 4) F dX7_init_4 rfl ?_
  refine pw_bipush (pc := 5) F 81 dX7_init_5 (by decide) ?_
  obtain ⟨z1, ez1, h⟩ := bnd h
  refine pw_newa (pc := 7) F 0 (by decide) g_c17bb956eb dX7_init_7 ez1 ?_
  obtain ⟨H2, eH2, h⟩ := bnd h
  refine pw_putF (pc := 9) F 7 3 9 (by decide) (by decide) g_b6ed047181 inl_7 rfl hm rfl 2 rfl dX7_init_9 trivial eH2 ?_
  refine pw_aload_n (pc := 12) F dX7_init_12 rfl ?_
  refine pw_bipush (pc := 13) F 81 dX7_init_13 (by decide) ?_
  obtain ⟨z3, ez3, h⟩ := bnd h
  refine pw_newa (pc := 15) F 1 (by decide) g_5bec7c7dcf dX7_init_15 ez3 ?_
  obtain ⟨H4, eH4, h⟩ := bnd h
  refine pw_putF (pc := 17) F 7 4 15 (by decide) (by decide) g_4595692087 inl_7 rfl hm rfl 2 rfl dX7_init_17 trivial eH4 ?_
  refine pw_aload_n (pc := 20) F dX7_init_20 rfl ?_
  refine pw_bipush (pc := 21) F 81 dX7_init_21 (by decide) ?_
  obtain ⟨z5, ez5, h⟩ := bnd h
  refine pw_newa (pc := 23) F 0 (by decide) g_c17bb956eb dX7_init_23 ez5 ?_
  obtain ⟨H6, eH6, h⟩ := bnd h
  refine pw_putF (pc := 25) F 7 5 19 (by decide) (by decide) g_174638763c inl_7 rfl hm rfl 2 rfl dX7_init_25 trivial eH6 ?_
  refine pw_aload_n (pc := 28) F dX7_init_28 rfl ?_
  refine pw_bipush (pc := 29) F 81 dX7_init_29 (by decide) ?_
  obtain ⟨z7, ez7, h⟩ := bnd h
  refine pw_newa (pc := 31) F 1 (by decide) g_5bec7c7dcf dX7_init_31 ez7 ?_
  obtain ⟨H8, eH8, h⟩ := bnd h
  refine pw_putF (pc := 33) F 7 6 22 (by decide) (by decide) g_0d79f5ff1b inl_7 rfl hm rfl 2 rfl dX7_init_33 trivial eH8 ?_
  refine pw_aload_n (pc := 36) F dX7_init_36 rfl ?_
  refine pw_bipush (pc := 37) F 9 dX7_init_37 (by decide) ?_
  obtain ⟨z9, ez9, h⟩ := bnd h
  refine pw_newa (pc := 39) F 0 (by decide) g_c17bb956eb dX7_init_39 ez9 ?_
  obtain ⟨H10, eH10, h⟩ := bnd h
  refine pw_putF (pc := 41) F 7 7 25 (by decide) (by decide) g_8fd9c0111a inl_7 rfl hm rfl 2 rfl dX7_init_41 trivial eH10 ?_
  cases h
  exact pw_vret (pc := 44) F q dX7_init_44
/-! HouseholdVault$Table.holdNone()V -/
theorem dX7_holdNone_0 : decode cX7_holdNone 0 = .ok (.aload_n 0, 1) := by decide +kernel
theorem dX7_holdNone_1 : decode cX7_holdNone 1 = .ok (.getfield 25, 3) := by decide +kernel
theorem dX7_holdNone_4 : decode cX7_holdNone 4 = .ok (.iconst 0, 1) := by decide +kernel
theorem dX7_holdNone_5 : decode cX7_holdNone 5 = .ok (.invokestatic 39, 3) := by decide +kernel
theorem dX7_holdNone_8 : decode cX7_holdNone 8 = .ok (.aload_n 0, 1) := by decide +kernel
theorem dX7_holdNone_9 : decode cX7_holdNone 9 = .ok (.iconst 0, 1) := by decide +kernel
theorem dX7_holdNone_10 : decode cX7_holdNone 10 = .ok (.putfield 68, 3) := by decide +kernel
theorem dX7_holdNone_13 : decode cX7_holdNone 13 = .ok (.return_, 1) := by decide +kernel
def f_X7_holdNone (a0 : Int) (H : PH) : RO := vm 7 a0 H <|
  (ld 23 H a0 7).bind fun x1 => (f_J7_fill_53178 x1 0 H).bind fun z2 => (stv 23 z2.2 a0 8 0).bind fun H3 => some (0, H3)
set_option maxHeartbeats 4000000 in
theorem m_X7_holdNone (l : Launch) (a0 : Int) (H : PH) (rr : Int) (HH : PH) (h : f_X7_holdNone a0 H = some (rr, HH)) : CT l yX7_holdNone cX7_holdNone 1 none 1 23 [vr a0] H none HH := by
  refine CT.of RX7 (by decide) rfl [some (vr a0)] rfl rfl ?_
  intro E F q hn hf hl hm
  unfold f_X7_holdNone at h
  obtain ⟨hv, h⟩ := vm_spec h
  refine pw_aload_n (pc := 0) F dX7_holdNone_0 rfl ?_
  obtain ⟨x1, ex1, h⟩ := bnd h
  refine pw_get (pc := 1) F 7 7 25 (by decide) (by decide) g_8fd9c0111a inl_7 2 rfl dX7_holdNone_1 ex1 ?_
  refine pw_iconst (pc := 4) F 0 dX7_holdNone_4 (by decide) ?_
  obtain ⟨z2, ez2, h⟩ := bnd h
  refine pw_callS (pc := 5) (as := [vr x1, vi 0]) (st := []) (r := none) F 39 (fun l => m_J7_fill_53178 l x1 0 H z2.1 z2.2 ez2) g_4c43356a59 g_68318bac72 g_242181dc25 g_eeb4d3e40c hd_J7_fill_53178 (rm_ok hf hl (by decide) (by decide)) rfl dX7_holdNone_5 rfl (stk' := []) rfl ?_
  refine pw_aload_n (pc := 8) F dX7_holdNone_8 rfl ?_
  refine pw_iconst (pc := 9) F 0 dX7_holdNone_9 (by decide) ?_
  obtain ⟨H3, eH3, h⟩ := bnd h
  refine pw_put (pc := 10) F 7 8 68 (by decide) (by decide) g_dbfccfd81a inl_7 rfl 0 rfl dX7_holdNone_10 trivial eH3 ?_
  cases h
  exact pw_vret (pc := 13) F q dX7_holdNone_13
/-! HouseholdVault$Table.start(IIZ)V -/
theorem dX7_start_0 : decode cX7_start 0 = .ok (.aload_n 0, 1) := by decide +kernel
theorem dX7_start_1 : decode cX7_start 1 = .ok (.iload_n 1, 1) := by decide +kernel
theorem dX7_start_2 : decode cX7_start 2 = .ok (.putfield 28, 3) := by decide +kernel
theorem dX7_start_5 : decode cX7_start 5 = .ok (.aload_n 0, 1) := by decide +kernel
theorem dX7_start_6 : decode cX7_start 6 = .ok (.iload_n 2, 1) := by decide +kernel
theorem dX7_start_7 : decode cX7_start 7 = .ok (.putfield 32, 3) := by decide +kernel
theorem dX7_start_10 : decode cX7_start 10 = .ok (.aload_n 0, 1) := by decide +kernel
theorem dX7_start_11 : decode cX7_start 11 = .ok (.iload_n 3, 1) := by decide +kernel
theorem dX7_start_12 : decode cX7_start 12 = .ok (.putfield 35, 3) := by decide +kernel
theorem dX7_start_15 : decode cX7_start 15 = .ok (.aload_n 0, 1) := by decide +kernel
theorem dX7_start_16 : decode cX7_start 16 = .ok (.getfield 9, 3) := by decide +kernel
theorem dX7_start_19 : decode cX7_start 19 = .ok (.iconst 0, 1) := by decide +kernel
theorem dX7_start_20 : decode cX7_start 20 = .ok (.invokestatic 39, 3) := by decide +kernel
theorem dX7_start_23 : decode cX7_start 23 = .ok (.aload_n 0, 1) := by decide +kernel
theorem dX7_start_24 : decode cX7_start 24 = .ok (.getfield 15, 3) := by decide +kernel
theorem dX7_start_27 : decode cX7_start 27 = .ok (.lconst 0, 1) := by decide +kernel
theorem dX7_start_28 : decode cX7_start 28 = .ok (.invokestatic 45, 3) := by decide +kernel
theorem dX7_start_31 : decode cX7_start 31 = .ok (.aload_n 0, 1) := by decide +kernel
theorem dX7_start_32 : decode cX7_start 32 = .ok (.getfield 19, 3) := by decide +kernel
theorem dX7_start_35 : decode cX7_start 35 = .ok (.iconst 0, 1) := by decide +kernel
theorem dX7_start_36 : decode cX7_start 36 = .ok (.invokestatic 39, 3) := by decide +kernel
theorem dX7_start_39 : decode cX7_start 39 = .ok (.aload_n 0, 1) := by decide +kernel
theorem dX7_start_40 : decode cX7_start 40 = .ok (.invokevirtual 48, 3) := by decide +kernel
theorem dX7_start_43 : decode cX7_start 43 = .ok (.return_, 1) := by decide +kernel
def f_X7_start (a0 a1 a2 a3 : Int) (H : PH) : RO := vm 7 a0 H <|
  (stv 23 H a0 0 a1).bind fun H1 => (stv 23 H1 a0 1 a2).bind fun H2 => (stz 23 H2 a0 2 a3).bind fun H3 => (ld 23 H3 a0 3).bind fun x4 => (f_J7_fill_53178 x4 0 H3).bind fun z5 => (ld 23 z5.2 a0 4).bind fun x6 => (f_J7_fill_d0a16 x6 0 z5.2).bind fun z7 => (ld 23 z7.2 a0 5).bind fun x8 => (f_J7_fill_53178 x8 0 z7.2).bind fun z9 => (f_X7_holdNone a0 z9.2).bind fun z10 => some (0, z10.2)
set_option maxHeartbeats 4000000 in
theorem m_X7_start (l : Launch) (a0 a1 a2 a3 : Int) (H : PH) (rr : Int) (HH : PH) (h : f_X7_start a0 a1 a2 a3 H = some (rr, HH)) : CT l yX7_start cX7_start 4 none 2 43 [vr a0, vi a1, vi a2, vi a3] H none HH := by
  refine CT.of RX7 (by decide) rfl [some (vr a0), some (vi a1), some (vi a2), some (vi a3)] rfl rfl ?_
  intro E F q hn hf hl hm
  unfold f_X7_start at h
  obtain ⟨hv, h⟩ := vm_spec h
  refine pw_aload_n (pc := 0) F dX7_start_0 rfl ?_
  refine pw_iload_n (pc := 1) F dX7_start_1 rfl ?_
  obtain ⟨H1, eH1, h⟩ := bnd h
  refine pw_put (pc := 2) F 7 0 28 (by decide) (by decide) g_7af97f1e3d inl_7 rfl 0 rfl dX7_start_2 trivial eH1 ?_
  refine pw_aload_n (pc := 5) F dX7_start_5 rfl ?_
  refine pw_iload_n (pc := 6) F dX7_start_6 rfl ?_
  obtain ⟨H2, eH2, h⟩ := bnd h
  refine pw_put (pc := 7) F 7 1 32 (by decide) (by decide) g_d0dccf0994 inl_7 rfl 0 rfl dX7_start_7 trivial eH2 ?_
  refine pw_aload_n (pc := 10) F dX7_start_10 rfl ?_
  refine pw_iload_n (pc := 11) F dX7_start_11 rfl ?_
  obtain ⟨H3, eH3, h⟩ := bnd h
  refine pw_put (pc := 12) F 7 2 35 (by decide) (by decide) g_1e8f3b285b inl_7 rfl 0 rfl dX7_start_12 (stz_spec eH3).1 (stz_spec eH3).2 ?_
  refine pw_aload_n (pc := 15) F dX7_start_15 rfl ?_
  obtain ⟨x4, ex4, h⟩ := bnd h
  refine pw_get (pc := 16) F 7 3 9 (by decide) (by decide) g_b6ed047181 inl_7 2 rfl dX7_start_16 ex4 ?_
  refine pw_iconst (pc := 19) F 0 dX7_start_19 (by decide) ?_
  obtain ⟨z5, ez5, h⟩ := bnd h
  refine pw_callS (pc := 20) (as := [vr x4, vi 0]) (st := []) (r := none) F 39 (fun l => m_J7_fill_53178 l x4 0 H3 z5.1 z5.2 ez5) g_4c43356a59 g_68318bac72 g_242181dc25 g_eeb4d3e40c hd_J7_fill_53178 (rm_ok hf hl (by decide) (by decide)) rfl dX7_start_20 rfl (stk' := []) rfl ?_
  refine pw_aload_n (pc := 23) F dX7_start_23 rfl ?_
  obtain ⟨x6, ex6, h⟩ := bnd h
  refine pw_get (pc := 24) F 7 4 15 (by decide) (by decide) g_4595692087 inl_7 2 rfl dX7_start_24 ex6 ?_
  refine pw_lconst (pc := 27) F 0 dX7_start_27 (by decide) ?_
  obtain ⟨z7, ez7, h⟩ := bnd h
  refine pw_callS (pc := 28) (as := [vr x6, vl 0]) (st := []) (r := none) F 45 (fun l => m_J7_fill_d0a16 l x6 0 z5.2 z7.1 z7.2 ez7) g_a7202a3ab8 g_fc2fc69ffb g_242181dc25 g_0a9b741f16 hd_J7_fill_d0a16 (rm_ok hf hl (by decide) (by decide)) rfl dX7_start_28 rfl (stk' := []) rfl ?_
  refine pw_aload_n (pc := 31) F dX7_start_31 rfl ?_
  obtain ⟨x8, ex8, h⟩ := bnd h
  refine pw_get (pc := 32) F 7 5 19 (by decide) (by decide) g_174638763c inl_7 2 rfl dX7_start_32 ex8 ?_
  refine pw_iconst (pc := 35) F 0 dX7_start_35 (by decide) ?_
  obtain ⟨z9, ez9, h⟩ := bnd h
  refine pw_callS (pc := 36) (as := [vr x8, vi 0]) (st := []) (r := none) F 39 (fun l => m_J7_fill_53178 l x8 0 z7.2 z9.1 z9.2 ez9) g_4c43356a59 g_68318bac72 g_242181dc25 g_eeb4d3e40c hd_J7_fill_53178 (rm_ok hf hl (by decide) (by decide)) rfl dX7_start_36 rfl (stk' := []) rfl ?_
  refine pw_aload_n (pc := 39) F dX7_start_39 rfl ?_
  obtain ⟨z10, ez10, h⟩ := bnd h
  refine pw_callV (pc := 40) (as := []) (st := []) (r := none) F 48 7 (by decide) rfl (fun l => m_X7_holdNone l a0 z9.2 z10.1 z10.2 ez10) g_ef8c2311d6 g_96547fb903 g_6781550bf5 g_030a77a6da g_9b3b464a34 hd_X7_holdNone (rm_ok hf hl (by decide) (by decide)) rfl (vm_spec ez10).1 dX7_start_40 rfl (stk' := []) rfl ?_
  cases h
  exact pw_vret (pc := 43) F q dX7_start_43
/-! HouseholdVault$Table.isNone()Z -/
theorem dX7_isNone_0 : decode cX7_isNone 0 = .ok (.aload_n 0, 1) := by decide +kernel
theorem dX7_isNone_1 : decode cX7_isNone 1 = .ok (.getfield 28, 3) := by decide +kernel
theorem dX7_isNone_4 : decode cX7_isNone 4 = .ok (.ifCond .ne 7, 3) := by decide +kernel
theorem dX7_isNone_7 : decode cX7_isNone 7 = .ok (.iconst 1, 1) := by decide +kernel
theorem dX7_isNone_8 : decode cX7_isNone 8 = .ok (.goto 4, 3) := by decide +kernel
theorem dX7_isNone_11 : decode cX7_isNone 11 = .ok (.iconst 0, 1) := by decide +kernel
theorem dX7_isNone_12 : decode cX7_isNone 12 = .ok (.ireturn, 1) := by decide +kernel
def f_X7_isNone (a0 : Int) (H : PH) : RO := vm 7 a0 H <|
  (ld 23 H a0 0).bind fun x1 => (if x1 ≠ 0 then some (0, H)
  else some (1, H))
set_option maxHeartbeats 4000000 in
theorem m_X7_isNone (l : Launch) (a0 : Int) (H : PH) (rr : Int) (HH : PH) (h : f_X7_isNone a0 H = some (rr, HH)) : CT l yX7_isNone cX7_isNone 1 (some .boolean) 0 0 [vr a0] H (some (vi rr)) HH := by
  refine CT.of RX7 (by decide) rfl [some (vr a0)] rfl rfl ?_
  intro E F q hn hf hl hm
  unfold f_X7_isNone at h
  obtain ⟨hv, h⟩ := vm_spec h
  refine pw_aload_n (pc := 0) F dX7_isNone_0 rfl ?_
  obtain ⟨x1, ex1, h⟩ := bnd h
  refine pw_get (pc := 1) F 7 0 28 (by decide) (by decide) g_7af97f1e3d inl_7 0 rfl dX7_isNone_1 ex1 ?_
  refine pw_if_ne (pc := 4) F 11 dX7_isNone_4 (by decide) (fun hc => ?_) (fun hc => ?_)
  · have h := iteT hc h
    refine pw_iconst (pc := 11) F 0 dX7_isNone_11 (by decide) ?_
    cases h
    exact pw_zret (pc := 12) F q (by decide) dX7_isNone_12
  · have h := iteF hc h
    refine pw_iconst (pc := 7) F 1 dX7_isNone_7 (by decide) ?_
    refine pw_goto (pc := 8) F 12 dX7_isNone_8 (by decide) ?_
    cases h
    exact pw_zret (pc := 12) F q (by decide) dX7_isNone_12
/-! HouseholdVault$Table.cells()I -/
theorem dX7_cells_0 : decode cX7_cells 0 = .ok (.aload_n 0, 1) := by decide +kernel
theorem dX7_cells_1 : decode cX7_cells 1 = .ok (.getfield 28, 3) := by decide +kernel
theorem dX7_cells_4 : decode cX7_cells 4 = .ok (.aload_n 0, 1) := by decide +kernel
theorem dX7_cells_5 : decode cX7_cells 5 = .ok (.getfield 32, 3) := by decide +kernel
theorem dX7_cells_8 : decode cX7_cells 8 = .ok (.imul, 1) := by decide +kernel
theorem dX7_cells_9 : decode cX7_cells 9 = .ok (.ireturn, 1) := by decide +kernel
def f_X7_cells (a0 : Int) (H : PH) : RO := vm 7 a0 H <|
  (ld 23 H a0 0).bind fun x1 => (ld 23 H a0 1).bind fun x2 => some ((w32 (x1 * x2)), H)
set_option maxHeartbeats 4000000 in
theorem m_X7_cells (l : Launch) (a0 : Int) (H : PH) (rr : Int) (HH : PH) (h : f_X7_cells a0 H = some (rr, HH)) : CT l yX7_cells cX7_cells 1 (some .int) 0 0 [vr a0] H (some (vi rr)) HH := by
  refine CT.of RX7 (by decide) rfl [some (vr a0)] rfl rfl ?_
  intro E F q hn hf hl hm
  unfold f_X7_cells at h
  obtain ⟨hv, h⟩ := vm_spec h
  refine pw_aload_n (pc := 0) F dX7_cells_0 rfl ?_
  obtain ⟨x1, ex1, h⟩ := bnd h
  refine pw_get (pc := 1) F 7 0 28 (by decide) (by decide) g_7af97f1e3d inl_7 0 rfl dX7_cells_1 ex1 ?_
  refine pw_aload_n (pc := 4) F dX7_cells_4 rfl ?_
  obtain ⟨x2, ex2, h⟩ := bnd h
  refine pw_get (pc := 5) F 7 1 32 (by decide) (by decide) g_d0dccf0994 inl_7 0 rfl dX7_cells_5 ex2 ?_
  refine pw_imul (pc := 8) F dX7_cells_8 ?_
  cases h
  exact pw_iret (pc := 9) F q dX7_cells_9
/-! HouseholdVault$Table.hasCell(II)Z -/
theorem dX7_hasCell_0 : decode cX7_hasCell 0 = .ok (.iload_n 1, 1) := by decide +kernel
theorem dX7_hasCell_1 : decode cX7_hasCell 1 = .ok (.ifCond .lt 27, 3) := by decide +kernel
theorem dX7_hasCell_4 : decode cX7_hasCell 4 = .ok (.iload_n 1, 1) := by decide +kernel
theorem dX7_hasCell_5 : decode cX7_hasCell 5 = .ok (.aload_n 0, 1) := by decide +kernel
theorem dX7_hasCell_6 : decode cX7_hasCell 6 = .ok (.getfield 28, 3) := by decide +kernel
theorem dX7_hasCell_9 : decode cX7_hasCell 9 = .ok (.if_icmp .ge 19, 3) := by decide +kernel
theorem dX7_hasCell_12 : decode cX7_hasCell 12 = .ok (.iload_n 2, 1) := by decide +kernel
theorem dX7_hasCell_13 : decode cX7_hasCell 13 = .ok (.ifCond .lt 15, 3) := by decide +kernel
theorem dX7_hasCell_16 : decode cX7_hasCell 16 = .ok (.iload_n 2, 1) := by decide +kernel
theorem dX7_hasCell_17 : decode cX7_hasCell 17 = .ok (.aload_n 0, 1) := by decide +kernel
theorem dX7_hasCell_18 : decode cX7_hasCell 18 = .ok (.getfield 32, 3) := by decide +kernel
theorem dX7_hasCell_21 : decode cX7_hasCell 21 = .ok (.if_icmp .ge 7, 3) := by decide +kernel
theorem dX7_hasCell_24 : decode cX7_hasCell 24 = .ok (.iconst 1, 1) := by decide +kernel
theorem dX7_hasCell_25 : decode cX7_hasCell 25 = .ok (.goto 4, 3) := by decide +kernel
theorem dX7_hasCell_28 : decode cX7_hasCell 28 = .ok (.iconst 0, 1) := by decide +kernel
theorem dX7_hasCell_29 : decode cX7_hasCell 29 = .ok (.ireturn, 1) := by decide +kernel
def f_X7_hasCell (a0 a1 a2 : Int) (H : PH) : RO := vm 7 a0 H <|
  (if a1 < 0 then some (0, H)
  else (ld 23 H a0 0).bind fun x1 => (if a1 ≥ x1 then some (0, H)
  else (if a2 < 0 then some (0, H)
  else (ld 23 H a0 1).bind fun x2 => (if a2 ≥ x2 then some (0, H)
  else some (1, H)))))
set_option maxHeartbeats 4000000 in
theorem m_X7_hasCell (l : Launch) (a0 a1 a2 : Int) (H : PH) (rr : Int) (HH : PH) (h : f_X7_hasCell a0 a1 a2 H = some (rr, HH)) : CT l yX7_hasCell cX7_hasCell 3 (some .boolean) 0 0 [vr a0, vi a1, vi a2] H (some (vi rr)) HH := by
  refine CT.of RX7 (by decide) rfl [some (vr a0), some (vi a1), some (vi a2)] rfl rfl ?_
  intro E F q hn hf hl hm
  unfold f_X7_hasCell at h
  obtain ⟨hv, h⟩ := vm_spec h
  refine pw_iload_n (pc := 0) F dX7_hasCell_0 rfl ?_
  refine pw_if_lt (pc := 1) F 28 dX7_hasCell_1 (by decide) (fun hc => ?_) (fun hc => ?_)
  · have h := iteT hc h
    refine pw_iconst (pc := 28) F 0 dX7_hasCell_28 (by decide) ?_
    cases h
    exact pw_zret (pc := 29) F q (by decide) dX7_hasCell_29
  · have h := iteF hc h
    refine pw_iload_n (pc := 4) F dX7_hasCell_4 rfl ?_
    refine pw_aload_n (pc := 5) F dX7_hasCell_5 rfl ?_
    obtain ⟨x1, ex1, h⟩ := bnd h
    refine pw_get (pc := 6) F 7 0 28 (by decide) (by decide) g_7af97f1e3d inl_7 0 rfl dX7_hasCell_6 ex1 ?_
    refine pw_icmp_ge (pc := 9) F 28 dX7_hasCell_9 (by decide) (fun hc => ?_) (fun hc => ?_)
    · have h := iteT hc h
      refine pw_iconst (pc := 28) F 0 dX7_hasCell_28 (by decide) ?_
      cases h
      exact pw_zret (pc := 29) F q (by decide) dX7_hasCell_29
    · have h := iteF hc h
      refine pw_iload_n (pc := 12) F dX7_hasCell_12 rfl ?_
      refine pw_if_lt (pc := 13) F 28 dX7_hasCell_13 (by decide) (fun hc => ?_) (fun hc => ?_)
      · have h := iteT hc h
        refine pw_iconst (pc := 28) F 0 dX7_hasCell_28 (by decide) ?_
        cases h
        exact pw_zret (pc := 29) F q (by decide) dX7_hasCell_29
      · have h := iteF hc h
        refine pw_iload_n (pc := 16) F dX7_hasCell_16 rfl ?_
        refine pw_aload_n (pc := 17) F dX7_hasCell_17 rfl ?_
        obtain ⟨x2, ex2, h⟩ := bnd h
        refine pw_get (pc := 18) F 7 1 32 (by decide) (by decide) g_d0dccf0994 inl_7 0 rfl dX7_hasCell_18 ex2 ?_
        refine pw_icmp_ge (pc := 21) F 28 dX7_hasCell_21 (by decide) (fun hc => ?_) (fun hc => ?_)
        · have h := iteT hc h
          refine pw_iconst (pc := 28) F 0 dX7_hasCell_28 (by decide) ?_
          cases h
          exact pw_zret (pc := 29) F q (by decide) dX7_hasCell_29
        · have h := iteF hc h
          refine pw_iconst (pc := 24) F 1 dX7_hasCell_24 (by decide) ?_
          refine pw_goto (pc := 25) F 29 dX7_hasCell_25 (by decide) ?_
          cases h
          exact pw_zret (pc := 29) F q (by decide) dX7_hasCell_29
/-! HouseholdVault$Table.at(II)I -/
theorem dX7_at_0 : decode cX7_at 0 = .ok (.iload_n 1, 1) := by decide +kernel
theorem dX7_at_1 : decode cX7_at 1 = .ok (.aload_n 0, 1) := by decide +kernel
theorem dX7_at_2 : decode cX7_at 2 = .ok (.getfield 32, 3) := by decide +kernel
theorem dX7_at_5 : decode cX7_at 5 = .ok (.imul, 1) := by decide +kernel
theorem dX7_at_6 : decode cX7_at 6 = .ok (.iload_n 2, 1) := by decide +kernel
theorem dX7_at_7 : decode cX7_at 7 = .ok (.iadd, 1) := by decide +kernel
theorem dX7_at_8 : decode cX7_at 8 = .ok (.ireturn, 1) := by decide +kernel
def f_X7_at (a0 a1 a2 : Int) (H : PH) : RO := vm 7 a0 H <|
  (ld 23 H a0 1).bind fun x1 => some ((w32 ((w32 (a1 * x1)) + a2)), H)
set_option maxHeartbeats 4000000 in
theorem m_X7_at (l : Launch) (a0 a1 a2 : Int) (H : PH) (rr : Int) (HH : PH) (h : f_X7_at a0 a1 a2 H = some (rr, HH)) : CT l yX7_at cX7_at 3 (some .int) 0 0 [vr a0, vi a1, vi a2] H (some (vi rr)) HH := by
  refine CT.of RX7 (by decide) rfl [some (vr a0), some (vi a1), some (vi a2)] rfl rfl ?_
  intro E F q hn hf hl hm
  unfold f_X7_at at h
  obtain ⟨hv, h⟩ := vm_spec h
  refine pw_iload_n (pc := 0) F dX7_at_0 rfl ?_
  refine pw_aload_n (pc := 1) F dX7_at_1 rfl ?_
  obtain ⟨x1, ex1, h⟩ := bnd h
  refine pw_get (pc := 2) F 7 1 32 (by decide) (by decide) g_d0dccf0994 inl_7 0 rfl dX7_at_2 ex1 ?_
  refine pw_imul (pc := 5) F dX7_at_5 ?_
  refine pw_iload_n (pc := 6) F dX7_at_6 rfl ?_
  refine pw_iadd (pc := 7) F dX7_at_7 ?_
  cases h
  exact pw_iret (pc := 8) F q dX7_at_8
/-! HouseholdVault$Table.add(III)V -/
theorem dX7_add_0 : decode cX7_add 0 = .ok (.aload_n 0, 1) := by decide +kernel
theorem dX7_add_1 : decode cX7_add 1 = .ok (.iload_n 1, 1) := by decide +kernel
theorem dX7_add_2 : decode cX7_add 2 = .ok (.iload_n 2, 1) := by decide +kernel
theorem dX7_add_3 : decode cX7_add 3 = .ok (.invokevirtual 51, 3) := by decide +kernel
theorem dX7_add_6 : decode cX7_add 6 = .ok (.ifCond .ne 4, 3) := by decide +kernel
theorem dX7_add_9 : decode cX7_add 9 = .ok (.return_, 1) := by decide +kernel
theorem dX7_add_10 : decode cX7_add 10 = .ok (.aload_n 0, 1) := by decide +kernel
theorem dX7_add_11 : decode cX7_add 11 = .ok (.getfield 9, 3) := by decide +kernel
theorem dX7_add_14 : decode cX7_add 14 = .ok (.aload_n 0, 1) := by decide +kernel
theorem dX7_add_15 : decode cX7_add 15 = .ok (.iload_n 1, 1) := by decide +kernel
theorem dX7_add_16 : decode cX7_add 16 = .ok (.iload_n 2, 1) := by decide +kernel
theorem dX7_add_17 : decode cX7_add 17 = .ok (.invokevirtual 55, 3) := by decide +kernel
theorem dX7_add_20 : decode cX7_add 20 = .ok (.dup2, 1) := by decide +kernel
theorem dX7_add_21 : decode cX7_add 21 = .ok (.iaload, 1) := by decide +kernel
theorem dX7_add_22 : decode cX7_add 22 = .ok (.iconst 1, 1) := by decide +kernel
theorem dX7_add_23 : decode cX7_add 23 = .ok (.iadd, 1) := by decide +kernel
theorem dX7_add_24 : decode cX7_add 24 = .ok (.iastore, 1) := by decide +kernel
theorem dX7_add_25 : decode cX7_add 25 = .ok (.aload_n 0, 1) := by decide +kernel
theorem dX7_add_26 : decode cX7_add 26 = .ok (.getfield 15, 3) := by decide +kernel
theorem dX7_add_29 : decode cX7_add 29 = .ok (.aload_n 0, 1) := by decide +kernel
theorem dX7_add_30 : decode cX7_add 30 = .ok (.iload_n 1, 1) := by decide +kernel
theorem dX7_add_31 : decode cX7_add 31 = .ok (.iload_n 2, 1) := by decide +kernel
theorem dX7_add_32 : decode cX7_add 32 = .ok (.invokevirtual 55, 3) := by decide +kernel
theorem dX7_add_35 : decode cX7_add 35 = .ok (.dup2, 1) := by decide +kernel
theorem dX7_add_36 : decode cX7_add 36 = .ok (.laload, 1) := by decide +kernel
theorem dX7_add_37 : decode cX7_add 37 = .ok (.iload_n 3, 1) := by decide +kernel
theorem dX7_add_38 : decode cX7_add 38 = .ok (.i2l, 1) := by decide +kernel
theorem dX7_add_39 : decode cX7_add 39 = .ok (.ladd, 1) := by decide +kernel
theorem dX7_add_40 : decode cX7_add 40 = .ok (.lastore, 1) := by decide +kernel
theorem dX7_add_41 : decode cX7_add 41 = .ok (.return_, 1) := by decide +kernel
def f_X7_add (a0 a1 a2 a3 : Int) (H : PH) : RO := vm 7 a0 H <|
  (f_X7_hasCell a0 a1 a2 H).bind fun z1 => (if z1.1 ≠ 0 then (ld 23 z1.2 a0 3).bind fun x2 => (f_X7_at a0 a1 a2 z1.2).bind fun z3 => (ld 0 z3.2 x2 z3.1).bind fun x4 => (stv 0 z3.2 x2 z3.1 (w32 (x4 + 1))).bind fun H5 => (ld 23 H5 a0 4).bind fun x6 => (f_X7_at a0 a1 a2 H5).bind fun z7 => (ld 1 z7.2 x6 z7.1).bind fun x8 => (stv 1 z7.2 x6 z7.1 (w64 (x8 + a3))).bind fun H9 => some (0, H9)
  else some (0, z1.2))
set_option maxHeartbeats 4000000 in
theorem m_X7_add (l : Launch) (a0 a1 a2 a3 : Int) (H : PH) (rr : Int) (HH : PH) (h : f_X7_add a0 a1 a2 a3 H = some (rr, HH)) : CT l yX7_add cX7_add 4 none 1 22 [vr a0, vi a1, vi a2, vi a3] H none HH := by
  refine CT.of RX7 (by decide) rfl [some (vr a0), some (vi a1), some (vi a2), some (vi a3)] rfl rfl ?_
  intro E F q hn hf hl hm
  unfold f_X7_add at h
  obtain ⟨hv, h⟩ := vm_spec h
  refine pw_aload_n (pc := 0) F dX7_add_0 rfl ?_
  refine pw_iload_n (pc := 1) F dX7_add_1 rfl ?_
  refine pw_iload_n (pc := 2) F dX7_add_2 rfl ?_
  obtain ⟨z1, ez1, h⟩ := bnd h
  refine pw_callV (pc := 3) (as := [vi a1, vi a2]) (st := []) (r := (some (vi z1.1))) F 51 7 (by decide) rfl (fun l => m_X7_hasCell l a0 a1 a2 H z1.1 z1.2 ez1) g_57593ad30e g_9f89e3469c g_41bf281d0f g_030a77a6da g_7f7d992768 hd_X7_hasCell (rm_ok hf hl (by decide) (by decide)) rfl (vm_spec ez1).1 dX7_add_3 rfl (stk' := [vi z1.1]) rfl ?_
  refine pw_if_ne (pc := 6) F 10 dX7_add_6 (by decide) (fun hc => ?_) (fun hc => ?_)
  · have h := iteT hc h
    refine pw_aload_n (pc := 10) F dX7_add_10 rfl ?_
    obtain ⟨x2, ex2, h⟩ := bnd h
    refine pw_get (pc := 11) F 7 3 9 (by decide) (by decide) g_b6ed047181 inl_7 2 rfl dX7_add_11 ex2 ?_
    refine pw_aload_n (pc := 14) F dX7_add_14 rfl ?_
    refine pw_iload_n (pc := 15) F dX7_add_15 rfl ?_
    refine pw_iload_n (pc := 16) F dX7_add_16 rfl ?_
    obtain ⟨z3, ez3, h⟩ := bnd h
    refine pw_callV (pc := 17) (as := [vi a1, vi a2]) (st := [vr x2]) (r := (some (vi z3.1))) F 55 7 (by decide) rfl (fun l => m_X7_at l a0 a1 a2 z1.2 z3.1 z3.2 ez3) g_fcdeebc82f g_e482649742 g_bf833bcebb g_030a77a6da g_4843a546b7 hd_X7_at (rm_ok hf hl (by decide) (by decide)) rfl (vm_spec ez3).1 dX7_add_17 rfl (stk' := [vi z3.1, vr x2]) rfl ?_
    refine pw_dup2 (pc := 20) F dX7_add_20 (pvne rfl) (pvne rfl) ?_
    obtain ⟨x4, ex4, h⟩ := bnd h
    refine pw_iald (pc := 21) F dX7_add_21 ex4 ?_
    refine pw_iconst (pc := 22) F 1 dX7_add_22 (by decide) ?_
    refine pw_iadd (pc := 23) F dX7_add_23 ?_
    obtain ⟨H5, eH5, h⟩ := bnd h
    refine pw_iast (pc := 24) F dX7_add_24 eH5 ?_
    refine pw_aload_n (pc := 25) F dX7_add_25 rfl ?_
    obtain ⟨x6, ex6, h⟩ := bnd h
    refine pw_get (pc := 26) F 7 4 15 (by decide) (by decide) g_4595692087 inl_7 2 rfl dX7_add_26 ex6 ?_
    refine pw_aload_n (pc := 29) F dX7_add_29 rfl ?_
    refine pw_iload_n (pc := 30) F dX7_add_30 rfl ?_
    refine pw_iload_n (pc := 31) F dX7_add_31 rfl ?_
    obtain ⟨z7, ez7, h⟩ := bnd h
    refine pw_callV (pc := 32) (as := [vi a1, vi a2]) (st := [vr x6]) (r := (some (vi z7.1))) F 55 7 (by decide) rfl (fun l => m_X7_at l a0 a1 a2 H5 z7.1 z7.2 ez7) g_fcdeebc82f g_e482649742 g_bf833bcebb g_030a77a6da g_4843a546b7 hd_X7_at (rm_ok hf hl (by decide) (by decide)) rfl (vm_spec ez7).1 dX7_add_32 rfl (stk' := [vi z7.1, vr x6]) rfl ?_
    refine pw_dup2 (pc := 35) F dX7_add_35 (pvne rfl) (pvne rfl) ?_
    obtain ⟨x8, ex8, h⟩ := bnd h
    refine pw_lald (pc := 36) F dX7_add_36 ex8 ?_
    refine pw_iload_n (pc := 37) F dX7_add_37 rfl ?_
    refine pw_i2l (pc := 38) F dX7_add_38 ?_
    refine pw_ladd (pc := 39) F dX7_add_39 ?_
    obtain ⟨H9, eH9, h⟩ := bnd h
    refine pw_last (pc := 40) F dX7_add_40 eH9 ?_
    cases h
    exact pw_vret (pc := 41) F q dX7_add_41
  · have h := iteF hc h
    cases h
    exact pw_vret (pc := 9) F q dX7_add_9
