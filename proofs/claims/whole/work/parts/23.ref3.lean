/-! HouseholdVaultModel.ask(IIJ)I -/
theorem dX9_ask_0 : decode cX9_ask 0 = .ok (.iload_n 1, 1) := by decide +kernel
theorem dX9_ask_1 : decode cX9_ask 1 = .ok (.i2l, 1) := by decide +kernel
theorem dX9_ask_2 : decode cX9_ask 2 = .ok (.lconst 0, 1) := by decide +kernel
theorem dX9_ask_3 : decode cX9_ask 3 = .ok (.ldc2_w 232, 3) := by decide +kernel
theorem dX9_ask_6 : decode cX9_ask 6 = .ok (.invokestatic 140, 3) := by decide +kernel
theorem dX9_ask_9 : decode cX9_ask 9 = .ok (.ifCond .eq 36, 3) := by decide +kernel
theorem dX9_ask_12 : decode cX9_ask 12 = .ok (.aload_n 0, 1) := by decide +kernel
theorem dX9_ask_13 : decode cX9_ask 13 = .ok (.iload_n 2, 1) := by decide +kernel
theorem dX9_ask_14 : decode cX9_ask 14 = .ok (.invokevirtual 163, 3) := by decide +kernel
theorem dX9_ask_17 : decode cX9_ask 17 = .ok (.ifCond .eq 28, 3) := by decide +kernel
theorem dX9_ask_20 : decode cX9_ask 20 = .ok (.iload_n 1, 1) := by decide +kernel
theorem dX9_ask_21 : decode cX9_ask 21 = .ok (.ifCond .ne 26, 3) := by decide +kernel
theorem dX9_ask_24 : decode cX9_ask 24 = .ok (.aload_n 0, 1) := by decide +kernel
theorem dX9_ask_25 : decode cX9_ask 25 = .ok (.getfield 7, 3) := by decide +kernel
theorem dX9_ask_28 : decode cX9_ask 28 = .ok (.iload_n 2, 1) := by decide +kernel
theorem dX9_ask_29 : decode cX9_ask 29 = .ok (.iaload, 1) := by decide +kernel
theorem dX9_ask_30 : decode cX9_ask 30 = .ok (.iconst 1, 1) := by decide +kernel
theorem dX9_ask_31 : decode cX9_ask 31 = .ok (.if_icmp .ne 16, 3) := by decide +kernel
theorem dX9_ask_34 : decode cX9_ask 34 = .ok (.lload_n 3, 1) := by decide +kernel
theorem dX9_ask_35 : decode cX9_ask 35 = .ok (.lconst 0, 1) := by decide +kernel
theorem dX9_ask_36 : decode cX9_ask 36 = .ok (.ldc2_w 234, 3) := by decide +kernel
theorem dX9_ask_39 : decode cX9_ask 39 = .ok (.invokestatic 140, 3) := by decide +kernel
theorem dX9_ask_42 : decode cX9_ask 42 = .ok (.ifCond .ne 5, 3) := by decide +kernel
theorem dX9_ask_45 : decode cX9_ask 45 = .ok (.iconst (-1), 1) := by decide +kernel
theorem dX9_ask_46 : decode cX9_ask 46 = .ok (.ireturn, 1) := by decide +kernel
theorem dX9_ask_47 : decode cX9_ask 47 = .ok (.iload_n 1, 1) := by decide +kernel
theorem dX9_ask_48 : decode cX9_ask 48 = .ok (.iconst 1, 1) := by decide +kernel
theorem dX9_ask_49 : decode cX9_ask 49 = .ok (.if_icmp .eq 8, 3) := by decide +kernel
theorem dX9_ask_52 : decode cX9_ask 52 = .ok (.iload_n 1, 1) := by decide +kernel
theorem dX9_ask_53 : decode cX9_ask 53 = .ok (.iconst 2, 1) := by decide +kernel
theorem dX9_ask_54 : decode cX9_ask 54 = .ok (.if_icmp .ne 16, 3) := by decide +kernel
theorem dX9_ask_57 : decode cX9_ask 57 = .ok (.aload_n 0, 1) := by decide +kernel
theorem dX9_ask_58 : decode cX9_ask 58 = .ok (.getfield 7, 3) := by decide +kernel
theorem dX9_ask_61 : decode cX9_ask 61 = .ok (.iload_n 2, 1) := by decide +kernel
theorem dX9_ask_62 : decode cX9_ask 62 = .ok (.iaload, 1) := by decide +kernel
theorem dX9_ask_63 : decode cX9_ask 63 = .ok (.iconst 2, 1) := by decide +kernel
theorem dX9_ask_64 : decode cX9_ask 64 = .ok (.if_icmp .ge 6, 3) := by decide +kernel
theorem dX9_ask_67 : decode cX9_ask 67 = .ok (.bipush (-2), 2) := by decide +kernel
theorem dX9_ask_69 : decode cX9_ask 69 = .ok (.ireturn, 1) := by decide +kernel
theorem dX9_ask_70 : decode cX9_ask 70 = .ok (.aload_n 0, 1) := by decide +kernel
theorem dX9_ask_71 : decode cX9_ask 71 = .ok (.getfield 147, 3) := by decide +kernel
theorem dX9_ask_74 : decode cX9_ask 74 = .ok (.bipush 60, 2) := by decide +kernel
theorem dX9_ask_76 : decode cX9_ask 76 = .ok (.if_icmp .ne 6, 3) := by decide +kernel
theorem dX9_ask_79 : decode cX9_ask 79 = .ok (.bipush (-4), 2) := by decide +kernel
theorem dX9_ask_81 : decode cX9_ask 81 = .ok (.ireturn, 1) := by decide +kernel
theorem dX9_ask_82 : decode cX9_ask 82 = .ok (.aload_n 0, 1) := by decide +kernel
theorem dX9_ask_83 : decode cX9_ask 83 = .ok (.iconst 0, 1) := by decide +kernel
theorem dX9_ask_84 : decode cX9_ask 84 = .ok (.aload_n 0, 1) := by decide +kernel
theorem dX9_ask_85 : decode cX9_ask 85 = .ok (.getfield 13, 3) := by decide +kernel
theorem dX9_ask_88 : decode cX9_ask 88 = .ok (.iload_n 2, 1) := by decide +kernel
theorem dX9_ask_89 : decode cX9_ask 89 = .ok (.iaload, 1) := by decide +kernel
theorem dX9_ask_90 : decode cX9_ask 90 = .ok (.iconst 1, 1) := by decide +kernel
theorem dX9_ask_91 : decode cX9_ask 91 = .ok (.iload_n 2, 1) := by decide +kernel
theorem dX9_ask_92 : decode cX9_ask 92 = .ok (.invokevirtual 236, 3) := by decide +kernel
theorem dX9_ask_95 : decode cX9_ask 95 = .ok (.istore 5, 2) := by decide +kernel
theorem dX9_ask_97 : decode cX9_ask 97 = .ok (.aload_n 0, 1) := by decide +kernel
theorem dX9_ask_98 : decode cX9_ask 98 = .ok (.getfield 63, 3) := by decide +kernel
theorem dX9_ask_101 : decode cX9_ask 101 = .ok (.iload 5, 2) := by decide +kernel
theorem dX9_ask_103 : decode cX9_ask 103 = .ok (.iload_n 1, 1) := by decide +kernel
theorem dX9_ask_104 : decode cX9_ask 104 = .ok (.iastore, 1) := by decide +kernel
theorem dX9_ask_105 : decode cX9_ask 105 = .ok (.aload_n 0, 1) := by decide +kernel
theorem dX9_ask_106 : decode cX9_ask 106 = .ok (.getfield 66, 3) := by decide +kernel
theorem dX9_ask_109 : decode cX9_ask 109 = .ok (.iload 5, 2) := by decide +kernel
theorem dX9_ask_111 : decode cX9_ask 111 = .ok (.iload_n 2, 1) := by decide +kernel
theorem dX9_ask_112 : decode cX9_ask 112 = .ok (.iastore, 1) := by decide +kernel
theorem dX9_ask_113 : decode cX9_ask 113 = .ok (.aload_n 0, 1) := by decide +kernel
theorem dX9_ask_114 : decode cX9_ask 114 = .ok (.getfield 69, 3) := by decide +kernel
theorem dX9_ask_117 : decode cX9_ask 117 = .ok (.iload 5, 2) := by decide +kernel
theorem dX9_ask_119 : decode cX9_ask 119 = .ok (.lload_n 3, 1) := by decide +kernel
theorem dX9_ask_120 : decode cX9_ask 120 = .ok (.lastore, 1) := by decide +kernel
theorem dX9_ask_121 : decode cX9_ask 121 = .ok (.iload 5, 2) := by decide +kernel
theorem dX9_ask_123 : decode cX9_ask 123 = .ok (.ireturn, 1) := by decide +kernel
def jX9_ask_70 (p0 p1 p2 p3 : Int) (H : PH) : RO :=
  (ld 25 H p0 18).bind fun x1 => (if x1 ≠ 60 then (ld 25 H p0 2).bind fun x2 => (ld 0 H x2 p2).bind fun x3 => (f_X9_condition p0 0 x3 1 p2 H).bind fun z4 => (ld 25 z4.2 p0 20).bind fun x5 => (stv 0 z4.2 x5 z4.1 p1).bind fun H6 => (ld 25 H6 p0 21).bind fun x7 => (stv 0 H6 x7 z4.1 p2).bind fun H8 => (ld 25 H8 p0 22).bind fun x9 => (stv 1 H8 x9 z4.1 p3).bind fun H10 => some (z4.1, H10)
  else some ((-4), H))
set_option maxHeartbeats 4000000 in
theorem jX9_ask_70_ok {E : PE} {rr : Int} {HH : PH} (F : FX E cX9_ask RX9) (q : QE E (some (vi rr)) HH (some .int)) (hn : nLof E = 6) (hf : (roomOf E).frames = 2) (hl : (roomOf E).locals = 46) (p0 p1 p2 p3 : Int) (H : PH) (h : jX9_ask_70 p0 p1 p2 p3 H = some (rr, HH)) : PW E 70 [some (vr p0), some (vi p1), some (vi p2), some (vl p3), none, none] [] H := by
  unfold jX9_ask_70 at h
  refine pw_aload_n (pc := 70) F dX9_ask_70 rfl ?_
  obtain ⟨x1, ex1, h⟩ := bnd h
  refine pw_get (pc := 71) F 9 18 147 (by decide) (by decide) g_98b4b1c18b inl_9 0 rfl dX9_ask_71 ex1 ?_
  refine pw_bipush (pc := 74) F 60 dX9_ask_74 (by decide) ?_
  refine pw_icmp_ne (pc := 76) F 82 dX9_ask_76 (by decide) (fun hc => ?_) (fun hc => ?_)
  · have h := iteT hc h
    refine pw_aload_n (pc := 82) F dX9_ask_82 rfl ?_
    refine pw_iconst (pc := 83) F 0 dX9_ask_83 (by decide) ?_
    refine pw_aload_n (pc := 84) F dX9_ask_84 rfl ?_
    obtain ⟨x2, ex2, h⟩ := bnd h
    refine pw_get (pc := 85) F 9 2 13 (by decide) (by decide) g_0c2899f53f inl_9 2 rfl dX9_ask_85 ex2 ?_
    refine pw_iload_n (pc := 88) F dX9_ask_88 rfl ?_
    obtain ⟨x3, ex3, h⟩ := bnd h
    refine pw_iald (pc := 89) F dX9_ask_89 ex3 ?_
    refine pw_iconst (pc := 90) F 1 dX9_ask_90 (by decide) ?_
    refine pw_iload_n (pc := 91) F dX9_ask_91 rfl ?_
    obtain ⟨z4, ez4, h⟩ := bnd h
    refine pw_callV (pc := 92) (as := [vi 0, vi x3, vi 1, vi p2]) (st := []) (r := (some (vi z4.1))) F 236 9 (by decide) rfl (fun l => m_X9_condition l p0 0 x3 1 p2 H z4.1 z4.2 ez4) g_f21e627dce g_a48f3ef0f3 g_10cc8562b4 g_2759d91faa g_888a95070a hd_X9_condition (rm_ok hf hl (by decide) (by decide)) rfl (vm_spec ez4).1 dX9_ask_92 rfl (stk' := [vi z4.1]) rfl ?_
    refine pw_istore (pc := 95) F dX9_ask_95 (lt_nl hn (by decide)) [some (vr p0), some (vi p1), some (vi p2), some (vl p3), none, some (vi z4.1)] rfl ?_
    refine pw_aload_n (pc := 97) F dX9_ask_97 rfl ?_
    obtain ⟨x5, ex5, h⟩ := bnd h
    refine pw_get (pc := 98) F 9 20 63 (by decide) (by decide) g_ef6ee937d9 inl_9 2 rfl dX9_ask_98 ex5 ?_
    refine pw_iload (pc := 101) F dX9_ask_101 rfl ?_
    refine pw_iload_n (pc := 103) F dX9_ask_103 rfl ?_
    obtain ⟨H6, eH6, h⟩ := bnd h
    refine pw_iast (pc := 104) F dX9_ask_104 eH6 ?_
    refine pw_aload_n (pc := 105) F dX9_ask_105 rfl ?_
    obtain ⟨x7, ex7, h⟩ := bnd h
    refine pw_get (pc := 106) F 9 21 66 (by decide) (by decide) g_aa88bfb7db inl_9 2 rfl dX9_ask_106 ex7 ?_
    refine pw_iload (pc := 109) F dX9_ask_109 rfl ?_
    refine pw_iload_n (pc := 111) F dX9_ask_111 rfl ?_
    obtain ⟨H8, eH8, h⟩ := bnd h
    refine pw_iast (pc := 112) F dX9_ask_112 eH8 ?_
    refine pw_aload_n (pc := 113) F dX9_ask_113 rfl ?_
    obtain ⟨x9, ex9, h⟩ := bnd h
    refine pw_get (pc := 114) F 9 22 69 (by decide) (by decide) g_d4e5cb9e3b inl_9 2 rfl dX9_ask_114 ex9 ?_
    refine pw_iload (pc := 117) F dX9_ask_117 rfl ?_
    refine pw_lload_n (pc := 119) F dX9_ask_119 rfl ?_
    obtain ⟨H10, eH10, h⟩ := bnd h
    refine pw_last (pc := 120) F dX9_ask_120 eH10 ?_
    refine pw_iload (pc := 121) F dX9_ask_121 rfl ?_
    cases h
    exact pw_iret (pc := 123) F q dX9_ask_123
  · have h := iteF hc h
    refine pw_bipush (pc := 79) F (-4) dX9_ask_79 (by decide) ?_
    cases h
    exact pw_iret (pc := 81) F q dX9_ask_81
def jX9_ask_57 (p0 p1 p2 p3 : Int) (H : PH) : RO :=
  (ld 25 H p0 1).bind fun x1 => (ld 0 H x1 p2).bind fun x2 => (if x2 ≥ 2 then jX9_ask_70 p0 p1 p2 p3 H
  else some ((-2), H))
set_option maxHeartbeats 4000000 in
theorem jX9_ask_57_ok {E : PE} {rr : Int} {HH : PH} (F : FX E cX9_ask RX9) (q : QE E (some (vi rr)) HH (some .int)) (hn : nLof E = 6) (hf : (roomOf E).frames = 2) (hl : (roomOf E).locals = 46) (p0 p1 p2 p3 : Int) (H : PH) (h : jX9_ask_57 p0 p1 p2 p3 H = some (rr, HH)) : PW E 57 [some (vr p0), some (vi p1), some (vi p2), some (vl p3), none, none] [] H := by
  unfold jX9_ask_57 at h
  refine pw_aload_n (pc := 57) F dX9_ask_57 rfl ?_
  obtain ⟨x1, ex1, h⟩ := bnd h
  refine pw_get (pc := 58) F 9 1 7 (by decide) (by decide) g_a89464ec18 inl_9 2 rfl dX9_ask_58 ex1 ?_
  refine pw_iload_n (pc := 61) F dX9_ask_61 rfl ?_
  obtain ⟨x2, ex2, h⟩ := bnd h
  refine pw_iald (pc := 62) F dX9_ask_62 ex2 ?_
  refine pw_iconst (pc := 63) F 2 dX9_ask_63 (by decide) ?_
  refine pw_icmp_ge (pc := 64) F 70 dX9_ask_64 (by decide) (fun hc => ?_) (fun hc => ?_)
  · have h := iteT hc h
    exact pw_mask [true, true, true, true, true, true] (ls' := [some (vr p0), some (vi p1), some (vi p2), some (vl p3), none, none]) rfl (jX9_ask_70_ok F q hn hf hl p0 p1 p2 p3 H h)
  · have h := iteF hc h
    refine pw_bipush (pc := 67) F (-2) dX9_ask_67 (by decide) ?_
    cases h
    exact pw_iret (pc := 69) F q dX9_ask_69
def jX9_ask_47 (p0 p1 p2 p3 : Int) (H : PH) : RO :=
  (if p1 = 1 then jX9_ask_57 p0 p1 p2 p3 H
  else (if p1 ≠ 2 then jX9_ask_70 p0 p1 p2 p3 H
  else jX9_ask_57 p0 p1 p2 p3 H))
set_option maxHeartbeats 4000000 in
theorem jX9_ask_47_ok {E : PE} {rr : Int} {HH : PH} (F : FX E cX9_ask RX9) (q : QE E (some (vi rr)) HH (some .int)) (hn : nLof E = 6) (hf : (roomOf E).frames = 2) (hl : (roomOf E).locals = 46) (p0 p1 p2 p3 : Int) (H : PH) (h : jX9_ask_47 p0 p1 p2 p3 H = some (rr, HH)) : PW E 47 [some (vr p0), some (vi p1), some (vi p2), some (vl p3), none, none] [] H := by
  unfold jX9_ask_47 at h
  refine pw_iload_n (pc := 47) F dX9_ask_47 rfl ?_
  refine pw_iconst (pc := 48) F 1 dX9_ask_48 (by decide) ?_
  refine pw_icmp_eq (pc := 49) F 57 dX9_ask_49 (by decide) (fun hc => ?_) (fun hc => ?_)
  · have h := iteT hc h
    exact pw_mask [true, true, true, true, true, true] (ls' := [some (vr p0), some (vi p1), some (vi p2), some (vl p3), none, none]) rfl (jX9_ask_57_ok F q hn hf hl p0 p1 p2 p3 H h)
  · have h := iteF hc h
    refine pw_iload_n (pc := 52) F dX9_ask_52 rfl ?_
    refine pw_iconst (pc := 53) F 2 dX9_ask_53 (by decide) ?_
    refine pw_icmp_ne (pc := 54) F 70 dX9_ask_54 (by decide) (fun hc => ?_) (fun hc => ?_)
    · have h := iteT hc h
      exact pw_mask [true, true, true, true, true, true] (ls' := [some (vr p0), some (vi p1), some (vi p2), some (vl p3), none, none]) rfl (jX9_ask_70_ok F q hn hf hl p0 p1 p2 p3 H h)
    · have h := iteF hc h
      exact pw_mask [true, true, true, true, true, true] (ls' := [some (vr p0), some (vi p1), some (vi p2), some (vl p3), none, none]) rfl (jX9_ask_57_ok F q hn hf hl p0 p1 p2 p3 H h)
def f_X9_ask (a0 a1 a2 a3 : Int) (H : PH) : RO := vm 9 a0 H <|
  (f_X9_in a1 0 3 H).bind fun z1 => (if z1.1 = 0 then some ((-1), z1.2)
  else (f_X9_isQuestion a0 a2 z1.2).bind fun z2 => (if z2.1 = 0 then some ((-1), z2.2)
  else (if a1 ≠ 0 then jX9_ask_47 a0 a1 a2 a3 z2.2
  else (ld 25 z2.2 a0 1).bind fun x3 => (ld 0 z2.2 x3 a2).bind fun x4 => (if x4 ≠ 1 then jX9_ask_47 a0 a1 a2 a3 z2.2
  else (f_X9_in a3 0 7 z2.2).bind fun z5 => (if z5.1 ≠ 0 then jX9_ask_47 a0 a1 a2 a3 z5.2
  else some ((-1), z5.2))))))
set_option maxHeartbeats 4000000 in
theorem m_X9_ask (l : Launch) (a0 a1 a2 a3 : Int) (H : PH) (rr : Int) (HH : PH) (h : f_X9_ask a0 a1 a2 a3 H = some (rr, HH)) : CT l yX9_ask cX9_ask 6 (some .int) 2 46 [vr a0, vi a1, vi a2, vl a3] H (some (vi rr)) HH := by
  refine CT.of RX9 (by decide) rfl [some (vr a0), some (vi a1), some (vi a2), some (vl a3), none, none] rfl rfl ?_
  intro E F q hn hf hl hm
  unfold f_X9_ask at h
  obtain ⟨hv, h⟩ := vm_spec h
  refine pw_iload_n (pc := 0) F dX9_ask_0 rfl ?_
  refine pw_i2l (pc := 1) F dX9_ask_1 ?_
  refine pw_lconst (pc := 2) F 0 dX9_ask_2 (by decide) ?_
  refine pw_ldc2 (pc := 3) F 3 g_a782196757 dX9_ask_3 (by decide) ?_
  obtain ⟨z1, ez1, h⟩ := bnd h
  refine pw_callS (pc := 6) (as := [vl a1, vl 0, vl 3]) (st := []) (r := (some (vi z1.1))) F 140 (fun l => m_X9_in l a1 0 3 H z1.1 z1.2 ez1) g_0174c906e2 g_3fadeb3198 g_2759d91faa g_c0c30bc7de hd_X9_in (rm_ok hf hl (by decide) (by decide)) rfl dX9_ask_6 rfl (stk' := [vi z1.1]) rfl ?_
  refine pw_if_eq (pc := 9) F 45 dX9_ask_9 (by decide) (fun hc => ?_) (fun hc => ?_)
  · have h := iteT hc h
    refine pw_iconst (pc := 45) F (-1) dX9_ask_45 (by decide) ?_
    cases h
    exact pw_iret (pc := 46) F q dX9_ask_46
  · have h := iteF hc h
    refine pw_aload_n (pc := 12) F dX9_ask_12 rfl ?_
    refine pw_iload_n (pc := 13) F dX9_ask_13 rfl ?_
    obtain ⟨z2, ez2, h⟩ := bnd h
    refine pw_callV (pc := 14) (as := [vi a2]) (st := []) (r := (some (vi z2.1))) F 163 9 (by decide) rfl (fun l => m_X9_isQuestion l a0 a2 z1.2 z2.1 z2.2 ez2) g_26236cf357 g_504499df23 g_65a9490ac1 g_2759d91faa g_4f2165d1ca hd_X9_isQuestion (rm_ok hf hl (by decide) (by decide)) rfl (vm_spec ez2).1 dX9_ask_14 rfl (stk' := [vi z2.1]) rfl ?_
    refine pw_if_eq (pc := 17) F 45 dX9_ask_17 (by decide) (fun hc => ?_) (fun hc => ?_)
    · have h := iteT hc h
      refine pw_iconst (pc := 45) F (-1) dX9_ask_45 (by decide) ?_
      cases h
      exact pw_iret (pc := 46) F q dX9_ask_46
    · have h := iteF hc h
      refine pw_iload_n (pc := 20) F dX9_ask_20 rfl ?_
      refine pw_if_ne (pc := 21) F 47 dX9_ask_21 (by decide) (fun hc => ?_) (fun hc => ?_)
      · have h := iteT hc h
        exact pw_mask [true, true, true, true, true, true] (ls' := [some (vr a0), some (vi a1), some (vi a2), some (vl a3), none, none]) rfl (jX9_ask_47_ok F q hn hf hl a0 a1 a2 a3 z2.2 h)
      · have h := iteF hc h
        refine pw_aload_n (pc := 24) F dX9_ask_24 rfl ?_
        obtain ⟨x3, ex3, h⟩ := bnd h
        refine pw_get (pc := 25) F 9 1 7 (by decide) (by decide) g_a89464ec18 inl_9 2 rfl dX9_ask_25 ex3 ?_
        refine pw_iload_n (pc := 28) F dX9_ask_28 rfl ?_
        obtain ⟨x4, ex4, h⟩ := bnd h
        refine pw_iald (pc := 29) F dX9_ask_29 ex4 ?_
        refine pw_iconst (pc := 30) F 1 dX9_ask_30 (by decide) ?_
        refine pw_icmp_ne (pc := 31) F 47 dX9_ask_31 (by decide) (fun hc => ?_) (fun hc => ?_)
        · have h := iteT hc h
          exact pw_mask [true, true, true, true, true, true] (ls' := [some (vr a0), some (vi a1), some (vi a2), some (vl a3), none, none]) rfl (jX9_ask_47_ok F q hn hf hl a0 a1 a2 a3 z2.2 h)
        · have h := iteF hc h
          refine pw_lload_n (pc := 34) F dX9_ask_34 rfl ?_
          refine pw_lconst (pc := 35) F 0 dX9_ask_35 (by decide) ?_
          refine pw_ldc2 (pc := 36) F 7 g_5a2dda5f16 dX9_ask_36 (by decide) ?_
          obtain ⟨z5, ez5, h⟩ := bnd h
          refine pw_callS (pc := 39) (as := [vl a3, vl 0, vl 7]) (st := []) (r := (some (vi z5.1))) F 140 (fun l => m_X9_in l a3 0 7 z2.2 z5.1 z5.2 ez5) g_0174c906e2 g_3fadeb3198 g_2759d91faa g_c0c30bc7de hd_X9_in (rm_ok hf hl (by decide) (by decide)) rfl dX9_ask_39 rfl (stk' := [vi z5.1]) rfl ?_
          refine pw_if_ne (pc := 42) F 47 dX9_ask_42 (by decide) (fun hc => ?_) (fun hc => ?_)
          · have h := iteT hc h
            exact pw_mask [true, true, true, true, true, true] (ls' := [some (vr a0), some (vi a1), some (vi a2), some (vl a3), none, none]) rfl (jX9_ask_47_ok F q hn hf hl a0 a1 a2 a3 z5.2 h)
          · have h := iteF hc h
            refine pw_iconst (pc := 45) F (-1) dX9_ask_45 (by decide) ?_
            cases h
            exact pw_iret (pc := 46) F q dX9_ask_46
/-! HouseholdVaultModel.logic(III)I -/
theorem dX9_logic_0 : decode cX9_logic 0 = .ok (.iload_n 1, 1) := by decide +kernel
theorem dX9_logic_1 : decode cX9_logic 1 = .ok (.i2l, 1) := by decide +kernel
theorem dX9_logic_2 : decode cX9_logic 2 = .ok (.lconst 0, 1) := by decide +kernel
theorem dX9_logic_3 : decode cX9_logic 3 = .ok (.ldc2_w 240, 3) := by decide +kernel
theorem dX9_logic_6 : decode cX9_logic 6 = .ok (.invokestatic 140, 3) := by decide +kernel
theorem dX9_logic_9 : decode cX9_logic 9 = .ok (.ifCond .eq 24, 3) := by decide +kernel
theorem dX9_logic_12 : decode cX9_logic 12 = .ok (.aload_n 0, 1) := by decide +kernel
theorem dX9_logic_13 : decode cX9_logic 13 = .ok (.iload_n 2, 1) := by decide +kernel
theorem dX9_logic_14 : decode cX9_logic 14 = .ok (.invokevirtual 178, 3) := by decide +kernel
theorem dX9_logic_17 : decode cX9_logic 17 = .ok (.ifCond .eq 16, 3) := by decide +kernel
theorem dX9_logic_20 : decode cX9_logic 20 = .ok (.iload_n 1, 1) := by decide +kernel
theorem dX9_logic_21 : decode cX9_logic 21 = .ok (.iconst 2, 1) := by decide +kernel
theorem dX9_logic_22 : decode cX9_logic 22 = .ok (.if_icmp .ge 13, 3) := by decide +kernel
theorem dX9_logic_25 : decode cX9_logic 25 = .ok (.aload_n 0, 1) := by decide +kernel
theorem dX9_logic_26 : decode cX9_logic 26 = .ok (.iload_n 3, 1) := by decide +kernel
theorem dX9_logic_27 : decode cX9_logic 27 = .ok (.invokevirtual 178, 3) := by decide +kernel
theorem dX9_logic_30 : decode cX9_logic 30 = .ok (.ifCond .ne 5, 3) := by decide +kernel
theorem dX9_logic_33 : decode cX9_logic 33 = .ok (.iconst (-1), 1) := by decide +kernel
theorem dX9_logic_34 : decode cX9_logic 34 = .ok (.ireturn, 1) := by decide +kernel
theorem dX9_logic_35 : decode cX9_logic 35 = .ok (.iload_n 1, 1) := by decide +kernel
theorem dX9_logic_36 : decode cX9_logic 36 = .ok (.iconst 2, 1) := by decide +kernel
theorem dX9_logic_37 : decode cX9_logic 37 = .ok (.if_icmp .ge 7, 3) := by decide +kernel
theorem dX9_logic_40 : decode cX9_logic 40 = .ok (.iload_n 3, 1) := by decide +kernel
theorem dX9_logic_41 : decode cX9_logic 41 = .ok (.goto 4, 3) := by decide +kernel
theorem dX9_logic_44 : decode cX9_logic 44 = .ok (.iload_n 2, 1) := by decide +kernel
theorem dX9_logic_45 : decode cX9_logic 45 = .ok (.istore 4, 2) := by decide +kernel
theorem dX9_logic_47 : decode cX9_logic 47 = .ok (.aload_n 0, 1) := by decide +kernel
theorem dX9_logic_48 : decode cX9_logic 48 = .ok (.getfield 78, 3) := by decide +kernel
theorem dX9_logic_51 : decode cX9_logic 51 = .ok (.iload_n 2, 1) := by decide +kernel
theorem dX9_logic_52 : decode cX9_logic 52 = .ok (.iaload, 1) := by decide +kernel
theorem dX9_logic_53 : decode cX9_logic 53 = .ok (.ifCond .lt 32, 3) := by decide +kernel
theorem dX9_logic_56 : decode cX9_logic 56 = .ok (.aload_n 0, 1) := by decide +kernel
theorem dX9_logic_57 : decode cX9_logic 57 = .ok (.getfield 78, 3) := by decide +kernel
theorem dX9_logic_60 : decode cX9_logic 60 = .ok (.iload 4, 2) := by decide +kernel
theorem dX9_logic_62 : decode cX9_logic 62 = .ok (.iaload, 1) := by decide +kernel
theorem dX9_logic_63 : decode cX9_logic 63 = .ok (.ifCond .lt 22, 3) := by decide +kernel
theorem dX9_logic_66 : decode cX9_logic 66 = .ok (.aload_n 0, 1) := by decide +kernel
theorem dX9_logic_67 : decode cX9_logic 67 = .ok (.getfield 78, 3) := by decide +kernel
theorem dX9_logic_70 : decode cX9_logic 70 = .ok (.iload_n 2, 1) := by decide +kernel
theorem dX9_logic_71 : decode cX9_logic 71 = .ok (.iaload, 1) := by decide +kernel
theorem dX9_logic_72 : decode cX9_logic 72 = .ok (.aload_n 0, 1) := by decide +kernel
theorem dX9_logic_73 : decode cX9_logic 73 = .ok (.getfield 78, 3) := by decide +kernel
theorem dX9_logic_76 : decode cX9_logic 76 = .ok (.iload 4, 2) := by decide +kernel
theorem dX9_logic_78 : decode cX9_logic 78 = .ok (.iaload, 1) := by decide +kernel
theorem dX9_logic_79 : decode cX9_logic 79 = .ok (.if_icmp .eq 6, 3) := by decide +kernel
theorem dX9_logic_82 : decode cX9_logic 82 = .ok (.bipush (-2), 2) := by decide +kernel
theorem dX9_logic_84 : decode cX9_logic 84 = .ok (.ireturn, 1) := by decide +kernel
theorem dX9_logic_85 : decode cX9_logic 85 = .ok (.iconst 1, 1) := by decide +kernel
theorem dX9_logic_86 : decode cX9_logic 86 = .ok (.aload_n 0, 1) := by decide +kernel
theorem dX9_logic_87 : decode cX9_logic 87 = .ok (.getfield 81, 3) := by decide +kernel
theorem dX9_logic_90 : decode cX9_logic 90 = .ok (.iload_n 2, 1) := by decide +kernel
theorem dX9_logic_91 : decode cX9_logic 91 = .ok (.iaload, 1) := by decide +kernel
theorem dX9_logic_92 : decode cX9_logic 92 = .ok (.iadd, 1) := by decide +kernel
theorem dX9_logic_93 : decode cX9_logic 93 = .ok (.iload_n 1, 1) := by decide +kernel
theorem dX9_logic_94 : decode cX9_logic 94 = .ok (.iconst 2, 1) := by decide +kernel
theorem dX9_logic_95 : decode cX9_logic 95 = .ok (.if_icmp .ge 12, 3) := by decide +kernel
theorem dX9_logic_98 : decode cX9_logic 98 = .ok (.aload_n 0, 1) := by decide +kernel
theorem dX9_logic_99 : decode cX9_logic 99 = .ok (.getfield 81, 3) := by decide +kernel
theorem dX9_logic_102 : decode cX9_logic 102 = .ok (.iload_n 3, 1) := by decide +kernel
theorem dX9_logic_103 : decode cX9_logic 103 = .ok (.iaload, 1) := by decide +kernel
theorem dX9_logic_104 : decode cX9_logic 104 = .ok (.goto 4, 3) := by decide +kernel
theorem dX9_logic_107 : decode cX9_logic 107 = .ok (.iconst 0, 1) := by decide +kernel
theorem dX9_logic_108 : decode cX9_logic 108 = .ok (.iadd, 1) := by decide +kernel
theorem dX9_logic_109 : decode cX9_logic 109 = .ok (.istore 5, 2) := by decide +kernel
theorem dX9_logic_111 : decode cX9_logic 111 = .ok (.aload_n 0, 1) := by decide +kernel
theorem dX9_logic_112 : decode cX9_logic 112 = .ok (.getfield 147, 3) := by decide +kernel
theorem dX9_logic_115 : decode cX9_logic 115 = .ok (.bipush 60, 2) := by decide +kernel
theorem dX9_logic_117 : decode cX9_logic 117 = .ok (.if_icmp .eq 10, 3) := by decide +kernel
theorem dX9_logic_120 : decode cX9_logic 120 = .ok (.iload 5, 2) := by decide +kernel
theorem dX9_logic_122 : decode cX9_logic 122 = .ok (.bipush 30, 2) := by decide +kernel
theorem dX9_logic_124 : decode cX9_logic 124 = .ok (.if_icmp .le 6, 3) := by decide +kernel
theorem dX9_logic_127 : decode cX9_logic 127 = .ok (.bipush (-4), 2) := by decide +kernel
theorem dX9_logic_129 : decode cX9_logic 129 = .ok (.ireturn, 1) := by decide +kernel
theorem dX9_logic_130 : decode cX9_logic 130 = .ok (.aload_n 0, 1) := by decide +kernel
theorem dX9_logic_131 : decode cX9_logic 131 = .ok (.iload_n 1, 1) := by decide +kernel
theorem dX9_logic_132 : decode cX9_logic 132 = .ok (.iconst 1, 1) := by decide +kernel
theorem dX9_logic_133 : decode cX9_logic 133 = .ok (.iadd, 1) := by decide +kernel
theorem dX9_logic_134 : decode cX9_logic 134 = .ok (.aload_n 0, 1) := by decide +kernel
theorem dX9_logic_135 : decode cX9_logic 135 = .ok (.getfield 78, 3) := by decide +kernel
theorem dX9_logic_138 : decode cX9_logic 138 = .ok (.iload_n 2, 1) := by decide +kernel
theorem dX9_logic_139 : decode cX9_logic 139 = .ok (.iaload, 1) := by decide +kernel
theorem dX9_logic_140 : decode cX9_logic 140 = .ok (.ifCond .ge 13, 3) := by decide +kernel
theorem dX9_logic_143 : decode cX9_logic 143 = .ok (.aload_n 0, 1) := by decide +kernel
theorem dX9_logic_144 : decode cX9_logic 144 = .ok (.getfield 78, 3) := by decide +kernel
theorem dX9_logic_147 : decode cX9_logic 147 = .ok (.iload 4, 2) := by decide +kernel
theorem dX9_logic_149 : decode cX9_logic 149 = .ok (.iaload, 1) := by decide +kernel
theorem dX9_logic_150 : decode cX9_logic 150 = .ok (.goto 9, 3) := by decide +kernel
theorem dX9_logic_153 : decode cX9_logic 153 = .ok (.aload_n 0, 1) := by decide +kernel
theorem dX9_logic_154 : decode cX9_logic 154 = .ok (.getfield 78, 3) := by decide +kernel
theorem dX9_logic_157 : decode cX9_logic 157 = .ok (.iload_n 2, 1) := by decide +kernel
theorem dX9_logic_158 : decode cX9_logic 158 = .ok (.iaload, 1) := by decide +kernel
theorem dX9_logic_159 : decode cX9_logic 159 = .ok (.iload 5, 2) := by decide +kernel
theorem dX9_logic_161 : decode cX9_logic 161 = .ok (.aload_n 0, 1) := by decide +kernel
theorem dX9_logic_162 : decode cX9_logic 162 = .ok (.getfield 84, 3) := by decide +kernel
theorem dX9_logic_165 : decode cX9_logic 165 = .ok (.iload_n 2, 1) := by decide +kernel
theorem dX9_logic_166 : decode cX9_logic 166 = .ok (.iaload, 1) := by decide +kernel
theorem dX9_logic_167 : decode cX9_logic 167 = .ok (.aload_n 0, 1) := by decide +kernel
theorem dX9_logic_168 : decode cX9_logic 168 = .ok (.getfield 84, 3) := by decide +kernel
theorem dX9_logic_171 : decode cX9_logic 171 = .ok (.iload 4, 2) := by decide +kernel
theorem dX9_logic_173 : decode cX9_logic 173 = .ok (.iaload, 1) := by decide +kernel
theorem dX9_logic_174 : decode cX9_logic 174 = .ok (.if_icmp .le 12, 3) := by decide +kernel
theorem dX9_logic_177 : decode cX9_logic 177 = .ok (.aload_n 0, 1) := by decide +kernel
theorem dX9_logic_178 : decode cX9_logic 178 = .ok (.getfield 84, 3) := by decide +kernel
theorem dX9_logic_181 : decode cX9_logic 181 = .ok (.iload_n 2, 1) := by decide +kernel
theorem dX9_logic_182 : decode cX9_logic 182 = .ok (.iaload, 1) := by decide +kernel
theorem dX9_logic_183 : decode cX9_logic 183 = .ok (.goto 10, 3) := by decide +kernel
theorem dX9_logic_186 : decode cX9_logic 186 = .ok (.aload_n 0, 1) := by decide +kernel
theorem dX9_logic_187 : decode cX9_logic 187 = .ok (.getfield 84, 3) := by decide +kernel
theorem dX9_logic_190 : decode cX9_logic 190 = .ok (.iload 4, 2) := by decide +kernel
theorem dX9_logic_192 : decode cX9_logic 192 = .ok (.iaload, 1) := by decide +kernel
theorem dX9_logic_193 : decode cX9_logic 193 = .ok (.invokevirtual 236, 3) := by decide +kernel
theorem dX9_logic_196 : decode cX9_logic 196 = .ok (.istore 6, 2) := by decide +kernel
theorem dX9_logic_198 : decode cX9_logic 198 = .ok (.aload_n 0, 1) := by decide +kernel
theorem dX9_logic_199 : decode cX9_logic 199 = .ok (.getfield 72, 3) := by decide +kernel
theorem dX9_logic_202 : decode cX9_logic 202 = .ok (.iload 6, 2) := by decide +kernel
theorem dX9_logic_204 : decode cX9_logic 204 = .ok (.iload_n 2, 1) := by decide +kernel
theorem dX9_logic_205 : decode cX9_logic 205 = .ok (.iastore, 1) := by decide +kernel
theorem dX9_logic_206 : decode cX9_logic 206 = .ok (.aload_n 0, 1) := by decide +kernel
theorem dX9_logic_207 : decode cX9_logic 207 = .ok (.getfield 75, 3) := by decide +kernel
theorem dX9_logic_210 : decode cX9_logic 210 = .ok (.iload 6, 2) := by decide +kernel
theorem dX9_logic_212 : decode cX9_logic 212 = .ok (.iload 4, 2) := by decide +kernel
theorem dX9_logic_214 : decode cX9_logic 214 = .ok (.iastore, 1) := by decide +kernel
theorem dX9_logic_215 : decode cX9_logic 215 = .ok (.iload 6, 2) := by decide +kernel
theorem dX9_logic_217 : decode cX9_logic 217 = .ok (.ireturn, 1) := by decide +kernel
def jX9_logic_193 (p0 p2 p4 s0 s1 s2 s3 s4 : Int) (H : PH) : RO :=
  (f_X9_condition s0 s1 s2 s3 s4 H).bind fun z1 => (ld 25 z1.2 p0 23).bind fun x2 => (stv 0 z1.2 x2 z1.1 p2).bind fun H3 => (ld 25 H3 p0 24).bind fun x4 => (stv 0 H3 x4 z1.1 p4).bind fun H5 => some (z1.1, H5)
set_option maxHeartbeats 4000000 in
theorem jX9_logic_193_ok {E : PE} {rr : Int} {HH : PH} (F : FX E cX9_logic RX9) (q : QE E (some (vi rr)) HH (some .int)) (hn : nLof E = 7) (hf : (roomOf E).frames = 2) (hl : (roomOf E).locals = 46) (p0 p2 p4 s0 s1 s2 s3 s4 : Int) (H : PH) (h : jX9_logic_193 p0 p2 p4 s0 s1 s2 s3 s4 H = some (rr, HH)) : PW E 193 [some (vr p0), none, some (vi p2), none, some (vi p4), none, none] [vi s4, vi s3, vi s2, vi s1, vr s0] H := by
  unfold jX9_logic_193 at h
  obtain ⟨z1, ez1, h⟩ := bnd h
  refine pw_callV (pc := 193) (as := [vi s1, vi s2, vi s3, vi s4]) (st := []) (r := (some (vi z1.1))) F 236 9 (by decide) rfl (fun l => m_X9_condition l s0 s1 s2 s3 s4 H z1.1 z1.2 ez1) g_f21e627dce g_a48f3ef0f3 g_10cc8562b4 g_2759d91faa g_888a95070a hd_X9_condition (rm_ok hf hl (by decide) (by decide)) rfl (vm_spec ez1).1 dX9_logic_193 rfl (stk' := [vi z1.1]) rfl ?_
  refine pw_istore (pc := 196) F dX9_logic_196 (lt_nl hn (by decide)) [some (vr p0), none, some (vi p2), none, some (vi p4), none, some (vi z1.1)] rfl ?_
  refine pw_aload_n (pc := 198) F dX9_logic_198 rfl ?_
  obtain ⟨x2, ex2, h⟩ := bnd h
  refine pw_get (pc := 199) F 9 23 72 (by decide) (by decide) g_630466eb5f inl_9 2 rfl dX9_logic_199 ex2 ?_
  refine pw_iload (pc := 202) F dX9_logic_202 rfl ?_
  refine pw_iload_n (pc := 204) F dX9_logic_204 rfl ?_
  obtain ⟨H3, eH3, h⟩ := bnd h
  refine pw_iast (pc := 205) F dX9_logic_205 eH3 ?_
  refine pw_aload_n (pc := 206) F dX9_logic_206 rfl ?_
  obtain ⟨x4, ex4, h⟩ := bnd h
  refine pw_get (pc := 207) F 9 24 75 (by decide) (by decide) g_98c91f31c8 inl_9 2 rfl dX9_logic_207 ex4 ?_
  refine pw_iload (pc := 210) F dX9_logic_210 rfl ?_
  refine pw_iload (pc := 212) F dX9_logic_212 rfl ?_
  obtain ⟨H5, eH5, h⟩ := bnd h
  refine pw_iast (pc := 214) F dX9_logic_214 eH5 ?_
  refine pw_iload (pc := 215) F dX9_logic_215 rfl ?_
  cases h
  exact pw_iret (pc := 217) F q dX9_logic_217
def jX9_logic_159 (p0 p2 p4 p5 s0 s1 s2 : Int) (H : PH) : RO :=
  (ld 25 H p0 27).bind fun x1 => (ld 0 H x1 p2).bind fun x2 => (ld 25 H p0 27).bind fun x3 => (ld 0 H x3 p4).bind fun x4 => (if x2 ≤ x4 then (ld 25 H p0 27).bind fun x5 => (ld 0 H x5 p4).bind fun x6 => jX9_logic_193 p0 p2 p4 s0 s1 s2 p5 x6 H
  else (ld 25 H p0 27).bind fun x7 => (ld 0 H x7 p2).bind fun x8 => jX9_logic_193 p0 p2 p4 s0 s1 s2 p5 x8 H)
set_option maxHeartbeats 4000000 in
theorem jX9_logic_159_ok {E : PE} {rr : Int} {HH : PH} (F : FX E cX9_logic RX9) (q : QE E (some (vi rr)) HH (some .int)) (hn : nLof E = 7) (hf : (roomOf E).frames = 2) (hl : (roomOf E).locals = 46) (p0 p2 p4 p5 s0 s1 s2 : Int) (H : PH) (h : jX9_logic_159 p0 p2 p4 p5 s0 s1 s2 H = some (rr, HH)) : PW E 159 [some (vr p0), none, some (vi p2), none, some (vi p4), some (vi p5), none] [vi s2, vi s1, vr s0] H := by
  unfold jX9_logic_159 at h
  refine pw_iload (pc := 159) F dX9_logic_159 rfl ?_
  refine pw_aload_n (pc := 161) F dX9_logic_161 rfl ?_
  obtain ⟨x1, ex1, h⟩ := bnd h
  refine pw_get (pc := 162) F 9 27 84 (by decide) (by decide) g_b1cbbee2b7 inl_9 2 rfl dX9_logic_162 ex1 ?_
  refine pw_iload_n (pc := 165) F dX9_logic_165 rfl ?_
  obtain ⟨x2, ex2, h⟩ := bnd h
  refine pw_iald (pc := 166) F dX9_logic_166 ex2 ?_
  refine pw_aload_n (pc := 167) F dX9_logic_167 rfl ?_
  obtain ⟨x3, ex3, h⟩ := bnd h
  refine pw_get (pc := 168) F 9 27 84 (by decide) (by decide) g_b1cbbee2b7 inl_9 2 rfl dX9_logic_168 ex3 ?_
  refine pw_iload (pc := 171) F dX9_logic_171 rfl ?_
  obtain ⟨x4, ex4, h⟩ := bnd h
  refine pw_iald (pc := 173) F dX9_logic_173 ex4 ?_
  refine pw_icmp_le (pc := 174) F 186 dX9_logic_174 (by decide) (fun hc => ?_) (fun hc => ?_)
  · have h := iteT hc h
    refine pw_aload_n (pc := 186) F dX9_logic_186 rfl ?_
    obtain ⟨x5, ex5, h⟩ := bnd h
    refine pw_get (pc := 187) F 9 27 84 (by decide) (by decide) g_b1cbbee2b7 inl_9 2 rfl dX9_logic_187 ex5 ?_
    refine pw_iload (pc := 190) F dX9_logic_190 rfl ?_
    obtain ⟨x6, ex6, h⟩ := bnd h
    refine pw_iald (pc := 192) F dX9_logic_192 ex6 ?_
    exact pw_mask [true, true, true, true, true, false, true] (ls' := [some (vr p0), none, some (vi p2), none, some (vi p4), none, none]) rfl (jX9_logic_193_ok F q hn hf hl p0 p2 p4 s0 s1 s2 p5 x6 H h)
  · have h := iteF hc h
    refine pw_aload_n (pc := 177) F dX9_logic_177 rfl ?_
    obtain ⟨x7, ex7, h⟩ := bnd h
    refine pw_get (pc := 178) F 9 27 84 (by decide) (by decide) g_b1cbbee2b7 inl_9 2 rfl dX9_logic_178 ex7 ?_
    refine pw_iload_n (pc := 181) F dX9_logic_181 rfl ?_
    obtain ⟨x8, ex8, h⟩ := bnd h
    refine pw_iald (pc := 182) F dX9_logic_182 ex8 ?_
    refine pw_goto (pc := 183) F 193 dX9_logic_183 (by decide) ?_
    exact pw_mask [true, true, true, true, true, false, true] (ls' := [some (vr p0), none, some (vi p2), none, some (vi p4), none, none]) rfl (jX9_logic_193_ok F q hn hf hl p0 p2 p4 s0 s1 s2 p5 x8 H h)
def jX9_logic_108 (p0 p1 p2 p4 s0 s1 : Int) (H : PH) : RO :=
  (ld 25 H p0 18).bind fun x1 => (if x1 = 60 then some ((-4), H)
  else (if (w32 (s0 + s1)) ≤ 30 then (ld 25 H p0 25).bind fun x2 => (ld 0 H x2 p2).bind fun x3 => (if x3 ≥ 0 then (ld 25 H p0 25).bind fun x4 => (ld 0 H x4 p2).bind fun x5 => jX9_logic_159 p0 p2 p4 (w32 (s0 + s1)) p0 (w32 (p1 + 1)) x5 H
  else (ld 25 H p0 25).bind fun x6 => (ld 0 H x6 p4).bind fun x7 => jX9_logic_159 p0 p2 p4 (w32 (s0 + s1)) p0 (w32 (p1 + 1)) x7 H)
  else some ((-4), H)))
set_option maxHeartbeats 4000000 in
theorem jX9_logic_108_ok {E : PE} {rr : Int} {HH : PH} (F : FX E cX9_logic RX9) (q : QE E (some (vi rr)) HH (some .int)) (hn : nLof E = 7) (hf : (roomOf E).frames = 2) (hl : (roomOf E).locals = 46) (p0 p1 p2 p4 s0 s1 : Int) (H : PH) (h : jX9_logic_108 p0 p1 p2 p4 s0 s1 H = some (rr, HH)) : PW E 108 [some (vr p0), some (vi p1), some (vi p2), none, some (vi p4), none, none] [vi s1, vi s0] H := by
  unfold jX9_logic_108 at h
  refine pw_iadd (pc := 108) F dX9_logic_108 ?_
  refine pw_istore (pc := 109) F dX9_logic_109 (lt_nl hn (by decide)) [some (vr p0), some (vi p1), some (vi p2), none, some (vi p4), some (vi (w32 (s0 + s1))), none] rfl ?_
  refine pw_aload_n (pc := 111) F dX9_logic_111 rfl ?_
  obtain ⟨x1, ex1, h⟩ := bnd h
  refine pw_get (pc := 112) F 9 18 147 (by decide) (by decide) g_98b4b1c18b inl_9 0 rfl dX9_logic_112 ex1 ?_
  refine pw_bipush (pc := 115) F 60 dX9_logic_115 (by decide) ?_
  refine pw_icmp_eq (pc := 117) F 127 dX9_logic_117 (by decide) (fun hc => ?_) (fun hc => ?_)
  · have h := iteT hc h
    refine pw_bipush (pc := 127) F (-4) dX9_logic_127 (by decide) ?_
    cases h
    exact pw_iret (pc := 129) F q dX9_logic_129
  · have h := iteF hc h
    refine pw_iload (pc := 120) F dX9_logic_120 rfl ?_
    refine pw_bipush (pc := 122) F 30 dX9_logic_122 (by decide) ?_
    refine pw_icmp_le (pc := 124) F 130 dX9_logic_124 (by decide) (fun hc => ?_) (fun hc => ?_)
    · have h := iteT hc h
      refine pw_aload_n (pc := 130) F dX9_logic_130 rfl ?_
      refine pw_iload_n (pc := 131) F dX9_logic_131 rfl ?_
      refine pw_iconst (pc := 132) F 1 dX9_logic_132 (by decide) ?_
      refine pw_iadd (pc := 133) F dX9_logic_133 ?_
      refine pw_aload_n (pc := 134) F dX9_logic_134 rfl ?_
      obtain ⟨x2, ex2, h⟩ := bnd h
      refine pw_get (pc := 135) F 9 25 78 (by decide) (by decide) g_26e1dbdafb inl_9 2 rfl dX9_logic_135 ex2 ?_
      refine pw_iload_n (pc := 138) F dX9_logic_138 rfl ?_
      obtain ⟨x3, ex3, h⟩ := bnd h
      refine pw_iald (pc := 139) F dX9_logic_139 ex3 ?_
      refine pw_if_ge (pc := 140) F 153 dX9_logic_140 (by decide) (fun hc => ?_) (fun hc => ?_)
      · have h := iteT hc h
        refine pw_aload_n (pc := 153) F dX9_logic_153 rfl ?_
        obtain ⟨x4, ex4, h⟩ := bnd h
        refine pw_get (pc := 154) F 9 25 78 (by decide) (by decide) g_26e1dbdafb inl_9 2 rfl dX9_logic_154 ex4 ?_
        refine pw_iload_n (pc := 157) F dX9_logic_157 rfl ?_
        obtain ⟨x5, ex5, h⟩ := bnd h
        refine pw_iald (pc := 158) F dX9_logic_158 ex5 ?_
        exact pw_mask [true, false, true, true, true, true, true] (ls' := [some (vr p0), none, some (vi p2), none, some (vi p4), some (vi (w32 (s0 + s1))), none]) rfl (jX9_logic_159_ok F q hn hf hl p0 p2 p4 (w32 (s0 + s1)) p0 (w32 (p1 + 1)) x5 H h)
      · have h := iteF hc h
        refine pw_aload_n (pc := 143) F dX9_logic_143 rfl ?_
        obtain ⟨x6, ex6, h⟩ := bnd h
        refine pw_get (pc := 144) F 9 25 78 (by decide) (by decide) g_26e1dbdafb inl_9 2 rfl dX9_logic_144 ex6 ?_
        refine pw_iload (pc := 147) F dX9_logic_147 rfl ?_
        obtain ⟨x7, ex7, h⟩ := bnd h
        refine pw_iald (pc := 149) F dX9_logic_149 ex7 ?_
        refine pw_goto (pc := 150) F 159 dX9_logic_150 (by decide) ?_
        exact pw_mask [true, false, true, true, true, true, true] (ls' := [some (vr p0), none, some (vi p2), none, some (vi p4), some (vi (w32 (s0 + s1))), none]) rfl (jX9_logic_159_ok F q hn hf hl p0 p2 p4 (w32 (s0 + s1)) p0 (w32 (p1 + 1)) x7 H h)
    · have h := iteF hc h
      refine pw_bipush (pc := 127) F (-4) dX9_logic_127 (by decide) ?_
      cases h
      exact pw_iret (pc := 129) F q dX9_logic_129
def jX9_logic_85 (p0 p1 p2 p3 p4 : Int) (H : PH) : RO :=
  (ld 25 H p0 26).bind fun x1 => (ld 0 H x1 p2).bind fun x2 => (if p1 ≥ 2 then jX9_logic_108 p0 p1 p2 p4 (w32 (1 + x2)) 0 H
  else (ld 25 H p0 26).bind fun x3 => (ld 0 H x3 p3).bind fun x4 => jX9_logic_108 p0 p1 p2 p4 (w32 (1 + x2)) x4 H)
set_option maxHeartbeats 4000000 in
theorem jX9_logic_85_ok {E : PE} {rr : Int} {HH : PH} (F : FX E cX9_logic RX9) (q : QE E (some (vi rr)) HH (some .int)) (hn : nLof E = 7) (hf : (roomOf E).frames = 2) (hl : (roomOf E).locals = 46) (p0 p1 p2 p3 p4 : Int) (H : PH) (h : jX9_logic_85 p0 p1 p2 p3 p4 H = some (rr, HH)) : PW E 85 [some (vr p0), some (vi p1), some (vi p2), some (vi p3), some (vi p4), none, none] [] H := by
  unfold jX9_logic_85 at h
  refine pw_iconst (pc := 85) F 1 dX9_logic_85 (by decide) ?_
  refine pw_aload_n (pc := 86) F dX9_logic_86 rfl ?_
  obtain ⟨x1, ex1, h⟩ := bnd h
  refine pw_get (pc := 87) F 9 26 81 (by decide) (by decide) g_c6aa864b14 inl_9 2 rfl dX9_logic_87 ex1 ?_
  refine pw_iload_n (pc := 90) F dX9_logic_90 rfl ?_
  obtain ⟨x2, ex2, h⟩ := bnd h
  refine pw_iald (pc := 91) F dX9_logic_91 ex2 ?_
  refine pw_iadd (pc := 92) F dX9_logic_92 ?_
  refine pw_iload_n (pc := 93) F dX9_logic_93 rfl ?_
  refine pw_iconst (pc := 94) F 2 dX9_logic_94 (by decide) ?_
  refine pw_icmp_ge (pc := 95) F 107 dX9_logic_95 (by decide) (fun hc => ?_) (fun hc => ?_)
  · have h := iteT hc h
    refine pw_iconst (pc := 107) F 0 dX9_logic_107 (by decide) ?_
    exact pw_mask [true, true, true, false, true, true, true] (ls' := [some (vr p0), some (vi p1), some (vi p2), none, some (vi p4), none, none]) rfl (jX9_logic_108_ok F q hn hf hl p0 p1 p2 p4 (w32 (1 + x2)) 0 H h)
  · have h := iteF hc h
    refine pw_aload_n (pc := 98) F dX9_logic_98 rfl ?_
    obtain ⟨x3, ex3, h⟩ := bnd h
    refine pw_get (pc := 99) F 9 26 81 (by decide) (by decide) g_c6aa864b14 inl_9 2 rfl dX9_logic_99 ex3 ?_
    refine pw_iload_n (pc := 102) F dX9_logic_102 rfl ?_
    obtain ⟨x4, ex4, h⟩ := bnd h
    refine pw_iald (pc := 103) F dX9_logic_103 ex4 ?_
    refine pw_goto (pc := 104) F 108 dX9_logic_104 (by decide) ?_
    exact pw_mask [true, true, true, false, true, true, true] (ls' := [some (vr p0), some (vi p1), some (vi p2), none, some (vi p4), none, none]) rfl (jX9_logic_108_ok F q hn hf hl p0 p1 p2 p4 (w32 (1 + x2)) x4 H h)
def jX9_logic_45 (p0 p1 p2 p3 s0 : Int) (H : PH) : RO :=
  (ld 25 H p0 25).bind fun x1 => (ld 0 H x1 p2).bind fun x2 => (if x2 < 0 then jX9_logic_85 p0 p1 p2 p3 s0 H
  else (ld 25 H p0 25).bind fun x3 => (ld 0 H x3 s0).bind fun x4 => (if x4 < 0 then jX9_logic_85 p0 p1 p2 p3 s0 H
  else (ld 25 H p0 25).bind fun x5 => (ld 0 H x5 p2).bind fun x6 => (ld 25 H p0 25).bind fun x7 => (ld 0 H x7 s0).bind fun x8 => (if x6 = x8 then jX9_logic_85 p0 p1 p2 p3 s0 H
  else some ((-2), H))))
set_option maxHeartbeats 4000000 in
theorem jX9_logic_45_ok {E : PE} {rr : Int} {HH : PH} (F : FX E cX9_logic RX9) (q : QE E (some (vi rr)) HH (some .int)) (hn : nLof E = 7) (hf : (roomOf E).frames = 2) (hl : (roomOf E).locals = 46) (p0 p1 p2 p3 s0 : Int) (H : PH) (h : jX9_logic_45 p0 p1 p2 p3 s0 H = some (rr, HH)) : PW E 45 [some (vr p0), some (vi p1), some (vi p2), some (vi p3), none, none, none] [vi s0] H := by
  unfold jX9_logic_45 at h
  refine pw_istore (pc := 45) F dX9_logic_45 (lt_nl hn (by decide)) [some (vr p0), some (vi p1), some (vi p2), some (vi p3), some (vi s0), none, none] rfl ?_
  refine pw_aload_n (pc := 47) F dX9_logic_47 rfl ?_
  obtain ⟨x1, ex1, h⟩ := bnd h
  refine pw_get (pc := 48) F 9 25 78 (by decide) (by decide) g_26e1dbdafb inl_9 2 rfl dX9_logic_48 ex1 ?_
  refine pw_iload_n (pc := 51) F dX9_logic_51 rfl ?_
  obtain ⟨x2, ex2, h⟩ := bnd h
  refine pw_iald (pc := 52) F dX9_logic_52 ex2 ?_
  refine pw_if_lt (pc := 53) F 85 dX9_logic_53 (by decide) (fun hc => ?_) (fun hc => ?_)
  · have h := iteT hc h
    exact pw_mask [true, true, true, true, true, true, true] (ls' := [some (vr p0), some (vi p1), some (vi p2), some (vi p3), some (vi s0), none, none]) rfl (jX9_logic_85_ok F q hn hf hl p0 p1 p2 p3 s0 H h)
  · have h := iteF hc h
    refine pw_aload_n (pc := 56) F dX9_logic_56 rfl ?_
    obtain ⟨x3, ex3, h⟩ := bnd h
    refine pw_get (pc := 57) F 9 25 78 (by decide) (by decide) g_26e1dbdafb inl_9 2 rfl dX9_logic_57 ex3 ?_
    refine pw_iload (pc := 60) F dX9_logic_60 rfl ?_
    obtain ⟨x4, ex4, h⟩ := bnd h
    refine pw_iald (pc := 62) F dX9_logic_62 ex4 ?_
    refine pw_if_lt (pc := 63) F 85 dX9_logic_63 (by decide) (fun hc => ?_) (fun hc => ?_)
    · have h := iteT hc h
      exact pw_mask [true, true, true, true, true, true, true] (ls' := [some (vr p0), some (vi p1), some (vi p2), some (vi p3), some (vi s0), none, none]) rfl (jX9_logic_85_ok F q hn hf hl p0 p1 p2 p3 s0 H h)
    · have h := iteF hc h
      refine pw_aload_n (pc := 66) F dX9_logic_66 rfl ?_
      obtain ⟨x5, ex5, h⟩ := bnd h
      refine pw_get (pc := 67) F 9 25 78 (by decide) (by decide) g_26e1dbdafb inl_9 2 rfl dX9_logic_67 ex5 ?_
      refine pw_iload_n (pc := 70) F dX9_logic_70 rfl ?_
      obtain ⟨x6, ex6, h⟩ := bnd h
      refine pw_iald (pc := 71) F dX9_logic_71 ex6 ?_
      refine pw_aload_n (pc := 72) F dX9_logic_72 rfl ?_
      obtain ⟨x7, ex7, h⟩ := bnd h
      refine pw_get (pc := 73) F 9 25 78 (by decide) (by decide) g_26e1dbdafb inl_9 2 rfl dX9_logic_73 ex7 ?_
      refine pw_iload (pc := 76) F dX9_logic_76 rfl ?_
      obtain ⟨x8, ex8, h⟩ := bnd h
      refine pw_iald (pc := 78) F dX9_logic_78 ex8 ?_
      refine pw_icmp_eq (pc := 79) F 85 dX9_logic_79 (by decide) (fun hc => ?_) (fun hc => ?_)
      · have h := iteT hc h
        exact pw_mask [true, true, true, true, true, true, true] (ls' := [some (vr p0), some (vi p1), some (vi p2), some (vi p3), some (vi s0), none, none]) rfl (jX9_logic_85_ok F q hn hf hl p0 p1 p2 p3 s0 H h)
      · have h := iteF hc h
        refine pw_bipush (pc := 82) F (-2) dX9_logic_82 (by decide) ?_
        cases h
        exact pw_iret (pc := 84) F q dX9_logic_84
def jX9_logic_35 (p0 p1 p2 p3 : Int) (H : PH) : RO :=
  (if p1 ≥ 2 then jX9_logic_45 p0 p1 p2 p3 p2 H
  else jX9_logic_45 p0 p1 p2 p3 p3 H)
set_option maxHeartbeats 4000000 in
theorem jX9_logic_35_ok {E : PE} {rr : Int} {HH : PH} (F : FX E cX9_logic RX9) (q : QE E (some (vi rr)) HH (some .int)) (hn : nLof E = 7) (hf : (roomOf E).frames = 2) (hl : (roomOf E).locals = 46) (p0 p1 p2 p3 : Int) (H : PH) (h : jX9_logic_35 p0 p1 p2 p3 H = some (rr, HH)) : PW E 35 [some (vr p0), some (vi p1), some (vi p2), some (vi p3), none, none, none] [] H := by
  unfold jX9_logic_35 at h
  refine pw_iload_n (pc := 35) F dX9_logic_35 rfl ?_
  refine pw_iconst (pc := 36) F 2 dX9_logic_36 (by decide) ?_
  refine pw_icmp_ge (pc := 37) F 44 dX9_logic_37 (by decide) (fun hc => ?_) (fun hc => ?_)
  · have h := iteT hc h
    refine pw_iload_n (pc := 44) F dX9_logic_44 rfl ?_
    exact pw_mask [true, true, true, true, true, true, true] (ls' := [some (vr p0), some (vi p1), some (vi p2), some (vi p3), none, none, none]) rfl (jX9_logic_45_ok F q hn hf hl p0 p1 p2 p3 p2 H h)
  · have h := iteF hc h
    refine pw_iload_n (pc := 40) F dX9_logic_40 rfl ?_
    refine pw_goto (pc := 41) F 45 dX9_logic_41 (by decide) ?_
    exact pw_mask [true, true, true, true, true, true, true] (ls' := [some (vr p0), some (vi p1), some (vi p2), some (vi p3), none, none, none]) rfl (jX9_logic_45_ok F q hn hf hl p0 p1 p2 p3 p3 H h)
def f_X9_logic (a0 a1 a2 a3 : Int) (H : PH) : RO := vm 9 a0 H <|
  (f_X9_in a1 0 2 H).bind fun z1 => (if z1.1 = 0 then some ((-1), z1.2)
  else (f_X9_isCondition a0 a2 z1.2).bind fun z2 => (if z2.1 = 0 then some ((-1), z2.2)
  else (if a1 ≥ 2 then jX9_logic_35 a0 a1 a2 a3 z2.2
  else (f_X9_isCondition a0 a3 z2.2).bind fun z3 => (if z3.1 ≠ 0 then jX9_logic_35 a0 a1 a2 a3 z3.2
  else some ((-1), z3.2)))))
set_option maxHeartbeats 4000000 in
theorem m_X9_logic (l : Launch) (a0 a1 a2 a3 : Int) (H : PH) (rr : Int) (HH : PH) (h : f_X9_logic a0 a1 a2 a3 H = some (rr, HH)) : CT l yX9_logic cX9_logic 7 (some .int) 2 46 [vr a0, vi a1, vi a2, vi a3] H (some (vi rr)) HH := by
  refine CT.of RX9 (by decide) rfl [some (vr a0), some (vi a1), some (vi a2), some (vi a3), none, none, none] rfl rfl ?_
  intro E F q hn hf hl hm
  unfold f_X9_logic at h
  obtain ⟨hv, h⟩ := vm_spec h
  refine pw_iload_n (pc := 0) F dX9_logic_0 rfl ?_
  refine pw_i2l (pc := 1) F dX9_logic_1 ?_
  refine pw_lconst (pc := 2) F 0 dX9_logic_2 (by decide) ?_
  refine pw_ldc2 (pc := 3) F 2 g_f9a9b8d2f4 dX9_logic_3 (by decide) ?_
  obtain ⟨z1, ez1, h⟩ := bnd h
  refine pw_callS (pc := 6) (as := [vl a1, vl 0, vl 2]) (st := []) (r := (some (vi z1.1))) F 140 (fun l => m_X9_in l a1 0 2 H z1.1 z1.2 ez1) g_0174c906e2 g_3fadeb3198 g_2759d91faa g_c0c30bc7de hd_X9_in (rm_ok hf hl (by decide) (by decide)) rfl dX9_logic_6 rfl (stk' := [vi z1.1]) rfl ?_
  refine pw_if_eq (pc := 9) F 33 dX9_logic_9 (by decide) (fun hc => ?_) (fun hc => ?_)
  · have h := iteT hc h
    refine pw_iconst (pc := 33) F (-1) dX9_logic_33 (by decide) ?_
    cases h
    exact pw_iret (pc := 34) F q dX9_logic_34
  · have h := iteF hc h
    refine pw_aload_n (pc := 12) F dX9_logic_12 rfl ?_
    refine pw_iload_n (pc := 13) F dX9_logic_13 rfl ?_
    obtain ⟨z2, ez2, h⟩ := bnd h
    refine pw_callV (pc := 14) (as := [vi a2]) (st := []) (r := (some (vi z2.1))) F 178 9 (by decide) rfl (fun l => m_X9_isCondition l a0 a2 z1.2 z2.1 z2.2 ez2) g_7eb587748a g_679f284a6f g_67cc1a7d68 g_2759d91faa g_8ca3f2c8d6 hd_X9_isCondition (rm_ok hf hl (by decide) (by decide)) rfl (vm_spec ez2).1 dX9_logic_14 rfl (stk' := [vi z2.1]) rfl ?_
    refine pw_if_eq (pc := 17) F 33 dX9_logic_17 (by decide) (fun hc => ?_) (fun hc => ?_)
    · have h := iteT hc h
      refine pw_iconst (pc := 33) F (-1) dX9_logic_33 (by decide) ?_
      cases h
      exact pw_iret (pc := 34) F q dX9_logic_34
    · have h := iteF hc h
      refine pw_iload_n (pc := 20) F dX9_logic_20 rfl ?_
      refine pw_iconst (pc := 21) F 2 dX9_logic_21 (by decide) ?_
      refine pw_icmp_ge (pc := 22) F 35 dX9_logic_22 (by decide) (fun hc => ?_) (fun hc => ?_)
      · have h := iteT hc h
        exact pw_mask [true, true, true, true, true, true, true] (ls' := [some (vr a0), some (vi a1), some (vi a2), some (vi a3), none, none, none]) rfl (jX9_logic_35_ok F q hn hf hl a0 a1 a2 a3 z2.2 h)
      · have h := iteF hc h
        refine pw_aload_n (pc := 25) F dX9_logic_25 rfl ?_
        refine pw_iload_n (pc := 26) F dX9_logic_26 rfl ?_
        obtain ⟨z3, ez3, h⟩ := bnd h
        refine pw_callV (pc := 27) (as := [vi a3]) (st := []) (r := (some (vi z3.1))) F 178 9 (by decide) rfl (fun l => m_X9_isCondition l a0 a3 z2.2 z3.1 z3.2 ez3) g_7eb587748a g_679f284a6f g_67cc1a7d68 g_2759d91faa g_8ca3f2c8d6 hd_X9_isCondition (rm_ok hf hl (by decide) (by decide)) rfl (vm_spec ez3).1 dX9_logic_27 rfl (stk' := [vi z3.1]) rfl ?_
        refine pw_if_ne (pc := 30) F 35 dX9_logic_30 (by decide) (fun hc => ?_) (fun hc => ?_)
        · have h := iteT hc h
          exact pw_mask [true, true, true, true, true, true, true] (ls' := [some (vr a0), some (vi a1), some (vi a2), some (vi a3), none, none, none]) rfl (jX9_logic_35_ok F q hn hf hl a0 a1 a2 a3 z3.2 h)
        · have h := iteF hc h
          refine pw_iconst (pc := 33) F (-1) dX9_logic_33 (by decide) ?_
          cases h
          exact pw_iret (pc := 34) F q dX9_logic_34
/-! HouseholdVaultModel.some(II)I -/
theorem dX9_some_0 : decode cX9_some 0 = .ok (.aload_n 0, 1) := by decide +kernel
theorem dX9_some_1 : decode cX9_some 1 = .ok (.iload_n 1, 1) := by decide +kernel
theorem dX9_some_2 : decode cX9_some 2 = .ok (.invokevirtual 178, 3) := by decide +kernel
theorem dX9_some_5 : decode cX9_some 5 = .ok (.ifCond .eq 15, 3) := by decide +kernel
theorem dX9_some_8 : decode cX9_some 8 = .ok (.iload_n 2, 1) := by decide +kernel
theorem dX9_some_9 : decode cX9_some 9 = .ok (.i2l, 1) := by decide +kernel
theorem dX9_some_10 : decode cX9_some 10 = .ok (.lconst 0, 1) := by decide +kernel
theorem dX9_some_11 : decode cX9_some 11 = .ok (.ldc2_w 161, 3) := by decide +kernel
theorem dX9_some_14 : decode cX9_some 14 = .ok (.invokestatic 140, 3) := by decide +kernel
theorem dX9_some_17 : decode cX9_some 17 = .ok (.ifCond .ne 5, 3) := by decide +kernel
theorem dX9_some_20 : decode cX9_some 20 = .ok (.iconst (-1), 1) := by decide +kernel
theorem dX9_some_21 : decode cX9_some 21 = .ok (.ireturn, 1) := by decide +kernel
theorem dX9_some_22 : decode cX9_some 22 = .ok (.aload_n 0, 1) := by decide +kernel
theorem dX9_some_23 : decode cX9_some 23 = .ok (.getfield 78, 3) := by decide +kernel
theorem dX9_some_26 : decode cX9_some 26 = .ok (.iload_n 1, 1) := by decide +kernel
theorem dX9_some_27 : decode cX9_some 27 = .ok (.iaload, 1) := by decide +kernel
theorem dX9_some_28 : decode cX9_some 28 = .ok (.ifCond .ge 6, 3) := by decide +kernel
theorem dX9_some_31 : decode cX9_some 31 = .ok (.bipush (-2), 2) := by decide +kernel
theorem dX9_some_33 : decode cX9_some 33 = .ok (.ireturn, 1) := by decide +kernel
theorem dX9_some_34 : decode cX9_some 34 = .ok (.aload_n 0, 1) := by decide +kernel
theorem dX9_some_35 : decode cX9_some 35 = .ok (.getfield 147, 3) := by decide +kernel
theorem dX9_some_38 : decode cX9_some 38 = .ok (.bipush 60, 2) := by decide +kernel
theorem dX9_some_40 : decode cX9_some 40 = .ok (.if_icmp .eq 14, 3) := by decide +kernel
theorem dX9_some_43 : decode cX9_some 43 = .ok (.aload_n 0, 1) := by decide +kernel
theorem dX9_some_44 : decode cX9_some 44 = .ok (.getfield 81, 3) := by decide +kernel
theorem dX9_some_47 : decode cX9_some 47 = .ok (.iload_n 1, 1) := by decide +kernel
theorem dX9_some_48 : decode cX9_some 48 = .ok (.iaload, 1) := by decide +kernel
theorem dX9_some_49 : decode cX9_some 49 = .ok (.bipush 30, 2) := by decide +kernel
theorem dX9_some_51 : decode cX9_some 51 = .ok (.if_icmp .ne 6, 3) := by decide +kernel
theorem dX9_some_54 : decode cX9_some 54 = .ok (.bipush (-4), 2) := by decide +kernel
theorem dX9_some_56 : decode cX9_some 56 = .ok (.ireturn, 1) := by decide +kernel
theorem dX9_some_57 : decode cX9_some 57 = .ok (.aload_n 0, 1) := by decide +kernel
theorem dX9_some_58 : decode cX9_some 58 = .ok (.iconst 4, 1) := by decide +kernel
theorem dX9_some_59 : decode cX9_some 59 = .ok (.iconst (-1), 1) := by decide +kernel
theorem dX9_some_60 : decode cX9_some 60 = .ok (.iconst 1, 1) := by decide +kernel
theorem dX9_some_61 : decode cX9_some 61 = .ok (.aload_n 0, 1) := by decide +kernel
theorem dX9_some_62 : decode cX9_some 62 = .ok (.getfield 81, 3) := by decide +kernel
theorem dX9_some_65 : decode cX9_some 65 = .ok (.iload_n 1, 1) := by decide +kernel
theorem dX9_some_66 : decode cX9_some 66 = .ok (.iaload, 1) := by decide +kernel
theorem dX9_some_67 : decode cX9_some 67 = .ok (.iadd, 1) := by decide +kernel
theorem dX9_some_68 : decode cX9_some 68 = .ok (.aload_n 0, 1) := by decide +kernel
theorem dX9_some_69 : decode cX9_some 69 = .ok (.getfield 84, 3) := by decide +kernel
theorem dX9_some_72 : decode cX9_some 72 = .ok (.iload_n 1, 1) := by decide +kernel
theorem dX9_some_73 : decode cX9_some 73 = .ok (.iaload, 1) := by decide +kernel
theorem dX9_some_74 : decode cX9_some 74 = .ok (.invokevirtual 236, 3) := by decide +kernel
theorem dX9_some_77 : decode cX9_some 77 = .ok (.istore_n 3, 1) := by decide +kernel
theorem dX9_some_78 : decode cX9_some 78 = .ok (.aload_n 0, 1) := by decide +kernel
theorem dX9_some_79 : decode cX9_some 79 = .ok (.getfield 72, 3) := by decide +kernel
theorem dX9_some_82 : decode cX9_some 82 = .ok (.iload_n 3, 1) := by decide +kernel
theorem dX9_some_83 : decode cX9_some 83 = .ok (.iload_n 1, 1) := by decide +kernel
theorem dX9_some_84 : decode cX9_some 84 = .ok (.iastore, 1) := by decide +kernel
theorem dX9_some_85 : decode cX9_some 85 = .ok (.aload_n 0, 1) := by decide +kernel
theorem dX9_some_86 : decode cX9_some 86 = .ok (.getfield 63, 3) := by decide +kernel
theorem dX9_some_89 : decode cX9_some 89 = .ok (.iload_n 3, 1) := by decide +kernel
theorem dX9_some_90 : decode cX9_some 90 = .ok (.iload_n 2, 1) := by decide +kernel
theorem dX9_some_91 : decode cX9_some 91 = .ok (.iastore, 1) := by decide +kernel
theorem dX9_some_92 : decode cX9_some 92 = .ok (.iload_n 3, 1) := by decide +kernel
theorem dX9_some_93 : decode cX9_some 93 = .ok (.ireturn, 1) := by decide +kernel
def f_X9_some (a0 a1 a2 : Int) (H : PH) : RO := vm 9 a0 H <|
  (f_X9_isCondition a0 a1 H).bind fun z1 => (if z1.1 = 0 then some ((-1), z1.2)
  else (f_X9_in a2 0 5 z1.2).bind fun z2 => (if z2.1 ≠ 0 then (ld 25 z2.2 a0 25).bind fun x3 => (ld 0 z2.2 x3 a1).bind fun x4 => (if x4 ≥ 0 then (ld 25 z2.2 a0 18).bind fun x5 => (if x5 = 60 then some ((-4), z2.2)
  else (ld 25 z2.2 a0 26).bind fun x6 => (ld 0 z2.2 x6 a1).bind fun x7 => (if x7 ≠ 30 then (ld 25 z2.2 a0 26).bind fun x8 => (ld 0 z2.2 x8 a1).bind fun x9 => (ld 25 z2.2 a0 27).bind fun x10 => (ld 0 z2.2 x10 a1).bind fun x11 => (f_X9_condition a0 4 (-1) (w32 (1 + x9)) x11 z2.2).bind fun z12 => (ld 25 z12.2 a0 23).bind fun x13 => (stv 0 z12.2 x13 z12.1 a1).bind fun H14 => (ld 25 H14 a0 20).bind fun x15 => (stv 0 H14 x15 z12.1 a2).bind fun H16 => some (z12.1, H16)
  else some ((-4), z2.2)))
  else some ((-2), z2.2))
  else some ((-1), z2.2)))
set_option maxHeartbeats 4000000 in
theorem m_X9_some (l : Launch) (a0 a1 a2 : Int) (H : PH) (rr : Int) (HH : PH) (h : f_X9_some a0 a1 a2 H = some (rr, HH)) : CT l yX9_some cX9_some 4 (some .int) 2 46 [vr a0, vi a1, vi a2] H (some (vi rr)) HH := by
  refine CT.of RX9 (by decide) rfl [some (vr a0), some (vi a1), some (vi a2), none] rfl rfl ?_
  intro E F q hn hf hl hm
  unfold f_X9_some at h
  obtain ⟨hv, h⟩ := vm_spec h
  refine pw_aload_n (pc := 0) F dX9_some_0 rfl ?_
  refine pw_iload_n (pc := 1) F dX9_some_1 rfl ?_
  obtain ⟨z1, ez1, h⟩ := bnd h
  refine pw_callV (pc := 2) (as := [vi a1]) (st := []) (r := (some (vi z1.1))) F 178 9 (by decide) rfl (fun l => m_X9_isCondition l a0 a1 H z1.1 z1.2 ez1) g_7eb587748a g_679f284a6f g_67cc1a7d68 g_2759d91faa g_8ca3f2c8d6 hd_X9_isCondition (rm_ok hf hl (by decide) (by decide)) rfl (vm_spec ez1).1 dX9_some_2 rfl (stk' := [vi z1.1]) rfl ?_
  refine pw_if_eq (pc := 5) F 20 dX9_some_5 (by decide) (fun hc => ?_) (fun hc => ?_)
  · have h := iteT hc h
    refine pw_iconst (pc := 20) F (-1) dX9_some_20 (by decide) ?_
    cases h
    exact pw_iret (pc := 21) F q dX9_some_21
  · have h := iteF hc h
    refine pw_iload_n (pc := 8) F dX9_some_8 rfl ?_
    refine pw_i2l (pc := 9) F dX9_some_9 ?_
    refine pw_lconst (pc := 10) F 0 dX9_some_10 (by decide) ?_
    refine pw_ldc2 (pc := 11) F 5 g_f5e836366d dX9_some_11 (by decide) ?_
    obtain ⟨z2, ez2, h⟩ := bnd h
    refine pw_callS (pc := 14) (as := [vl a2, vl 0, vl 5]) (st := []) (r := (some (vi z2.1))) F 140 (fun l => m_X9_in l a2 0 5 z1.2 z2.1 z2.2 ez2) g_0174c906e2 g_3fadeb3198 g_2759d91faa g_c0c30bc7de hd_X9_in (rm_ok hf hl (by decide) (by decide)) rfl dX9_some_14 rfl (stk' := [vi z2.1]) rfl ?_
    refine pw_if_ne (pc := 17) F 22 dX9_some_17 (by decide) (fun hc => ?_) (fun hc => ?_)
    · have h := iteT hc h
      refine pw_aload_n (pc := 22) F dX9_some_22 rfl ?_
      obtain ⟨x3, ex3, h⟩ := bnd h
      refine pw_get (pc := 23) F 9 25 78 (by decide) (by decide) g_26e1dbdafb inl_9 2 rfl dX9_some_23 ex3 ?_
      refine pw_iload_n (pc := 26) F dX9_some_26 rfl ?_
      obtain ⟨x4, ex4, h⟩ := bnd h
      refine pw_iald (pc := 27) F dX9_some_27 ex4 ?_
      refine pw_if_ge (pc := 28) F 34 dX9_some_28 (by decide) (fun hc => ?_) (fun hc => ?_)
      · have h := iteT hc h
        refine pw_aload_n (pc := 34) F dX9_some_34 rfl ?_
        obtain ⟨x5, ex5, h⟩ := bnd h
        refine pw_get (pc := 35) F 9 18 147 (by decide) (by decide) g_98b4b1c18b inl_9 0 rfl dX9_some_35 ex5 ?_
        refine pw_bipush (pc := 38) F 60 dX9_some_38 (by decide) ?_
        refine pw_icmp_eq (pc := 40) F 54 dX9_some_40 (by decide) (fun hc => ?_) (fun hc => ?_)
        · have h := iteT hc h
          refine pw_bipush (pc := 54) F (-4) dX9_some_54 (by decide) ?_
          cases h
          exact pw_iret (pc := 56) F q dX9_some_56
        · have h := iteF hc h
          refine pw_aload_n (pc := 43) F dX9_some_43 rfl ?_
          obtain ⟨x6, ex6, h⟩ := bnd h
          refine pw_get (pc := 44) F 9 26 81 (by decide) (by decide) g_c6aa864b14 inl_9 2 rfl dX9_some_44 ex6 ?_
          refine pw_iload_n (pc := 47) F dX9_some_47 rfl ?_
          obtain ⟨x7, ex7, h⟩ := bnd h
          refine pw_iald (pc := 48) F dX9_some_48 ex7 ?_
          refine pw_bipush (pc := 49) F 30 dX9_some_49 (by decide) ?_
          refine pw_icmp_ne (pc := 51) F 57 dX9_some_51 (by decide) (fun hc => ?_) (fun hc => ?_)
          · have h := iteT hc h
            refine pw_aload_n (pc := 57) F dX9_some_57 rfl ?_
            refine pw_iconst (pc := 58) F 4 dX9_some_58 (by decide) ?_
            refine pw_iconst (pc := 59) F (-1) dX9_some_59 (by decide) ?_
            refine pw_iconst (pc := 60) F 1 dX9_some_60 (by decide) ?_
            refine pw_aload_n (pc := 61) F dX9_some_61 rfl ?_
            obtain ⟨x8, ex8, h⟩ := bnd h
            refine pw_get (pc := 62) F 9 26 81 (by decide) (by decide) g_c6aa864b14 inl_9 2 rfl dX9_some_62 ex8 ?_
            refine pw_iload_n (pc := 65) F dX9_some_65 rfl ?_
            obtain ⟨x9, ex9, h⟩ := bnd h
            refine pw_iald (pc := 66) F dX9_some_66 ex9 ?_
            refine pw_iadd (pc := 67) F dX9_some_67 ?_
            refine pw_aload_n (pc := 68) F dX9_some_68 rfl ?_
            obtain ⟨x10, ex10, h⟩ := bnd h
            refine pw_get (pc := 69) F 9 27 84 (by decide) (by decide) g_b1cbbee2b7 inl_9 2 rfl dX9_some_69 ex10 ?_
            refine pw_iload_n (pc := 72) F dX9_some_72 rfl ?_
            obtain ⟨x11, ex11, h⟩ := bnd h
            refine pw_iald (pc := 73) F dX9_some_73 ex11 ?_
            obtain ⟨z12, ez12, h⟩ := bnd h
            refine pw_callV (pc := 74) (as := [vi 4, vi (-1), vi (w32 (1 + x9)), vi x11]) (st := []) (r := (some (vi z12.1))) F 236 9 (by decide) rfl (fun l => m_X9_condition l a0 4 (-1) (w32 (1 + x9)) x11 z2.2 z12.1 z12.2 ez12) g_f21e627dce g_a48f3ef0f3 g_10cc8562b4 g_2759d91faa g_888a95070a hd_X9_condition (rm_ok hf hl (by decide) (by decide)) rfl (vm_spec ez12).1 dX9_some_74 rfl (stk' := [vi z12.1]) rfl ?_
            refine pw_istore_n (pc := 77) F dX9_some_77 (lt_nl hn (by decide)) [some (vr a0), some (vi a1), some (vi a2), some (vi z12.1)] rfl ?_
            refine pw_aload_n (pc := 78) F dX9_some_78 rfl ?_
            obtain ⟨x13, ex13, h⟩ := bnd h
            refine pw_get (pc := 79) F 9 23 72 (by decide) (by decide) g_630466eb5f inl_9 2 rfl dX9_some_79 ex13 ?_
            refine pw_iload_n (pc := 82) F dX9_some_82 rfl ?_
            refine pw_iload_n (pc := 83) F dX9_some_83 rfl ?_
            obtain ⟨H14, eH14, h⟩ := bnd h
            refine pw_iast (pc := 84) F dX9_some_84 eH14 ?_
            refine pw_aload_n (pc := 85) F dX9_some_85 rfl ?_
            obtain ⟨x15, ex15, h⟩ := bnd h
            refine pw_get (pc := 86) F 9 20 63 (by decide) (by decide) g_ef6ee937d9 inl_9 2 rfl dX9_some_86 ex15 ?_
            refine pw_iload_n (pc := 89) F dX9_some_89 rfl ?_
            refine pw_iload_n (pc := 90) F dX9_some_90 rfl ?_
            obtain ⟨H16, eH16, h⟩ := bnd h
            refine pw_iast (pc := 91) F dX9_some_91 eH16 ?_
            refine pw_iload_n (pc := 92) F dX9_some_92 rfl ?_
            cases h
            exact pw_iret (pc := 93) F q dX9_some_93
          · have h := iteF hc h
            refine pw_bipush (pc := 54) F (-4) dX9_some_54 (by decide) ?_
            cases h
            exact pw_iret (pc := 56) F q dX9_some_56
      · have h := iteF hc h
        refine pw_bipush (pc := 31) F (-2) dX9_some_31 (by decide) ?_
        cases h
        exact pw_iret (pc := 33) F q dX9_some_33
    · have h := iteF hc h
      refine pw_iconst (pc := 20) F (-1) dX9_some_20 (by decide) ?_
      cases h
      exact pw_iret (pc := 21) F q dX9_some_21
/-! HouseholdVaultModel.holds(III)I -/
theorem dX9_holds_0 : decode cX9_holds 0 = .ok (.aload_n 0, 1) := by decide +kernel
theorem dX9_holds_1 : decode cX9_holds 1 = .ok (.iload_n 1, 1) := by decide +kernel
theorem dX9_holds_2 : decode cX9_holds 2 = .ok (.invokevirtual 178, 3) := by decide +kernel
theorem dX9_holds_5 : decode cX9_holds 5 = .ok (.ifCond .eq 51, 3) := by decide +kernel
theorem dX9_holds_8 : decode cX9_holds 8 = .ok (.aload_n 0, 1) := by decide +kernel
theorem dX9_holds_9 : decode cX9_holds 9 = .ok (.iload_n 2, 1) := by decide +kernel
theorem dX9_holds_10 : decode cX9_holds 10 = .ok (.invokevirtual 181, 3) := by decide +kernel
theorem dX9_holds_13 : decode cX9_holds 13 = .ok (.ifCond .eq 43, 3) := by decide +kernel
theorem dX9_holds_16 : decode cX9_holds 16 = .ok (.aload_n 0, 1) := by decide +kernel
theorem dX9_holds_17 : decode cX9_holds 17 = .ok (.getfield 78, 3) := by decide +kernel
theorem dX9_holds_20 : decode cX9_holds 20 = .ok (.iload_n 1, 1) := by decide +kernel
theorem dX9_holds_21 : decode cX9_holds 21 = .ok (.iaload, 1) := by decide +kernel
theorem dX9_holds_22 : decode cX9_holds 22 = .ok (.ifCond .ge 11, 3) := by decide +kernel
theorem dX9_holds_25 : decode cX9_holds 25 = .ok (.iload_n 3, 1) := by decide +kernel
theorem dX9_holds_26 : decode cX9_holds 26 = .ok (.iconst (-1), 1) := by decide +kernel
theorem dX9_holds_27 : decode cX9_holds 27 = .ok (.if_icmp .eq 31, 3) := by decide +kernel
theorem dX9_holds_30 : decode cX9_holds 30 = .ok (.goto 26, 3) := by decide +kernel
theorem dX9_holds_33 : decode cX9_holds 33 = .ok (.iload_n 3, 1) := by decide +kernel
theorem dX9_holds_34 : decode cX9_holds 34 = .ok (.i2l, 1) := by decide +kernel
theorem dX9_holds_35 : decode cX9_holds 35 = .ok (.lconst 0, 1) := by decide +kernel
theorem dX9_holds_36 : decode cX9_holds 36 = .ok (.aload_n 0, 1) := by decide +kernel
theorem dX9_holds_37 : decode cX9_holds 37 = .ok (.iload_n 2, 1) := by decide +kernel
theorem dX9_holds_38 : decode cX9_holds 38 = .ok (.aload_n 0, 1) := by decide +kernel
theorem dX9_holds_39 : decode cX9_holds 39 = .ok (.getfield 78, 3) := by decide +kernel
theorem dX9_holds_42 : decode cX9_holds 42 = .ok (.iload_n 1, 1) := by decide +kernel
theorem dX9_holds_43 : decode cX9_holds 43 = .ok (.iaload, 1) := by decide +kernel
theorem dX9_holds_44 : decode cX9_holds 44 = .ok (.invokevirtual 184, 3) := by decide +kernel
theorem dX9_holds_47 : decode cX9_holds 47 = .ok (.iconst 1, 1) := by decide +kernel
theorem dX9_holds_48 : decode cX9_holds 48 = .ok (.isub, 1) := by decide +kernel
theorem dX9_holds_49 : decode cX9_holds 49 = .ok (.i2l, 1) := by decide +kernel
theorem dX9_holds_50 : decode cX9_holds 50 = .ok (.invokestatic 140, 3) := by decide +kernel
theorem dX9_holds_53 : decode cX9_holds 53 = .ok (.ifCond .ne 5, 3) := by decide +kernel
theorem dX9_holds_56 : decode cX9_holds 56 = .ok (.iconst (-1), 1) := by decide +kernel
theorem dX9_holds_57 : decode cX9_holds 57 = .ok (.ireturn, 1) := by decide +kernel
theorem dX9_holds_58 : decode cX9_holds 58 = .ok (.aload_n 0, 1) := by decide +kernel
theorem dX9_holds_59 : decode cX9_holds 59 = .ok (.iload_n 2, 1) := by decide +kernel
theorem dX9_holds_60 : decode cX9_holds 60 = .ok (.invokevirtual 228, 3) := by decide +kernel
theorem dX9_holds_63 : decode cX9_holds 63 = .ok (.aload_n 0, 1) := by decide +kernel
theorem dX9_holds_64 : decode cX9_holds 64 = .ok (.getfield 121, 3) := by decide +kernel
theorem dX9_holds_67 : decode cX9_holds 67 = .ok (.bipush 6, 2) := by decide +kernel
theorem dX9_holds_69 : decode cX9_holds 69 = .ok (.iload_n 1, 1) := by decide +kernel
theorem dX9_holds_70 : decode cX9_holds 70 = .ok (.imul, 1) := by decide +kernel
theorem dX9_holds_71 : decode cX9_holds 71 = .ok (.iload_n 3, 1) := by decide +kernel
theorem dX9_holds_72 : decode cX9_holds 72 = .ok (.iadd, 1) := by decide +kernel
theorem dX9_holds_73 : decode cX9_holds 73 = .ok (.iconst 1, 1) := by decide +kernel
theorem dX9_holds_74 : decode cX9_holds 74 = .ok (.iadd, 1) := by decide +kernel
theorem dX9_holds_75 : decode cX9_holds 75 = .ok (.baload, 1) := by decide +kernel
theorem dX9_holds_76 : decode cX9_holds 76 = .ok (.ifCond .eq 7, 3) := by decide +kernel
theorem dX9_holds_79 : decode cX9_holds 79 = .ok (.iconst 1, 1) := by decide +kernel
theorem dX9_holds_80 : decode cX9_holds 80 = .ok (.goto 4, 3) := by decide +kernel
theorem dX9_holds_83 : decode cX9_holds 83 = .ok (.iconst 0, 1) := by decide +kernel
theorem dX9_holds_84 : decode cX9_holds 84 = .ok (.ireturn, 1) := by decide +kernel
def jX9_holds_58 (p0 p1 p2 p3 : Int) (H : PH) : RO :=
  (f_X9_workOut p0 p2 H).bind fun z1 => (ld 25 z1.2 p0 45).bind fun x2 => (ld 2 z1.2 x2 (w32 ((w32 ((w32 (6 * p1)) + p3)) + 1))).bind fun x3 => (if x3 = 0 then some (0, z1.2)
  else some (1, z1.2))
set_option maxHeartbeats 4000000 in
theorem jX9_holds_58_ok {E : PE} {rr : Int} {HH : PH} (F : FX E cX9_holds RX9) (q : QE E (some (vi rr)) HH (some .int)) (hn : nLof E = 4) (hf : (roomOf E).frames = 4) (hl : (roomOf E).locals = 99) (p0 p1 p2 p3 : Int) (H : PH) (h : jX9_holds_58 p0 p1 p2 p3 H = some (rr, HH)) : PW E 58 [some (vr p0), some (vi p1), some (vi p2), some (vi p3)] [] H := by
  unfold jX9_holds_58 at h
  refine pw_aload_n (pc := 58) F dX9_holds_58 rfl ?_
  refine pw_iload_n (pc := 59) F dX9_holds_59 rfl ?_
  obtain ⟨z1, ez1, h⟩ := bnd h
  refine pw_callV (pc := 60) (as := [vi p2]) (st := []) (r := none) F 228 9 (by decide) rfl (fun l => m_X9_workOut l p0 p2 H z1.1 z1.2 ez1) g_3818fe93c5 g_7e06b14cc4 g_7b1f6500ce g_2759d91faa g_717afd008d hd_X9_workOut (rm_ok hf hl (by decide) (by decide)) rfl (vm_spec ez1).1 dX9_holds_60 rfl (stk' := []) rfl ?_
  refine pw_aload_n (pc := 63) F dX9_holds_63 rfl ?_
  obtain ⟨x2, ex2, h⟩ := bnd h
  refine pw_get (pc := 64) F 9 45 121 (by decide) (by decide) g_b75f1cdc97 inl_9 2 rfl dX9_holds_64 ex2 ?_
  refine pw_bipush (pc := 67) F 6 dX9_holds_67 (by decide) ?_
  refine pw_iload_n (pc := 69) F dX9_holds_69 rfl ?_
  refine pw_imul (pc := 70) F dX9_holds_70 ?_
  refine pw_iload_n (pc := 71) F dX9_holds_71 rfl ?_
  refine pw_iadd (pc := 72) F dX9_holds_72 ?_
  refine pw_iconst (pc := 73) F 1 dX9_holds_73 (by decide) ?_
  refine pw_iadd (pc := 74) F dX9_holds_74 ?_
  obtain ⟨x3, ex3, h⟩ := bnd h
  refine pw_zald (pc := 75) F dX9_holds_75 ex3 ?_
  refine pw_if_eq (pc := 76) F 83 dX9_holds_76 (by decide) (fun hc => ?_) (fun hc => ?_)
  · have h := iteT hc h
    refine pw_iconst (pc := 83) F 0 dX9_holds_83 (by decide) ?_
    cases h
    exact pw_iret (pc := 84) F q dX9_holds_84
  · have h := iteF hc h
    refine pw_iconst (pc := 79) F 1 dX9_holds_79 (by decide) ?_
    refine pw_goto (pc := 80) F 84 dX9_holds_80 (by decide) ?_
    cases h
    exact pw_iret (pc := 84) F q dX9_holds_84
def f_X9_holds (a0 a1 a2 a3 : Int) (H : PH) : RO := vm 9 a0 H <|
  (f_X9_isCondition a0 a1 H).bind fun z1 => (if z1.1 = 0 then some ((-1), z1.2)
  else (f_X9_isHousehold a0 a2 z1.2).bind fun z2 => (if z2.1 = 0 then some ((-1), z2.2)
  else (ld 25 z2.2 a0 25).bind fun x3 => (ld 0 z2.2 x3 a1).bind fun x4 => (if x4 ≥ 0 then (ld 25 z2.2 a0 25).bind fun x5 => (ld 0 z2.2 x5 a1).bind fun x6 => (f_X9_persons a0 a2 x6 z2.2).bind fun z7 => (f_X9_in a3 0 (w32 (z7.1 - 1)) z7.2).bind fun z8 => (if z8.1 ≠ 0 then jX9_holds_58 a0 a1 a2 a3 z8.2
  else some ((-1), z8.2))
  else (if a3 = (-1) then jX9_holds_58 a0 a1 a2 a3 z2.2
  else some ((-1), z2.2)))))
set_option maxHeartbeats 4000000 in
theorem m_X9_holds (l : Launch) (a0 a1 a2 a3 : Int) (H : PH) (rr : Int) (HH : PH) (h : f_X9_holds a0 a1 a2 a3 H = some (rr, HH)) : CT l yX9_holds cX9_holds 4 (some .int) 4 99 [vr a0, vi a1, vi a2, vi a3] H (some (vi rr)) HH := by
  refine CT.of RX9 (by decide) rfl [some (vr a0), some (vi a1), some (vi a2), some (vi a3)] rfl rfl ?_
  intro E F q hn hf hl hm
  unfold f_X9_holds at h
  obtain ⟨hv, h⟩ := vm_spec h
  refine pw_aload_n (pc := 0) F dX9_holds_0 rfl ?_
  refine pw_iload_n (pc := 1) F dX9_holds_1 rfl ?_
  obtain ⟨z1, ez1, h⟩ := bnd h
  refine pw_callV (pc := 2) (as := [vi a1]) (st := []) (r := (some (vi z1.1))) F 178 9 (by decide) rfl (fun l => m_X9_isCondition l a0 a1 H z1.1 z1.2 ez1) g_7eb587748a g_679f284a6f g_67cc1a7d68 g_2759d91faa g_8ca3f2c8d6 hd_X9_isCondition (rm_ok hf hl (by decide) (by decide)) rfl (vm_spec ez1).1 dX9_holds_2 rfl (stk' := [vi z1.1]) rfl ?_
  refine pw_if_eq (pc := 5) F 56 dX9_holds_5 (by decide) (fun hc => ?_) (fun hc => ?_)
  · have h := iteT hc h
    refine pw_iconst (pc := 56) F (-1) dX9_holds_56 (by decide) ?_
    cases h
    exact pw_iret (pc := 57) F q dX9_holds_57
  · have h := iteF hc h
    refine pw_aload_n (pc := 8) F dX9_holds_8 rfl ?_
    refine pw_iload_n (pc := 9) F dX9_holds_9 rfl ?_
    obtain ⟨z2, ez2, h⟩ := bnd h
    refine pw_callV (pc := 10) (as := [vi a2]) (st := []) (r := (some (vi z2.1))) F 181 9 (by decide) rfl (fun l => m_X9_isHousehold l a0 a2 z1.2 z2.1 z2.2 ez2) g_9d408e4d4c g_afb7bfae38 g_247017f9f2 g_2759d91faa g_8e41464c49 hd_X9_isHousehold (rm_ok hf hl (by decide) (by decide)) rfl (vm_spec ez2).1 dX9_holds_10 rfl (stk' := [vi z2.1]) rfl ?_
    refine pw_if_eq (pc := 13) F 56 dX9_holds_13 (by decide) (fun hc => ?_) (fun hc => ?_)
    · have h := iteT hc h
      refine pw_iconst (pc := 56) F (-1) dX9_holds_56 (by decide) ?_
      cases h
      exact pw_iret (pc := 57) F q dX9_holds_57
    · have h := iteF hc h
      refine pw_aload_n (pc := 16) F dX9_holds_16 rfl ?_
      obtain ⟨x3, ex3, h⟩ := bnd h
      refine pw_get (pc := 17) F 9 25 78 (by decide) (by decide) g_26e1dbdafb inl_9 2 rfl dX9_holds_17 ex3 ?_
      refine pw_iload_n (pc := 20) F dX9_holds_20 rfl ?_
      obtain ⟨x4, ex4, h⟩ := bnd h
      refine pw_iald (pc := 21) F dX9_holds_21 ex4 ?_
      refine pw_if_ge (pc := 22) F 33 dX9_holds_22 (by decide) (fun hc => ?_) (fun hc => ?_)
      · have h := iteT hc h
        refine pw_iload_n (pc := 33) F dX9_holds_33 rfl ?_
        refine pw_i2l (pc := 34) F dX9_holds_34 ?_
        refine pw_lconst (pc := 35) F 0 dX9_holds_35 (by decide) ?_
        refine pw_aload_n (pc := 36) F dX9_holds_36 rfl ?_
        refine pw_iload_n (pc := 37) F dX9_holds_37 rfl ?_
        refine pw_aload_n (pc := 38) F dX9_holds_38 rfl ?_
        obtain ⟨x5, ex5, h⟩ := bnd h
        refine pw_get (pc := 39) F 9 25 78 (by decide) (by decide) g_26e1dbdafb inl_9 2 rfl dX9_holds_39 ex5 ?_
        refine pw_iload_n (pc := 42) F dX9_holds_42 rfl ?_
        obtain ⟨x6, ex6, h⟩ := bnd h
        refine pw_iald (pc := 43) F dX9_holds_43 ex6 ?_
        obtain ⟨z7, ez7, h⟩ := bnd h
        refine pw_callV (pc := 44) (as := [vi a2, vi x6]) (st := [vl 0, vl a3]) (r := (some (vi z7.1))) F 184 9 (by decide) rfl (fun l => m_X9_persons l a0 a2 x6 z2.2 z7.1 z7.2 ez7) g_de33c5095d g_d70a88cf42 g_2197e2f2b8 g_2759d91faa g_c55f0dc1c5 hd_X9_persons (rm_ok hf hl (by decide) (by decide)) rfl (vm_spec ez7).1 dX9_holds_44 rfl (stk' := [vi z7.1, vl 0, vl a3]) rfl ?_
        refine pw_iconst (pc := 47) F 1 dX9_holds_47 (by decide) ?_
        refine pw_isub (pc := 48) F dX9_holds_48 ?_
        refine pw_i2l (pc := 49) F dX9_holds_49 ?_
        obtain ⟨z8, ez8, h⟩ := bnd h
        refine pw_callS (pc := 50) (as := [vl a3, vl 0, vl (w32 (z7.1 - 1))]) (st := []) (r := (some (vi z8.1))) F 140 (fun l => m_X9_in l a3 0 (w32 (z7.1 - 1)) z7.2 z8.1 z8.2 ez8) g_0174c906e2 g_3fadeb3198 g_2759d91faa g_c0c30bc7de hd_X9_in (rm_ok hf hl (by decide) (by decide)) rfl dX9_holds_50 rfl (stk' := [vi z8.1]) rfl ?_
        refine pw_if_ne (pc := 53) F 58 dX9_holds_53 (by decide) (fun hc => ?_) (fun hc => ?_)
        · have h := iteT hc h
          exact pw_mask [true, true, true, true] (ls' := [some (vr a0), some (vi a1), some (vi a2), some (vi a3)]) rfl (jX9_holds_58_ok F q hn hf hl a0 a1 a2 a3 z8.2 h)
        · have h := iteF hc h
          refine pw_iconst (pc := 56) F (-1) dX9_holds_56 (by decide) ?_
          cases h
          exact pw_iret (pc := 57) F q dX9_holds_57
      · have h := iteF hc h
        refine pw_iload_n (pc := 25) F dX9_holds_25 rfl ?_
        refine pw_iconst (pc := 26) F (-1) dX9_holds_26 (by decide) ?_
        refine pw_icmp_eq (pc := 27) F 58 dX9_holds_27 (by decide) (fun hc => ?_) (fun hc => ?_)
        · have h := iteT hc h
          exact pw_mask [true, true, true, true] (ls' := [some (vr a0), some (vi a1), some (vi a2), some (vi a3)]) rfl (jX9_holds_58_ok F q hn hf hl a0 a1 a2 a3 z2.2 h)
        · have h := iteF hc h
          refine pw_goto (pc := 30) F 56 dX9_holds_30 (by decide) ?_
          refine pw_iconst (pc := 56) F (-1) dX9_holds_56 (by decide) ?_
          cases h
          exact pw_iret (pc := 57) F q dX9_holds_57
/-! HouseholdVaultModel.filter(II)I -/
theorem dX9_filter_0 : decode cX9_filter 0 = .ok (.aload_n 0, 1) := by decide +kernel
theorem dX9_filter_1 : decode cX9_filter 1 = .ok (.iload_n 1, 1) := by decide +kernel
theorem dX9_filter_2 : decode cX9_filter 2 = .ok (.invokevirtual 163, 3) := by decide +kernel
theorem dX9_filter_5 : decode cX9_filter 5 = .ok (.ifCond .eq 16, 3) := by decide +kernel
theorem dX9_filter_8 : decode cX9_filter 8 = .ok (.iload_n 2, 1) := by decide +kernel
theorem dX9_filter_9 : decode cX9_filter 9 = .ok (.iconst (-1), 1) := by decide +kernel
theorem dX9_filter_10 : decode cX9_filter 10 = .ok (.if_icmp .eq 13, 3) := by decide +kernel
theorem dX9_filter_13 : decode cX9_filter 13 = .ok (.aload_n 0, 1) := by decide +kernel
theorem dX9_filter_14 : decode cX9_filter 14 = .ok (.iload_n 2, 1) := by decide +kernel
theorem dX9_filter_15 : decode cX9_filter 15 = .ok (.invokevirtual 178, 3) := by decide +kernel
theorem dX9_filter_18 : decode cX9_filter 18 = .ok (.ifCond .ne 5, 3) := by decide +kernel
theorem dX9_filter_21 : decode cX9_filter 21 = .ok (.iconst (-1), 1) := by decide +kernel
theorem dX9_filter_22 : decode cX9_filter 22 = .ok (.ireturn, 1) := by decide +kernel
theorem dX9_filter_23 : decode cX9_filter 23 = .ok (.aload_n 0, 1) := by decide +kernel
theorem dX9_filter_24 : decode cX9_filter 24 = .ok (.getfield 16, 3) := by decide +kernel
theorem dX9_filter_27 : decode cX9_filter 27 = .ok (.iload_n 1, 1) := by decide +kernel
theorem dX9_filter_28 : decode cX9_filter 28 = .ok (.iaload, 1) := by decide +kernel
theorem dX9_filter_29 : decode cX9_filter 29 = .ok (.ifCond .gt 41, 3) := by decide +kernel
theorem dX9_filter_32 : decode cX9_filter 32 = .ok (.iload_n 2, 1) := by decide +kernel
theorem dX9_filter_33 : decode cX9_filter 33 = .ok (.ifCond .lt 40, 3) := by decide +kernel
theorem dX9_filter_36 : decode cX9_filter 36 = .ok (.aload_n 0, 1) := by decide +kernel
theorem dX9_filter_37 : decode cX9_filter 37 = .ok (.getfield 78, 3) := by decide +kernel
theorem dX9_filter_40 : decode cX9_filter 40 = .ok (.iload_n 2, 1) := by decide +kernel
theorem dX9_filter_41 : decode cX9_filter 41 = .ok (.iaload, 1) := by decide +kernel
theorem dX9_filter_42 : decode cX9_filter 42 = .ok (.ifCond .lt 18, 3) := by decide +kernel
theorem dX9_filter_45 : decode cX9_filter 45 = .ok (.aload_n 0, 1) := by decide +kernel
theorem dX9_filter_46 : decode cX9_filter 46 = .ok (.getfield 78, 3) := by decide +kernel
theorem dX9_filter_49 : decode cX9_filter 49 = .ok (.iload_n 2, 1) := by decide +kernel
theorem dX9_filter_50 : decode cX9_filter 50 = .ok (.iaload, 1) := by decide +kernel
theorem dX9_filter_51 : decode cX9_filter 51 = .ok (.aload_n 0, 1) := by decide +kernel
theorem dX9_filter_52 : decode cX9_filter 52 = .ok (.getfield 13, 3) := by decide +kernel
theorem dX9_filter_55 : decode cX9_filter 55 = .ok (.iload_n 1, 1) := by decide +kernel
theorem dX9_filter_56 : decode cX9_filter 56 = .ok (.iaload, 1) := by decide +kernel
theorem dX9_filter_57 : decode cX9_filter 57 = .ok (.if_icmp .ne 13, 3) := by decide +kernel
theorem dX9_filter_60 : decode cX9_filter 60 = .ok (.aload_n 0, 1) := by decide +kernel
theorem dX9_filter_61 : decode cX9_filter 61 = .ok (.getfield 84, 3) := by decide +kernel
theorem dX9_filter_64 : decode cX9_filter 64 = .ok (.iload_n 2, 1) := by decide +kernel
theorem dX9_filter_65 : decode cX9_filter 65 = .ok (.iaload, 1) := by decide +kernel
theorem dX9_filter_66 : decode cX9_filter 66 = .ok (.iload_n 1, 1) := by decide +kernel
theorem dX9_filter_67 : decode cX9_filter 67 = .ok (.if_icmp .lt 6, 3) := by decide +kernel
theorem dX9_filter_70 : decode cX9_filter 70 = .ok (.bipush (-2), 2) := by decide +kernel
theorem dX9_filter_72 : decode cX9_filter 72 = .ok (.ireturn, 1) := by decide +kernel
theorem dX9_filter_73 : decode cX9_filter 73 = .ok (.aload_n 0, 1) := by decide +kernel
theorem dX9_filter_74 : decode cX9_filter 74 = .ok (.getfield 25, 3) := by decide +kernel
theorem dX9_filter_77 : decode cX9_filter 77 = .ok (.iload_n 1, 1) := by decide +kernel
theorem dX9_filter_78 : decode cX9_filter 78 = .ok (.iload_n 2, 1) := by decide +kernel
theorem dX9_filter_79 : decode cX9_filter 79 = .ok (.iastore, 1) := by decide +kernel
theorem dX9_filter_80 : decode cX9_filter 80 = .ok (.iconst 1, 1) := by decide +kernel
theorem dX9_filter_81 : decode cX9_filter 81 = .ok (.ireturn, 1) := by decide +kernel
def jX9_filter_73 (p0 p1 p2 : Int) (H : PH) : RO :=
  (ld 25 H p0 6).bind fun x1 => (stv 0 H x1 p1 p2).bind fun H2 => some (1, H2)
set_option maxHeartbeats 4000000 in
theorem jX9_filter_73_ok {E : PE} {rr : Int} {HH : PH} (F : FX E cX9_filter RX9) (q : QE E (some (vi rr)) HH (some .int)) (hn : nLof E = 3) (hf : (roomOf E).frames = 2) (hl : (roomOf E).locals = 46) (p0 p1 p2 : Int) (H : PH) (h : jX9_filter_73 p0 p1 p2 H = some (rr, HH)) : PW E 73 [some (vr p0), some (vi p1), some (vi p2)] [] H := by
  unfold jX9_filter_73 at h
  refine pw_aload_n (pc := 73) F dX9_filter_73 rfl ?_
  obtain ⟨x1, ex1, h⟩ := bnd h
  refine pw_get (pc := 74) F 9 6 25 (by decide) (by decide) g_10019bf10f inl_9 2 rfl dX9_filter_74 ex1 ?_
  refine pw_iload_n (pc := 77) F dX9_filter_77 rfl ?_
  refine pw_iload_n (pc := 78) F dX9_filter_78 rfl ?_
  obtain ⟨H2, eH2, h⟩ := bnd h
  refine pw_iast (pc := 79) F dX9_filter_79 eH2 ?_
  refine pw_iconst (pc := 80) F 1 dX9_filter_80 (by decide) ?_
  cases h
  exact pw_iret (pc := 81) F q dX9_filter_81
def jX9_filter_60 (p0 p1 p2 : Int) (H : PH) : RO :=
  (ld 25 H p0 27).bind fun x1 => (ld 0 H x1 p2).bind fun x2 => (if x2 < p1 then jX9_filter_73 p0 p1 p2 H
  else some ((-2), H))
set_option maxHeartbeats 4000000 in
theorem jX9_filter_60_ok {E : PE} {rr : Int} {HH : PH} (F : FX E cX9_filter RX9) (q : QE E (some (vi rr)) HH (some .int)) (hn : nLof E = 3) (hf : (roomOf E).frames = 2) (hl : (roomOf E).locals = 46) (p0 p1 p2 : Int) (H : PH) (h : jX9_filter_60 p0 p1 p2 H = some (rr, HH)) : PW E 60 [some (vr p0), some (vi p1), some (vi p2)] [] H := by
  unfold jX9_filter_60 at h
  refine pw_aload_n (pc := 60) F dX9_filter_60 rfl ?_
  obtain ⟨x1, ex1, h⟩ := bnd h
  refine pw_get (pc := 61) F 9 27 84 (by decide) (by decide) g_b1cbbee2b7 inl_9 2 rfl dX9_filter_61 ex1 ?_
  refine pw_iload_n (pc := 64) F dX9_filter_64 rfl ?_
  obtain ⟨x2, ex2, h⟩ := bnd h
  refine pw_iald (pc := 65) F dX9_filter_65 ex2 ?_
  refine pw_iload_n (pc := 66) F dX9_filter_66 rfl ?_
  refine pw_icmp_lt (pc := 67) F 73 dX9_filter_67 (by decide) (fun hc => ?_) (fun hc => ?_)
  · have h := iteT hc h
    exact pw_mask [true, true, true] (ls' := [some (vr p0), some (vi p1), some (vi p2)]) rfl (jX9_filter_73_ok F q hn hf hl p0 p1 p2 H h)
  · have h := iteF hc h
    refine pw_bipush (pc := 70) F (-2) dX9_filter_70 (by decide) ?_
    cases h
    exact pw_iret (pc := 72) F q dX9_filter_72
def jX9_filter_23 (p0 p1 p2 : Int) (H : PH) : RO :=
  (ld 25 H p0 3).bind fun x1 => (ld 0 H x1 p1).bind fun x2 => (if x2 > 0 then some ((-2), H)
  else (if p2 < 0 then jX9_filter_73 p0 p1 p2 H
  else (ld 25 H p0 25).bind fun x3 => (ld 0 H x3 p2).bind fun x4 => (if x4 < 0 then jX9_filter_60 p0 p1 p2 H
  else (ld 25 H p0 25).bind fun x5 => (ld 0 H x5 p2).bind fun x6 => (ld 25 H p0 2).bind fun x7 => (ld 0 H x7 p1).bind fun x8 => (if x6 ≠ x8 then some ((-2), H)
  else jX9_filter_60 p0 p1 p2 H))))
set_option maxHeartbeats 4000000 in
theorem jX9_filter_23_ok {E : PE} {rr : Int} {HH : PH} (F : FX E cX9_filter RX9) (q : QE E (some (vi rr)) HH (some .int)) (hn : nLof E = 3) (hf : (roomOf E).frames = 2) (hl : (roomOf E).locals = 46) (p0 p1 p2 : Int) (H : PH) (h : jX9_filter_23 p0 p1 p2 H = some (rr, HH)) : PW E 23 [some (vr p0), some (vi p1), some (vi p2)] [] H := by
  unfold jX9_filter_23 at h
  refine pw_aload_n (pc := 23) F dX9_filter_23 rfl ?_
  obtain ⟨x1, ex1, h⟩ := bnd h
  refine pw_get (pc := 24) F 9 3 16 (by decide) (by decide) g_bd19d270ba inl_9 2 rfl dX9_filter_24 ex1 ?_
  refine pw_iload_n (pc := 27) F dX9_filter_27 rfl ?_
  obtain ⟨x2, ex2, h⟩ := bnd h
  refine pw_iald (pc := 28) F dX9_filter_28 ex2 ?_
  refine pw_if_gt (pc := 29) F 70 dX9_filter_29 (by decide) (fun hc => ?_) (fun hc => ?_)
  · have h := iteT hc h
    refine pw_bipush (pc := 70) F (-2) dX9_filter_70 (by decide) ?_
    cases h
    exact pw_iret (pc := 72) F q dX9_filter_72
  · have h := iteF hc h
    refine pw_iload_n (pc := 32) F dX9_filter_32 rfl ?_
    refine pw_if_lt (pc := 33) F 73 dX9_filter_33 (by decide) (fun hc => ?_) (fun hc => ?_)
    · have h := iteT hc h
      exact pw_mask [true, true, true] (ls' := [some (vr p0), some (vi p1), some (vi p2)]) rfl (jX9_filter_73_ok F q hn hf hl p0 p1 p2 H h)
    · have h := iteF hc h
      refine pw_aload_n (pc := 36) F dX9_filter_36 rfl ?_
      obtain ⟨x3, ex3, h⟩ := bnd h
      refine pw_get (pc := 37) F 9 25 78 (by decide) (by decide) g_26e1dbdafb inl_9 2 rfl dX9_filter_37 ex3 ?_
      refine pw_iload_n (pc := 40) F dX9_filter_40 rfl ?_
      obtain ⟨x4, ex4, h⟩ := bnd h
      refine pw_iald (pc := 41) F dX9_filter_41 ex4 ?_
      refine pw_if_lt (pc := 42) F 60 dX9_filter_42 (by decide) (fun hc => ?_) (fun hc => ?_)
      · have h := iteT hc h
        exact pw_mask [true, true, true] (ls' := [some (vr p0), some (vi p1), some (vi p2)]) rfl (jX9_filter_60_ok F q hn hf hl p0 p1 p2 H h)
      · have h := iteF hc h
        refine pw_aload_n (pc := 45) F dX9_filter_45 rfl ?_
        obtain ⟨x5, ex5, h⟩ := bnd h
        refine pw_get (pc := 46) F 9 25 78 (by decide) (by decide) g_26e1dbdafb inl_9 2 rfl dX9_filter_46 ex5 ?_
        refine pw_iload_n (pc := 49) F dX9_filter_49 rfl ?_
        obtain ⟨x6, ex6, h⟩ := bnd h
        refine pw_iald (pc := 50) F dX9_filter_50 ex6 ?_
        refine pw_aload_n (pc := 51) F dX9_filter_51 rfl ?_
        obtain ⟨x7, ex7, h⟩ := bnd h
        refine pw_get (pc := 52) F 9 2 13 (by decide) (by decide) g_0c2899f53f inl_9 2 rfl dX9_filter_52 ex7 ?_
        refine pw_iload_n (pc := 55) F dX9_filter_55 rfl ?_
        obtain ⟨x8, ex8, h⟩ := bnd h
        refine pw_iald (pc := 56) F dX9_filter_56 ex8 ?_
        refine pw_icmp_ne (pc := 57) F 70 dX9_filter_57 (by decide) (fun hc => ?_) (fun hc => ?_)
        · have h := iteT hc h
          refine pw_bipush (pc := 70) F (-2) dX9_filter_70 (by decide) ?_
          cases h
          exact pw_iret (pc := 72) F q dX9_filter_72
        · have h := iteF hc h
          exact pw_mask [true, true, true] (ls' := [some (vr p0), some (vi p1), some (vi p2)]) rfl (jX9_filter_60_ok F q hn hf hl p0 p1 p2 H h)
def f_X9_filter (a0 a1 a2 : Int) (H : PH) : RO := vm 9 a0 H <|
  (f_X9_isQuestion a0 a1 H).bind fun z1 => (if z1.1 = 0 then some ((-1), z1.2)
  else (if a2 = (-1) then jX9_filter_23 a0 a1 a2 z1.2
  else (f_X9_isCondition a0 a2 z1.2).bind fun z2 => (if z2.1 ≠ 0 then jX9_filter_23 a0 a1 a2 z2.2
  else some ((-1), z2.2))))
set_option maxHeartbeats 4000000 in
theorem m_X9_filter (l : Launch) (a0 a1 a2 : Int) (H : PH) (rr : Int) (HH : PH) (h : f_X9_filter a0 a1 a2 H = some (rr, HH)) : CT l yX9_filter cX9_filter 3 (some .int) 2 46 [vr a0, vi a1, vi a2] H (some (vi rr)) HH := by
  refine CT.of RX9 (by decide) rfl [some (vr a0), some (vi a1), some (vi a2)] rfl rfl ?_
  intro E F q hn hf hl hm
  unfold f_X9_filter at h
  obtain ⟨hv, h⟩ := vm_spec h
  refine pw_aload_n (pc := 0) F dX9_filter_0 rfl ?_
  refine pw_iload_n (pc := 1) F dX9_filter_1 rfl ?_
  obtain ⟨z1, ez1, h⟩ := bnd h
  refine pw_callV (pc := 2) (as := [vi a1]) (st := []) (r := (some (vi z1.1))) F 163 9 (by decide) rfl (fun l => m_X9_isQuestion l a0 a1 H z1.1 z1.2 ez1) g_26236cf357 g_504499df23 g_65a9490ac1 g_2759d91faa g_4f2165d1ca hd_X9_isQuestion (rm_ok hf hl (by decide) (by decide)) rfl (vm_spec ez1).1 dX9_filter_2 rfl (stk' := [vi z1.1]) rfl ?_
  refine pw_if_eq (pc := 5) F 21 dX9_filter_5 (by decide) (fun hc => ?_) (fun hc => ?_)
  · have h := iteT hc h
    refine pw_iconst (pc := 21) F (-1) dX9_filter_21 (by decide) ?_
    cases h
    exact pw_iret (pc := 22) F q dX9_filter_22
  · have h := iteF hc h
    refine pw_iload_n (pc := 8) F dX9_filter_8 rfl ?_
    refine pw_iconst (pc := 9) F (-1) dX9_filter_9 (by decide) ?_
    refine pw_icmp_eq (pc := 10) F 23 dX9_filter_10 (by decide) (fun hc => ?_) (fun hc => ?_)
    · have h := iteT hc h
      exact pw_mask [true, true, true] (ls' := [some (vr a0), some (vi a1), some (vi a2)]) rfl (jX9_filter_23_ok F q hn hf hl a0 a1 a2 z1.2 h)
    · have h := iteF hc h
      refine pw_aload_n (pc := 13) F dX9_filter_13 rfl ?_
      refine pw_iload_n (pc := 14) F dX9_filter_14 rfl ?_
      obtain ⟨z2, ez2, h⟩ := bnd h
      refine pw_callV (pc := 15) (as := [vi a2]) (st := []) (r := (some (vi z2.1))) F 178 9 (by decide) rfl (fun l => m_X9_isCondition l a0 a2 z1.2 z2.1 z2.2 ez2) g_7eb587748a g_679f284a6f g_67cc1a7d68 g_2759d91faa g_8ca3f2c8d6 hd_X9_isCondition (rm_ok hf hl (by decide) (by decide)) rfl (vm_spec ez2).1 dX9_filter_15 rfl (stk' := [vi z2.1]) rfl ?_
      refine pw_if_ne (pc := 18) F 23 dX9_filter_18 (by decide) (fun hc => ?_) (fun hc => ?_)
      · have h := iteT hc h
        exact pw_mask [true, true, true] (ls' := [some (vr a0), some (vi a1), some (vi a2)]) rfl (jX9_filter_23_ok F q hn hf hl a0 a1 a2 z2.2 h)
      · have h := iteF hc h
        refine pw_iconst (pc := 21) F (-1) dX9_filter_21 (by decide) ?_
        cases h
        exact pw_iret (pc := 22) F q dX9_filter_22
/-! HouseholdVaultModel.isAgainst(II)Z -/
theorem dX9_isAgainst_0 : decode cX9_isAgainst 0 = .ok (.bipush 6, 2) := by decide +kernel
theorem dX9_isAgainst_2 : decode cX9_isAgainst 2 = .ok (.iload_n 1, 1) := by decide +kernel
theorem dX9_isAgainst_3 : decode cX9_isAgainst 3 = .ok (.imul, 1) := by decide +kernel
theorem dX9_isAgainst_4 : decode cX9_isAgainst 4 = .ok (.iload_n 2, 1) := by decide +kernel
theorem dX9_isAgainst_5 : decode cX9_isAgainst 5 = .ok (.iadd, 1) := by decide +kernel
theorem dX9_isAgainst_6 : decode cX9_isAgainst 6 = .ok (.istore_n 3, 1) := by decide +kernel
theorem dX9_isAgainst_7 : decode cX9_isAgainst 7 = .ok (.aload_n 0, 1) := by decide +kernel
theorem dX9_isAgainst_8 : decode cX9_isAgainst 8 = .ok (.getfield 118, 3) := by decide +kernel
theorem dX9_isAgainst_11 : decode cX9_isAgainst 11 = .ok (.iload_n 3, 1) := by decide +kernel
theorem dX9_isAgainst_12 : decode cX9_isAgainst 12 = .ok (.iaload, 1) := by decide +kernel
theorem dX9_isAgainst_13 : decode cX9_isAgainst 13 = .ok (.ifCond .ne 42, 3) := by decide +kernel
theorem dX9_isAgainst_16 : decode cX9_isAgainst 16 = .ok (.aload_n 0, 1) := by decide +kernel
theorem dX9_isAgainst_17 : decode cX9_isAgainst 17 = .ok (.getfield 7, 3) := by decide +kernel
theorem dX9_isAgainst_20 : decode cX9_isAgainst 20 = .ok (.iload_n 1, 1) := by decide +kernel
theorem dX9_isAgainst_21 : decode cX9_isAgainst 21 = .ok (.iaload, 1) := by decide +kernel
theorem dX9_isAgainst_22 : decode cX9_isAgainst 22 = .ok (.iconst 5, 1) := by decide +kernel
theorem dX9_isAgainst_23 : decode cX9_isAgainst 23 = .ok (.if_icmp .ne 14, 3) := by decide +kernel
theorem dX9_isAgainst_26 : decode cX9_isAgainst 26 = .ok (.aload_n 0, 1) := by decide +kernel
theorem dX9_isAgainst_27 : decode cX9_isAgainst 27 = .ok (.getfield 115, 3) := by decide +kernel
theorem dX9_isAgainst_30 : decode cX9_isAgainst 30 = .ok (.iload_n 3, 1) := by decide +kernel
theorem dX9_isAgainst_31 : decode cX9_isAgainst 31 = .ok (.laload, 1) := by decide +kernel
theorem dX9_isAgainst_32 : decode cX9_isAgainst 32 = .ok (.lconst 0, 1) := by decide +kernel
theorem dX9_isAgainst_33 : decode cX9_isAgainst 33 = .ok (.lcmp, 1) := by decide +kernel
theorem dX9_isAgainst_34 : decode cX9_isAgainst 34 = .ok (.ifCond .le 21, 3) := by decide +kernel
theorem dX9_isAgainst_37 : decode cX9_isAgainst 37 = .ok (.aload_n 0, 1) := by decide +kernel
theorem dX9_isAgainst_38 : decode cX9_isAgainst 38 = .ok (.aload_n 0, 1) := by decide +kernel
theorem dX9_isAgainst_39 : decode cX9_isAgainst 39 = .ok (.getfield 25, 3) := by decide +kernel
theorem dX9_isAgainst_42 : decode cX9_isAgainst 42 = .ok (.iload_n 1, 1) := by decide +kernel
theorem dX9_isAgainst_43 : decode cX9_isAgainst 43 = .ok (.iaload, 1) := by decide +kernel
theorem dX9_isAgainst_44 : decode cX9_isAgainst 44 = .ok (.iload_n 2, 1) := by decide +kernel
theorem dX9_isAgainst_45 : decode cX9_isAgainst 45 = .ok (.invokevirtual 219, 3) := by decide +kernel
theorem dX9_isAgainst_48 : decode cX9_isAgainst 48 = .ok (.ifCond .ne 7, 3) := by decide +kernel
theorem dX9_isAgainst_51 : decode cX9_isAgainst 51 = .ok (.iconst 1, 1) := by decide +kernel
theorem dX9_isAgainst_52 : decode cX9_isAgainst 52 = .ok (.goto 4, 3) := by decide +kernel
theorem dX9_isAgainst_55 : decode cX9_isAgainst 55 = .ok (.iconst 0, 1) := by decide +kernel
theorem dX9_isAgainst_56 : decode cX9_isAgainst 56 = .ok (.ireturn, 1) := by decide +kernel
def jX9_isAgainst_37 (p0 p1 p2 : Int) (H : PH) : RO :=
  (ld 25 H p0 6).bind fun x1 => (ld 0 H x1 p1).bind fun x2 => (f_X9_isSaid p0 x2 p2 H).bind fun z3 => (if z3.1 ≠ 0 then some (0, z3.2)
  else some (1, z3.2))
set_option maxHeartbeats 4000000 in
theorem jX9_isAgainst_37_ok {E : PE} {rr : Int} {HH : PH} (F : FX E cX9_isAgainst RX9) (q : QE E (some (vi rr)) HH (some .boolean)) (hn : nLof E = 4) (hf : (roomOf E).frames = 1) (hl : (roomOf E).locals = 22) (p0 p1 p2 : Int) (H : PH) (h : jX9_isAgainst_37 p0 p1 p2 H = some (rr, HH)) : PW E 37 [some (vr p0), some (vi p1), some (vi p2), none] [] H := by
  unfold jX9_isAgainst_37 at h
  refine pw_aload_n (pc := 37) F dX9_isAgainst_37 rfl ?_
  refine pw_aload_n (pc := 38) F dX9_isAgainst_38 rfl ?_
  obtain ⟨x1, ex1, h⟩ := bnd h
  refine pw_get (pc := 39) F 9 6 25 (by decide) (by decide) g_10019bf10f inl_9 2 rfl dX9_isAgainst_39 ex1 ?_
  refine pw_iload_n (pc := 42) F dX9_isAgainst_42 rfl ?_
  obtain ⟨x2, ex2, h⟩ := bnd h
  refine pw_iald (pc := 43) F dX9_isAgainst_43 ex2 ?_
  refine pw_iload_n (pc := 44) F dX9_isAgainst_44 rfl ?_
  obtain ⟨z3, ez3, h⟩ := bnd h
  refine pw_callV (pc := 45) (as := [vi x2, vi p2]) (st := []) (r := (some (vi z3.1))) F 219 9 (by decide) rfl (fun l => m_X9_isSaid l p0 x2 p2 H z3.1 z3.2 ez3) g_2e24908044 g_d693ff4c1a g_a73f6b46fd g_2759d91faa g_cc067aace1 hd_X9_isSaid (rm_ok hf hl (by decide) (by decide)) rfl (vm_spec ez3).1 dX9_isAgainst_45 rfl (stk' := [vi z3.1]) rfl ?_
  refine pw_if_ne (pc := 48) F 55 dX9_isAgainst_48 (by decide) (fun hc => ?_) (fun hc => ?_)
  · have h := iteT hc h
    refine pw_iconst (pc := 55) F 0 dX9_isAgainst_55 (by decide) ?_
    cases h
    exact pw_zret (pc := 56) F q (by decide) dX9_isAgainst_56
  · have h := iteF hc h
    refine pw_iconst (pc := 51) F 1 dX9_isAgainst_51 (by decide) ?_
    refine pw_goto (pc := 52) F 56 dX9_isAgainst_52 (by decide) ?_
    cases h
    exact pw_zret (pc := 56) F q (by decide) dX9_isAgainst_56
def f_X9_isAgainst (a0 a1 a2 : Int) (H : PH) : RO := vm 9 a0 H <|
  (ld 25 H a0 44).bind fun x1 => (ld 0 H x1 (w32 ((w32 (6 * a1)) + a2))).bind fun x2 => (if x2 ≠ 0 then some (0, H)
  else (ld 25 H a0 1).bind fun x3 => (ld 0 H x3 a1).bind fun x4 => (if x4 ≠ 5 then jX9_isAgainst_37 a0 a1 a2 H
  else (ld 25 H a0 43).bind fun x5 => (ld 1 H x5 (w32 ((w32 (6 * a1)) + a2))).bind fun x6 => (if (lc x6 0) ≤ 0 then some (0, H)
  else jX9_isAgainst_37 a0 a1 a2 H)))
set_option maxHeartbeats 4000000 in
theorem m_X9_isAgainst (l : Launch) (a0 a1 a2 : Int) (H : PH) (rr : Int) (HH : PH) (h : f_X9_isAgainst a0 a1 a2 H = some (rr, HH)) : CT l yX9_isAgainst cX9_isAgainst 4 (some .boolean) 1 22 [vr a0, vi a1, vi a2] H (some (vi rr)) HH := by
  refine CT.of RX9 (by decide) rfl [some (vr a0), some (vi a1), some (vi a2), none] rfl rfl ?_
  intro E F q hn hf hl hm
  unfold f_X9_isAgainst at h
  obtain ⟨hv, h⟩ := vm_spec h
  refine pw_bipush (pc := 0) F 6 dX9_isAgainst_0 (by decide) ?_
  refine pw_iload_n (pc := 2) F dX9_isAgainst_2 rfl ?_
  refine pw_imul (pc := 3) F dX9_isAgainst_3 ?_
  refine pw_iload_n (pc := 4) F dX9_isAgainst_4 rfl ?_
  refine pw_iadd (pc := 5) F dX9_isAgainst_5 ?_
  refine pw_istore_n (pc := 6) F dX9_isAgainst_6 (lt_nl hn (by decide)) [some (vr a0), some (vi a1), some (vi a2), some (vi (w32 ((w32 (6 * a1)) + a2)))] rfl ?_
  refine pw_aload_n (pc := 7) F dX9_isAgainst_7 rfl ?_
  obtain ⟨x1, ex1, h⟩ := bnd h
  refine pw_get (pc := 8) F 9 44 118 (by decide) (by decide) g_5be5e353a9 inl_9 2 rfl dX9_isAgainst_8 ex1 ?_
  refine pw_iload_n (pc := 11) F dX9_isAgainst_11 rfl ?_
  obtain ⟨x2, ex2, h⟩ := bnd h
  refine pw_iald (pc := 12) F dX9_isAgainst_12 ex2 ?_
  refine pw_if_ne (pc := 13) F 55 dX9_isAgainst_13 (by decide) (fun hc => ?_) (fun hc => ?_)
  · have h := iteT hc h
    refine pw_iconst (pc := 55) F 0 dX9_isAgainst_55 (by decide) ?_
    cases h
    exact pw_zret (pc := 56) F q (by decide) dX9_isAgainst_56
  · have h := iteF hc h
    refine pw_aload_n (pc := 16) F dX9_isAgainst_16 rfl ?_
    obtain ⟨x3, ex3, h⟩ := bnd h
    refine pw_get (pc := 17) F 9 1 7 (by decide) (by decide) g_a89464ec18 inl_9 2 rfl dX9_isAgainst_17 ex3 ?_
    refine pw_iload_n (pc := 20) F dX9_isAgainst_20 rfl ?_
    obtain ⟨x4, ex4, h⟩ := bnd h
    refine pw_iald (pc := 21) F dX9_isAgainst_21 ex4 ?_
    refine pw_iconst (pc := 22) F 5 dX9_isAgainst_22 (by decide) ?_
    refine pw_icmp_ne (pc := 23) F 37 dX9_isAgainst_23 (by decide) (fun hc => ?_) (fun hc => ?_)
    · have h := iteT hc h
      exact pw_mask [true, true, true, false] (ls' := [some (vr a0), some (vi a1), some (vi a2), none]) rfl (jX9_isAgainst_37_ok F q hn hf hl a0 a1 a2 H h)
    · have h := iteF hc h
      refine pw_aload_n (pc := 26) F dX9_isAgainst_26 rfl ?_
      obtain ⟨x5, ex5, h⟩ := bnd h
      refine pw_get (pc := 27) F 9 43 115 (by decide) (by decide) g_e8763ca537 inl_9 2 rfl dX9_isAgainst_27 ex5 ?_
      refine pw_iload_n (pc := 30) F dX9_isAgainst_30 rfl ?_
      obtain ⟨x6, ex6, h⟩ := bnd h
      refine pw_lald (pc := 31) F dX9_isAgainst_31 ex6 ?_
      refine pw_lconst (pc := 32) F 0 dX9_isAgainst_32 (by decide) ?_
      refine pw_lcmp (pc := 33) F dX9_isAgainst_33 ?_
      refine pw_if_le (pc := 34) F 55 dX9_isAgainst_34 (by decide) (fun hc => ?_) (fun hc => ?_)
      · have h := iteT hc h
        refine pw_iconst (pc := 55) F 0 dX9_isAgainst_55 (by decide) ?_
        cases h
        exact pw_zret (pc := 56) F q (by decide) dX9_isAgainst_56
      · have h := iteF hc h
        exact pw_mask [true, true, true, false] (ls' := [some (vr a0), some (vi a1), some (vi a2), none]) rfl (jX9_isAgainst_37_ok F q hn hf hl a0 a1 a2 H h)
/-! HouseholdVaultModel.countAgainst(I)I -/
theorem dX9_countAgainst_0 : decode cX9_countAgainst 0 = .ok (.iconst 0, 1) := by decide +kernel
theorem dX9_countAgainst_1 : decode cX9_countAgainst 1 = .ok (.istore_n 2, 1) := by decide +kernel
theorem dX9_countAgainst_2 : decode cX9_countAgainst 2 = .ok (.iconst 0, 1) := by decide +kernel
theorem dX9_countAgainst_3 : decode cX9_countAgainst 3 = .ok (.istore_n 3, 1) := by decide +kernel
theorem dX9_countAgainst_4 : decode cX9_countAgainst 4 = .ok (.iload_n 3, 1) := by decide +kernel
theorem dX9_countAgainst_5 : decode cX9_countAgainst 5 = .ok (.aload_n 0, 1) := by decide +kernel
theorem dX9_countAgainst_6 : decode cX9_countAgainst 6 = .ok (.getfield 144, 3) := by decide +kernel
theorem dX9_countAgainst_9 : decode cX9_countAgainst 9 = .ok (.if_icmp .ge 138, 3) := by decide +kernel
theorem dX9_countAgainst_12 : decode cX9_countAgainst 12 = .ok (.aload_n 0, 1) := by decide +kernel
theorem dX9_countAgainst_13 : decode cX9_countAgainst 13 = .ok (.iload_n 3, 1) := by decide +kernel
theorem dX9_countAgainst_14 : decode cX9_countAgainst 14 = .ok (.invokevirtual 228, 3) := by decide +kernel
theorem dX9_countAgainst_17 : decode cX9_countAgainst 17 = .ok (.iconst 0, 1) := by decide +kernel
theorem dX9_countAgainst_18 : decode cX9_countAgainst 18 = .ok (.istore 4, 2) := by decide +kernel
theorem dX9_countAgainst_20 : decode cX9_countAgainst 20 = .ok (.iload 4, 2) := by decide +kernel
theorem dX9_countAgainst_22 : decode cX9_countAgainst 22 = .ok (.aload_n 0, 1) := by decide +kernel
theorem dX9_countAgainst_23 : decode cX9_countAgainst 23 = .ok (.getfield 136, 3) := by decide +kernel
theorem dX9_countAgainst_26 : decode cX9_countAgainst 26 = .ok (.if_icmp .ge 115, 3) := by decide +kernel
theorem dX9_countAgainst_29 : decode cX9_countAgainst 29 = .ok (.aload_n 0, 1) := by decide +kernel
theorem dX9_countAgainst_30 : decode cX9_countAgainst 30 = .ok (.getfield 13, 3) := by decide +kernel
theorem dX9_countAgainst_33 : decode cX9_countAgainst 33 = .ok (.iload 4, 2) := by decide +kernel
theorem dX9_countAgainst_35 : decode cX9_countAgainst 35 = .ok (.iaload, 1) := by decide +kernel
theorem dX9_countAgainst_36 : decode cX9_countAgainst 36 = .ok (.ifCond .ge 7, 3) := by decide +kernel
theorem dX9_countAgainst_39 : decode cX9_countAgainst 39 = .ok (.iconst 0, 1) := by decide +kernel
theorem dX9_countAgainst_40 : decode cX9_countAgainst 40 = .ok (.goto 15, 3) := by decide +kernel
theorem dX9_countAgainst_43 : decode cX9_countAgainst 43 = .ok (.aload_n 0, 1) := by decide +kernel
theorem dX9_countAgainst_44 : decode cX9_countAgainst 44 = .ok (.iload_n 3, 1) := by decide +kernel
theorem dX9_countAgainst_45 : decode cX9_countAgainst 45 = .ok (.aload_n 0, 1) := by decide +kernel
theorem dX9_countAgainst_46 : decode cX9_countAgainst 46 = .ok (.getfield 13, 3) := by decide +kernel
theorem dX9_countAgainst_49 : decode cX9_countAgainst 49 = .ok (.iload 4, 2) := by decide +kernel
theorem dX9_countAgainst_51 : decode cX9_countAgainst 51 = .ok (.iaload, 1) := by decide +kernel
theorem dX9_countAgainst_52 : decode cX9_countAgainst 52 = .ok (.invokevirtual 184, 3) := by decide +kernel
theorem dX9_countAgainst_55 : decode cX9_countAgainst 55 = .ok (.istore 5, 2) := by decide +kernel
theorem dX9_countAgainst_57 : decode cX9_countAgainst 57 = .ok (.aload_n 0, 1) := by decide +kernel
theorem dX9_countAgainst_58 : decode cX9_countAgainst 58 = .ok (.getfield 13, 3) := by decide +kernel
theorem dX9_countAgainst_61 : decode cX9_countAgainst 61 = .ok (.iload 4, 2) := by decide +kernel
theorem dX9_countAgainst_63 : decode cX9_countAgainst 63 = .ok (.iaload, 1) := by decide +kernel
theorem dX9_countAgainst_64 : decode cX9_countAgainst 64 = .ok (.ifCond .ge 7, 3) := by decide +kernel
theorem dX9_countAgainst_67 : decode cX9_countAgainst 67 = .ok (.iconst 0, 1) := by decide +kernel
theorem dX9_countAgainst_68 : decode cX9_countAgainst 68 = .ok (.goto 4, 3) := by decide +kernel
theorem dX9_countAgainst_71 : decode cX9_countAgainst 71 = .ok (.iconst 1, 1) := by decide +kernel
theorem dX9_countAgainst_72 : decode cX9_countAgainst 72 = .ok (.istore 6, 2) := by decide +kernel
theorem dX9_countAgainst_74 : decode cX9_countAgainst 74 = .ok (.iload 6, 2) := by decide +kernel
theorem dX9_countAgainst_76 : decode cX9_countAgainst 76 = .ok (.iload 5, 2) := by decide +kernel
theorem dX9_countAgainst_78 : decode cX9_countAgainst 78 = .ok (.if_icmp .gt 57, 3) := by decide +kernel
theorem dX9_countAgainst_81 : decode cX9_countAgainst 81 = .ok (.aload_n 0, 1) := by decide +kernel
theorem dX9_countAgainst_82 : decode cX9_countAgainst 82 = .ok (.getfield 25, 3) := by decide +kernel
theorem dX9_countAgainst_85 : decode cX9_countAgainst 85 = .ok (.iload 4, 2) := by decide +kernel
theorem dX9_countAgainst_87 : decode cX9_countAgainst 87 = .ok (.iaload, 1) := by decide +kernel
theorem dX9_countAgainst_88 : decode cX9_countAgainst 88 = .ok (.ifCond .lt 47, 3) := by decide +kernel
theorem dX9_countAgainst_91 : decode cX9_countAgainst 91 = .ok (.aload_n 0, 1) := by decide +kernel
theorem dX9_countAgainst_92 : decode cX9_countAgainst 92 = .ok (.iload 4, 2) := by decide +kernel
theorem dX9_countAgainst_94 : decode cX9_countAgainst 94 = .ok (.iload 6, 2) := by decide +kernel
theorem dX9_countAgainst_96 : decode cX9_countAgainst 96 = .ok (.invokevirtual 242, 3) := by decide +kernel
theorem dX9_countAgainst_99 : decode cX9_countAgainst 99 = .ok (.ifCond .eq 30, 3) := by decide +kernel
theorem dX9_countAgainst_102 : decode cX9_countAgainst 102 = .ok (.iload_n 2, 1) := by decide +kernel
theorem dX9_countAgainst_103 : decode cX9_countAgainst 103 = .ok (.iload_n 1, 1) := by decide +kernel
theorem dX9_countAgainst_104 : decode cX9_countAgainst 104 = .ok (.if_icmp .ne 22, 3) := by decide +kernel
theorem dX9_countAgainst_107 : decode cX9_countAgainst 107 = .ok (.aload_n 0, 1) := by decide +kernel
theorem dX9_countAgainst_108 : decode cX9_countAgainst 108 = .ok (.iload_n 3, 1) := by decide +kernel
theorem dX9_countAgainst_109 : decode cX9_countAgainst 109 = .ok (.putfield 245, 3) := by decide +kernel
theorem dX9_countAgainst_112 : decode cX9_countAgainst 112 = .ok (.aload_n 0, 1) := by decide +kernel
theorem dX9_countAgainst_113 : decode cX9_countAgainst 113 = .ok (.iload 4, 2) := by decide +kernel
theorem dX9_countAgainst_115 : decode cX9_countAgainst 115 = .ok (.putfield 248, 3) := by decide +kernel
theorem dX9_countAgainst_118 : decode cX9_countAgainst 118 = .ok (.aload_n 0, 1) := by decide +kernel
theorem dX9_countAgainst_119 : decode cX9_countAgainst 119 = .ok (.iload 6, 2) := by decide +kernel
theorem dX9_countAgainst_121 : decode cX9_countAgainst 121 = .ok (.iconst 1, 1) := by decide +kernel
theorem dX9_countAgainst_122 : decode cX9_countAgainst 122 = .ok (.isub, 1) := by decide +kernel
theorem dX9_countAgainst_123 : decode cX9_countAgainst 123 = .ok (.putfield 251, 3) := by decide +kernel
theorem dX9_countAgainst_126 : decode cX9_countAgainst 126 = .ok (.iinc 2 1, 3) := by decide +kernel
theorem dX9_countAgainst_129 : decode cX9_countAgainst 129 = .ok (.iinc 6 1, 3) := by decide +kernel
theorem dX9_countAgainst_132 : decode cX9_countAgainst 132 = .ok (.goto (-58), 3) := by decide +kernel
theorem dX9_countAgainst_135 : decode cX9_countAgainst 135 = .ok (.iinc 4 1, 3) := by decide +kernel
theorem dX9_countAgainst_138 : decode cX9_countAgainst 138 = .ok (.goto (-118), 3) := by decide +kernel
theorem dX9_countAgainst_141 : decode cX9_countAgainst 141 = .ok (.iinc 3 1, 3) := by decide +kernel
theorem dX9_countAgainst_144 : decode cX9_countAgainst 144 = .ok (.goto (-140), 3) := by decide +kernel
theorem dX9_countAgainst_147 : decode cX9_countAgainst 147 = .ok (.iload_n 2, 1) := by decide +kernel
theorem dX9_countAgainst_148 : decode cX9_countAgainst 148 = .ok (.ireturn, 1) := by decide +kernel
def jX9_countAgainst_135 (self4 : Int → Int → PH → RO) (self20 : Int → Int → PH → RO) (p0 p1 p2 p3 p4 : Int) (H : PH) : RO :=
  self20 p2 (w32 (p4 + 1)) H
set_option maxHeartbeats 4000000 in
theorem jX9_countAgainst_135_ok {E : PE} {rr : Int} {HH : PH} (F : FX E cX9_countAgainst RX9) (q : QE E (some (vi rr)) HH (some .int)) (hn : nLof E = 7) (hf : (roomOf E).frames = 4) (hl : (roomOf E).locals = 99) (self4 : Int → Int → PH → RO) (self20 : Int → Int → PH → RO) (p0 p1 p2 p3 p4 : Int) (H : PH) (ih4 : ∀ (v2 v3 : Int) (HV : PH), self4 v2 v3 HV = some (rr, HH) → PW E 4 [some (vr p0), some (vi p1), some (vi v2), some (vi v3), none, none, none] [] HV) (ih20 : ∀ (v2 v4 : Int) (HV : PH), self20 v2 v4 HV = some (rr, HH) → PW E 20 [some (vr p0), some (vi p1), some (vi v2), some (vi p3), some (vi v4), none, none] [] HV) (h : jX9_countAgainst_135 self4 self20 p0 p1 p2 p3 p4 H = some (rr, HH)) : PW E 135 [some (vr p0), some (vi p1), some (vi p2), some (vi p3), some (vi p4), none, none] [] H := by
  unfold jX9_countAgainst_135 at h
  refine pw_iinc (pc := 135) F dX9_countAgainst_135 rfl (lt_nl hn (by decide)) [some (vr p0), some (vi p1), some (vi p2), some (vi p3), some (vi (w32 (p4 + 1))), none, none] rfl (by decide) ?_
  refine pw_goto (pc := 138) F 20 dX9_countAgainst_138 (by decide) ?_
  exact pw_mask [true, true, true, true, true, true, true] (ls' := [some (vr p0), some (vi p1), some (vi p2), some (vi p3), some (vi (w32 (p4 + 1))), none, none]) rfl (ih20 p2 (w32 (p4 + 1)) H h)
def jX9_countAgainst_129 (self4 : Int → Int → PH → RO) (self20 : Int → Int → PH → RO) (self74 : Int → Int → PH → RO) (p0 p1 p2 p3 p4 p5 p6 : Int) (H : PH) : RO :=
  self74 p2 (w32 (p6 + 1)) H
set_option maxHeartbeats 4000000 in
theorem jX9_countAgainst_129_ok {E : PE} {rr : Int} {HH : PH} (F : FX E cX9_countAgainst RX9) (q : QE E (some (vi rr)) HH (some .int)) (hn : nLof E = 7) (hf : (roomOf E).frames = 4) (hl : (roomOf E).locals = 99) (self4 : Int → Int → PH → RO) (self20 : Int → Int → PH → RO) (self74 : Int → Int → PH → RO) (p0 p1 p2 p3 p4 p5 p6 : Int) (H : PH) (ih4 : ∀ (v2 v3 : Int) (HV : PH), self4 v2 v3 HV = some (rr, HH) → PW E 4 [some (vr p0), some (vi p1), some (vi v2), some (vi v3), none, none, none] [] HV) (ih20 : ∀ (v2 v4 : Int) (HV : PH), self20 v2 v4 HV = some (rr, HH) → PW E 20 [some (vr p0), some (vi p1), some (vi v2), some (vi p3), some (vi v4), none, none] [] HV) (ih74 : ∀ (v2 v6 : Int) (HV : PH), self74 v2 v6 HV = some (rr, HH) → PW E 74 [some (vr p0), some (vi p1), some (vi v2), some (vi p3), some (vi p4), some (vi p5), some (vi v6)] [] HV) (h : jX9_countAgainst_129 self4 self20 self74 p0 p1 p2 p3 p4 p5 p6 H = some (rr, HH)) : PW E 129 [some (vr p0), some (vi p1), some (vi p2), some (vi p3), some (vi p4), some (vi p5), some (vi p6)] [] H := by
  unfold jX9_countAgainst_129 at h
  refine pw_iinc (pc := 129) F dX9_countAgainst_129 rfl (lt_nl hn (by decide)) [some (vr p0), some (vi p1), some (vi p2), some (vi p3), some (vi p4), some (vi p5), some (vi (w32 (p6 + 1)))] rfl (by decide) ?_
  refine pw_goto (pc := 132) F 74 dX9_countAgainst_132 (by decide) ?_
  exact pw_mask [true, true, true, true, true, true, true] (ls' := [some (vr p0), some (vi p1), some (vi p2), some (vi p3), some (vi p4), some (vi p5), some (vi (w32 (p6 + 1)))]) rfl (ih74 p2 (w32 (p6 + 1)) H h)
def jX9_countAgainst_126 (self4 : Int → Int → PH → RO) (self20 : Int → Int → PH → RO) (self74 : Int → Int → PH → RO) (p0 p1 p2 p3 p4 p5 p6 : Int) (H : PH) : RO :=
  jX9_countAgainst_129 self4 self20 self74 p0 p1 (w32 (p2 + 1)) p3 p4 p5 p6 H
set_option maxHeartbeats 4000000 in
theorem jX9_countAgainst_126_ok {E : PE} {rr : Int} {HH : PH} (F : FX E cX9_countAgainst RX9) (q : QE E (some (vi rr)) HH (some .int)) (hn : nLof E = 7) (hf : (roomOf E).frames = 4) (hl : (roomOf E).locals = 99) (self4 : Int → Int → PH → RO) (self20 : Int → Int → PH → RO) (self74 : Int → Int → PH → RO) (p0 p1 p2 p3 p4 p5 p6 : Int) (H : PH) (ih4 : ∀ (v2 v3 : Int) (HV : PH), self4 v2 v3 HV = some (rr, HH) → PW E 4 [some (vr p0), some (vi p1), some (vi v2), some (vi v3), none, none, none] [] HV) (ih20 : ∀ (v2 v4 : Int) (HV : PH), self20 v2 v4 HV = some (rr, HH) → PW E 20 [some (vr p0), some (vi p1), some (vi v2), some (vi p3), some (vi v4), none, none] [] HV) (ih74 : ∀ (v2 v6 : Int) (HV : PH), self74 v2 v6 HV = some (rr, HH) → PW E 74 [some (vr p0), some (vi p1), some (vi v2), some (vi p3), some (vi p4), some (vi p5), some (vi v6)] [] HV) (h : jX9_countAgainst_126 self4 self20 self74 p0 p1 p2 p3 p4 p5 p6 H = some (rr, HH)) : PW E 126 [some (vr p0), some (vi p1), some (vi p2), some (vi p3), some (vi p4), some (vi p5), some (vi p6)] [] H := by
  unfold jX9_countAgainst_126 at h
  refine pw_iinc (pc := 126) F dX9_countAgainst_126 rfl (lt_nl hn (by decide)) [some (vr p0), some (vi p1), some (vi (w32 (p2 + 1))), some (vi p3), some (vi p4), some (vi p5), some (vi p6)] rfl (by decide) ?_
  exact pw_mask [true, true, true, true, true, true, true] (ls' := [some (vr p0), some (vi p1), some (vi (w32 (p2 + 1))), some (vi p3), some (vi p4), some (vi p5), some (vi p6)]) rfl (jX9_countAgainst_129_ok F q hn hf hl self4 self20 self74 p0 p1 (w32 (p2 + 1)) p3 p4 p5 p6 H ih4 ih20 ih74 h)
def lX9_countAgainst_74 (self4 : Int → Int → PH → RO) (self20 : Int → Int → PH → RO) (p0 p1 p3 p4 p5 : Int) (self74 : Int → Int → PH → RO) (p2 p6 : Int) (H : PH) : RO :=
  (if p6 > p5 then jX9_countAgainst_135 self4 self20 p0 p1 p2 p3 p4 H
  else (ld 25 H p0 6).bind fun x1 => (ld 0 H x1 p4).bind fun x2 => (if x2 < 0 then jX9_countAgainst_135 self4 self20 p0 p1 p2 p3 p4 H
  else (f_X9_isAgainst p0 p4 p6 H).bind fun z3 => (if z3.1 = 0 then jX9_countAgainst_129 self4 self20 self74 p0 p1 p2 p3 p4 p5 p6 z3.2
  else (if p2 ≠ p1 then jX9_countAgainst_126 self4 self20 self74 p0 p1 p2 p3 p4 p5 p6 z3.2
  else (stv 25 z3.2 p0 46 p3).bind fun H4 => (stv 25 H4 p0 47 p4).bind fun H5 => (stv 25 H5 p0 48 (w32 (p6 - 1))).bind fun H6 => jX9_countAgainst_126 self4 self20 self74 p0 p1 p2 p3 p4 p5 p6 H6))))
set_option maxHeartbeats 4000000 in
theorem lX9_countAgainst_74_ok {E : PE} {rr : Int} {HH : PH} (F : FX E cX9_countAgainst RX9) (q : QE E (some (vi rr)) HH (some .int)) (hn : nLof E = 7) (hf : (roomOf E).frames = 4) (hl : (roomOf E).locals = 99) (self4 : Int → Int → PH → RO) (self20 : Int → Int → PH → RO) (p0 p1 p3 p4 p5 : Int) (ih4 : ∀ (v2 v3 : Int) (HV : PH), self4 v2 v3 HV = some (rr, HH) → PW E 4 [some (vr p0), some (vi p1), some (vi v2), some (vi v3), none, none, none] [] HV) (ih20 : ∀ (v2 v4 : Int) (HV : PH), self20 v2 v4 HV = some (rr, HH) → PW E 20 [some (vr p0), some (vi p1), some (vi v2), some (vi p3), some (vi v4), none, none] [] HV) : ∀ (n : Nat) (p2 p6 : Int) (H : PH), lq2 (lX9_countAgainst_74 self4 self20 p0 p1 p3 p4 p5) n p2 p6 H = some (rr, HH) → PW E 74 [some (vr p0), some (vi p1), some (vi p2), some (vi p3), some (vi p4), some (vi p5), some (vi p6)] [] H := by
  refine lq2_ind (P := fun p2 p6 H => PW E 74 [some (vr p0), some (vi p1), some (vi p2), some (vi p3), some (vi p4), some (vi p5), some (vi p6)] [] H) ?_
  intro self74 ih74 p2 p6 H h
  unfold lX9_countAgainst_74 at h
  refine pw_iload (pc := 74) F dX9_countAgainst_74 rfl ?_
  refine pw_iload (pc := 76) F dX9_countAgainst_76 rfl ?_
  refine pw_icmp_gt (pc := 78) F 135 dX9_countAgainst_78 (by decide) (fun hc => ?_) (fun hc => ?_)
  · have h := iteT hc h
    exact pw_mask [true, true, true, true, true, false, false] (ls' := [some (vr p0), some (vi p1), some (vi p2), some (vi p3), some (vi p4), none, none]) rfl (jX9_countAgainst_135_ok F q hn hf hl self4 self20 p0 p1 p2 p3 p4 H ih4 ih20 h)
  · have h := iteF hc h
    refine pw_aload_n (pc := 81) F dX9_countAgainst_81 rfl ?_
    obtain ⟨x1, ex1, h⟩ := bnd h
    refine pw_get (pc := 82) F 9 6 25 (by decide) (by decide) g_10019bf10f inl_9 2 rfl dX9_countAgainst_82 ex1 ?_
    refine pw_iload (pc := 85) F dX9_countAgainst_85 rfl ?_
    obtain ⟨x2, ex2, h⟩ := bnd h
    refine pw_iald (pc := 87) F dX9_countAgainst_87 ex2 ?_
    refine pw_if_lt (pc := 88) F 135 dX9_countAgainst_88 (by decide) (fun hc => ?_) (fun hc => ?_)
    · have h := iteT hc h
      exact pw_mask [true, true, true, true, true, false, false] (ls' := [some (vr p0), some (vi p1), some (vi p2), some (vi p3), some (vi p4), none, none]) rfl (jX9_countAgainst_135_ok F q hn hf hl self4 self20 p0 p1 p2 p3 p4 H ih4 ih20 h)
    · have h := iteF hc h
      refine pw_aload_n (pc := 91) F dX9_countAgainst_91 rfl ?_
      refine pw_iload (pc := 92) F dX9_countAgainst_92 rfl ?_
      refine pw_iload (pc := 94) F dX9_countAgainst_94 rfl ?_
      obtain ⟨z3, ez3, h⟩ := bnd h
      refine pw_callV (pc := 96) (as := [vi p4, vi p6]) (st := []) (r := (some (vi z3.1))) F 242 9 (by decide) rfl (fun l => m_X9_isAgainst l p0 p4 p6 H z3.1 z3.2 ez3) g_5e06c91fb5 g_956def7474 g_cfa9dfa059 g_2759d91faa g_11b717e14e hd_X9_isAgainst (rm_ok hf hl (by decide) (by decide)) rfl (vm_spec ez3).1 dX9_countAgainst_96 rfl (stk' := [vi z3.1]) rfl ?_
      refine pw_if_eq (pc := 99) F 129 dX9_countAgainst_99 (by decide) (fun hc => ?_) (fun hc => ?_)
      · have h := iteT hc h
        exact pw_mask [true, true, true, true, true, true, true] (ls' := [some (vr p0), some (vi p1), some (vi p2), some (vi p3), some (vi p4), some (vi p5), some (vi p6)]) rfl (jX9_countAgainst_129_ok F q hn hf hl self4 self20 self74 p0 p1 p2 p3 p4 p5 p6 z3.2 ih4 ih20 ih74 h)
      · have h := iteF hc h
        refine pw_iload_n (pc := 102) F dX9_countAgainst_102 rfl ?_
        refine pw_iload_n (pc := 103) F dX9_countAgainst_103 rfl ?_
        refine pw_icmp_ne (pc := 104) F 126 dX9_countAgainst_104 (by decide) (fun hc => ?_) (fun hc => ?_)
        · have h := iteT hc h
          exact pw_mask [true, true, true, true, true, true, true] (ls' := [some (vr p0), some (vi p1), some (vi p2), some (vi p3), some (vi p4), some (vi p5), some (vi p6)]) rfl (jX9_countAgainst_126_ok F q hn hf hl self4 self20 self74 p0 p1 p2 p3 p4 p5 p6 z3.2 ih4 ih20 ih74 h)
        · have h := iteF hc h
          refine pw_aload_n (pc := 107) F dX9_countAgainst_107 rfl ?_
          refine pw_iload_n (pc := 108) F dX9_countAgainst_108 rfl ?_
          obtain ⟨H4, eH4, h⟩ := bnd h
          refine pw_put (pc := 109) F 9 46 245 (by decide) (by decide) g_5eda813601 inl_9 rfl 0 rfl dX9_countAgainst_109 trivial eH4 ?_
          refine pw_aload_n (pc := 112) F dX9_countAgainst_112 rfl ?_
          refine pw_iload (pc := 113) F dX9_countAgainst_113 rfl ?_
          obtain ⟨H5, eH5, h⟩ := bnd h
          refine pw_put (pc := 115) F 9 47 248 (by decide) (by decide) g_b49cc09124 inl_9 rfl 0 rfl dX9_countAgainst_115 trivial eH5 ?_
          refine pw_aload_n (pc := 118) F dX9_countAgainst_118 rfl ?_
          refine pw_iload (pc := 119) F dX9_countAgainst_119 rfl ?_
          refine pw_iconst (pc := 121) F 1 dX9_countAgainst_121 (by decide) ?_
          refine pw_isub (pc := 122) F dX9_countAgainst_122 ?_
          obtain ⟨H6, eH6, h⟩ := bnd h
          refine pw_put (pc := 123) F 9 48 251 (by decide) (by decide) g_cc779e6b53 inl_9 rfl 0 rfl dX9_countAgainst_123 trivial eH6 ?_
          exact pw_mask [true, true, true, true, true, true, true] (ls' := [some (vr p0), some (vi p1), some (vi p2), some (vi p3), some (vi p4), some (vi p5), some (vi p6)]) rfl (jX9_countAgainst_126_ok F q hn hf hl self4 self20 self74 p0 p1 p2 p3 p4 p5 p6 H6 ih4 ih20 ih74 h)
def jX9_countAgainst_72 (self4 : Int → Int → PH → RO) (self20 : Int → Int → PH → RO) (p0 p1 p2 p3 p4 p5 s0 : Int) (H : PH) : RO :=
  lq2 (lX9_countAgainst_74 self4 self20 p0 p1 p3 p4 p5) 6000 p2 s0 H
set_option maxHeartbeats 4000000 in
theorem jX9_countAgainst_72_ok {E : PE} {rr : Int} {HH : PH} (F : FX E cX9_countAgainst RX9) (q : QE E (some (vi rr)) HH (some .int)) (hn : nLof E = 7) (hf : (roomOf E).frames = 4) (hl : (roomOf E).locals = 99) (self4 : Int → Int → PH → RO) (self20 : Int → Int → PH → RO) (p0 p1 p2 p3 p4 p5 s0 : Int) (H : PH) (ih4 : ∀ (v2 v3 : Int) (HV : PH), self4 v2 v3 HV = some (rr, HH) → PW E 4 [some (vr p0), some (vi p1), some (vi v2), some (vi v3), none, none, none] [] HV) (ih20 : ∀ (v2 v4 : Int) (HV : PH), self20 v2 v4 HV = some (rr, HH) → PW E 20 [some (vr p0), some (vi p1), some (vi v2), some (vi p3), some (vi v4), none, none] [] HV) (h : jX9_countAgainst_72 self4 self20 p0 p1 p2 p3 p4 p5 s0 H = some (rr, HH)) : PW E 72 [some (vr p0), some (vi p1), some (vi p2), some (vi p3), some (vi p4), some (vi p5), none] [vi s0] H := by
  unfold jX9_countAgainst_72 at h
  refine pw_istore (pc := 72) F dX9_countAgainst_72 (lt_nl hn (by decide)) [some (vr p0), some (vi p1), some (vi p2), some (vi p3), some (vi p4), some (vi p5), some (vi s0)] rfl ?_
  exact pw_mask [true, true, true, true, true, true, true] (ls' := [some (vr p0), some (vi p1), some (vi p2), some (vi p3), some (vi p4), some (vi p5), some (vi s0)]) rfl (lX9_countAgainst_74_ok F q hn hf hl self4 self20 p0 p1 p3 p4 p5 ih4 ih20  6000 p2 s0 H h)
def jX9_countAgainst_55 (self4 : Int → Int → PH → RO) (self20 : Int → Int → PH → RO) (p0 p1 p2 p3 p4 s0 : Int) (H : PH) : RO :=
  (ld 25 H p0 2).bind fun x1 => (ld 0 H x1 p4).bind fun x2 => (if x2 ≥ 0 then jX9_countAgainst_72 self4 self20 p0 p1 p2 p3 p4 s0 1 H
  else jX9_countAgainst_72 self4 self20 p0 p1 p2 p3 p4 s0 0 H)
set_option maxHeartbeats 4000000 in
theorem jX9_countAgainst_55_ok {E : PE} {rr : Int} {HH : PH} (F : FX E cX9_countAgainst RX9) (q : QE E (some (vi rr)) HH (some .int)) (hn : nLof E = 7) (hf : (roomOf E).frames = 4) (hl : (roomOf E).locals = 99) (self4 : Int → Int → PH → RO) (self20 : Int → Int → PH → RO) (p0 p1 p2 p3 p4 s0 : Int) (H : PH) (ih4 : ∀ (v2 v3 : Int) (HV : PH), self4 v2 v3 HV = some (rr, HH) → PW E 4 [some (vr p0), some (vi p1), some (vi v2), some (vi v3), none, none, none] [] HV) (ih20 : ∀ (v2 v4 : Int) (HV : PH), self20 v2 v4 HV = some (rr, HH) → PW E 20 [some (vr p0), some (vi p1), some (vi v2), some (vi p3), some (vi v4), none, none] [] HV) (h : jX9_countAgainst_55 self4 self20 p0 p1 p2 p3 p4 s0 H = some (rr, HH)) : PW E 55 [some (vr p0), some (vi p1), some (vi p2), some (vi p3), some (vi p4), none, none] [vi s0] H := by
  unfold jX9_countAgainst_55 at h
  refine pw_istore (pc := 55) F dX9_countAgainst_55 (lt_nl hn (by decide)) [some (vr p0), some (vi p1), some (vi p2), some (vi p3), some (vi p4), some (vi s0), none] rfl ?_
  refine pw_aload_n (pc := 57) F dX9_countAgainst_57 rfl ?_
  obtain ⟨x1, ex1, h⟩ := bnd h
  refine pw_get (pc := 58) F 9 2 13 (by decide) (by decide) g_0c2899f53f inl_9 2 rfl dX9_countAgainst_58 ex1 ?_
  refine pw_iload (pc := 61) F dX9_countAgainst_61 rfl ?_
  obtain ⟨x2, ex2, h⟩ := bnd h
  refine pw_iald (pc := 63) F dX9_countAgainst_63 ex2 ?_
  refine pw_if_ge (pc := 64) F 71 dX9_countAgainst_64 (by decide) (fun hc => ?_) (fun hc => ?_)
  · have h := iteT hc h
    refine pw_iconst (pc := 71) F 1 dX9_countAgainst_71 (by decide) ?_
    exact pw_mask [true, true, true, true, true, true, true] (ls' := [some (vr p0), some (vi p1), some (vi p2), some (vi p3), some (vi p4), some (vi s0), none]) rfl (jX9_countAgainst_72_ok F q hn hf hl self4 self20 p0 p1 p2 p3 p4 s0 1 H ih4 ih20 h)
  · have h := iteF hc h
    refine pw_iconst (pc := 67) F 0 dX9_countAgainst_67 (by decide) ?_
    refine pw_goto (pc := 68) F 72 dX9_countAgainst_68 (by decide) ?_
    exact pw_mask [true, true, true, true, true, true, true] (ls' := [some (vr p0), some (vi p1), some (vi p2), some (vi p3), some (vi p4), some (vi s0), none]) rfl (jX9_countAgainst_72_ok F q hn hf hl self4 self20 p0 p1 p2 p3 p4 s0 0 H ih4 ih20 h)
def lX9_countAgainst_20 (self4 : Int → Int → PH → RO) (p0 p1 p3 : Int) (self20 : Int → Int → PH → RO) (p2 p4 : Int) (H : PH) : RO :=
  (ld 25 H p0 0).bind fun x1 => (if p4 ≥ x1 then self4 p2 (w32 (p3 + 1)) H
  else (ld 25 H p0 2).bind fun x2 => (ld 0 H x2 p4).bind fun x3 => (if x3 ≥ 0 then (ld 25 H p0 2).bind fun x4 => (ld 0 H x4 p4).bind fun x5 => (f_X9_persons p0 p3 x5 H).bind fun z6 => jX9_countAgainst_55 self4 self20 p0 p1 p2 p3 p4 z6.1 z6.2
  else jX9_countAgainst_55 self4 self20 p0 p1 p2 p3 p4 0 H))
set_option maxHeartbeats 4000000 in
theorem lX9_countAgainst_20_ok {E : PE} {rr : Int} {HH : PH} (F : FX E cX9_countAgainst RX9) (q : QE E (some (vi rr)) HH (some .int)) (hn : nLof E = 7) (hf : (roomOf E).frames = 4) (hl : (roomOf E).locals = 99) (self4 : Int → Int → PH → RO) (p0 p1 p3 : Int) (ih4 : ∀ (v2 v3 : Int) (HV : PH), self4 v2 v3 HV = some (rr, HH) → PW E 4 [some (vr p0), some (vi p1), some (vi v2), some (vi v3), none, none, none] [] HV) : ∀ (n : Nat) (p2 p4 : Int) (H : PH), lq2 (lX9_countAgainst_20 self4 p0 p1 p3) n p2 p4 H = some (rr, HH) → PW E 20 [some (vr p0), some (vi p1), some (vi p2), some (vi p3), some (vi p4), none, none] [] H := by
  refine lq2_ind (P := fun p2 p4 H => PW E 20 [some (vr p0), some (vi p1), some (vi p2), some (vi p3), some (vi p4), none, none] [] H) ?_
  intro self20 ih20 p2 p4 H h
  unfold lX9_countAgainst_20 at h
  refine pw_iload (pc := 20) F dX9_countAgainst_20 rfl ?_
  refine pw_aload_n (pc := 22) F dX9_countAgainst_22 rfl ?_
  obtain ⟨x1, ex1, h⟩ := bnd h
  refine pw_get (pc := 23) F 9 0 136 (by decide) (by decide) g_eb25be88a8 inl_9 0 rfl dX9_countAgainst_23 ex1 ?_
  refine pw_icmp_ge (pc := 26) F 141 dX9_countAgainst_26 (by decide) (fun hc => ?_) (fun hc => ?_)
  · have h := iteT hc h
    refine pw_iinc (pc := 141) F dX9_countAgainst_141 rfl (lt_nl hn (by decide)) [some (vr p0), some (vi p1), some (vi p2), some (vi (w32 (p3 + 1))), some (vi p4), none, none] rfl (by decide) ?_
    refine pw_goto (pc := 144) F 4 dX9_countAgainst_144 (by decide) ?_
    exact pw_mask [true, true, true, true, false, true, true] (ls' := [some (vr p0), some (vi p1), some (vi p2), some (vi (w32 (p3 + 1))), none, none, none]) rfl (ih4 p2 (w32 (p3 + 1)) H h)
  · have h := iteF hc h
    refine pw_aload_n (pc := 29) F dX9_countAgainst_29 rfl ?_
    obtain ⟨x2, ex2, h⟩ := bnd h
    refine pw_get (pc := 30) F 9 2 13 (by decide) (by decide) g_0c2899f53f inl_9 2 rfl dX9_countAgainst_30 ex2 ?_
    refine pw_iload (pc := 33) F dX9_countAgainst_33 rfl ?_
    obtain ⟨x3, ex3, h⟩ := bnd h
    refine pw_iald (pc := 35) F dX9_countAgainst_35 ex3 ?_
    refine pw_if_ge (pc := 36) F 43 dX9_countAgainst_36 (by decide) (fun hc => ?_) (fun hc => ?_)
    · have h := iteT hc h
      refine pw_aload_n (pc := 43) F dX9_countAgainst_43 rfl ?_
      refine pw_iload_n (pc := 44) F dX9_countAgainst_44 rfl ?_
      refine pw_aload_n (pc := 45) F dX9_countAgainst_45 rfl ?_
      obtain ⟨x4, ex4, h⟩ := bnd h
      refine pw_get (pc := 46) F 9 2 13 (by decide) (by decide) g_0c2899f53f inl_9 2 rfl dX9_countAgainst_46 ex4 ?_
      refine pw_iload (pc := 49) F dX9_countAgainst_49 rfl ?_
      obtain ⟨x5, ex5, h⟩ := bnd h
      refine pw_iald (pc := 51) F dX9_countAgainst_51 ex5 ?_
      obtain ⟨z6, ez6, h⟩ := bnd h
      refine pw_callV (pc := 52) (as := [vi p3, vi x5]) (st := []) (r := (some (vi z6.1))) F 184 9 (by decide) rfl (fun l => m_X9_persons l p0 p3 x5 H z6.1 z6.2 ez6) g_de33c5095d g_d70a88cf42 g_2197e2f2b8 g_2759d91faa g_c55f0dc1c5 hd_X9_persons (rm_ok hf hl (by decide) (by decide)) rfl (vm_spec ez6).1 dX9_countAgainst_52 rfl (stk' := [vi z6.1]) rfl ?_
      exact pw_mask [true, true, true, true, true, true, true] (ls' := [some (vr p0), some (vi p1), some (vi p2), some (vi p3), some (vi p4), none, none]) rfl (jX9_countAgainst_55_ok F q hn hf hl self4 self20 p0 p1 p2 p3 p4 z6.1 z6.2 ih4 ih20 h)
    · have h := iteF hc h
      refine pw_iconst (pc := 39) F 0 dX9_countAgainst_39 (by decide) ?_
      refine pw_goto (pc := 40) F 55 dX9_countAgainst_40 (by decide) ?_
      exact pw_mask [true, true, true, true, true, true, true] (ls' := [some (vr p0), some (vi p1), some (vi p2), some (vi p3), some (vi p4), none, none]) rfl (jX9_countAgainst_55_ok F q hn hf hl self4 self20 p0 p1 p2 p3 p4 0 H ih4 ih20 h)
def lX9_countAgainst_4 (p0 p1 : Int) (self4 : Int → Int → PH → RO) (p2 p3 : Int) (H : PH) : RO :=
  (ld 25 H p0 14).bind fun x1 => (if p3 ≥ x1 then some (p2, H)
  else (f_X9_workOut p0 p3 H).bind fun z2 => lq2 (lX9_countAgainst_20 self4 p0 p1 p3) 6000 p2 0 z2.2)
set_option maxHeartbeats 4000000 in
theorem lX9_countAgainst_4_ok {E : PE} {rr : Int} {HH : PH} (F : FX E cX9_countAgainst RX9) (q : QE E (some (vi rr)) HH (some .int)) (hn : nLof E = 7) (hf : (roomOf E).frames = 4) (hl : (roomOf E).locals = 99) (p0 p1 : Int) : ∀ (n : Nat) (p2 p3 : Int) (H : PH), lq2 (lX9_countAgainst_4 p0 p1) n p2 p3 H = some (rr, HH) → PW E 4 [some (vr p0), some (vi p1), some (vi p2), some (vi p3), none, none, none] [] H := by
  refine lq2_ind (P := fun p2 p3 H => PW E 4 [some (vr p0), some (vi p1), some (vi p2), some (vi p3), none, none, none] [] H) ?_
  intro self4 ih4 p2 p3 H h
  unfold lX9_countAgainst_4 at h
  refine pw_iload_n (pc := 4) F dX9_countAgainst_4 rfl ?_
  refine pw_aload_n (pc := 5) F dX9_countAgainst_5 rfl ?_
  obtain ⟨x1, ex1, h⟩ := bnd h
  refine pw_get (pc := 6) F 9 14 144 (by decide) (by decide) g_f4ed299937 inl_9 0 rfl dX9_countAgainst_6 ex1 ?_
  refine pw_icmp_ge (pc := 9) F 147 dX9_countAgainst_9 (by decide) (fun hc => ?_) (fun hc => ?_)
  · have h := iteT hc h
    refine pw_iload_n (pc := 147) F dX9_countAgainst_147 rfl ?_
    cases h
    exact pw_iret (pc := 148) F q dX9_countAgainst_148
  · have h := iteF hc h
    refine pw_aload_n (pc := 12) F dX9_countAgainst_12 rfl ?_
    refine pw_iload_n (pc := 13) F dX9_countAgainst_13 rfl ?_
    obtain ⟨z2, ez2, h⟩ := bnd h
    refine pw_callV (pc := 14) (as := [vi p3]) (st := []) (r := none) F 228 9 (by decide) rfl (fun l => m_X9_workOut l p0 p3 H z2.1 z2.2 ez2) g_3818fe93c5 g_7e06b14cc4 g_7b1f6500ce g_2759d91faa g_717afd008d hd_X9_workOut (rm_ok hf hl (by decide) (by decide)) rfl (vm_spec ez2).1 dX9_countAgainst_14 rfl (stk' := []) rfl ?_
    refine pw_iconst (pc := 17) F 0 dX9_countAgainst_17 (by decide) ?_
    refine pw_istore (pc := 18) F dX9_countAgainst_18 (lt_nl hn (by decide)) [some (vr p0), some (vi p1), some (vi p2), some (vi p3), some (vi 0), none, none] rfl ?_
    exact pw_mask [true, true, true, true, true, true, true] (ls' := [some (vr p0), some (vi p1), some (vi p2), some (vi p3), some (vi 0), none, none]) rfl (lX9_countAgainst_20_ok F q hn hf hl self4 p0 p1 p3 ih4  6000 p2 0 z2.2 h)
def f_X9_countAgainst (a0 a1 : Int) (H : PH) : RO := vm 9 a0 H <|
  lq2 (lX9_countAgainst_4 a0 a1) 6000 0 0 H
set_option maxHeartbeats 4000000 in
theorem m_X9_countAgainst (l : Launch) (a0 a1 : Int) (H : PH) (rr : Int) (HH : PH) (h : f_X9_countAgainst a0 a1 H = some (rr, HH)) : CT l yX9_countAgainst cX9_countAgainst 7 (some .int) 4 99 [vr a0, vi a1] H (some (vi rr)) HH := by
  refine CT.of RX9 (by decide) rfl [some (vr a0), some (vi a1), none, none, none, none, none] rfl rfl ?_
  intro E F q hn hf hl hm
  unfold f_X9_countAgainst at h
  obtain ⟨hv, h⟩ := vm_spec h
  refine pw_iconst (pc := 0) F 0 dX9_countAgainst_0 (by decide) ?_
  refine pw_istore_n (pc := 1) F dX9_countAgainst_1 (lt_nl hn (by decide)) [some (vr a0), some (vi a1), some (vi 0), none, none, none, none] rfl ?_
  refine pw_iconst (pc := 2) F 0 dX9_countAgainst_2 (by decide) ?_
  refine pw_istore_n (pc := 3) F dX9_countAgainst_3 (lt_nl hn (by decide)) [some (vr a0), some (vi a1), some (vi 0), some (vi 0), none, none, none] rfl ?_
  exact pw_mask [true, true, true, true, true, true, true] (ls' := [some (vr a0), some (vi a1), some (vi 0), some (vi 0), none, none, none]) rfl (lX9_countAgainst_4_ok F q hn hf hl a0 a1  6000 0 0 H h)
/-! HouseholdVaultModel.against()I -/
theorem dX9_against_0 : decode cX9_against 0 = .ok (.aload_n 0, 1) := by decide +kernel
theorem dX9_against_1 : decode cX9_against 1 = .ok (.iconst (-1), 1) := by decide +kernel
theorem dX9_against_2 : decode cX9_against 2 = .ok (.invokevirtual 254, 3) := by decide +kernel
theorem dX9_against_5 : decode cX9_against 5 = .ok (.ireturn, 1) := by decide +kernel
def f_X9_against (a0 : Int) (H : PH) : RO := vm 9 a0 H <|
  (f_X9_countAgainst a0 (-1) H).bind fun z1 => some (z1.1, z1.2)
set_option maxHeartbeats 4000000 in
theorem m_X9_against (l : Launch) (a0 : Int) (H : PH) (rr : Int) (HH : PH) (h : f_X9_against a0 H = some (rr, HH)) : CT l yX9_against cX9_against 1 (some .int) 5 125 [vr a0] H (some (vi rr)) HH := by
  refine CT.of RX9 (by decide) rfl [some (vr a0)] rfl rfl ?_
  intro E F q hn hf hl hm
  unfold f_X9_against at h
  obtain ⟨hv, h⟩ := vm_spec h
  refine pw_aload_n (pc := 0) F dX9_against_0 rfl ?_
  refine pw_iconst (pc := 1) F (-1) dX9_against_1 (by decide) ?_
  obtain ⟨z1, ez1, h⟩ := bnd h
  refine pw_callV (pc := 2) (as := [vi (-1)]) (st := []) (r := (some (vi z1.1))) F 254 9 (by decide) rfl (fun l => m_X9_countAgainst l a0 (-1) H z1.1 z1.2 ez1) g_36e60011f1 g_7ad39c56f6 g_e7924292b7 g_2759d91faa g_c251d318e2 hd_X9_countAgainst (rm_ok hf hl (by decide) (by decide)) rfl (vm_spec ez1).1 dX9_against_2 rfl (stk' := [vi z1.1]) rfl ?_
  cases h
  exact pw_iret (pc := 5) F q dX9_against_5
/-! HouseholdVaultModel.sought(I)I -/
theorem dX9_sought_0 : decode cX9_sought 0 = .ok (.iload_n 1, 1) := by decide +kernel
theorem dX9_sought_1 : decode cX9_sought 1 = .ok (.ifCond .ne 10, 3) := by decide +kernel
theorem dX9_sought_4 : decode cX9_sought 4 = .ok (.aload_n 0, 1) := by decide +kernel
theorem dX9_sought_5 : decode cX9_sought 5 = .ok (.getfield 245, 3) := by decide +kernel
theorem dX9_sought_8 : decode cX9_sought 8 = .ok (.goto 19, 3) := by decide +kernel
theorem dX9_sought_11 : decode cX9_sought 11 = .ok (.iload_n 1, 1) := by decide +kernel
theorem dX9_sought_12 : decode cX9_sought 12 = .ok (.iconst 1, 1) := by decide +kernel
theorem dX9_sought_13 : decode cX9_sought 13 = .ok (.if_icmp .ne 10, 3) := by decide +kernel
theorem dX9_sought_16 : decode cX9_sought 16 = .ok (.aload_n 0, 1) := by decide +kernel
theorem dX9_sought_17 : decode cX9_sought 17 = .ok (.getfield 248, 3) := by decide +kernel
theorem dX9_sought_20 : decode cX9_sought 20 = .ok (.goto 7, 3) := by decide +kernel
theorem dX9_sought_23 : decode cX9_sought 23 = .ok (.aload_n 0, 1) := by decide +kernel
theorem dX9_sought_24 : decode cX9_sought 24 = .ok (.getfield 251, 3) := by decide +kernel
theorem dX9_sought_27 : decode cX9_sought 27 = .ok (.ireturn, 1) := by decide +kernel
def f_X9_sought (a0 a1 : Int) (H : PH) : RO := vm 9 a0 H <|
  (if a1 ≠ 0 then (if a1 ≠ 1 then (ld 25 H a0 48).bind fun x1 => some (x1, H)
  else (ld 25 H a0 47).bind fun x2 => some (x2, H))
  else (ld 25 H a0 46).bind fun x3 => some (x3, H))
set_option maxHeartbeats 4000000 in
theorem m_X9_sought (l : Launch) (a0 a1 : Int) (H : PH) (rr : Int) (HH : PH) (h : f_X9_sought a0 a1 H = some (rr, HH)) : CT l yX9_sought cX9_sought 2 (some .int) 0 0 [vr a0, vi a1] H (some (vi rr)) HH := by
  refine CT.of RX9 (by decide) rfl [some (vr a0), some (vi a1)] rfl rfl ?_
  intro E F q hn hf hl hm
  unfold f_X9_sought at h
  obtain ⟨hv, h⟩ := vm_spec h
  refine pw_iload_n (pc := 0) F dX9_sought_0 rfl ?_
  refine pw_if_ne (pc := 1) F 11 dX9_sought_1 (by decide) (fun hc => ?_) (fun hc => ?_)
  · have h := iteT hc h
    refine pw_iload_n (pc := 11) F dX9_sought_11 rfl ?_
    refine pw_iconst (pc := 12) F 1 dX9_sought_12 (by decide) ?_
    refine pw_icmp_ne (pc := 13) F 23 dX9_sought_13 (by decide) (fun hc => ?_) (fun hc => ?_)
    · have h := iteT hc h
      refine pw_aload_n (pc := 23) F dX9_sought_23 rfl ?_
      obtain ⟨x1, ex1, h⟩ := bnd h
      refine pw_get (pc := 24) F 9 48 251 (by decide) (by decide) g_cc779e6b53 inl_9 0 rfl dX9_sought_24 ex1 ?_
      cases h
      exact pw_iret (pc := 27) F q dX9_sought_27
    · have h := iteF hc h
      refine pw_aload_n (pc := 16) F dX9_sought_16 rfl ?_
      obtain ⟨x2, ex2, h⟩ := bnd h
      refine pw_get (pc := 17) F 9 47 248 (by decide) (by decide) g_b49cc09124 inl_9 0 rfl dX9_sought_17 ex2 ?_
      refine pw_goto (pc := 20) F 27 dX9_sought_20 (by decide) ?_
      cases h
      exact pw_iret (pc := 27) F q dX9_sought_27
  · have h := iteF hc h
    refine pw_aload_n (pc := 4) F dX9_sought_4 rfl ?_
    obtain ⟨x3, ex3, h⟩ := bnd h
    refine pw_get (pc := 5) F 9 46 245 (by decide) (by decide) g_5eda813601 inl_9 0 rfl dX9_sought_5 ex3 ?_
    refine pw_goto (pc := 8) F 27 dX9_sought_8 (by decide) ?_
    cases h
    exact pw_iret (pc := 27) F q dX9_sought_27
/-! HouseholdVaultModel.againstAt(II)I -/
theorem dX9_againstAt_0 : decode cX9_againstAt 0 = .ok (.iload_n 2, 1) := by decide +kernel
theorem dX9_againstAt_1 : decode cX9_againstAt 1 = .ok (.i2l, 1) := by decide +kernel
theorem dX9_againstAt_2 : decode cX9_againstAt 2 = .ok (.lconst 0, 1) := by decide +kernel
theorem dX9_againstAt_3 : decode cX9_againstAt 3 = .ok (.ldc2_w 240, 3) := by decide +kernel
theorem dX9_againstAt_6 : decode cX9_againstAt 6 = .ok (.invokestatic 140, 3) := by decide +kernel
theorem dX9_againstAt_9 : decode cX9_againstAt 9 = .ok (.ifCond .eq 16, 3) := by decide +kernel
theorem dX9_againstAt_12 : decode cX9_againstAt 12 = .ok (.iload_n 1, 1) := by decide +kernel
theorem dX9_againstAt_13 : decode cX9_againstAt 13 = .ok (.ifCond .lt 12, 3) := by decide +kernel
theorem dX9_againstAt_16 : decode cX9_againstAt 16 = .ok (.iload_n 1, 1) := by decide +kernel
theorem dX9_againstAt_17 : decode cX9_againstAt 17 = .ok (.aload_n 0, 1) := by decide +kernel
theorem dX9_againstAt_18 : decode cX9_againstAt 18 = .ok (.iload_n 1, 1) := by decide +kernel
theorem dX9_againstAt_19 : decode cX9_againstAt 19 = .ok (.invokevirtual 254, 3) := by decide +kernel
theorem dX9_againstAt_22 : decode cX9_againstAt 22 = .ok (.if_icmp .lt 8, 3) := by decide +kernel
theorem dX9_againstAt_25 : decode cX9_againstAt 25 = .ok (.bipush (-2), 2) := by decide +kernel
theorem dX9_againstAt_27 : decode cX9_againstAt 27 = .ok (.goto 8, 3) := by decide +kernel
theorem dX9_againstAt_30 : decode cX9_againstAt 30 = .ok (.aload_n 0, 1) := by decide +kernel
theorem dX9_againstAt_31 : decode cX9_againstAt 31 = .ok (.iload_n 2, 1) := by decide +kernel
theorem dX9_againstAt_32 : decode cX9_againstAt 32 = .ok (.invokevirtual 258, 3) := by decide +kernel
theorem dX9_againstAt_35 : decode cX9_againstAt 35 = .ok (.ireturn, 1) := by decide +kernel
def jX9_againstAt_25 (H : PH) : RO :=
  some ((-2), H)
set_option maxHeartbeats 4000000 in
theorem jX9_againstAt_25_ok {E : PE} {rr : Int} {HH : PH} (F : FX E cX9_againstAt RX9) (q : QE E (some (vi rr)) HH (some .int)) (hn : nLof E = 3) (hf : (roomOf E).frames = 5) (hl : (roomOf E).locals = 125) (H : PH) (h : jX9_againstAt_25  H = some (rr, HH)) : PW E 25 [none, none, none] [] H := by
  unfold jX9_againstAt_25 at h
  refine pw_bipush (pc := 25) F (-2) dX9_againstAt_25 (by decide) ?_
  refine pw_goto (pc := 27) F 35 dX9_againstAt_27 (by decide) ?_
  cases h
  exact pw_iret (pc := 35) F q dX9_againstAt_35
def f_X9_againstAt (a0 a1 a2 : Int) (H : PH) : RO := vm 9 a0 H <|
  (f_X9_in a2 0 2 H).bind fun z1 => (if z1.1 = 0 then jX9_againstAt_25  z1.2
  else (if a1 < 0 then jX9_againstAt_25  z1.2
  else (f_X9_countAgainst a0 a1 z1.2).bind fun z2 => (if a1 < z2.1 then (f_X9_sought a0 a2 z2.2).bind fun z3 => some (z3.1, z3.2)
  else jX9_againstAt_25  z2.2)))
set_option maxHeartbeats 4000000 in
theorem m_X9_againstAt (l : Launch) (a0 a1 a2 : Int) (H : PH) (rr : Int) (HH : PH) (h : f_X9_againstAt a0 a1 a2 H = some (rr, HH)) : CT l yX9_againstAt cX9_againstAt 3 (some .int) 5 125 [vr a0, vi a1, vi a2] H (some (vi rr)) HH := by
  refine CT.of RX9 (by decide) rfl [some (vr a0), some (vi a1), some (vi a2)] rfl rfl ?_
  intro E F q hn hf hl hm
  unfold f_X9_againstAt at h
  obtain ⟨hv, h⟩ := vm_spec h
  refine pw_iload_n (pc := 0) F dX9_againstAt_0 rfl ?_
  refine pw_i2l (pc := 1) F dX9_againstAt_1 ?_
  refine pw_lconst (pc := 2) F 0 dX9_againstAt_2 (by decide) ?_
  refine pw_ldc2 (pc := 3) F 2 g_f9a9b8d2f4 dX9_againstAt_3 (by decide) ?_
  obtain ⟨z1, ez1, h⟩ := bnd h
  refine pw_callS (pc := 6) (as := [vl a2, vl 0, vl 2]) (st := []) (r := (some (vi z1.1))) F 140 (fun l => m_X9_in l a2 0 2 H z1.1 z1.2 ez1) g_0174c906e2 g_3fadeb3198 g_2759d91faa g_c0c30bc7de hd_X9_in (rm_ok hf hl (by decide) (by decide)) rfl dX9_againstAt_6 rfl (stk' := [vi z1.1]) rfl ?_
  refine pw_if_eq (pc := 9) F 25 dX9_againstAt_9 (by decide) (fun hc => ?_) (fun hc => ?_)
  · have h := iteT hc h
    exact pw_mask [false, false, false] (ls' := [none, none, none]) rfl (jX9_againstAt_25_ok F q hn hf hl  z1.2 h)
  · have h := iteF hc h
    refine pw_iload_n (pc := 12) F dX9_againstAt_12 rfl ?_
    refine pw_if_lt (pc := 13) F 25 dX9_againstAt_13 (by decide) (fun hc => ?_) (fun hc => ?_)
    · have h := iteT hc h
      exact pw_mask [false, false, false] (ls' := [none, none, none]) rfl (jX9_againstAt_25_ok F q hn hf hl  z1.2 h)
    · have h := iteF hc h
      refine pw_iload_n (pc := 16) F dX9_againstAt_16 rfl ?_
      refine pw_aload_n (pc := 17) F dX9_againstAt_17 rfl ?_
      refine pw_iload_n (pc := 18) F dX9_againstAt_18 rfl ?_
      obtain ⟨z2, ez2, h⟩ := bnd h
      refine pw_callV (pc := 19) (as := [vi a1]) (st := [vi a1]) (r := (some (vi z2.1))) F 254 9 (by decide) rfl (fun l => m_X9_countAgainst l a0 a1 z1.2 z2.1 z2.2 ez2) g_36e60011f1 g_7ad39c56f6 g_e7924292b7 g_2759d91faa g_c251d318e2 hd_X9_countAgainst (rm_ok hf hl (by decide) (by decide)) rfl (vm_spec ez2).1 dX9_againstAt_19 rfl (stk' := [vi z2.1, vi a1]) rfl ?_
      refine pw_icmp_lt (pc := 22) F 30 dX9_againstAt_22 (by decide) (fun hc => ?_) (fun hc => ?_)
      · have h := iteT hc h
        refine pw_aload_n (pc := 30) F dX9_againstAt_30 rfl ?_
        refine pw_iload_n (pc := 31) F dX9_againstAt_31 rfl ?_
        obtain ⟨z3, ez3, h⟩ := bnd h
        refine pw_callV (pc := 32) (as := [vi a2]) (st := []) (r := (some (vi z3.1))) F 258 9 (by decide) rfl (fun l => m_X9_sought l a0 a2 z2.2 z3.1 z3.2 ez3) g_04759b94c6 g_f7d7b42c7f g_0184e0801f g_2759d91faa g_4fe738e030 hd_X9_sought (rm_ok hf hl (by decide) (by decide)) rfl (vm_spec ez3).1 dX9_againstAt_32 rfl (stk' := [vi z3.1]) rfl ?_
        cases h
        exact pw_iret (pc := 35) F q dX9_againstAt_35
      · have h := iteF hc h
        exact pw_mask [false, false, false] (ls' := [none, none, none]) rfl (jX9_againstAt_25_ok F q hn hf hl  z2.2 h)
/-! HouseholdVaultModel.weight(III)I -/
theorem dX9_weight_0 : decode cX9_weight 0 = .ok (.aload_n 0, 1) := by decide +kernel
theorem dX9_weight_1 : decode cX9_weight 1 = .ok (.iload_n 1, 1) := by decide +kernel
theorem dX9_weight_2 : decode cX9_weight 2 = .ok (.invokevirtual 181, 3) := by decide +kernel
theorem dX9_weight_5 : decode cX9_weight 5 = .ok (.ifCond .eq 27, 3) := by decide +kernel
theorem dX9_weight_8 : decode cX9_weight 8 = .ok (.iload_n 2, 1) := by decide +kernel
theorem dX9_weight_9 : decode cX9_weight 9 = .ok (.i2l, 1) := by decide +kernel
theorem dX9_weight_10 : decode cX9_weight 10 = .ok (.lconst 0, 1) := by decide +kernel
theorem dX9_weight_11 : decode cX9_weight 11 = .ok (.ldc2_w 261, 3) := by decide +kernel
theorem dX9_weight_14 : decode cX9_weight 14 = .ok (.invokestatic 140, 3) := by decide +kernel
theorem dX9_weight_17 : decode cX9_weight 17 = .ok (.ifCond .eq 15, 3) := by decide +kernel
theorem dX9_weight_20 : decode cX9_weight 20 = .ok (.iload_n 3, 1) := by decide +kernel
theorem dX9_weight_21 : decode cX9_weight 21 = .ok (.i2l, 1) := by decide +kernel
theorem dX9_weight_22 : decode cX9_weight 22 = .ok (.lconst 1, 1) := by decide +kernel
theorem dX9_weight_23 : decode cX9_weight 23 = .ok (.ldc2_w 263, 3) := by decide +kernel
theorem dX9_weight_26 : decode cX9_weight 26 = .ok (.invokestatic 140, 3) := by decide +kernel
theorem dX9_weight_29 : decode cX9_weight 29 = .ok (.ifCond .ne 5, 3) := by decide +kernel
theorem dX9_weight_32 : decode cX9_weight 32 = .ok (.iconst (-1), 1) := by decide +kernel
theorem dX9_weight_33 : decode cX9_weight 33 = .ok (.ireturn, 1) := by decide +kernel
theorem dX9_weight_34 : decode cX9_weight 34 = .ok (.aload_n 0, 1) := by decide +kernel
theorem dX9_weight_35 : decode cX9_weight 35 = .ok (.getfield 57, 3) := by decide +kernel
theorem dX9_weight_38 : decode cX9_weight 38 = .ok (.iload_n 1, 1) := by decide +kernel
theorem dX9_weight_39 : decode cX9_weight 39 = .ok (.iload_n 2, 1) := by decide +kernel
theorem dX9_weight_40 : decode cX9_weight 40 = .ok (.sipush 2520, 3) := by decide +kernel
theorem dX9_weight_43 : decode cX9_weight 43 = .ok (.iload_n 3, 1) := by decide +kernel
theorem dX9_weight_44 : decode cX9_weight 44 = .ok (.idiv, 1) := by decide +kernel
theorem dX9_weight_45 : decode cX9_weight 45 = .ok (.imul, 1) := by decide +kernel
theorem dX9_weight_46 : decode cX9_weight 46 = .ok (.iastore, 1) := by decide +kernel
theorem dX9_weight_47 : decode cX9_weight 47 = .ok (.iconst 1, 1) := by decide +kernel
theorem dX9_weight_48 : decode cX9_weight 48 = .ok (.ireturn, 1) := by decide +kernel
def f_X9_weight (a0 a1 a2 a3 : Int) (H : PH) : RO := vm 9 a0 H <|
  (f_X9_isHousehold a0 a1 H).bind fun z1 => (if z1.1 = 0 then some ((-1), z1.2)
  else (f_X9_in a2 0 1000 z1.2).bind fun z2 => (if z2.1 = 0 then some ((-1), z2.2)
  else (f_X9_in a3 1 10 z2.2).bind fun z3 => (if z3.1 ≠ 0 then (ld 25 z3.2 a0 17).bind fun x4 => (if a3 = 0 then none else (stv 0 z3.2 x4 a1 (w32 (a2 * (w32 (Int.tdiv 2520 a3))))).bind fun H5 => some (1, H5))
  else some ((-1), z3.2))))
set_option maxHeartbeats 4000000 in
theorem m_X9_weight (l : Launch) (a0 a1 a2 a3 : Int) (H : PH) (rr : Int) (HH : PH) (h : f_X9_weight a0 a1 a2 a3 H = some (rr, HH)) : CT l yX9_weight cX9_weight 4 (some .int) 2 46 [vr a0, vi a1, vi a2, vi a3] H (some (vi rr)) HH := by
  refine CT.of RX9 (by decide) rfl [some (vr a0), some (vi a1), some (vi a2), some (vi a3)] rfl rfl ?_
  intro E F q hn hf hl hm
  unfold f_X9_weight at h
  obtain ⟨hv, h⟩ := vm_spec h
  refine pw_aload_n (pc := 0) F dX9_weight_0 rfl ?_
  refine pw_iload_n (pc := 1) F dX9_weight_1 rfl ?_
  obtain ⟨z1, ez1, h⟩ := bnd h
  refine pw_callV (pc := 2) (as := [vi a1]) (st := []) (r := (some (vi z1.1))) F 181 9 (by decide) rfl (fun l => m_X9_isHousehold l a0 a1 H z1.1 z1.2 ez1) g_9d408e4d4c g_afb7bfae38 g_247017f9f2 g_2759d91faa g_8e41464c49 hd_X9_isHousehold (rm_ok hf hl (by decide) (by decide)) rfl (vm_spec ez1).1 dX9_weight_2 rfl (stk' := [vi z1.1]) rfl ?_
  refine pw_if_eq (pc := 5) F 32 dX9_weight_5 (by decide) (fun hc => ?_) (fun hc => ?_)
  · have h := iteT hc h
    refine pw_iconst (pc := 32) F (-1) dX9_weight_32 (by decide) ?_
    cases h
    exact pw_iret (pc := 33) F q dX9_weight_33
  · have h := iteF hc h
    refine pw_iload_n (pc := 8) F dX9_weight_8 rfl ?_
    refine pw_i2l (pc := 9) F dX9_weight_9 ?_
    refine pw_lconst (pc := 10) F 0 dX9_weight_10 (by decide) ?_
    refine pw_ldc2 (pc := 11) F 1000 g_5e18afccfb dX9_weight_11 (by decide) ?_
    obtain ⟨z2, ez2, h⟩ := bnd h
    refine pw_callS (pc := 14) (as := [vl a2, vl 0, vl 1000]) (st := []) (r := (some (vi z2.1))) F 140 (fun l => m_X9_in l a2 0 1000 z1.2 z2.1 z2.2 ez2) g_0174c906e2 g_3fadeb3198 g_2759d91faa g_c0c30bc7de hd_X9_in (rm_ok hf hl (by decide) (by decide)) rfl dX9_weight_14 rfl (stk' := [vi z2.1]) rfl ?_
    refine pw_if_eq (pc := 17) F 32 dX9_weight_17 (by decide) (fun hc => ?_) (fun hc => ?_)
    · have h := iteT hc h
      refine pw_iconst (pc := 32) F (-1) dX9_weight_32 (by decide) ?_
      cases h
      exact pw_iret (pc := 33) F q dX9_weight_33
    · have h := iteF hc h
      refine pw_iload_n (pc := 20) F dX9_weight_20 rfl ?_
      refine pw_i2l (pc := 21) F dX9_weight_21 ?_
      refine pw_lconst (pc := 22) F 1 dX9_weight_22 (by decide) ?_
      refine pw_ldc2 (pc := 23) F 10 g_81a9dba732 dX9_weight_23 (by decide) ?_
      obtain ⟨z3, ez3, h⟩ := bnd h
      refine pw_callS (pc := 26) (as := [vl a3, vl 1, vl 10]) (st := []) (r := (some (vi z3.1))) F 140 (fun l => m_X9_in l a3 1 10 z2.2 z3.1 z3.2 ez3) g_0174c906e2 g_3fadeb3198 g_2759d91faa g_c0c30bc7de hd_X9_in (rm_ok hf hl (by decide) (by decide)) rfl dX9_weight_26 rfl (stk' := [vi z3.1]) rfl ?_
      refine pw_if_ne (pc := 29) F 34 dX9_weight_29 (by decide) (fun hc => ?_) (fun hc => ?_)
      · have h := iteT hc h
        refine pw_aload_n (pc := 34) F dX9_weight_34 rfl ?_
        obtain ⟨x4, ex4, h⟩ := bnd h
        refine pw_get (pc := 35) F 9 17 57 (by decide) (by decide) g_8eca8acc62 inl_9 2 rfl dX9_weight_35 ex4 ?_
        refine pw_iload_n (pc := 38) F dX9_weight_38 rfl ?_
        refine pw_iload_n (pc := 39) F dX9_weight_39 rfl ?_
        refine pw_sipush (pc := 40) F 2520 dX9_weight_40 (by decide) ?_
        refine pw_iload_n (pc := 43) F dX9_weight_43 rfl ?_
        by_cases hz44 : a3 = 0
        · rw [if_pos hz44] at h; cases h
        have h := iteF hz44 h
        refine pw_idiv (pc := 44) F dX9_weight_44 hz44 ?_
        refine pw_imul (pc := 45) F dX9_weight_45 ?_
        obtain ⟨H5, eH5, h⟩ := bnd h
        refine pw_iast (pc := 46) F dX9_weight_46 eH5 ?_
        refine pw_iconst (pc := 47) F 1 dX9_weight_47 (by decide) ?_
        cases h
        exact pw_iret (pc := 48) F q dX9_weight_48
      · have h := iteF hc h
        refine pw_iconst (pc := 32) F (-1) dX9_weight_32 (by decide) ?_
        cases h
        exact pw_iret (pc := 33) F q dX9_weight_33
/-! HouseholdVaultModel.line(I)I -/
theorem dX9_line_0 : decode cX9_line 0 = .ok (.bipush 6, 2) := by decide +kernel
theorem dX9_line_2 : decode cX9_line 2 = .ok (.iload_n 1, 1) := by decide +kernel
theorem dX9_line_3 : decode cX9_line 3 = .ok (.imul, 1) := by decide +kernel
theorem dX9_line_4 : decode cX9_line 4 = .ok (.istore_n 2, 1) := by decide +kernel
theorem dX9_line_5 : decode cX9_line 5 = .ok (.aload_n 0, 1) := by decide +kernel
theorem dX9_line_6 : decode cX9_line 6 = .ok (.getfield 118, 3) := by decide +kernel
theorem dX9_line_9 : decode cX9_line 9 = .ok (.iload_n 2, 1) := by decide +kernel
theorem dX9_line_10 : decode cX9_line 10 = .ok (.iaload, 1) := by decide +kernel
theorem dX9_line_11 : decode cX9_line 11 = .ok (.ifCond .le 12, 3) := by decide +kernel
theorem dX9_line_14 : decode cX9_line 14 = .ok (.aload_n 0, 1) := by decide +kernel
theorem dX9_line_15 : decode cX9_line 15 = .ok (.getfield 35, 3) := by decide +kernel
theorem dX9_line_18 : decode cX9_line 18 = .ok (.iload_n 1, 1) := by decide +kernel
theorem dX9_line_19 : decode cX9_line 19 = .ok (.iaload, 1) := by decide +kernel
theorem dX9_line_20 : decode cX9_line 20 = .ok (.goto 14, 3) := by decide +kernel
theorem dX9_line_23 : decode cX9_line 23 = .ok (.aload_n 0, 1) := by decide +kernel
theorem dX9_line_24 : decode cX9_line 24 = .ok (.iload_n 1, 1) := by decide +kernel
theorem dX9_line_25 : decode cX9_line 25 = .ok (.aload_n 0, 1) := by decide +kernel
theorem dX9_line_26 : decode cX9_line 26 = .ok (.getfield 115, 3) := by decide +kernel
theorem dX9_line_29 : decode cX9_line 29 = .ok (.iload_n 2, 1) := by decide +kernel
theorem dX9_line_30 : decode cX9_line 30 = .ok (.laload, 1) := by decide +kernel
theorem dX9_line_31 : decode cX9_line 31 = .ok (.invokevirtual 174, 3) := by decide +kernel
theorem dX9_line_34 : decode cX9_line 34 = .ok (.ireturn, 1) := by decide +kernel
def f_X9_line (a0 a1 : Int) (H : PH) : RO := vm 9 a0 H <|
  (ld 25 H a0 44).bind fun x1 => (ld 0 H x1 (w32 (6 * a1))).bind fun x2 => (if x2 ≤ 0 then (ld 25 H a0 43).bind fun x3 => (ld 1 H x3 (w32 (6 * a1))).bind fun x4 => (f_X9_codeNumber a0 a1 x4 H).bind fun z5 => some (z5.1, z5.2)
  else (ld 25 H a0 9).bind fun x6 => (ld 0 H x6 a1).bind fun x7 => some (x7, H))
set_option maxHeartbeats 4000000 in
theorem m_X9_line (l : Launch) (a0 a1 : Int) (H : PH) (rr : Int) (HH : PH) (h : f_X9_line a0 a1 H = some (rr, HH)) : CT l yX9_line cX9_line 3 (some .int) 1 25 [vr a0, vi a1] H (some (vi rr)) HH := by
  refine CT.of RX9 (by decide) rfl [some (vr a0), some (vi a1), none] rfl rfl ?_
  intro E F q hn hf hl hm
  unfold f_X9_line at h
  obtain ⟨hv, h⟩ := vm_spec h
  refine pw_bipush (pc := 0) F 6 dX9_line_0 (by decide) ?_
  refine pw_iload_n (pc := 2) F dX9_line_2 rfl ?_
  refine pw_imul (pc := 3) F dX9_line_3 ?_
  refine pw_istore_n (pc := 4) F dX9_line_4 (lt_nl hn (by decide)) [some (vr a0), some (vi a1), some (vi (w32 (6 * a1)))] rfl ?_
  refine pw_aload_n (pc := 5) F dX9_line_5 rfl ?_
  obtain ⟨x1, ex1, h⟩ := bnd h
  refine pw_get (pc := 6) F 9 44 118 (by decide) (by decide) g_5be5e353a9 inl_9 2 rfl dX9_line_6 ex1 ?_
  refine pw_iload_n (pc := 9) F dX9_line_9 rfl ?_
  obtain ⟨x2, ex2, h⟩ := bnd h
  refine pw_iald (pc := 10) F dX9_line_10 ex2 ?_
  refine pw_if_le (pc := 11) F 23 dX9_line_11 (by decide) (fun hc => ?_) (fun hc => ?_)
  · have h := iteT hc h
    refine pw_aload_n (pc := 23) F dX9_line_23 rfl ?_
    refine pw_iload_n (pc := 24) F dX9_line_24 rfl ?_
    refine pw_aload_n (pc := 25) F dX9_line_25 rfl ?_
    obtain ⟨x3, ex3, h⟩ := bnd h
    refine pw_get (pc := 26) F 9 43 115 (by decide) (by decide) g_e8763ca537 inl_9 2 rfl dX9_line_26 ex3 ?_
    refine pw_iload_n (pc := 29) F dX9_line_29 rfl ?_
    obtain ⟨x4, ex4, h⟩ := bnd h
    refine pw_lald (pc := 30) F dX9_line_30 ex4 ?_
    obtain ⟨z5, ez5, h⟩ := bnd h
    refine pw_callV (pc := 31) (as := [vi a1, vl x4]) (st := []) (r := (some (vi z5.1))) F 174 9 (by decide) rfl (fun l => m_X9_codeNumber l a0 a1 x4 H z5.1 z5.2 ez5) g_74b15b1c50 g_5405ac1030 g_3d4c6b4b45 g_2759d91faa g_522d481ddd hd_X9_codeNumber (rm_ok hf hl (by decide) (by decide)) rfl (vm_spec ez5).1 dX9_line_31 rfl (stk' := [vi z5.1]) rfl ?_
    cases h
    exact pw_iret (pc := 34) F q dX9_line_34
  · have h := iteF hc h
    refine pw_aload_n (pc := 14) F dX9_line_14 rfl ?_
    obtain ⟨x6, ex6, h⟩ := bnd h
    refine pw_get (pc := 15) F 9 9 35 (by decide) (by decide) g_364d877551 inl_9 2 rfl dX9_line_15 ex6 ?_
    refine pw_iload_n (pc := 18) F dX9_line_18 rfl ?_
    obtain ⟨x7, ex7, h⟩ := bnd h
    refine pw_iald (pc := 19) F dX9_line_19 ex7 ?_
    refine pw_goto (pc := 20) F 34 dX9_line_20 (by decide) ?_
    cases h
    exact pw_iret (pc := 34) F q dX9_line_34
/-! HouseholdVaultModel.isCodeAtTop(I)Z -/
theorem dX9_isCodeAtTop_0 : decode cX9_isCodeAtTop 0 = .ok (.aload_n 0, 1) := by decide +kernel
theorem dX9_isCodeAtTop_1 : decode cX9_isCodeAtTop 1 = .ok (.getfield 7, 3) := by decide +kernel
theorem dX9_isCodeAtTop_4 : decode cX9_isCodeAtTop 4 = .ok (.iload_n 1, 1) := by decide +kernel
theorem dX9_isCodeAtTop_5 : decode cX9_isCodeAtTop 5 = .ok (.iaload, 1) := by decide +kernel
theorem dX9_isCodeAtTop_6 : decode cX9_isCodeAtTop 6 = .ok (.ifCond .ne 16, 3) := by decide +kernel
theorem dX9_isCodeAtTop_9 : decode cX9_isCodeAtTop 9 = .ok (.aload_n 0, 1) := by decide +kernel
theorem dX9_isCodeAtTop_10 : decode cX9_isCodeAtTop 10 = .ok (.getfield 13, 3) := by decide +kernel
theorem dX9_isCodeAtTop_13 : decode cX9_isCodeAtTop 13 = .ok (.iload_n 1, 1) := by decide +kernel
theorem dX9_isCodeAtTop_14 : decode cX9_isCodeAtTop 14 = .ok (.iaload, 1) := by decide +kernel
theorem dX9_isCodeAtTop_15 : decode cX9_isCodeAtTop 15 = .ok (.ifCond .ge 7, 3) := by decide +kernel
theorem dX9_isCodeAtTop_18 : decode cX9_isCodeAtTop 18 = .ok (.iconst 1, 1) := by decide +kernel
theorem dX9_isCodeAtTop_19 : decode cX9_isCodeAtTop 19 = .ok (.goto 4, 3) := by decide +kernel
theorem dX9_isCodeAtTop_22 : decode cX9_isCodeAtTop 22 = .ok (.iconst 0, 1) := by decide +kernel
theorem dX9_isCodeAtTop_23 : decode cX9_isCodeAtTop 23 = .ok (.ireturn, 1) := by decide +kernel
def f_X9_isCodeAtTop (a0 a1 : Int) (H : PH) : RO := vm 9 a0 H <|
  (ld 25 H a0 1).bind fun x1 => (ld 0 H x1 a1).bind fun x2 => (if x2 ≠ 0 then some (0, H)
  else (ld 25 H a0 2).bind fun x3 => (ld 0 H x3 a1).bind fun x4 => (if x4 ≥ 0 then some (0, H)
  else some (1, H)))
set_option maxHeartbeats 4000000 in
theorem m_X9_isCodeAtTop (l : Launch) (a0 a1 : Int) (H : PH) (rr : Int) (HH : PH) (h : f_X9_isCodeAtTop a0 a1 H = some (rr, HH)) : CT l yX9_isCodeAtTop cX9_isCodeAtTop 2 (some .boolean) 0 0 [vr a0, vi a1] H (some (vi rr)) HH := by
  refine CT.of RX9 (by decide) rfl [some (vr a0), some (vi a1)] rfl rfl ?_
  intro E F q hn hf hl hm
  unfold f_X9_isCodeAtTop at h
  obtain ⟨hv, h⟩ := vm_spec h
  refine pw_aload_n (pc := 0) F dX9_isCodeAtTop_0 rfl ?_
  obtain ⟨x1, ex1, h⟩ := bnd h
  refine pw_get (pc := 1) F 9 1 7 (by decide) (by decide) g_a89464ec18 inl_9 2 rfl dX9_isCodeAtTop_1 ex1 ?_
  refine pw_iload_n (pc := 4) F dX9_isCodeAtTop_4 rfl ?_
  obtain ⟨x2, ex2, h⟩ := bnd h
  refine pw_iald (pc := 5) F dX9_isCodeAtTop_5 ex2 ?_
  refine pw_if_ne (pc := 6) F 22 dX9_isCodeAtTop_6 (by decide) (fun hc => ?_) (fun hc => ?_)
  · have h := iteT hc h
    refine pw_iconst (pc := 22) F 0 dX9_isCodeAtTop_22 (by decide) ?_
    cases h
    exact pw_zret (pc := 23) F q (by decide) dX9_isCodeAtTop_23
  · have h := iteF hc h
    refine pw_aload_n (pc := 9) F dX9_isCodeAtTop_9 rfl ?_
    obtain ⟨x3, ex3, h⟩ := bnd h
    refine pw_get (pc := 10) F 9 2 13 (by decide) (by decide) g_0c2899f53f inl_9 2 rfl dX9_isCodeAtTop_10 ex3 ?_
    refine pw_iload_n (pc := 13) F dX9_isCodeAtTop_13 rfl ?_
    obtain ⟨x4, ex4, h⟩ := bnd h
    refine pw_iald (pc := 14) F dX9_isCodeAtTop_14 ex4 ?_
    refine pw_if_ge (pc := 15) F 22 dX9_isCodeAtTop_15 (by decide) (fun hc => ?_) (fun hc => ?_)
    · have h := iteT hc h
      refine pw_iconst (pc := 22) F 0 dX9_isCodeAtTop_22 (by decide) ?_
      cases h
      exact pw_zret (pc := 23) F q (by decide) dX9_isCodeAtTop_23
    · have h := iteF hc h
      refine pw_iconst (pc := 18) F 1 dX9_isCodeAtTop_18 (by decide) ?_
      refine pw_goto (pc := 19) F 23 dX9_isCodeAtTop_19 (by decide) ?_
      cases h
      exact pw_zret (pc := 23) F q (by decide) dX9_isCodeAtTop_23
