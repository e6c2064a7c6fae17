/-! HouseholdVault.findChanges(LHouseholdVault$Edition;LHouseholdVault$Edition;I)V -/
theorem dX8_findChanges_0 : decode cX8_findChanges 0 = .ok (.aload_n 0, 1) := by decide +kernel
theorem dX8_findChanges_1 : decode cX8_findChanges 1 = .ok (.getfield 38, 3) := by decide +kernel
theorem dX8_findChanges_4 : decode cX8_findChanges 4 = .ok (.iload_n 3, 1) := by decide +kernel
theorem dX8_findChanges_5 : decode cX8_findChanges 5 = .ok (.invokevirtual 224, 3) := by decide +kernel
theorem dX8_findChanges_8 : decode cX8_findChanges 8 = .ok (.aload_n 1, 1) := by decide +kernel
theorem dX8_findChanges_9 : decode cX8_findChanges 9 = .ok (.getfield 356, 3) := by decide +kernel
theorem dX8_findChanges_12 : decode cX8_findChanges 12 = .ok (.arraylength, 1) := by decide +kernel
theorem dX8_findChanges_13 : decode cX8_findChanges 13 = .ok (.aload_n 2, 1) := by decide +kernel
theorem dX8_findChanges_14 : decode cX8_findChanges 14 = .ok (.getfield 356, 3) := by decide +kernel
theorem dX8_findChanges_17 : decode cX8_findChanges 17 = .ok (.arraylength, 1) := by decide +kernel
theorem dX8_findChanges_18 : decode cX8_findChanges 18 = .ok (.invokestatic 360, 3) := by decide +kernel
theorem dX8_findChanges_21 : decode cX8_findChanges 21 = .ok (.istore 4, 2) := by decide +kernel
theorem dX8_findChanges_23 : decode cX8_findChanges 23 = .ok (.aload_n 1, 1) := by decide +kernel
theorem dX8_findChanges_24 : decode cX8_findChanges 24 = .ok (.getfield 376, 3) := by decide +kernel
theorem dX8_findChanges_27 : decode cX8_findChanges 27 = .ok (.aload_n 2, 1) := by decide +kernel
theorem dX8_findChanges_28 : decode cX8_findChanges 28 = .ok (.getfield 376, 3) := by decide +kernel
theorem dX8_findChanges_31 : decode cX8_findChanges 31 = .ok (.invokestatic 360, 3) := by decide +kernel
theorem dX8_findChanges_34 : decode cX8_findChanges 34 = .ok (.istore 5, 2) := by decide +kernel
theorem dX8_findChanges_36 : decode cX8_findChanges 36 = .ok (.iconst 0, 1) := by decide +kernel
theorem dX8_findChanges_37 : decode cX8_findChanges 37 = .ok (.istore 6, 2) := by decide +kernel
theorem dX8_findChanges_39 : decode cX8_findChanges 39 = .ok (.iload 6, 2) := by decide +kernel
theorem dX8_findChanges_41 : decode cX8_findChanges 41 = .ok (.iload 4, 2) := by decide +kernel
theorem dX8_findChanges_43 : decode cX8_findChanges 43 = .ok (.if_icmp .ge 63, 3) := by decide +kernel
theorem dX8_findChanges_46 : decode cX8_findChanges 46 = .ok (.iconst 0, 1) := by decide +kernel
theorem dX8_findChanges_47 : decode cX8_findChanges 47 = .ok (.istore 7, 2) := by decide +kernel
theorem dX8_findChanges_49 : decode cX8_findChanges 49 = .ok (.iload 7, 2) := by decide +kernel
theorem dX8_findChanges_51 : decode cX8_findChanges 51 = .ok (.iload 5, 2) := by decide +kernel
theorem dX8_findChanges_53 : decode cX8_findChanges 53 = .ok (.if_icmp .ge 47, 3) := by decide +kernel
theorem dX8_findChanges_56 : decode cX8_findChanges 56 = .ok (.aload_n 0, 1) := by decide +kernel
theorem dX8_findChanges_57 : decode cX8_findChanges 57 = .ok (.getfield 12, 3) := by decide +kernel
theorem dX8_findChanges_60 : decode cX8_findChanges 60 = .ok (.getfield 144, 3) := by decide +kernel
theorem dX8_findChanges_63 : decode cX8_findChanges 63 = .ok (.iload 7, 2) := by decide +kernel
theorem dX8_findChanges_65 : decode cX8_findChanges 65 = .ok (.aaload, 1) := by decide +kernel
theorem dX8_findChanges_66 : decode cX8_findChanges 66 = .ok (.getfield 75, 3) := by decide +kernel
theorem dX8_findChanges_69 : decode cX8_findChanges 69 = .ok (.ifCond .ne 25, 3) := by decide +kernel
theorem dX8_findChanges_72 : decode cX8_findChanges 72 = .ok (.aload_n 0, 1) := by decide +kernel
theorem dX8_findChanges_73 : decode cX8_findChanges 73 = .ok (.aload_n 1, 1) := by decide +kernel
theorem dX8_findChanges_74 : decode cX8_findChanges 74 = .ok (.getfield 356, 3) := by decide +kernel
theorem dX8_findChanges_77 : decode cX8_findChanges 77 = .ok (.iload 6, 2) := by decide +kernel
theorem dX8_findChanges_79 : decode cX8_findChanges 79 = .ok (.aaload, 1) := by decide +kernel
theorem dX8_findChanges_80 : decode cX8_findChanges 80 = .ok (.aload_n 2, 1) := by decide +kernel
theorem dX8_findChanges_81 : decode cX8_findChanges 81 = .ok (.getfield 356, 3) := by decide +kernel
theorem dX8_findChanges_84 : decode cX8_findChanges 84 = .ok (.iload 6, 2) := by decide +kernel
theorem dX8_findChanges_86 : decode cX8_findChanges 86 = .ok (.aaload, 1) := by decide +kernel
theorem dX8_findChanges_87 : decode cX8_findChanges 87 = .ok (.iload 6, 2) := by decide +kernel
theorem dX8_findChanges_89 : decode cX8_findChanges 89 = .ok (.iload 7, 2) := by decide +kernel
theorem dX8_findChanges_91 : decode cX8_findChanges 91 = .ok (.invokevirtual 377, 3) := by decide +kernel
theorem dX8_findChanges_94 : decode cX8_findChanges 94 = .ok (.iinc 7 1, 3) := by decide +kernel
theorem dX8_findChanges_97 : decode cX8_findChanges 97 = .ok (.goto (-48), 3) := by decide +kernel
theorem dX8_findChanges_100 : decode cX8_findChanges 100 = .ok (.iinc 6 1, 3) := by decide +kernel
theorem dX8_findChanges_103 : decode cX8_findChanges 103 = .ok (.goto (-64), 3) := by decide +kernel
theorem dX8_findChanges_106 : decode cX8_findChanges 106 = .ok (.return_, 1) := by decide +kernel
def jX8_findChanges_94 (self39 : Int → PH → RO) (self49 : Int → PH → RO) (p0 p1 p2 p4 p5 p6 p7 : Int) (H : PH) : RO :=
  self49 (w32 (p7 + 1)) H
set_option maxHeartbeats 4000000 in
theorem jX8_findChanges_94_ok {E : PE} {rr : Int} {HH : PH} (F : FX E cX8_findChanges RX8) (q : QE E none HH none) (hn : nLof E = 8) (hf : (roomOf E).frames = 4) (hl : (roomOf E).locals = 93) (self39 : Int → PH → RO) (self49 : Int → PH → RO) (p0 p1 p2 p4 p5 p6 p7 : Int) (H : PH) (ih39 : ∀ (v6 : Int) (HV : PH), self39 v6 HV = some (rr, HH) → PW E 39 [some (vr p0), some (vr p1), some (vr p2), none, some (vi p4), some (vi p5), some (vi v6), none] [] HV) (ih49 : ∀ (v7 : Int) (HV : PH), self49 v7 HV = some (rr, HH) → PW E 49 [some (vr p0), some (vr p1), some (vr p2), none, some (vi p4), some (vi p5), some (vi p6), some (vi v7)] [] HV) (h : jX8_findChanges_94 self39 self49 p0 p1 p2 p4 p5 p6 p7 H = some (rr, HH)) : PW E 94 [some (vr p0), some (vr p1), some (vr p2), none, some (vi p4), some (vi p5), some (vi p6), some (vi p7)] [] H := by
  unfold jX8_findChanges_94 at h
  refine pw_iinc (pc := 94) F dX8_findChanges_94 rfl (lt_nl hn (by decide)) [some (vr p0), some (vr p1), some (vr p2), none, some (vi p4), some (vi p5), some (vi p6), some (vi (w32 (p7 + 1)))] rfl (by decide) ?_
  refine pw_goto (pc := 97) F 49 dX8_findChanges_97 (by decide) ?_
  exact pw_mask [true, true, true, true, true, true, true, true] (ls' := [some (vr p0), some (vr p1), some (vr p2), none, some (vi p4), some (vi p5), some (vi p6), some (vi (w32 (p7 + 1)))]) rfl (ih49 (w32 (p7 + 1)) H h)
def lX8_findChanges_49 (self39 : Int → PH → RO) (p0 p1 p2 p4 p5 p6 : Int) (self49 : Int → PH → RO) (p7 : Int) (H : PH) : RO :=
  (if p7 ≥ p5 then self39 (w32 (p6 + 1)) H
  else (ld 24 H p0 0).bind fun x1 => (ld 19 H x1 0).bind fun x2 => (ld 6 H x2 p7).bind fun x3 => (ld 21 H x3 2).bind fun x4 => (if x4 ≠ 0 then jX8_findChanges_94 self39 self49 p0 p1 p2 p4 p5 p6 p7 H
  else (ld 17 H p1 0).bind fun x5 => (ld 7 H x5 p6).bind fun x6 => (ld 17 H p2 0).bind fun x7 => (ld 7 H x7 p6).bind fun x8 => (f_X8_meetChanges p0 x6 x8 p6 p7 H).bind fun z9 => jX8_findChanges_94 self39 self49 p0 p1 p2 p4 p5 p6 p7 z9.2))
set_option maxHeartbeats 4000000 in
theorem lX8_findChanges_49_ok {E : PE} {rr : Int} {HH : PH} (F : FX E cX8_findChanges RX8) (q : QE E none HH none) (hn : nLof E = 8) (hf : (roomOf E).frames = 4) (hl : (roomOf E).locals = 93) (self39 : Int → PH → RO) (p0 p1 p2 p4 p5 p6 : Int) (ih39 : ∀ (v6 : Int) (HV : PH), self39 v6 HV = some (rr, HH) → PW E 39 [some (vr p0), some (vr p1), some (vr p2), none, some (vi p4), some (vi p5), some (vi v6), none] [] HV) : ∀ (n : Nat) (p7 : Int) (H : PH), lq1 (lX8_findChanges_49 self39 p0 p1 p2 p4 p5 p6) n p7 H = some (rr, HH) → PW E 49 [some (vr p0), some (vr p1), some (vr p2), none, some (vi p4), some (vi p5), some (vi p6), some (vi p7)] [] H := by
  refine lq1_ind (P := fun p7 H => PW E 49 [some (vr p0), some (vr p1), some (vr p2), none, some (vi p4), some (vi p5), some (vi p6), some (vi p7)] [] H) ?_
  intro self49 ih49 p7 H h
  unfold lX8_findChanges_49 at h
  refine pw_iload (pc := 49) F dX8_findChanges_49 rfl ?_
  refine pw_iload (pc := 51) F dX8_findChanges_51 rfl ?_
  refine pw_icmp_ge (pc := 53) F 100 dX8_findChanges_53 (by decide) (fun hc => ?_) (fun hc => ?_)
  · have h := iteT hc h
    refine pw_iinc (pc := 100) F dX8_findChanges_100 rfl (lt_nl hn (by decide)) [some (vr p0), some (vr p1), some (vr p2), none, some (vi p4), some (vi p5), some (vi (w32 (p6 + 1))), some (vi p7)] rfl (by decide) ?_
    refine pw_goto (pc := 103) F 39 dX8_findChanges_103 (by decide) ?_
    exact pw_mask [true, true, true, true, true, true, true, false] (ls' := [some (vr p0), some (vr p1), some (vr p2), none, some (vi p4), some (vi p5), some (vi (w32 (p6 + 1))), none]) rfl (ih39 (w32 (p6 + 1)) H h)
  · have h := iteF hc h
    refine pw_aload_n (pc := 56) F dX8_findChanges_56 rfl ?_
    obtain ⟨x1, ex1, h⟩ := bnd h
    refine pw_get (pc := 57) F 8 0 12 (by decide) (by decide) g_955d9610dc inl_8 2 rfl dX8_findChanges_57 ex1 ?_
    obtain ⟨x2, ex2, h⟩ := bnd h
    refine pw_get (pc := 60) F 3 0 144 (by decide) (by decide) g_78df9fc092 inl_3 2 rfl dX8_findChanges_60 ex2 ?_
    refine pw_iload (pc := 63) F dX8_findChanges_63 rfl ?_
    obtain ⟨x3, ex3, h⟩ := bnd h
    refine pw_aald (pc := 65) F 6 (by decide) dX8_findChanges_65 ex3 ?_
    obtain ⟨x4, ex4, h⟩ := bnd h
    refine pw_get (pc := 66) F 5 2 75 (by decide) (by decide) g_3884a6eb9d inl_5 0 rfl dX8_findChanges_66 ex4 ?_
    refine pw_if_ne (pc := 69) F 94 dX8_findChanges_69 (by decide) (fun hc => ?_) (fun hc => ?_)
    · have h := iteT hc h
      exact pw_mask [true, true, true, true, true, true, true, true] (ls' := [some (vr p0), some (vr p1), some (vr p2), none, some (vi p4), some (vi p5), some (vi p6), some (vi p7)]) rfl (jX8_findChanges_94_ok F q hn hf hl self39 self49 p0 p1 p2 p4 p5 p6 p7 H ih39 ih49 h)
    · have h := iteF hc h
      refine pw_aload_n (pc := 72) F dX8_findChanges_72 rfl ?_
      refine pw_aload_n (pc := 73) F dX8_findChanges_73 rfl ?_
      obtain ⟨x5, ex5, h⟩ := bnd h
      refine pw_get (pc := 74) F 1 0 356 (by decide) (by decide) g_bee30a97df inl_1 2 rfl dX8_findChanges_74 ex5 ?_
      refine pw_iload (pc := 77) F dX8_findChanges_77 rfl ?_
      obtain ⟨x6, ex6, h⟩ := bnd h
      refine pw_aald (pc := 79) F 7 (by decide) dX8_findChanges_79 ex6 ?_
      refine pw_aload_n (pc := 80) F dX8_findChanges_80 rfl ?_
      obtain ⟨x7, ex7, h⟩ := bnd h
      refine pw_get (pc := 81) F 1 0 356 (by decide) (by decide) g_bee30a97df inl_1 2 rfl dX8_findChanges_81 ex7 ?_
      refine pw_iload (pc := 84) F dX8_findChanges_84 rfl ?_
      obtain ⟨x8, ex8, h⟩ := bnd h
      refine pw_aald (pc := 86) F 7 (by decide) dX8_findChanges_86 ex8 ?_
      refine pw_iload (pc := 87) F dX8_findChanges_87 rfl ?_
      refine pw_iload (pc := 89) F dX8_findChanges_89 rfl ?_
      obtain ⟨z9, ez9, h⟩ := bnd h
      refine pw_callV (pc := 91) (as := [vr x6, vr x8, vi p6, vi p7]) (st := []) (r := none) F 377 8 (by decide) rfl (fun l => m_X8_meetChanges l p0 x6 x8 p6 p7 H z9.1 z9.2 ez9) g_3a763554e8 g_22c7dcc6d2 g_9bf74eb767 g_99e03e18e2 g_4f4422c817 hd_X8_meetChanges (rm_ok hf hl (by decide) (by decide)) rfl (vm_spec ez9).1 dX8_findChanges_91 rfl (stk' := []) rfl ?_
      exact pw_mask [true, true, true, true, true, true, true, true] (ls' := [some (vr p0), some (vr p1), some (vr p2), none, some (vi p4), some (vi p5), some (vi p6), some (vi p7)]) rfl (jX8_findChanges_94_ok F q hn hf hl self39 self49 p0 p1 p2 p4 p5 p6 p7 z9.2 ih39 ih49 h)
def lX8_findChanges_39 (p0 p1 p2 p4 p5 : Int) (self39 : Int → PH → RO) (p6 : Int) (H : PH) : RO :=
  (if p6 ≥ p4 then some (0, H)
  else lq1 (lX8_findChanges_49 self39 p0 p1 p2 p4 p5 p6) 6000 0 H)
set_option maxHeartbeats 4000000 in
theorem lX8_findChanges_39_ok {E : PE} {rr : Int} {HH : PH} (F : FX E cX8_findChanges RX8) (q : QE E none HH none) (hn : nLof E = 8) (hf : (roomOf E).frames = 4) (hl : (roomOf E).locals = 93) (p0 p1 p2 p4 p5 : Int) : ∀ (n : Nat) (p6 : Int) (H : PH), lq1 (lX8_findChanges_39 p0 p1 p2 p4 p5) n p6 H = some (rr, HH) → PW E 39 [some (vr p0), some (vr p1), some (vr p2), none, some (vi p4), some (vi p5), some (vi p6), none] [] H := by
  refine lq1_ind (P := fun p6 H => PW E 39 [some (vr p0), some (vr p1), some (vr p2), none, some (vi p4), some (vi p5), some (vi p6), none] [] H) ?_
  intro self39 ih39 p6 H h
  unfold lX8_findChanges_39 at h
  refine pw_iload (pc := 39) F dX8_findChanges_39 rfl ?_
  refine pw_iload (pc := 41) F dX8_findChanges_41 rfl ?_
  refine pw_icmp_ge (pc := 43) F 106 dX8_findChanges_43 (by decide) (fun hc => ?_) (fun hc => ?_)
  · have h := iteT hc h
    cases h
    exact pw_vret (pc := 106) F q dX8_findChanges_106
  · have h := iteF hc h
    refine pw_iconst (pc := 46) F 0 dX8_findChanges_46 (by decide) ?_
    refine pw_istore (pc := 47) F dX8_findChanges_47 (lt_nl hn (by decide)) [some (vr p0), some (vr p1), some (vr p2), none, some (vi p4), some (vi p5), some (vi p6), some (vi 0)] rfl ?_
    exact pw_mask [true, true, true, true, true, true, true, true] (ls' := [some (vr p0), some (vr p1), some (vr p2), none, some (vi p4), some (vi p5), some (vi p6), some (vi 0)]) rfl (lX8_findChanges_49_ok F q hn hf hl self39 p0 p1 p2 p4 p5 p6 ih39  6000 0 H h)
def f_X8_findChanges (a0 a1 a2 a3 : Int) (H : PH) : RO := vm 8 a0 H <|
  (ld 24 H a0 6).bind fun x1 => (f_X2_start x1 a3 H).bind fun z2 => (ld 17 z2.2 a1 0).bind fun x3 => (alen z2.2 x3).bind fun x4 => (ld 17 z2.2 a2 0).bind fun x5 => (alen z2.2 x5).bind fun x6 => (ld 17 z2.2 a1 1).bind fun x7 => (ld 17 z2.2 a2 1).bind fun x8 => lq1 (lX8_findChanges_39 a0 a1 a2 (imin x4 x6) (imin x7 x8)) 6000 0 z2.2
set_option maxHeartbeats 4000000 in
theorem m_X8_findChanges (l : Launch) (a0 a1 a2 a3 : Int) (H : PH) (rr : Int) (HH : PH) (h : f_X8_findChanges a0 a1 a2 a3 H = some (rr, HH)) : CT l yX8_findChanges cX8_findChanges 8 none 4 93 [vr a0, vr a1, vr a2, vi a3] H none HH := by
  refine CT.of RX8 (by decide) rfl [some (vr a0), some (vr a1), some (vr a2), some (vi a3), none, none, none, none] rfl rfl ?_
  intro E F q hn hf hl hm
  unfold f_X8_findChanges at h
  obtain ⟨hv, h⟩ := vm_spec h
  refine pw_aload_n (pc := 0) F dX8_findChanges_0 rfl ?_
  obtain ⟨x1, ex1, h⟩ := bnd h
  refine pw_get (pc := 1) F 8 6 38 (by decide) (by decide) g_f8de3d2cc6 inl_8 2 rfl dX8_findChanges_1 ex1 ?_
  refine pw_iload_n (pc := 4) F dX8_findChanges_4 rfl ?_
  obtain ⟨z2, ez2, h⟩ := bnd h
  refine pw_callV (pc := 5) (as := [vi a3]) (st := []) (r := none) F 224 2 (by decide) rfl (fun l => m_X2_start l x1 a3 H z2.1 z2.2 ez2) g_379c302b23 g_69fe0f0b64 g_fa02ca82da g_d27e9d3e51 g_e6b26bf678 hd_X2_start (rm_ok hf hl (by decide) (by decide)) rfl (vm_spec ez2).1 dX8_findChanges_5 rfl (stk' := []) rfl ?_
  refine pw_aload_n (pc := 8) F dX8_findChanges_8 rfl ?_
  obtain ⟨x3, ex3, h⟩ := bnd h
  refine pw_get (pc := 9) F 1 0 356 (by decide) (by decide) g_bee30a97df inl_1 2 rfl dX8_findChanges_9 ex3 ?_
  obtain ⟨x4, ex4, h⟩ := bnd h
  refine pw_alen (pc := 12) F dX8_findChanges_12 ex4 ?_
  refine pw_aload_n (pc := 13) F dX8_findChanges_13 rfl ?_
  obtain ⟨x5, ex5, h⟩ := bnd h
  refine pw_get (pc := 14) F 1 0 356 (by decide) (by decide) g_bee30a97df inl_1 2 rfl dX8_findChanges_14 ex5 ?_
  obtain ⟨x6, ex6, h⟩ := bnd h
  refine pw_alen (pc := 17) F dX8_findChanges_17 ex6 ?_
  refine pw_mmin (pc := 18) F 360 g_7b2c370fc8 g_6443835c00 g_544deca7c6 g_4cca852340 (rm_ok hf hl (by decide) (by decide)) rfl dX8_findChanges_18 ?_
  refine pw_istore (pc := 21) F dX8_findChanges_21 (lt_nl hn (by decide)) [some (vr a0), some (vr a1), some (vr a2), some (vi a3), some (vi (imin x4 x6)), none, none, none] rfl ?_
  refine pw_aload_n (pc := 23) F dX8_findChanges_23 rfl ?_
  obtain ⟨x7, ex7, h⟩ := bnd h
  refine pw_get (pc := 24) F 1 1 376 (by decide) (by decide) g_ec6a53010b inl_1 0 rfl dX8_findChanges_24 ex7 ?_
  refine pw_aload_n (pc := 27) F dX8_findChanges_27 rfl ?_
  obtain ⟨x8, ex8, h⟩ := bnd h
  refine pw_get (pc := 28) F 1 1 376 (by decide) (by decide) g_ec6a53010b inl_1 0 rfl dX8_findChanges_28 ex8 ?_
  refine pw_mmin (pc := 31) F 360 g_7b2c370fc8 g_6443835c00 g_544deca7c6 g_4cca852340 (rm_ok hf hl (by decide) (by decide)) rfl dX8_findChanges_31 ?_
  refine pw_istore (pc := 34) F dX8_findChanges_34 (lt_nl hn (by decide)) [some (vr a0), some (vr a1), some (vr a2), some (vi a3), some (vi (imin x4 x6)), some (vi (imin x7 x8)), none, none] rfl ?_
  refine pw_iconst (pc := 36) F 0 dX8_findChanges_36 (by decide) ?_
  refine pw_istore (pc := 37) F dX8_findChanges_37 (lt_nl hn (by decide)) [some (vr a0), some (vr a1), some (vr a2), some (vi a3), some (vi (imin x4 x6)), some (vi (imin x7 x8)), some (vi 0), none] rfl ?_
  exact pw_mask [true, true, true, false, true, true, true, true] (ls' := [some (vr a0), some (vr a1), some (vr a2), none, some (vi (imin x4 x6)), some (vi (imin x7 x8)), some (vi 0), none]) rfl (lX8_findChanges_39_ok F q hn hf hl a0 a1 a2 (imin x4 x6) (imin x7 x8)  6000 0 z2.2 h)
/-! HouseholdVault.changes(II)I -/
theorem dX8_changes_0 : decode cX8_changes 0 = .ok (.aload_n 0, 1) := by decide +kernel
theorem dX8_changes_1 : decode cX8_changes 1 = .ok (.iload_n 1, 1) := by decide +kernel
theorem dX8_changes_2 : decode cX8_changes 2 = .ok (.invokevirtual 348, 3) := by decide +kernel
theorem dX8_changes_5 : decode cX8_changes 5 = .ok (.astore_n 3, 1) := by decide +kernel
theorem dX8_changes_6 : decode cX8_changes 6 = .ok (.aload_n 0, 1) := by decide +kernel
theorem dX8_changes_7 : decode cX8_changes 7 = .ok (.iload_n 2, 1) := by decide +kernel
theorem dX8_changes_8 : decode cX8_changes 8 = .ok (.invokevirtual 348, 3) := by decide +kernel
theorem dX8_changes_11 : decode cX8_changes 11 = .ok (.astore 4, 2) := by decide +kernel
theorem dX8_changes_13 : decode cX8_changes 13 = .ok (.aload_n 3, 1) := by decide +kernel
theorem dX8_changes_14 : decode cX8_changes 14 = .ok (.ifnull 8, 3) := by decide +kernel
theorem dX8_changes_17 : decode cX8_changes 17 = .ok (.aload 4, 2) := by decide +kernel
theorem dX8_changes_19 : decode cX8_changes 19 = .ok (.ifnonnull 5, 3) := by decide +kernel
theorem dX8_changes_22 : decode cX8_changes 22 = .ok (.iconst (-1), 1) := by decide +kernel
theorem dX8_changes_23 : decode cX8_changes 23 = .ok (.ireturn, 1) := by decide +kernel
theorem dX8_changes_24 : decode cX8_changes 24 = .ok (.aload_n 0, 1) := by decide +kernel
theorem dX8_changes_25 : decode cX8_changes 25 = .ok (.aload_n 3, 1) := by decide +kernel
theorem dX8_changes_26 : decode cX8_changes 26 = .ok (.aload 4, 2) := by decide +kernel
theorem dX8_changes_28 : decode cX8_changes 28 = .ok (.iconst (-1), 1) := by decide +kernel
theorem dX8_changes_29 : decode cX8_changes 29 = .ok (.invokevirtual 352, 3) := by decide +kernel
theorem dX8_changes_32 : decode cX8_changes 32 = .ok (.aload_n 0, 1) := by decide +kernel
theorem dX8_changes_33 : decode cX8_changes 33 = .ok (.getfield 38, 3) := by decide +kernel
theorem dX8_changes_36 : decode cX8_changes 36 = .ok (.getfield 217, 3) := by decide +kernel
theorem dX8_changes_39 : decode cX8_changes 39 = .ok (.ireturn, 1) := by decide +kernel
def f_X8_changes (a0 a1 a2 : Int) (H : PH) : RO := vm 8 a0 H <|
  (f_X8_editionOf a0 a1 H).bind fun z1 => (f_X8_editionOf a0 a2 z1.2).bind fun z2 => (if z1.1 = -1 then some ((-1), z2.2)
  else (if z2.1 ≠ -1 then (f_X8_findChanges a0 z1.1 z2.1 (-1) z2.2).bind fun z3 => (ld 24 z3.2 a0 6).bind fun x4 => (ld 18 z3.2 x4 1).bind fun x5 => some (x5, z3.2)
  else some ((-1), z2.2)))
set_option maxHeartbeats 4000000 in
theorem m_X8_changes (l : Launch) (a0 a1 a2 : Int) (H : PH) (rr : Int) (HH : PH) (h : f_X8_changes a0 a1 a2 H = some (rr, HH)) : CT l yX8_changes cX8_changes 5 (some .int) 5 120 [vr a0, vi a1, vi a2] H (some (vi rr)) HH := by
  refine CT.of RX8 (by decide) rfl [some (vr a0), some (vi a1), some (vi a2), none, none] rfl rfl ?_
  intro E F q hn hf hl hm
  unfold f_X8_changes at h
  obtain ⟨hv, h⟩ := vm_spec h
  refine pw_aload_n (pc := 0) F dX8_changes_0 rfl ?_
  refine pw_iload_n (pc := 1) F dX8_changes_1 rfl ?_
  obtain ⟨z1, ez1, h⟩ := bnd h
  refine pw_callV (pc := 2) (as := [vi a1]) (st := []) (r := (some (vr z1.1))) F 348 8 (by decide) rfl (fun l => m_X8_editionOf l a0 a1 H z1.1 z1.2 ez1) g_4811072f13 g_fd5c22ba94 g_9b6d66f1d5 g_99e03e18e2 g_c89f233e61 hd_X8_editionOf (rm_ok hf hl (by decide) (by decide)) rfl (vm_spec ez1).1 dX8_changes_2 rfl (stk' := [vr z1.1]) rfl ?_
  refine pw_astore_n (pc := 5) F dX8_changes_5 (lt_nl hn (by decide)) [some (vr a0), some (vi a1), some (vi a2), some (vr z1.1), none] rfl ?_
  refine pw_aload_n (pc := 6) F dX8_changes_6 rfl ?_
  refine pw_iload_n (pc := 7) F dX8_changes_7 rfl ?_
  obtain ⟨z2, ez2, h⟩ := bnd h
  refine pw_callV (pc := 8) (as := [vi a2]) (st := []) (r := (some (vr z2.1))) F 348 8 (by decide) rfl (fun l => m_X8_editionOf l a0 a2 z1.2 z2.1 z2.2 ez2) g_4811072f13 g_fd5c22ba94 g_9b6d66f1d5 g_99e03e18e2 g_c89f233e61 hd_X8_editionOf (rm_ok hf hl (by decide) (by decide)) rfl (vm_spec ez2).1 dX8_changes_8 rfl (stk' := [vr z2.1]) rfl ?_
  refine pw_astore (pc := 11) F dX8_changes_11 (lt_nl hn (by decide)) [some (vr a0), some (vi a1), some (vi a2), some (vr z1.1), some (vr z2.1)] rfl ?_
  refine pw_aload_n (pc := 13) F dX8_changes_13 rfl ?_
  refine pw_ifnull (pc := 14) F 22 dX8_changes_14 (by decide) (fun hc => ?_) (fun hc => ?_)
  · have h := iteT hc h
    refine pw_iconst (pc := 22) F (-1) dX8_changes_22 (by decide) ?_
    cases h
    exact pw_iret (pc := 23) F q dX8_changes_23
  · have h := iteF hc h
    refine pw_aload (pc := 17) F dX8_changes_17 rfl ?_
    refine pw_ifnonnull (pc := 19) F 24 dX8_changes_19 (by decide) (fun hc => ?_) (fun hc => ?_)
    · have h := iteT hc h
      refine pw_aload_n (pc := 24) F dX8_changes_24 rfl ?_
      refine pw_aload_n (pc := 25) F dX8_changes_25 rfl ?_
      refine pw_aload (pc := 26) F dX8_changes_26 rfl ?_
      refine pw_iconst (pc := 28) F (-1) dX8_changes_28 (by decide) ?_
      obtain ⟨z3, ez3, h⟩ := bnd h
      refine pw_callV (pc := 29) (as := [vr z1.1, vr z2.1, vi (-1)]) (st := []) (r := none) F 352 8 (by decide) rfl (fun l => m_X8_findChanges l a0 z1.1 z2.1 (-1) z2.2 z3.1 z3.2 ez3) g_f7c48ed74e g_5ef13166ab g_b1789ceccb g_99e03e18e2 g_a2b578f693 hd_X8_findChanges (rm_ok hf hl (by decide) (by decide)) rfl (vm_spec ez3).1 dX8_changes_29 rfl (stk' := []) rfl ?_
      refine pw_aload_n (pc := 32) F dX8_changes_32 rfl ?_
      obtain ⟨x4, ex4, h⟩ := bnd h
      refine pw_get (pc := 33) F 8 6 38 (by decide) (by decide) g_f8de3d2cc6 inl_8 2 rfl dX8_changes_33 ex4 ?_
      obtain ⟨x5, ex5, h⟩ := bnd h
      refine pw_get (pc := 36) F 2 1 217 (by decide) (by decide) g_c45e5dcd85 inl_2 0 rfl dX8_changes_36 ex5 ?_
      cases h
      exact pw_iret (pc := 39) F q dX8_changes_39
    · have h := iteF hc h
      refine pw_iconst (pc := 22) F (-1) dX8_changes_22 (by decide) ?_
      cases h
      exact pw_iret (pc := 23) F q dX8_changes_23
/-! HouseholdVault.changeAt(IIII)I -/
theorem dX8_changeAt_0 : decode cX8_changeAt 0 = .ok (.aload_n 0, 1) := by decide +kernel
theorem dX8_changeAt_1 : decode cX8_changeAt 1 = .ok (.iload_n 1, 1) := by decide +kernel
theorem dX8_changeAt_2 : decode cX8_changeAt 2 = .ok (.invokevirtual 348, 3) := by decide +kernel
theorem dX8_changeAt_5 : decode cX8_changeAt 5 = .ok (.astore 5, 2) := by decide +kernel
theorem dX8_changeAt_7 : decode cX8_changeAt 7 = .ok (.aload_n 0, 1) := by decide +kernel
theorem dX8_changeAt_8 : decode cX8_changeAt 8 = .ok (.iload_n 2, 1) := by decide +kernel
theorem dX8_changeAt_9 : decode cX8_changeAt 9 = .ok (.invokevirtual 348, 3) := by decide +kernel
theorem dX8_changeAt_12 : decode cX8_changeAt 12 = .ok (.astore 6, 2) := by decide +kernel
theorem dX8_changeAt_14 : decode cX8_changeAt 14 = .ok (.aload 5, 2) := by decide +kernel
theorem dX8_changeAt_16 : decode cX8_changeAt 16 = .ok (.ifnull 12, 3) := by decide +kernel
theorem dX8_changeAt_19 : decode cX8_changeAt 19 = .ok (.aload 6, 2) := by decide +kernel
theorem dX8_changeAt_21 : decode cX8_changeAt 21 = .ok (.ifnull 7, 3) := by decide +kernel
theorem dX8_changeAt_24 : decode cX8_changeAt 24 = .ok (.iload_n 3, 1) := by decide +kernel
theorem dX8_changeAt_25 : decode cX8_changeAt 25 = .ok (.ifCond .ge 6, 3) := by decide +kernel
theorem dX8_changeAt_28 : decode cX8_changeAt 28 = .ok (.bipush (-2), 2) := by decide +kernel
theorem dX8_changeAt_30 : decode cX8_changeAt 30 = .ok (.ireturn, 1) := by decide +kernel
theorem dX8_changeAt_31 : decode cX8_changeAt 31 = .ok (.aload_n 0, 1) := by decide +kernel
theorem dX8_changeAt_32 : decode cX8_changeAt 32 = .ok (.aload 5, 2) := by decide +kernel
theorem dX8_changeAt_34 : decode cX8_changeAt 34 = .ok (.aload 6, 2) := by decide +kernel
theorem dX8_changeAt_36 : decode cX8_changeAt 36 = .ok (.iload_n 3, 1) := by decide +kernel
theorem dX8_changeAt_37 : decode cX8_changeAt 37 = .ok (.invokevirtual 352, 3) := by decide +kernel
theorem dX8_changeAt_40 : decode cX8_changeAt 40 = .ok (.aload_n 0, 1) := by decide +kernel
theorem dX8_changeAt_41 : decode cX8_changeAt 41 = .ok (.getfield 38, 3) := by decide +kernel
theorem dX8_changeAt_44 : decode cX8_changeAt 44 = .ok (.iload 4, 2) := by decide +kernel
theorem dX8_changeAt_46 : decode cX8_changeAt 46 = .ok (.iconst 3, 1) := by decide +kernel
theorem dX8_changeAt_47 : decode cX8_changeAt 47 = .ok (.bipush (-2), 2) := by decide +kernel
theorem dX8_changeAt_49 : decode cX8_changeAt 49 = .ok (.invokevirtual 220, 3) := by decide +kernel
theorem dX8_changeAt_52 : decode cX8_changeAt 52 = .ok (.ireturn, 1) := by decide +kernel
def f_X8_changeAt (a0 a1 a2 a3 a4 : Int) (H : PH) : RO := vm 8 a0 H <|
  (f_X8_editionOf a0 a1 H).bind fun z1 => (f_X8_editionOf a0 a2 z1.2).bind fun z2 => (if z1.1 = -1 then some ((-2), z2.2)
  else (if z2.1 = -1 then some ((-2), z2.2)
  else (if a3 ≥ 0 then (f_X8_findChanges a0 z1.1 z2.1 a3 z2.2).bind fun z3 => (ld 24 z3.2 a0 6).bind fun x4 => (f_X2_told x4 a4 3 (-2) z3.2).bind fun z5 => some (z5.1, z5.2)
  else some ((-2), z2.2))))
set_option maxHeartbeats 4000000 in
theorem m_X8_changeAt (l : Launch) (a0 a1 a2 a3 a4 : Int) (H : PH) (rr : Int) (HH : PH) (h : f_X8_changeAt a0 a1 a2 a3 a4 H = some (rr, HH)) : CT l yX8_changeAt cX8_changeAt 7 (some .int) 5 120 [vr a0, vi a1, vi a2, vi a3, vi a4] H (some (vi rr)) HH := by
  refine CT.of RX8 (by decide) rfl [some (vr a0), some (vi a1), some (vi a2), some (vi a3), some (vi a4), none, none] rfl rfl ?_
  intro E F q hn hf hl hm
  unfold f_X8_changeAt at h
  obtain ⟨hv, h⟩ := vm_spec h
  refine pw_aload_n (pc := 0) F dX8_changeAt_0 rfl ?_
  refine pw_iload_n (pc := 1) F dX8_changeAt_1 rfl ?_
  obtain ⟨z1, ez1, h⟩ := bnd h
  refine pw_callV (pc := 2) (as := [vi a1]) (st := []) (r := (some (vr z1.1))) F 348 8 (by decide) rfl (fun l => m_X8_editionOf l a0 a1 H z1.1 z1.2 ez1) g_4811072f13 g_fd5c22ba94 g_9b6d66f1d5 g_99e03e18e2 g_c89f233e61 hd_X8_editionOf (rm_ok hf hl (by decide) (by decide)) rfl (vm_spec ez1).1 dX8_changeAt_2 rfl (stk' := [vr z1.1]) rfl ?_
  refine pw_astore (pc := 5) F dX8_changeAt_5 (lt_nl hn (by decide)) [some (vr a0), some (vi a1), some (vi a2), some (vi a3), some (vi a4), some (vr z1.1), none] rfl ?_
  refine pw_aload_n (pc := 7) F dX8_changeAt_7 rfl ?_
  refine pw_iload_n (pc := 8) F dX8_changeAt_8 rfl ?_
  obtain ⟨z2, ez2, h⟩ := bnd h
  refine pw_callV (pc := 9) (as := [vi a2]) (st := []) (r := (some (vr z2.1))) F 348 8 (by decide) rfl (fun l => m_X8_editionOf l a0 a2 z1.2 z2.1 z2.2 ez2) g_4811072f13 g_fd5c22ba94 g_9b6d66f1d5 g_99e03e18e2 g_c89f233e61 hd_X8_editionOf (rm_ok hf hl (by decide) (by decide)) rfl (vm_spec ez2).1 dX8_changeAt_9 rfl (stk' := [vr z2.1]) rfl ?_
  refine pw_astore (pc := 12) F dX8_changeAt_12 (lt_nl hn (by decide)) [some (vr a0), some (vi a1), some (vi a2), some (vi a3), some (vi a4), some (vr z1.1), some (vr z2.1)] rfl ?_
  refine pw_aload (pc := 14) F dX8_changeAt_14 rfl ?_
  refine pw_ifnull (pc := 16) F 28 dX8_changeAt_16 (by decide) (fun hc => ?_) (fun hc => ?_)
  · have h := iteT hc h
    refine pw_bipush (pc := 28) F (-2) dX8_changeAt_28 (by decide) ?_
    cases h
    exact pw_iret (pc := 30) F q dX8_changeAt_30
  · have h := iteF hc h
    refine pw_aload (pc := 19) F dX8_changeAt_19 rfl ?_
    refine pw_ifnull (pc := 21) F 28 dX8_changeAt_21 (by decide) (fun hc => ?_) (fun hc => ?_)
    · have h := iteT hc h
      refine pw_bipush (pc := 28) F (-2) dX8_changeAt_28 (by decide) ?_
      cases h
      exact pw_iret (pc := 30) F q dX8_changeAt_30
    · have h := iteF hc h
      refine pw_iload_n (pc := 24) F dX8_changeAt_24 rfl ?_
      refine pw_if_ge (pc := 25) F 31 dX8_changeAt_25 (by decide) (fun hc => ?_) (fun hc => ?_)
      · have h := iteT hc h
        refine pw_aload_n (pc := 31) F dX8_changeAt_31 rfl ?_
        refine pw_aload (pc := 32) F dX8_changeAt_32 rfl ?_
        refine pw_aload (pc := 34) F dX8_changeAt_34 rfl ?_
        refine pw_iload_n (pc := 36) F dX8_changeAt_36 rfl ?_
        obtain ⟨z3, ez3, h⟩ := bnd h
        refine pw_callV (pc := 37) (as := [vr z1.1, vr z2.1, vi a3]) (st := []) (r := none) F 352 8 (by decide) rfl (fun l => m_X8_findChanges l a0 z1.1 z2.1 a3 z2.2 z3.1 z3.2 ez3) g_f7c48ed74e g_5ef13166ab g_b1789ceccb g_99e03e18e2 g_a2b578f693 hd_X8_findChanges (rm_ok hf hl (by decide) (by decide)) rfl (vm_spec ez3).1 dX8_changeAt_37 rfl (stk' := []) rfl ?_
        refine pw_aload_n (pc := 40) F dX8_changeAt_40 rfl ?_
        obtain ⟨x4, ex4, h⟩ := bnd h
        refine pw_get (pc := 41) F 8 6 38 (by decide) (by decide) g_f8de3d2cc6 inl_8 2 rfl dX8_changeAt_41 ex4 ?_
        refine pw_iload (pc := 44) F dX8_changeAt_44 rfl ?_
        refine pw_iconst (pc := 46) F 3 dX8_changeAt_46 (by decide) ?_
        refine pw_bipush (pc := 47) F (-2) dX8_changeAt_47 (by decide) ?_
        obtain ⟨z5, ez5, h⟩ := bnd h
        refine pw_callV (pc := 49) (as := [vi a4, vi 3, vi (-2)]) (st := []) (r := (some (vi z5.1))) F 220 2 (by decide) rfl (fun l => m_X2_told l x4 a4 3 (-2) z3.2 z5.1 z5.2 ez5) g_975d610aae g_2ddf4c4420 g_c1c0e76a98 g_d27e9d3e51 g_e0ef5765d2 hd_X2_told (rm_ok hf hl (by decide) (by decide)) rfl (vm_spec ez5).1 dX8_changeAt_49 rfl (stk' := [vi z5.1]) rfl ?_
        cases h
        exact pw_iret (pc := 52) F q dX8_changeAt_52
      · have h := iteF hc h
        refine pw_bipush (pc := 28) F (-2) dX8_changeAt_28 (by decide) ?_
        cases h
        exact pw_iret (pc := 30) F q dX8_changeAt_30
/-! HouseholdVault.bringBack(LHouseholdVault$Edition;I)I -/
theorem dX8_bringBack_0 : decode cX8_bringBack 0 = .ok (.aload_n 0, 1) := by decide +kernel
theorem dX8_bringBack_1 : decode cX8_bringBack 1 = .ok (.getfield 18, 3) := by decide +kernel
theorem dX8_bringBack_4 : decode cX8_bringBack 4 = .ok (.iload_n 2, 1) := by decide +kernel
theorem dX8_bringBack_5 : decode cX8_bringBack 5 = .ok (.aaload, 1) := by decide +kernel
theorem dX8_bringBack_6 : decode cX8_bringBack 6 = .ok (.getfield 126, 3) := by decide +kernel
theorem dX8_bringBack_9 : decode cX8_bringBack 9 = .ok (.astore_n 3, 1) := by decide +kernel
theorem dX8_bringBack_10 : decode cX8_bringBack 10 = .ok (.aload_n 1, 1) := by decide +kernel
theorem dX8_bringBack_11 : decode cX8_bringBack 11 = .ok (.getfield 356, 3) := by decide +kernel
theorem dX8_bringBack_14 : decode cX8_bringBack 14 = .ok (.iload_n 2, 1) := by decide +kernel
theorem dX8_bringBack_15 : decode cX8_bringBack 15 = .ok (.aaload, 1) := by decide +kernel
theorem dX8_bringBack_16 : decode cX8_bringBack 16 = .ok (.astore 4, 2) := by decide +kernel
theorem dX8_bringBack_18 : decode cX8_bringBack 18 = .ok (.iconst 0, 1) := by decide +kernel
theorem dX8_bringBack_19 : decode cX8_bringBack 19 = .ok (.istore 5, 2) := by decide +kernel
theorem dX8_bringBack_21 : decode cX8_bringBack 21 = .ok (.iconst 0, 1) := by decide +kernel
theorem dX8_bringBack_22 : decode cX8_bringBack 22 = .ok (.istore 6, 2) := by decide +kernel
theorem dX8_bringBack_24 : decode cX8_bringBack 24 = .ok (.iload 6, 2) := by decide +kernel
theorem dX8_bringBack_26 : decode cX8_bringBack 26 = .ok (.aload_n 1, 1) := by decide +kernel
theorem dX8_bringBack_27 : decode cX8_bringBack 27 = .ok (.getfield 376, 3) := by decide +kernel
theorem dX8_bringBack_30 : decode cX8_bringBack 30 = .ok (.if_icmp .ge 91, 3) := by decide +kernel
theorem dX8_bringBack_33 : decode cX8_bringBack 33 = .ok (.aload_n 0, 1) := by decide +kernel
theorem dX8_bringBack_34 : decode cX8_bringBack 34 = .ok (.getfield 12, 3) := by decide +kernel
theorem dX8_bringBack_37 : decode cX8_bringBack 37 = .ok (.getfield 144, 3) := by decide +kernel
theorem dX8_bringBack_40 : decode cX8_bringBack 40 = .ok (.iload 6, 2) := by decide +kernel
theorem dX8_bringBack_42 : decode cX8_bringBack 42 = .ok (.aaload, 1) := by decide +kernel
theorem dX8_bringBack_43 : decode cX8_bringBack 43 = .ok (.astore 7, 2) := by decide +kernel
theorem dX8_bringBack_45 : decode cX8_bringBack 45 = .ok (.aload 7, 2) := by decide +kernel
theorem dX8_bringBack_47 : decode cX8_bringBack 47 = .ok (.getfield 75, 3) := by decide +kernel
theorem dX8_bringBack_50 : decode cX8_bringBack 50 = .ok (.ifCond .eq 6, 3) := by decide +kernel
theorem dX8_bringBack_53 : decode cX8_bringBack 53 = .ok (.goto 62, 3) := by decide +kernel
theorem dX8_bringBack_56 : decode cX8_bringBack 56 = .ok (.aload_n 3, 1) := by decide +kernel
theorem dX8_bringBack_57 : decode cX8_bringBack 57 = .ok (.aload 7, 2) := by decide +kernel
theorem dX8_bringBack_59 : decode cX8_bringBack 59 = .ok (.getfield 88, 3) := by decide +kernel
theorem dX8_bringBack_62 : decode cX8_bringBack 62 = .ok (.invokestatic 230, 3) := by decide +kernel
theorem dX8_bringBack_65 : decode cX8_bringBack 65 = .ok (.aload 4, 2) := by decide +kernel
theorem dX8_bringBack_67 : decode cX8_bringBack 67 = .ok (.aload 7, 2) := by decide +kernel
theorem dX8_bringBack_69 : decode cX8_bringBack 69 = .ok (.getfield 88, 3) := by decide +kernel
theorem dX8_bringBack_72 : decode cX8_bringBack 72 = .ok (.invokestatic 230, 3) := by decide +kernel
theorem dX8_bringBack_75 : decode cX8_bringBack 75 = .ok (.invokestatic 360, 3) := by decide +kernel
theorem dX8_bringBack_78 : decode cX8_bringBack 78 = .ok (.istore 8, 2) := by decide +kernel
theorem dX8_bringBack_80 : decode cX8_bringBack 80 = .ok (.iconst 0, 1) := by decide +kernel
theorem dX8_bringBack_81 : decode cX8_bringBack 81 = .ok (.istore 9, 2) := by decide +kernel
theorem dX8_bringBack_83 : decode cX8_bringBack 83 = .ok (.iload 9, 2) := by decide +kernel
theorem dX8_bringBack_85 : decode cX8_bringBack 85 = .ok (.iload 8, 2) := by decide +kernel
theorem dX8_bringBack_87 : decode cX8_bringBack 87 = .ok (.if_icmp .ge 28, 3) := by decide +kernel
theorem dX8_bringBack_90 : decode cX8_bringBack 90 = .ok (.aload_n 3, 1) := by decide +kernel
theorem dX8_bringBack_91 : decode cX8_bringBack 91 = .ok (.aload 4, 2) := by decide +kernel
theorem dX8_bringBack_93 : decode cX8_bringBack 93 = .ok (.iload 6, 2) := by decide +kernel
theorem dX8_bringBack_95 : decode cX8_bringBack 95 = .ok (.iload 9, 2) := by decide +kernel
theorem dX8_bringBack_97 : decode cX8_bringBack 97 = .ok (.invokestatic 130, 3) := by decide +kernel
theorem dX8_bringBack_100 : decode cX8_bringBack 100 = .ok (.invokevirtual 381, 3) := by decide +kernel
theorem dX8_bringBack_103 : decode cX8_bringBack 103 = .ok (.ifCond .eq 6, 3) := by decide +kernel
theorem dX8_bringBack_106 : decode cX8_bringBack 106 = .ok (.iinc 5 1, 3) := by decide +kernel
theorem dX8_bringBack_109 : decode cX8_bringBack 109 = .ok (.iinc 9 1, 3) := by decide +kernel
theorem dX8_bringBack_112 : decode cX8_bringBack 112 = .ok (.goto (-29), 3) := by decide +kernel
theorem dX8_bringBack_115 : decode cX8_bringBack 115 = .ok (.iinc 6 1, 3) := by decide +kernel
theorem dX8_bringBack_118 : decode cX8_bringBack 118 = .ok (.goto (-94), 3) := by decide +kernel
theorem dX8_bringBack_121 : decode cX8_bringBack 121 = .ok (.iload 5, 2) := by decide +kernel
theorem dX8_bringBack_123 : decode cX8_bringBack 123 = .ok (.ireturn, 1) := by decide +kernel
def jX8_bringBack_115 (self24 : Int → Int → PH → RO) (p0 p1 p3 p4 p5 p6 : Int) (H : PH) : RO :=
  self24 p5 (w32 (p6 + 1)) H
set_option maxHeartbeats 4000000 in
theorem jX8_bringBack_115_ok {E : PE} {rr : Int} {HH : PH} (F : FX E cX8_bringBack RX8) (q : QE E (some (vi rr)) HH (some .int)) (hn : nLof E = 10) (hf : (roomOf E).frames = 3) (hl : (roomOf E).locals = 63) (self24 : Int → Int → PH → RO) (p0 p1 p3 p4 p5 p6 : Int) (H : PH) (ih24 : ∀ (v5 v6 : Int) (HV : PH), self24 v5 v6 HV = some (rr, HH) → PW E 24 [some (vr p0), some (vr p1), none, some (vr p3), some (vr p4), some (vi v5), some (vi v6), none, none, none] [] HV) (h : jX8_bringBack_115 self24 p0 p1 p3 p4 p5 p6 H = some (rr, HH)) : PW E 115 [some (vr p0), some (vr p1), none, some (vr p3), some (vr p4), some (vi p5), some (vi p6), none, none, none] [] H := by
  unfold jX8_bringBack_115 at h
  refine pw_iinc (pc := 115) F dX8_bringBack_115 rfl (lt_nl hn (by decide)) [some (vr p0), some (vr p1), none, some (vr p3), some (vr p4), some (vi p5), some (vi (w32 (p6 + 1))), none, none, none] rfl (by decide) ?_
  refine pw_goto (pc := 118) F 24 dX8_bringBack_118 (by decide) ?_
  exact pw_mask [true, true, true, true, true, true, true, true, true, true] (ls' := [some (vr p0), some (vr p1), none, some (vr p3), some (vr p4), some (vi p5), some (vi (w32 (p6 + 1))), none, none, none]) rfl (ih24 p5 (w32 (p6 + 1)) H h)
def jX8_bringBack_109 (self24 : Int → Int → PH → RO) (self83 : Int → Int → PH → RO) (p0 p1 p3 p4 p5 p6 p8 p9 : Int) (H : PH) : RO :=
  self83 p5 (w32 (p9 + 1)) H
set_option maxHeartbeats 4000000 in
theorem jX8_bringBack_109_ok {E : PE} {rr : Int} {HH : PH} (F : FX E cX8_bringBack RX8) (q : QE E (some (vi rr)) HH (some .int)) (hn : nLof E = 10) (hf : (roomOf E).frames = 3) (hl : (roomOf E).locals = 63) (self24 : Int → Int → PH → RO) (self83 : Int → Int → PH → RO) (p0 p1 p3 p4 p5 p6 p8 p9 : Int) (H : PH) (ih24 : ∀ (v5 v6 : Int) (HV : PH), self24 v5 v6 HV = some (rr, HH) → PW E 24 [some (vr p0), some (vr p1), none, some (vr p3), some (vr p4), some (vi v5), some (vi v6), none, none, none] [] HV) (ih83 : ∀ (v5 v9 : Int) (HV : PH), self83 v5 v9 HV = some (rr, HH) → PW E 83 [some (vr p0), some (vr p1), none, some (vr p3), some (vr p4), some (vi v5), some (vi p6), none, some (vi p8), some (vi v9)] [] HV) (h : jX8_bringBack_109 self24 self83 p0 p1 p3 p4 p5 p6 p8 p9 H = some (rr, HH)) : PW E 109 [some (vr p0), some (vr p1), none, some (vr p3), some (vr p4), some (vi p5), some (vi p6), none, some (vi p8), some (vi p9)] [] H := by
  unfold jX8_bringBack_109 at h
  refine pw_iinc (pc := 109) F dX8_bringBack_109 rfl (lt_nl hn (by decide)) [some (vr p0), some (vr p1), none, some (vr p3), some (vr p4), some (vi p5), some (vi p6), none, some (vi p8), some (vi (w32 (p9 + 1)))] rfl (by decide) ?_
  refine pw_goto (pc := 112) F 83 dX8_bringBack_112 (by decide) ?_
  exact pw_mask [true, true, true, true, true, true, true, true, true, true] (ls' := [some (vr p0), some (vr p1), none, some (vr p3), some (vr p4), some (vi p5), some (vi p6), none, some (vi p8), some (vi (w32 (p9 + 1)))]) rfl (ih83 p5 (w32 (p9 + 1)) H h)
def lX8_bringBack_83 (self24 : Int → Int → PH → RO) (p0 p1 p3 p4 p6 p8 : Int) (self83 : Int → Int → PH → RO) (p5 p9 : Int) (H : PH) : RO :=
  (if p9 ≥ p8 then jX8_bringBack_115 self24 p0 p1 p3 p4 p5 p6 H
  else (f_X8_spot p6 p9 H).bind fun z1 => (f_X6_takeFrom p3 p4 z1.1 z1.2).bind fun z2 => (if z2.1 = 0 then jX8_bringBack_109 self24 self83 p0 p1 p3 p4 p5 p6 p8 p9 z2.2
  else jX8_bringBack_109 self24 self83 p0 p1 p3 p4 (w32 (p5 + 1)) p6 p8 p9 z2.2))
set_option maxHeartbeats 4000000 in
theorem lX8_bringBack_83_ok {E : PE} {rr : Int} {HH : PH} (F : FX E cX8_bringBack RX8) (q : QE E (some (vi rr)) HH (some .int)) (hn : nLof E = 10) (hf : (roomOf E).frames = 3) (hl : (roomOf E).locals = 63) (self24 : Int → Int → PH → RO) (p0 p1 p3 p4 p6 p8 : Int) (ih24 : ∀ (v5 v6 : Int) (HV : PH), self24 v5 v6 HV = some (rr, HH) → PW E 24 [some (vr p0), some (vr p1), none, some (vr p3), some (vr p4), some (vi v5), some (vi v6), none, none, none] [] HV) : ∀ (n : Nat) (p5 p9 : Int) (H : PH), lq2 (lX8_bringBack_83 self24 p0 p1 p3 p4 p6 p8) n p5 p9 H = some (rr, HH) → PW E 83 [some (vr p0), some (vr p1), none, some (vr p3), some (vr p4), some (vi p5), some (vi p6), none, some (vi p8), some (vi p9)] [] H := by
  refine lq2_ind (P := fun p5 p9 H => PW E 83 [some (vr p0), some (vr p1), none, some (vr p3), some (vr p4), some (vi p5), some (vi p6), none, some (vi p8), some (vi p9)] [] H) ?_
  intro self83 ih83 p5 p9 H h
  unfold lX8_bringBack_83 at h
  refine pw_iload (pc := 83) F dX8_bringBack_83 rfl ?_
  refine pw_iload (pc := 85) F dX8_bringBack_85 rfl ?_
  refine pw_icmp_ge (pc := 87) F 115 dX8_bringBack_87 (by decide) (fun hc => ?_) (fun hc => ?_)
  · have h := iteT hc h
    exact pw_mask [true, true, true, true, true, true, true, true, false, false] (ls' := [some (vr p0), some (vr p1), none, some (vr p3), some (vr p4), some (vi p5), some (vi p6), none, none, none]) rfl (jX8_bringBack_115_ok F q hn hf hl self24 p0 p1 p3 p4 p5 p6 H ih24 h)
  · have h := iteF hc h
    refine pw_aload_n (pc := 90) F dX8_bringBack_90 rfl ?_
    refine pw_aload (pc := 91) F dX8_bringBack_91 rfl ?_
    refine pw_iload (pc := 93) F dX8_bringBack_93 rfl ?_
    refine pw_iload (pc := 95) F dX8_bringBack_95 rfl ?_
    obtain ⟨z1, ez1, h⟩ := bnd h
    refine pw_callS (pc := 97) (as := [vi p6, vi p9]) (st := [vr p4, vr p3]) (r := (some (vi z1.1))) F 130 (fun l => m_X8_spot l p6 p9 H z1.1 z1.2 ez1) g_3d0f1a9b86 g_aa0997f699 g_99e03e18e2 g_0d0469f624 hd_X8_spot (rm_ok hf hl (by decide) (by decide)) rfl dX8_bringBack_97 rfl (stk' := [vi z1.1, vr p4, vr p3]) rfl ?_
    obtain ⟨z2, ez2, h⟩ := bnd h
    refine pw_callV (pc := 100) (as := [vr p4, vi z1.1]) (st := []) (r := (some (vi z2.1))) F 381 6 (by decide) rfl (fun l => m_X6_takeFrom l p3 p4 z1.1 z1.2 z2.1 z2.2 ez2) g_81e583ffce g_d36287eb6b g_7d89cefbeb g_6d91b6d2eb g_4aecf63455 hd_X6_takeFrom (rm_ok hf hl (by decide) (by decide)) rfl (vm_spec ez2).1 dX8_bringBack_100 rfl (stk' := [vi z2.1]) rfl ?_
    refine pw_if_eq (pc := 103) F 109 dX8_bringBack_103 (by decide) (fun hc => ?_) (fun hc => ?_)
    · have h := iteT hc h
      exact pw_mask [true, true, true, true, true, true, true, true, true, true] (ls' := [some (vr p0), some (vr p1), none, some (vr p3), some (vr p4), some (vi p5), some (vi p6), none, some (vi p8), some (vi p9)]) rfl (jX8_bringBack_109_ok F q hn hf hl self24 self83 p0 p1 p3 p4 p5 p6 p8 p9 z2.2 ih24 ih83 h)
    · have h := iteF hc h
      refine pw_iinc (pc := 106) F dX8_bringBack_106 rfl (lt_nl hn (by decide)) [some (vr p0), some (vr p1), none, some (vr p3), some (vr p4), some (vi (w32 (p5 + 1))), some (vi p6), none, some (vi p8), some (vi p9)] rfl (by decide) ?_
      exact pw_mask [true, true, true, true, true, true, true, true, true, true] (ls' := [some (vr p0), some (vr p1), none, some (vr p3), some (vr p4), some (vi (w32 (p5 + 1))), some (vi p6), none, some (vi p8), some (vi p9)]) rfl (jX8_bringBack_109_ok F q hn hf hl self24 self83 p0 p1 p3 p4 (w32 (p5 + 1)) p6 p8 p9 z2.2 ih24 ih83 h)
def lX8_bringBack_24 (p0 p1 p3 p4 : Int) (self24 : Int → Int → PH → RO) (p5 p6 : Int) (H : PH) : RO :=
  (ld 17 H p1 1).bind fun x1 => (if p6 ≥ x1 then some (p5, H)
  else (ld 24 H p0 0).bind fun x2 => (ld 19 H x2 0).bind fun x3 => (ld 6 H x3 p6).bind fun x4 => (ld 21 H x4 2).bind fun x5 => (if x5 = 0 then (ld 21 H x4 1).bind fun x6 => (f_X8_placesOf p3 x6 H).bind fun z7 => (ld 21 z7.2 x4 1).bind fun x8 => (f_X8_placesOf p4 x8 z7.2).bind fun z9 => lq2 (lX8_bringBack_83 self24 p0 p1 p3 p4 p6 (imin z7.1 z9.1)) 6000 p5 0 z9.2
  else jX8_bringBack_115 self24 p0 p1 p3 p4 p5 p6 H))
set_option maxHeartbeats 4000000 in
theorem lX8_bringBack_24_ok {E : PE} {rr : Int} {HH : PH} (F : FX E cX8_bringBack RX8) (q : QE E (some (vi rr)) HH (some .int)) (hn : nLof E = 10) (hf : (roomOf E).frames = 3) (hl : (roomOf E).locals = 63) (p0 p1 p3 p4 : Int) : ∀ (n : Nat) (p5 p6 : Int) (H : PH), lq2 (lX8_bringBack_24 p0 p1 p3 p4) n p5 p6 H = some (rr, HH) → PW E 24 [some (vr p0), some (vr p1), none, some (vr p3), some (vr p4), some (vi p5), some (vi p6), none, none, none] [] H := by
  refine lq2_ind (P := fun p5 p6 H => PW E 24 [some (vr p0), some (vr p1), none, some (vr p3), some (vr p4), some (vi p5), some (vi p6), none, none, none] [] H) ?_
  intro self24 ih24 p5 p6 H h
  unfold lX8_bringBack_24 at h
  refine pw_iload (pc := 24) F dX8_bringBack_24 rfl ?_
  refine pw_aload_n (pc := 26) F dX8_bringBack_26 rfl ?_
  obtain ⟨x1, ex1, h⟩ := bnd h
  refine pw_get (pc := 27) F 1 1 376 (by decide) (by decide) g_ec6a53010b inl_1 0 rfl dX8_bringBack_27 ex1 ?_
  refine pw_icmp_ge (pc := 30) F 121 dX8_bringBack_30 (by decide) (fun hc => ?_) (fun hc => ?_)
  · have h := iteT hc h
    refine pw_iload (pc := 121) F dX8_bringBack_121 rfl ?_
    cases h
    exact pw_iret (pc := 123) F q dX8_bringBack_123
  · have h := iteF hc h
    refine pw_aload_n (pc := 33) F dX8_bringBack_33 rfl ?_
    obtain ⟨x2, ex2, h⟩ := bnd h
    refine pw_get (pc := 34) F 8 0 12 (by decide) (by decide) g_955d9610dc inl_8 2 rfl dX8_bringBack_34 ex2 ?_
    obtain ⟨x3, ex3, h⟩ := bnd h
    refine pw_get (pc := 37) F 3 0 144 (by decide) (by decide) g_78df9fc092 inl_3 2 rfl dX8_bringBack_37 ex3 ?_
    refine pw_iload (pc := 40) F dX8_bringBack_40 rfl ?_
    obtain ⟨x4, ex4, h⟩ := bnd h
    refine pw_aald (pc := 42) F 6 (by decide) dX8_bringBack_42 ex4 ?_
    refine pw_astore (pc := 43) F dX8_bringBack_43 (lt_nl hn (by decide)) [some (vr p0), some (vr p1), none, some (vr p3), some (vr p4), some (vi p5), some (vi p6), some (vr x4), none, none] rfl ?_
    refine pw_aload (pc := 45) F dX8_bringBack_45 rfl ?_
    obtain ⟨x5, ex5, h⟩ := bnd h
    refine pw_get (pc := 47) F 5 2 75 (by decide) (by decide) g_3884a6eb9d inl_5 0 rfl dX8_bringBack_47 ex5 ?_
    refine pw_if_eq (pc := 50) F 56 dX8_bringBack_50 (by decide) (fun hc => ?_) (fun hc => ?_)
    · have h := iteT hc h
      refine pw_aload_n (pc := 56) F dX8_bringBack_56 rfl ?_
      refine pw_aload (pc := 57) F dX8_bringBack_57 rfl ?_
      obtain ⟨x6, ex6, h⟩ := bnd h
      refine pw_get (pc := 59) F 5 1 88 (by decide) (by decide) g_3644918d03 inl_5 0 rfl dX8_bringBack_59 ex6 ?_
      obtain ⟨z7, ez7, h⟩ := bnd h
      refine pw_callS (pc := 62) (as := [vr p3, vi x6]) (st := []) (r := (some (vi z7.1))) F 230 (fun l => m_X8_placesOf l p3 x6 H z7.1 z7.2 ez7) g_337a394b58 g_4eaddf5732 g_99e03e18e2 g_b1b540d8aa hd_X8_placesOf (rm_ok hf hl (by decide) (by decide)) rfl dX8_bringBack_62 rfl (stk' := [vi z7.1]) rfl ?_
      refine pw_aload (pc := 65) F dX8_bringBack_65 rfl ?_
      refine pw_aload (pc := 67) F dX8_bringBack_67 rfl ?_
      obtain ⟨x8, ex8, h⟩ := bnd h
      refine pw_get (pc := 69) F 5 1 88 (by decide) (by decide) g_3644918d03 inl_5 0 rfl dX8_bringBack_69 ex8 ?_
      obtain ⟨z9, ez9, h⟩ := bnd h
      refine pw_callS (pc := 72) (as := [vr p4, vi x8]) (st := [vi z7.1]) (r := (some (vi z9.1))) F 230 (fun l => m_X8_placesOf l p4 x8 z7.2 z9.1 z9.2 ez9) g_337a394b58 g_4eaddf5732 g_99e03e18e2 g_b1b540d8aa hd_X8_placesOf (rm_ok hf hl (by decide) (by decide)) rfl dX8_bringBack_72 rfl (stk' := [vi z9.1, vi z7.1]) rfl ?_
      refine pw_mmin (pc := 75) F 360 g_7b2c370fc8 g_6443835c00 g_544deca7c6 g_4cca852340 (rm_ok hf hl (by decide) (by decide)) rfl dX8_bringBack_75 ?_
      refine pw_istore (pc := 78) F dX8_bringBack_78 (lt_nl hn (by decide)) [some (vr p0), some (vr p1), none, some (vr p3), some (vr p4), some (vi p5), some (vi p6), some (vr x4), some (vi (imin z7.1 z9.1)), none] rfl ?_
      refine pw_iconst (pc := 80) F 0 dX8_bringBack_80 (by decide) ?_
      refine pw_istore (pc := 81) F dX8_bringBack_81 (lt_nl hn (by decide)) [some (vr p0), some (vr p1), none, some (vr p3), some (vr p4), some (vi p5), some (vi p6), some (vr x4), some (vi (imin z7.1 z9.1)), some (vi 0)] rfl ?_
      exact pw_mask [true, true, true, true, true, true, true, false, true, true] (ls' := [some (vr p0), some (vr p1), none, some (vr p3), some (vr p4), some (vi p5), some (vi p6), none, some (vi (imin z7.1 z9.1)), some (vi 0)]) rfl (lX8_bringBack_83_ok F q hn hf hl self24 p0 p1 p3 p4 p6 (imin z7.1 z9.1) ih24  6000 p5 0 z9.2 h)
    · have h := iteF hc h
      refine pw_goto (pc := 53) F 115 dX8_bringBack_53 (by decide) ?_
      exact pw_mask [true, true, true, true, true, true, true, false, true, true] (ls' := [some (vr p0), some (vr p1), none, some (vr p3), some (vr p4), some (vi p5), some (vi p6), none, none, none]) rfl (jX8_bringBack_115_ok F q hn hf hl self24 p0 p1 p3 p4 p5 p6 H ih24 h)
def f_X8_bringBack (a0 a1 a2 : Int) (H : PH) : RO := vm 8 a0 H <|
  (ld 24 H a0 1).bind fun x1 => (ld 5 H x1 a2).bind fun x2 => (ld 20 H x2 0).bind fun x3 => (ld 17 H a1 0).bind fun x4 => (ld 7 H x4 a2).bind fun x5 => lq2 (lX8_bringBack_24 a0 a1 x3 x5) 6000 0 0 H
set_option maxHeartbeats 4000000 in
theorem m_X8_bringBack (l : Launch) (a0 a1 a2 : Int) (H : PH) (rr : Int) (HH : PH) (h : f_X8_bringBack a0 a1 a2 H = some (rr, HH)) : CT l yX8_bringBack cX8_bringBack 10 (some .int) 3 63 [vr a0, vr a1, vi a2] H (some (vi rr)) HH := by
  refine CT.of RX8 (by decide) rfl [some (vr a0), some (vr a1), some (vi a2), none, none, none, none, none, none, none] rfl rfl ?_
  intro E F q hn hf hl hm
  unfold f_X8_bringBack at h
  obtain ⟨hv, h⟩ := vm_spec h
  refine pw_aload_n (pc := 0) F dX8_bringBack_0 rfl ?_
  obtain ⟨x1, ex1, h⟩ := bnd h
  refine pw_get (pc := 1) F 8 1 18 (by decide) (by decide) g_0efda17134 inl_8 2 rfl dX8_bringBack_1 ex1 ?_
  refine pw_iload_n (pc := 4) F dX8_bringBack_4 rfl ?_
  obtain ⟨x2, ex2, h⟩ := bnd h
  refine pw_aald (pc := 5) F 5 (by decide) dX8_bringBack_5 ex2 ?_
  obtain ⟨x3, ex3, h⟩ := bnd h
  refine pw_get (pc := 6) F 4 0 126 (by decide) (by decide) g_8ec333b1d7 inl_4 2 rfl dX8_bringBack_6 ex3 ?_
  refine pw_astore_n (pc := 9) F dX8_bringBack_9 (lt_nl hn (by decide)) [some (vr a0), some (vr a1), some (vi a2), some (vr x3), none, none, none, none, none, none] rfl ?_
  refine pw_aload_n (pc := 10) F dX8_bringBack_10 rfl ?_
  obtain ⟨x4, ex4, h⟩ := bnd h
  refine pw_get (pc := 11) F 1 0 356 (by decide) (by decide) g_bee30a97df inl_1 2 rfl dX8_bringBack_11 ex4 ?_
  refine pw_iload_n (pc := 14) F dX8_bringBack_14 rfl ?_
  obtain ⟨x5, ex5, h⟩ := bnd h
  refine pw_aald (pc := 15) F 7 (by decide) dX8_bringBack_15 ex5 ?_
  refine pw_astore (pc := 16) F dX8_bringBack_16 (lt_nl hn (by decide)) [some (vr a0), some (vr a1), some (vi a2), some (vr x3), some (vr x5), none, none, none, none, none] rfl ?_
  refine pw_iconst (pc := 18) F 0 dX8_bringBack_18 (by decide) ?_
  refine pw_istore (pc := 19) F dX8_bringBack_19 (lt_nl hn (by decide)) [some (vr a0), some (vr a1), some (vi a2), some (vr x3), some (vr x5), some (vi 0), none, none, none, none] rfl ?_
  refine pw_iconst (pc := 21) F 0 dX8_bringBack_21 (by decide) ?_
  refine pw_istore (pc := 22) F dX8_bringBack_22 (lt_nl hn (by decide)) [some (vr a0), some (vr a1), some (vi a2), some (vr x3), some (vr x5), some (vi 0), some (vi 0), none, none, none] rfl ?_
  exact pw_mask [true, true, false, true, true, true, true, true, true, true] (ls' := [some (vr a0), some (vr a1), none, some (vr x3), some (vr x5), some (vi 0), some (vi 0), none, none, none]) rfl (lX8_bringBack_24_ok F q hn hf hl a0 a1 x3 x5  6000 0 0 H h)
/-! HouseholdVault.merge(I)I -/
theorem dX8_merge_0 : decode cX8_merge 0 = .ok (.aload_n 0, 1) := by decide +kernel
theorem dX8_merge_1 : decode cX8_merge 1 = .ok (.iload_n 1, 1) := by decide +kernel
theorem dX8_merge_2 : decode cX8_merge 2 = .ok (.invokevirtual 348, 3) := by decide +kernel
theorem dX8_merge_5 : decode cX8_merge 5 = .ok (.astore_n 2, 1) := by decide +kernel
theorem dX8_merge_6 : decode cX8_merge 6 = .ok (.aload_n 2, 1) := by decide +kernel
theorem dX8_merge_7 : decode cX8_merge 7 = .ok (.ifnonnull 5, 3) := by decide +kernel
theorem dX8_merge_10 : decode cX8_merge 10 = .ok (.iconst (-1), 1) := by decide +kernel
theorem dX8_merge_11 : decode cX8_merge 11 = .ok (.ireturn, 1) := by decide +kernel
theorem dX8_merge_12 : decode cX8_merge 12 = .ok (.iconst 0, 1) := by decide +kernel
theorem dX8_merge_13 : decode cX8_merge 13 = .ok (.istore_n 3, 1) := by decide +kernel
theorem dX8_merge_14 : decode cX8_merge 14 = .ok (.aload_n 2, 1) := by decide +kernel
theorem dX8_merge_15 : decode cX8_merge 15 = .ok (.getfield 356, 3) := by decide +kernel
theorem dX8_merge_18 : decode cX8_merge 18 = .ok (.arraylength, 1) := by decide +kernel
theorem dX8_merge_19 : decode cX8_merge 19 = .ok (.aload_n 0, 1) := by decide +kernel
theorem dX8_merge_20 : decode cX8_merge 20 = .ok (.getfield 98, 3) := by decide +kernel
theorem dX8_merge_23 : decode cX8_merge 23 = .ok (.invokestatic 360, 3) := by decide +kernel
theorem dX8_merge_26 : decode cX8_merge 26 = .ok (.istore 4, 2) := by decide +kernel
theorem dX8_merge_28 : decode cX8_merge 28 = .ok (.iconst 0, 1) := by decide +kernel
theorem dX8_merge_29 : decode cX8_merge 29 = .ok (.istore 5, 2) := by decide +kernel
theorem dX8_merge_31 : decode cX8_merge 31 = .ok (.iload 5, 2) := by decide +kernel
theorem dX8_merge_33 : decode cX8_merge 33 = .ok (.iload 4, 2) := by decide +kernel
theorem dX8_merge_35 : decode cX8_merge 35 = .ok (.if_icmp .ge 39, 3) := by decide +kernel
theorem dX8_merge_38 : decode cX8_merge 38 = .ok (.aload_n 0, 1) := by decide +kernel
theorem dX8_merge_39 : decode cX8_merge 39 = .ok (.aload_n 2, 1) := by decide +kernel
theorem dX8_merge_40 : decode cX8_merge 40 = .ok (.iload 5, 2) := by decide +kernel
theorem dX8_merge_42 : decode cX8_merge 42 = .ok (.invokevirtual 363, 3) := by decide +kernel
theorem dX8_merge_45 : decode cX8_merge 45 = .ok (.istore 6, 2) := by decide +kernel
theorem dX8_merge_47 : decode cX8_merge 47 = .ok (.iload 6, 2) := by decide +kernel
theorem dX8_merge_49 : decode cX8_merge 49 = .ok (.ifCond .le 14, 3) := by decide +kernel
theorem dX8_merge_52 : decode cX8_merge 52 = .ok (.aload_n 0, 1) := by decide +kernel
theorem dX8_merge_53 : decode cX8_merge 53 = .ok (.getfield 18, 3) := by decide +kernel
theorem dX8_merge_56 : decode cX8_merge 56 = .ok (.iload 5, 2) := by decide +kernel
theorem dX8_merge_58 : decode cX8_merge 58 = .ok (.aaload, 1) := by decide +kernel
theorem dX8_merge_59 : decode cX8_merge 59 = .ok (.iconst 0, 1) := by decide +kernel
theorem dX8_merge_60 : decode cX8_merge 60 = .ok (.invokevirtual 104, 3) := by decide +kernel
theorem dX8_merge_63 : decode cX8_merge 63 = .ok (.iload_n 3, 1) := by decide +kernel
theorem dX8_merge_64 : decode cX8_merge 64 = .ok (.iload 6, 2) := by decide +kernel
theorem dX8_merge_66 : decode cX8_merge 66 = .ok (.iadd, 1) := by decide +kernel
theorem dX8_merge_67 : decode cX8_merge 67 = .ok (.istore_n 3, 1) := by decide +kernel
theorem dX8_merge_68 : decode cX8_merge 68 = .ok (.iinc 5 1, 3) := by decide +kernel
theorem dX8_merge_71 : decode cX8_merge 71 = .ok (.goto (-40), 3) := by decide +kernel
theorem dX8_merge_74 : decode cX8_merge 74 = .ok (.iload_n 3, 1) := by decide +kernel
theorem dX8_merge_75 : decode cX8_merge 75 = .ok (.ireturn, 1) := by decide +kernel
def jX8_merge_63 (self31 : Int → Int → PH → RO) (p0 p2 p3 p4 p5 p6 : Int) (H : PH) : RO :=
  self31 (w32 (p3 + p6)) (w32 (p5 + 1)) H
set_option maxHeartbeats 4000000 in
theorem jX8_merge_63_ok {E : PE} {rr : Int} {HH : PH} (F : FX E cX8_merge RX8) (q : QE E (some (vi rr)) HH (some .int)) (hn : nLof E = 7) (hf : (roomOf E).frames = 4) (hl : (roomOf E).locals = 92) (self31 : Int → Int → PH → RO) (p0 p2 p3 p4 p5 p6 : Int) (H : PH) (ih31 : ∀ (v3 v5 : Int) (HV : PH), self31 v3 v5 HV = some (rr, HH) → PW E 31 [some (vr p0), none, some (vr p2), some (vi v3), some (vi p4), some (vi v5), none] [] HV) (h : jX8_merge_63 self31 p0 p2 p3 p4 p5 p6 H = some (rr, HH)) : PW E 63 [some (vr p0), none, some (vr p2), some (vi p3), some (vi p4), some (vi p5), some (vi p6)] [] H := by
  unfold jX8_merge_63 at h
  refine pw_iload_n (pc := 63) F dX8_merge_63 rfl ?_
  refine pw_iload (pc := 64) F dX8_merge_64 rfl ?_
  refine pw_iadd (pc := 66) F dX8_merge_66 ?_
  refine pw_istore_n (pc := 67) F dX8_merge_67 (lt_nl hn (by decide)) [some (vr p0), none, some (vr p2), some (vi (w32 (p3 + p6))), some (vi p4), some (vi p5), some (vi p6)] rfl ?_
  refine pw_iinc (pc := 68) F dX8_merge_68 rfl (lt_nl hn (by decide)) [some (vr p0), none, some (vr p2), some (vi (w32 (p3 + p6))), some (vi p4), some (vi (w32 (p5 + 1))), some (vi p6)] rfl (by decide) ?_
  refine pw_goto (pc := 71) F 31 dX8_merge_71 (by decide) ?_
  exact pw_mask [true, true, true, true, true, true, false] (ls' := [some (vr p0), none, some (vr p2), some (vi (w32 (p3 + p6))), some (vi p4), some (vi (w32 (p5 + 1))), none]) rfl (ih31 (w32 (p3 + p6)) (w32 (p5 + 1)) H h)
def lX8_merge_31 (p0 p2 p4 : Int) (self31 : Int → Int → PH → RO) (p3 p5 : Int) (H : PH) : RO :=
  (if p5 ≥ p4 then some (p3, H)
  else (f_X8_bringBack p0 p2 p5 H).bind fun z1 => (if z1.1 ≤ 0 then jX8_merge_63 self31 p0 p2 p3 p4 p5 z1.1 z1.2
  else (ld 24 z1.2 p0 1).bind fun x2 => (ld 5 z1.2 x2 p5).bind fun x3 => (f_X4_unsettle x3 0 z1.2).bind fun z4 => jX8_merge_63 self31 p0 p2 p3 p4 p5 z1.1 z4.2))
set_option maxHeartbeats 4000000 in
theorem lX8_merge_31_ok {E : PE} {rr : Int} {HH : PH} (F : FX E cX8_merge RX8) (q : QE E (some (vi rr)) HH (some .int)) (hn : nLof E = 7) (hf : (roomOf E).frames = 4) (hl : (roomOf E).locals = 92) (p0 p2 p4 : Int) : ∀ (n : Nat) (p3 p5 : Int) (H : PH), lq2 (lX8_merge_31 p0 p2 p4) n p3 p5 H = some (rr, HH) → PW E 31 [some (vr p0), none, some (vr p2), some (vi p3), some (vi p4), some (vi p5), none] [] H := by
  refine lq2_ind (P := fun p3 p5 H => PW E 31 [some (vr p0), none, some (vr p2), some (vi p3), some (vi p4), some (vi p5), none] [] H) ?_
  intro self31 ih31 p3 p5 H h
  unfold lX8_merge_31 at h
  refine pw_iload (pc := 31) F dX8_merge_31 rfl ?_
  refine pw_iload (pc := 33) F dX8_merge_33 rfl ?_
  refine pw_icmp_ge (pc := 35) F 74 dX8_merge_35 (by decide) (fun hc => ?_) (fun hc => ?_)
  · have h := iteT hc h
    refine pw_iload_n (pc := 74) F dX8_merge_74 rfl ?_
    cases h
    exact pw_iret (pc := 75) F q dX8_merge_75
  · have h := iteF hc h
    refine pw_aload_n (pc := 38) F dX8_merge_38 rfl ?_
    refine pw_aload_n (pc := 39) F dX8_merge_39 rfl ?_
    refine pw_iload (pc := 40) F dX8_merge_40 rfl ?_
    obtain ⟨z1, ez1, h⟩ := bnd h
    refine pw_callV (pc := 42) (as := [vr p2, vi p5]) (st := []) (r := (some (vi z1.1))) F 363 8 (by decide) rfl (fun l => m_X8_bringBack l p0 p2 p5 H z1.1 z1.2 ez1) g_c48bebf620 g_b6cd6eb474 g_83ea994df4 g_99e03e18e2 g_7e27283c2d hd_X8_bringBack (rm_ok hf hl (by decide) (by decide)) rfl (vm_spec ez1).1 dX8_merge_42 rfl (stk' := [vi z1.1]) rfl ?_
    refine pw_istore (pc := 45) F dX8_merge_45 (lt_nl hn (by decide)) [some (vr p0), none, some (vr p2), some (vi p3), some (vi p4), some (vi p5), some (vi z1.1)] rfl ?_
    refine pw_iload (pc := 47) F dX8_merge_47 rfl ?_
    refine pw_if_le (pc := 49) F 63 dX8_merge_49 (by decide) (fun hc => ?_) (fun hc => ?_)
    · have h := iteT hc h
      exact pw_mask [true, true, true, true, true, true, true] (ls' := [some (vr p0), none, some (vr p2), some (vi p3), some (vi p4), some (vi p5), some (vi z1.1)]) rfl (jX8_merge_63_ok F q hn hf hl self31 p0 p2 p3 p4 p5 z1.1 z1.2 ih31 h)
    · have h := iteF hc h
      refine pw_aload_n (pc := 52) F dX8_merge_52 rfl ?_
      obtain ⟨x2, ex2, h⟩ := bnd h
      refine pw_get (pc := 53) F 8 1 18 (by decide) (by decide) g_0efda17134 inl_8 2 rfl dX8_merge_53 ex2 ?_
      refine pw_iload (pc := 56) F dX8_merge_56 rfl ?_
      obtain ⟨x3, ex3, h⟩ := bnd h
      refine pw_aald (pc := 58) F 5 (by decide) dX8_merge_58 ex3 ?_
      refine pw_iconst (pc := 59) F 0 dX8_merge_59 (by decide) ?_
      obtain ⟨z4, ez4, h⟩ := bnd h
      refine pw_callV (pc := 60) (as := [vi 0]) (st := []) (r := none) F 104 4 (by decide) rfl (fun l => m_X4_unsettle l x3 0 z1.2 z4.1 z4.2 ez4) g_a6698af361 g_a3e941320c g_eeee0fdaa6 g_2b384744dc g_23d9030154 hd_X4_unsettle (rm_ok hf hl (by decide) (by decide)) rfl (vm_spec ez4).1 dX8_merge_60 rfl (stk' := []) rfl ?_
      exact pw_mask [true, true, true, true, true, true, true] (ls' := [some (vr p0), none, some (vr p2), some (vi p3), some (vi p4), some (vi p5), some (vi z1.1)]) rfl (jX8_merge_63_ok F q hn hf hl self31 p0 p2 p3 p4 p5 z1.1 z4.2 ih31 h)
def f_X8_merge (a0 a1 : Int) (H : PH) : RO := vm 8 a0 H <|
  (f_X8_editionOf a0 a1 H).bind fun z1 => (if z1.1 ≠ -1 then (ld 17 z1.2 z1.1 0).bind fun x2 => (alen z1.2 x2).bind fun x3 => (ld 24 z1.2 a0 2).bind fun x4 => lq2 (lX8_merge_31 a0 z1.1 (imin x3 x4)) 6000 0 0 z1.2
  else some ((-1), z1.2))
set_option maxHeartbeats 4000000 in
theorem m_X8_merge (l : Launch) (a0 a1 : Int) (H : PH) (rr : Int) (HH : PH) (h : f_X8_merge a0 a1 H = some (rr, HH)) : CT l yX8_merge cX8_merge 7 (some .int) 4 92 [vr a0, vi a1] H (some (vi rr)) HH := by
  refine CT.of RX8 (by decide) rfl [some (vr a0), some (vi a1), none, none, none, none, none] rfl rfl ?_
  intro E F q hn hf hl hm
  unfold f_X8_merge at h
  obtain ⟨hv, h⟩ := vm_spec h
  refine pw_aload_n (pc := 0) F dX8_merge_0 rfl ?_
  refine pw_iload_n (pc := 1) F dX8_merge_1 rfl ?_
  obtain ⟨z1, ez1, h⟩ := bnd h
  refine pw_callV (pc := 2) (as := [vi a1]) (st := []) (r := (some (vr z1.1))) F 348 8 (by decide) rfl (fun l => m_X8_editionOf l a0 a1 H z1.1 z1.2 ez1) g_4811072f13 g_fd5c22ba94 g_9b6d66f1d5 g_99e03e18e2 g_c89f233e61 hd_X8_editionOf (rm_ok hf hl (by decide) (by decide)) rfl (vm_spec ez1).1 dX8_merge_2 rfl (stk' := [vr z1.1]) rfl ?_
  refine pw_astore_n (pc := 5) F dX8_merge_5 (lt_nl hn (by decide)) [some (vr a0), some (vi a1), some (vr z1.1), none, none, none, none] rfl ?_
  refine pw_aload_n (pc := 6) F dX8_merge_6 rfl ?_
  refine pw_ifnonnull (pc := 7) F 12 dX8_merge_7 (by decide) (fun hc => ?_) (fun hc => ?_)
  · have h := iteT hc h
    refine pw_iconst (pc := 12) F 0 dX8_merge_12 (by decide) ?_
    refine pw_istore_n (pc := 13) F dX8_merge_13 (lt_nl hn (by decide)) [some (vr a0), some (vi a1), some (vr z1.1), some (vi 0), none, none, none] rfl ?_
    refine pw_aload_n (pc := 14) F dX8_merge_14 rfl ?_
    obtain ⟨x2, ex2, h⟩ := bnd h
    refine pw_get (pc := 15) F 1 0 356 (by decide) (by decide) g_bee30a97df inl_1 2 rfl dX8_merge_15 ex2 ?_
    obtain ⟨x3, ex3, h⟩ := bnd h
    refine pw_alen (pc := 18) F dX8_merge_18 ex3 ?_
    refine pw_aload_n (pc := 19) F dX8_merge_19 rfl ?_
    obtain ⟨x4, ex4, h⟩ := bnd h
    refine pw_get (pc := 20) F 8 2 98 (by decide) (by decide) g_51d983fb79 inl_8 0 rfl dX8_merge_20 ex4 ?_
    refine pw_mmin (pc := 23) F 360 g_7b2c370fc8 g_6443835c00 g_544deca7c6 g_4cca852340 (rm_ok hf hl (by decide) (by decide)) rfl dX8_merge_23 ?_
    refine pw_istore (pc := 26) F dX8_merge_26 (lt_nl hn (by decide)) [some (vr a0), some (vi a1), some (vr z1.1), some (vi 0), some (vi (imin x3 x4)), none, none] rfl ?_
    refine pw_iconst (pc := 28) F 0 dX8_merge_28 (by decide) ?_
    refine pw_istore (pc := 29) F dX8_merge_29 (lt_nl hn (by decide)) [some (vr a0), some (vi a1), some (vr z1.1), some (vi 0), some (vi (imin x3 x4)), some (vi 0), none] rfl ?_
    exact pw_mask [true, false, true, true, true, true, true] (ls' := [some (vr a0), none, some (vr z1.1), some (vi 0), some (vi (imin x3 x4)), some (vi 0), none]) rfl (lX8_merge_31_ok F q hn hf hl a0 z1.1 (imin x3 x4)  6000 0 0 z1.2 h)
  · have h := iteF hc h
    refine pw_iconst (pc := 10) F (-1) dX8_merge_10 (by decide) ?_
    cases h
    exact pw_iret (pc := 11) F q dX8_merge_11
/-! HouseholdVault.count(I)I -/
theorem dX8_count_0 : decode cX8_count 0 = .ok (.iload_n 1, 1) := by decide +kernel
theorem dX8_count_1 : decode cX8_count 1 = .ok (.tableswitch 81 0 5 #[39, 47, 52, 60, 65, 73], 39) := by decide +kernel
theorem dX8_count_40 : decode cX8_count 40 = .ok (.aload_n 0, 1) := by decide +kernel
theorem dX8_count_41 : decode cX8_count 41 = .ok (.getfield 12, 3) := by decide +kernel
theorem dX8_count_44 : decode cX8_count 44 = .ok (.getfield 141, 3) := by decide +kernel
theorem dX8_count_47 : decode cX8_count 47 = .ok (.ireturn, 1) := by decide +kernel
theorem dX8_count_48 : decode cX8_count 48 = .ok (.aload_n 0, 1) := by decide +kernel
theorem dX8_count_49 : decode cX8_count 49 = .ok (.getfield 98, 3) := by decide +kernel
theorem dX8_count_52 : decode cX8_count 52 = .ok (.ireturn, 1) := by decide +kernel
theorem dX8_count_53 : decode cX8_count 53 = .ok (.aload_n 0, 1) := by decide +kernel
theorem dX8_count_54 : decode cX8_count 54 = .ok (.getfield 12, 3) := by decide +kernel
theorem dX8_count_57 : decode cX8_count 57 = .ok (.getfield 367, 3) := by decide +kernel
theorem dX8_count_60 : decode cX8_count 60 = .ok (.ireturn, 1) := by decide +kernel
theorem dX8_count_61 : decode cX8_count 61 = .ok (.aload_n 0, 1) := by decide +kernel
theorem dX8_count_62 : decode cX8_count 62 = .ok (.getfield 335, 3) := by decide +kernel
theorem dX8_count_65 : decode cX8_count 65 = .ok (.ireturn, 1) := by decide +kernel
theorem dX8_count_66 : decode cX8_count 66 = .ok (.aload_n 0, 1) := by decide +kernel
theorem dX8_count_67 : decode cX8_count 67 = .ok (.getfield 31, 3) := by decide +kernel
theorem dX8_count_70 : decode cX8_count 70 = .ok (.getfield 370, 3) := by decide +kernel
theorem dX8_count_73 : decode cX8_count 73 = .ok (.ireturn, 1) := by decide +kernel
theorem dX8_count_74 : decode cX8_count 74 = .ok (.aload_n 0, 1) := by decide +kernel
theorem dX8_count_75 : decode cX8_count 75 = .ok (.getfield 31, 3) := by decide +kernel
theorem dX8_count_78 : decode cX8_count 78 = .ok (.getfield 373, 3) := by decide +kernel
theorem dX8_count_81 : decode cX8_count 81 = .ok (.ireturn, 1) := by decide +kernel
theorem dX8_count_82 : decode cX8_count 82 = .ok (.iconst (-1), 1) := by decide +kernel
theorem dX8_count_83 : decode cX8_count 83 = .ok (.ireturn, 1) := by decide +kernel
def f_X8_count (a0 a1 : Int) (H : PH) : RO := vm 8 a0 H <|
  (if a1 < 0 ∨ 5 < a1 then some ((-1), H)
  else List.getD [(ld 24 H a0 0).bind fun x1 => (ld 19 H x1 1).bind fun x2 => some (x2, H), (ld 24 H a0 2).bind fun x3 => some (x3, H), (ld 24 H a0 0).bind fun x4 => (ld 19 H x4 3).bind fun x5 => some (x5, H), (ld 24 H a0 4).bind fun x6 => some (x6, H), (ld 24 H a0 5).bind fun x7 => (ld 23 H x7 0).bind fun x8 => some (x8, H), (ld 24 H a0 5).bind fun x9 => (ld 23 H x9 1).bind fun x10 => some (x10, H)] (a1 - 0).toNat none)
set_option maxHeartbeats 4000000 in
theorem m_X8_count (l : Launch) (a0 a1 : Int) (H : PH) (rr : Int) (HH : PH) (h : f_X8_count a0 a1 H = some (rr, HH)) : CT l yX8_count cX8_count 2 (some .int) 0 0 [vr a0, vi a1] H (some (vi rr)) HH := by
  refine CT.of RX8 (by decide) rfl [some (vr a0), some (vi a1)] rfl rfl ?_
  intro E F q hn hf hl hm
  unfold f_X8_count at h
  obtain ⟨hv, h⟩ := vm_spec h
  refine pw_iload_n (pc := 0) F dX8_count_0 rfl ?_
  refine pw_table (pc := 1) F dX8_count_1 82 (by decide) [40, 48, 53, 61, 66, 74] (by decide) (by decide) (fun hc => ?_) (fun i t ht ha => ?_)
  · have h := iteT hc h
    refine pw_iconst (pc := 82) F (-1) dX8_count_82 (by decide) ?_
    cases h
    exact pw_iret (pc := 83) F q dX8_count_83
  · have hc : ¬ (a1 < 0 ∨ 5 < a1) := sw_in 6 ht ha (by decide) (by decide)
    have h := iteF hc h
    have h := sw_at ha h
    match i, ht, h with
    | 0, ht, h =>
      obtain rfl : 40 = t := Option.some.inj ht
      have h : ((ld 24 H a0 0).bind fun x1 => (ld 19 H x1 1).bind fun x2 => some (x2, H) : RO) = some (rr, HH) := h
      refine pw_aload_n (pc := 40) F dX8_count_40 rfl ?_
      obtain ⟨x1, ex1, h⟩ := bnd h
      refine pw_get (pc := 41) F 8 0 12 (by decide) (by decide) g_955d9610dc inl_8 2 rfl dX8_count_41 ex1 ?_
      obtain ⟨x2, ex2, h⟩ := bnd h
      refine pw_get (pc := 44) F 3 1 141 (by decide) (by decide) g_4a788c66ef inl_3 0 rfl dX8_count_44 ex2 ?_
      cases h
      exact pw_iret (pc := 47) F q dX8_count_47
    | 1, ht, h =>
      obtain rfl : 48 = t := Option.some.inj ht
      have h : ((ld 24 H a0 2).bind fun x3 => some (x3, H) : RO) = some (rr, HH) := h
      refine pw_aload_n (pc := 48) F dX8_count_48 rfl ?_
      obtain ⟨x3, ex3, h⟩ := bnd h
      refine pw_get (pc := 49) F 8 2 98 (by decide) (by decide) g_51d983fb79 inl_8 0 rfl dX8_count_49 ex3 ?_
      cases h
      exact pw_iret (pc := 52) F q dX8_count_52
    | 2, ht, h =>
      obtain rfl : 53 = t := Option.some.inj ht
      have h : ((ld 24 H a0 0).bind fun x4 => (ld 19 H x4 3).bind fun x5 => some (x5, H) : RO) = some (rr, HH) := h
      refine pw_aload_n (pc := 53) F dX8_count_53 rfl ?_
      obtain ⟨x4, ex4, h⟩ := bnd h
      refine pw_get (pc := 54) F 8 0 12 (by decide) (by decide) g_955d9610dc inl_8 2 rfl dX8_count_54 ex4 ?_
      obtain ⟨x5, ex5, h⟩ := bnd h
      refine pw_get (pc := 57) F 3 3 367 (by decide) (by decide) g_1406401fe0 inl_3 0 rfl dX8_count_57 ex5 ?_
      cases h
      exact pw_iret (pc := 60) F q dX8_count_60
    | 3, ht, h =>
      obtain rfl : 61 = t := Option.some.inj ht
      have h : ((ld 24 H a0 4).bind fun x6 => some (x6, H) : RO) = some (rr, HH) := h
      refine pw_aload_n (pc := 61) F dX8_count_61 rfl ?_
      obtain ⟨x6, ex6, h⟩ := bnd h
      refine pw_get (pc := 62) F 8 4 335 (by decide) (by decide) g_533bc01838 inl_8 0 rfl dX8_count_62 ex6 ?_
      cases h
      exact pw_iret (pc := 65) F q dX8_count_65
    | 4, ht, h =>
      obtain rfl : 66 = t := Option.some.inj ht
      have h : ((ld 24 H a0 5).bind fun x7 => (ld 23 H x7 0).bind fun x8 => some (x8, H) : RO) = some (rr, HH) := h
      refine pw_aload_n (pc := 66) F dX8_count_66 rfl ?_
      obtain ⟨x7, ex7, h⟩ := bnd h
      refine pw_get (pc := 67) F 8 5 31 (by decide) (by decide) g_c78e80ff2c inl_8 2 rfl dX8_count_67 ex7 ?_
      obtain ⟨x8, ex8, h⟩ := bnd h
      refine pw_get (pc := 70) F 7 0 370 (by decide) (by decide) g_4f6698321f inl_7 0 rfl dX8_count_70 ex8 ?_
      cases h
      exact pw_iret (pc := 73) F q dX8_count_73
    | 5, ht, h =>
      obtain rfl : 74 = t := Option.some.inj ht
      have h : ((ld 24 H a0 5).bind fun x9 => (ld 23 H x9 1).bind fun x10 => some (x10, H) : RO) = some (rr, HH) := h
      refine pw_aload_n (pc := 74) F dX8_count_74 rfl ?_
      obtain ⟨x9, ex9, h⟩ := bnd h
      refine pw_get (pc := 75) F 8 5 31 (by decide) (by decide) g_c78e80ff2c inl_8 2 rfl dX8_count_75 ex9 ?_
      obtain ⟨x10, ex10, h⟩ := bnd h
      refine pw_get (pc := 78) F 7 1 373 (by decide) (by decide) g_27436ce6f7 inl_7 0 rfl dX8_count_78 ex10 ?_
      cases h
      exact pw_iret (pc := 81) F q dX8_count_81
    | i + 6, ht, h => simp at ht
