/-! HouseholdVault.heightOf(II)J -/
theorem dX8_heightOf_0 : decode cX8_heightOf 0 = .ok (.aload_n 0, 1) := by decide +kernel
theorem dX8_heightOf_1 : decode cX8_heightOf 1 = .ok (.getfield 12, 3) := by decide +kernel
theorem dX8_heightOf_4 : decode cX8_heightOf 4 = .ok (.getfield 144, 3) := by decide +kernel
theorem dX8_heightOf_7 : decode cX8_heightOf 7 = .ok (.iload_n 1, 1) := by decide +kernel
theorem dX8_heightOf_8 : decode cX8_heightOf 8 = .ok (.aaload, 1) := by decide +kernel
theorem dX8_heightOf_9 : decode cX8_heightOf 9 = .ok (.astore_n 3, 1) := by decide +kernel
theorem dX8_heightOf_10 : decode cX8_heightOf 10 = .ok (.aload_n 0, 1) := by decide +kernel
theorem dX8_heightOf_11 : decode cX8_heightOf 11 = .ok (.getfield 18, 3) := by decide +kernel
theorem dX8_heightOf_14 : decode cX8_heightOf 14 = .ok (.iload_n 2, 1) := by decide +kernel
theorem dX8_heightOf_15 : decode cX8_heightOf 15 = .ok (.aaload, 1) := by decide +kernel
theorem dX8_heightOf_16 : decode cX8_heightOf 16 = .ok (.getfield 126, 3) := by decide +kernel
theorem dX8_heightOf_19 : decode cX8_heightOf 19 = .ok (.getfield 172, 3) := by decide +kernel
theorem dX8_heightOf_22 : decode cX8_heightOf 22 = .ok (.iload_n 1, 1) := by decide +kernel
theorem dX8_heightOf_23 : decode cX8_heightOf 23 = .ok (.iconst (-1), 1) := by decide +kernel
theorem dX8_heightOf_24 : decode cX8_heightOf 24 = .ok (.invokestatic 130, 3) := by decide +kernel
theorem dX8_heightOf_27 : decode cX8_heightOf 27 = .ok (.laload, 1) := by decide +kernel
theorem dX8_heightOf_28 : decode cX8_heightOf 28 = .ok (.lstore 4, 2) := by decide +kernel
theorem dX8_heightOf_30 : decode cX8_heightOf 30 = .ok (.aload_n 3, 1) := by decide +kernel
theorem dX8_heightOf_31 : decode cX8_heightOf 31 = .ok (.getfield 50, 3) := by decide +kernel
theorem dX8_heightOf_34 : decode cX8_heightOf 34 = .ok (.ifCond .ne 13, 3) := by decide +kernel
theorem dX8_heightOf_37 : decode cX8_heightOf 37 = .ok (.aload_n 3, 1) := by decide +kernel
theorem dX8_heightOf_38 : decode cX8_heightOf 38 = .ok (.lload 4, 2) := by decide +kernel
theorem dX8_heightOf_40 : decode cX8_heightOf 40 = .ok (.invokevirtual 78, 3) := by decide +kernel
theorem dX8_heightOf_43 : decode cX8_heightOf 43 = .ok (.i2l, 1) := by decide +kernel
theorem dX8_heightOf_44 : decode cX8_heightOf 44 = .ok (.goto 5, 3) := by decide +kernel
theorem dX8_heightOf_47 : decode cX8_heightOf 47 = .ok (.lload 4, 2) := by decide +kernel
theorem dX8_heightOf_49 : decode cX8_heightOf 49 = .ok (.lreturn, 1) := by decide +kernel
def f_X8_heightOf (a0 a1 a2 : Int) (H : PH) : RO := vm 8 a0 H <|
  (ld 24 H a0 0).bind fun x1 => (ld 19 H x1 0).bind fun x2 => (ld 6 H x2 a1).bind fun x3 => (ld 24 H a0 1).bind fun x4 => (ld 5 H x4 a2).bind fun x5 => (ld 20 H x5 0).bind fun x6 => (ld 22 H x6 0).bind fun x7 => (f_X8_spot a1 (-1) H).bind fun z8 => (ld 1 z8.2 x7 z8.1).bind fun x9 => (ld 21 z8.2 x3 0).bind fun x10 => (if x10 ≠ 0 then some (x9, z8.2)
  else (f_X5_codeIndex x3 x9 z8.2).bind fun z11 => some (z11.1, z11.2))
set_option maxHeartbeats 4000000 in
theorem m_X8_heightOf (l : Launch) (a0 a1 a2 : Int) (H : PH) (rr : Int) (HH : PH) (h : f_X8_heightOf a0 a1 a2 H = some (rr, HH)) : CT l yX8_heightOf cX8_heightOf 6 (some .long) 1 23 [vr a0, vi a1, vi a2] H (some (vl rr)) HH := by
  refine CT.of RX8 (by decide) rfl [some (vr a0), some (vi a1), some (vi a2), none, none, none] rfl rfl ?_
  intro E F q hn hf hl hm
  unfold f_X8_heightOf at h
  obtain ⟨hv, h⟩ := vm_spec h
  refine pw_aload_n (pc := 0) F dX8_heightOf_0 rfl ?_
  obtain ⟨x1, ex1, h⟩ := bnd h
  refine pw_get (pc := 1) F 8 0 12 (by decide) (by decide) g_955d9610dc inl_8 2 rfl dX8_heightOf_1 ex1 ?_
  obtain ⟨x2, ex2, h⟩ := bnd h
  refine pw_get (pc := 4) F 3 0 144 (by decide) (by decide) g_78df9fc092 inl_3 2 rfl dX8_heightOf_4 ex2 ?_
  refine pw_iload_n (pc := 7) F dX8_heightOf_7 rfl ?_
  obtain ⟨x3, ex3, h⟩ := bnd h
  refine pw_aald (pc := 8) F 6 (by decide) dX8_heightOf_8 ex3 ?_
  refine pw_astore_n (pc := 9) F dX8_heightOf_9 (lt_nl hn (by decide)) [some (vr a0), some (vi a1), some (vi a2), some (vr x3), none, none] rfl ?_
  refine pw_aload_n (pc := 10) F dX8_heightOf_10 rfl ?_
  obtain ⟨x4, ex4, h⟩ := bnd h
  refine pw_get (pc := 11) F 8 1 18 (by decide) (by decide) g_0efda17134 inl_8 2 rfl dX8_heightOf_11 ex4 ?_
  refine pw_iload_n (pc := 14) F dX8_heightOf_14 rfl ?_
  obtain ⟨x5, ex5, h⟩ := bnd h
  refine pw_aald (pc := 15) F 5 (by decide) dX8_heightOf_15 ex5 ?_
  obtain ⟨x6, ex6, h⟩ := bnd h
  refine pw_get (pc := 16) F 4 0 126 (by decide) (by decide) g_8ec333b1d7 inl_4 2 rfl dX8_heightOf_16 ex6 ?_
  obtain ⟨x7, ex7, h⟩ := bnd h
  refine pw_get (pc := 19) F 6 0 172 (by decide) (by decide) g_6a853c1f58 inl_6 2 rfl dX8_heightOf_19 ex7 ?_
  refine pw_iload_n (pc := 22) F dX8_heightOf_22 rfl ?_
  refine pw_iconst (pc := 23) F (-1) dX8_heightOf_23 (by decide) ?_
  obtain ⟨z8, ez8, h⟩ := bnd h
  refine pw_callS (pc := 24) (as := [vi a1, vi (-1)]) (st := [vr x7]) (r := (some (vi z8.1))) F 130 (fun l => m_X8_spot l a1 (-1) H z8.1 z8.2 ez8) g_3d0f1a9b86 g_aa0997f699 g_99e03e18e2 g_0d0469f624 hd_X8_spot (rm_ok hf hl (by decide) (by decide)) rfl dX8_heightOf_24 rfl (stk' := [vi z8.1, vr x7]) rfl ?_
  obtain ⟨x9, ex9, h⟩ := bnd h
  refine pw_lald (pc := 27) F dX8_heightOf_27 ex9 ?_
  refine pw_lstore (pc := 28) F dX8_heightOf_28 (lt_nl hn (by decide)) [some (vr a0), some (vi a1), some (vi a2), some (vr x3), some (vl x9), none] rfl ?_
  refine pw_aload_n (pc := 30) F dX8_heightOf_30 rfl ?_
  obtain ⟨x10, ex10, h⟩ := bnd h
  refine pw_get (pc := 31) F 5 0 50 (by decide) (by decide) g_89512a4092 inl_5 0 rfl dX8_heightOf_31 ex10 ?_
  refine pw_if_ne (pc := 34) F 47 dX8_heightOf_34 (by decide) (fun hc => ?_) (fun hc => ?_)
  · have h := iteT hc h
    refine pw_lload (pc := 47) F dX8_heightOf_47 rfl ?_
    cases h
    exact pw_lret (pc := 49) F q dX8_heightOf_49
  · have h := iteF hc h
    refine pw_aload_n (pc := 37) F dX8_heightOf_37 rfl ?_
    refine pw_lload (pc := 38) F dX8_heightOf_38 rfl ?_
    obtain ⟨z11, ez11, h⟩ := bnd h
    refine pw_callV (pc := 40) (as := [vl x9]) (st := []) (r := (some (vi z11.1))) F 78 5 (by decide) rfl (fun l => m_X5_codeIndex l x3 x9 z8.2 z11.1 z11.2 ez11) g_8b2c3e563a g_badf7ddd51 g_77ec39cdaf g_5f14f7581a g_dacd68e1e9 hd_X5_codeIndex (rm_ok hf hl (by decide) (by decide)) rfl (vm_spec ez11).1 dX8_heightOf_40 rfl (stk' := [vi z11.1]) rfl ?_
    refine pw_i2l (pc := 43) F dX8_heightOf_43 ?_
    refine pw_goto (pc := 44) F 49 dX8_heightOf_44 (by decide) ?_
    cases h
    exact pw_lret (pc := 49) F q dX8_heightOf_49
/-! HouseholdVault.insertRising(III)V -/
theorem dX8_insertRising_0 : decode cX8_insertRising 0 = .ok (.aload_n 0, 1) := by decide +kernel
theorem dX8_insertRising_1 : decode cX8_insertRising 1 = .ok (.iload_n 1, 1) := by decide +kernel
theorem dX8_insertRising_2 : decode cX8_insertRising 2 = .ok (.iload_n 2, 1) := by decide +kernel
theorem dX8_insertRising_3 : decode cX8_insertRising 3 = .ok (.invokevirtual 313, 3) := by decide +kernel
theorem dX8_insertRising_6 : decode cX8_insertRising 6 = .ok (.lstore 4, 2) := by decide +kernel
theorem dX8_insertRising_8 : decode cX8_insertRising 8 = .ok (.iload_n 3, 1) := by decide +kernel
theorem dX8_insertRising_9 : decode cX8_insertRising 9 = .ok (.istore 6, 2) := by decide +kernel
theorem dX8_insertRising_11 : decode cX8_insertRising 11 = .ok (.iload 6, 2) := by decide +kernel
theorem dX8_insertRising_13 : decode cX8_insertRising 13 = .ok (.ifCond .le 45, 3) := by decide +kernel
theorem dX8_insertRising_16 : decode cX8_insertRising 16 = .ok (.aload_n 0, 1) := by decide +kernel
theorem dX8_insertRising_17 : decode cX8_insertRising 17 = .ok (.iload_n 1, 1) := by decide +kernel
theorem dX8_insertRising_18 : decode cX8_insertRising 18 = .ok (.aload_n 0, 1) := by decide +kernel
theorem dX8_insertRising_19 : decode cX8_insertRising 19 = .ok (.getfield 42, 3) := by decide +kernel
theorem dX8_insertRising_22 : decode cX8_insertRising 22 = .ok (.iload 6, 2) := by decide +kernel
theorem dX8_insertRising_24 : decode cX8_insertRising 24 = .ok (.iconst 1, 1) := by decide +kernel
theorem dX8_insertRising_25 : decode cX8_insertRising 25 = .ok (.isub, 1) := by decide +kernel
theorem dX8_insertRising_26 : decode cX8_insertRising 26 = .ok (.iaload, 1) := by decide +kernel
theorem dX8_insertRising_27 : decode cX8_insertRising 27 = .ok (.invokevirtual 313, 3) := by decide +kernel
theorem dX8_insertRising_30 : decode cX8_insertRising 30 = .ok (.lload 4, 2) := by decide +kernel
theorem dX8_insertRising_32 : decode cX8_insertRising 32 = .ok (.lcmp, 1) := by decide +kernel
theorem dX8_insertRising_33 : decode cX8_insertRising 33 = .ok (.ifCond .le 25, 3) := by decide +kernel
theorem dX8_insertRising_36 : decode cX8_insertRising 36 = .ok (.aload_n 0, 1) := by decide +kernel
theorem dX8_insertRising_37 : decode cX8_insertRising 37 = .ok (.getfield 42, 3) := by decide +kernel
theorem dX8_insertRising_40 : decode cX8_insertRising 40 = .ok (.iload 6, 2) := by decide +kernel
theorem dX8_insertRising_42 : decode cX8_insertRising 42 = .ok (.aload_n 0, 1) := by decide +kernel
theorem dX8_insertRising_43 : decode cX8_insertRising 43 = .ok (.getfield 42, 3) := by decide +kernel
theorem dX8_insertRising_46 : decode cX8_insertRising 46 = .ok (.iload 6, 2) := by decide +kernel
theorem dX8_insertRising_48 : decode cX8_insertRising 48 = .ok (.iconst 1, 1) := by decide +kernel
theorem dX8_insertRising_49 : decode cX8_insertRising 49 = .ok (.isub, 1) := by decide +kernel
theorem dX8_insertRising_50 : decode cX8_insertRising 50 = .ok (.iaload, 1) := by decide +kernel
theorem dX8_insertRising_51 : decode cX8_insertRising 51 = .ok (.iastore, 1) := by decide +kernel
theorem dX8_insertRising_52 : decode cX8_insertRising 52 = .ok (.iinc 6 (-1), 3) := by decide +kernel
theorem dX8_insertRising_55 : decode cX8_insertRising 55 = .ok (.goto (-44), 3) := by decide +kernel
theorem dX8_insertRising_58 : decode cX8_insertRising 58 = .ok (.aload_n 0, 1) := by decide +kernel
theorem dX8_insertRising_59 : decode cX8_insertRising 59 = .ok (.getfield 42, 3) := by decide +kernel
theorem dX8_insertRising_62 : decode cX8_insertRising 62 = .ok (.iload 6, 2) := by decide +kernel
theorem dX8_insertRising_64 : decode cX8_insertRising 64 = .ok (.iload_n 2, 1) := by decide +kernel
theorem dX8_insertRising_65 : decode cX8_insertRising 65 = .ok (.iastore, 1) := by decide +kernel
theorem dX8_insertRising_66 : decode cX8_insertRising 66 = .ok (.return_, 1) := by decide +kernel
def jX8_insertRising_58 (p0 p2 p6 : Int) (H : PH) : RO :=
  (ld 24 H p0 7).bind fun x1 => (stv 0 H x1 p6 p2).bind fun H2 => some (0, H2)
set_option maxHeartbeats 4000000 in
theorem jX8_insertRising_58_ok {E : PE} {rr : Int} {HH : PH} (F : FX E cX8_insertRising RX8) (q : QE E none HH none) (hn : nLof E = 7) (hf : (roomOf E).frames = 2) (hl : (roomOf E).locals = 48) (p0 p2 p6 : Int) (H : PH) (h : jX8_insertRising_58 p0 p2 p6 H = some (rr, HH)) : PW E 58 [some (vr p0), none, some (vi p2), none, none, none, some (vi p6)] [] H := by
  unfold jX8_insertRising_58 at h
  refine pw_aload_n (pc := 58) F dX8_insertRising_58 rfl ?_
  obtain ⟨x1, ex1, h⟩ := bnd h
  refine pw_get (pc := 59) F 8 7 42 (by decide) (by decide) g_a5c01fe640 inl_8 2 rfl dX8_insertRising_59 ex1 ?_
  refine pw_iload (pc := 62) F dX8_insertRising_62 rfl ?_
  refine pw_iload_n (pc := 64) F dX8_insertRising_64 rfl ?_
  obtain ⟨H2, eH2, h⟩ := bnd h
  refine pw_iast (pc := 65) F dX8_insertRising_65 eH2 ?_
  cases h
  exact pw_vret (pc := 66) F q dX8_insertRising_66
def lX8_insertRising_11 (p0 p1 p2 p4 : Int) (self11 : Int → PH → RO) (p6 : Int) (H : PH) : RO :=
  (if p6 ≤ 0 then jX8_insertRising_58 p0 p2 p6 H
  else (ld 24 H p0 7).bind fun x1 => (ld 0 H x1 (w32 (p6 - 1))).bind fun x2 => (f_X8_heightOf p0 p1 x2 H).bind fun z3 => (if (lc z3.1 p4) ≤ 0 then jX8_insertRising_58 p0 p2 p6 z3.2
  else (ld 24 z3.2 p0 7).bind fun x4 => (ld 24 z3.2 p0 7).bind fun x5 => (ld 0 z3.2 x5 (w32 (p6 - 1))).bind fun x6 => (stv 0 z3.2 x4 p6 x6).bind fun H7 => self11 (w32 (p6 + (-1))) H7))
set_option maxHeartbeats 4000000 in
theorem lX8_insertRising_11_ok {E : PE} {rr : Int} {HH : PH} (F : FX E cX8_insertRising RX8) (q : QE E none HH none) (hn : nLof E = 7) (hf : (roomOf E).frames = 2) (hl : (roomOf E).locals = 48) (p0 p1 p2 p4 : Int) : ∀ (n : Nat) (p6 : Int) (H : PH), lq1 (lX8_insertRising_11 p0 p1 p2 p4) n p6 H = some (rr, HH) → PW E 11 [some (vr p0), some (vi p1), some (vi p2), none, some (vl p4), none, some (vi p6)] [] H := by
  refine lq1_ind (P := fun p6 H => PW E 11 [some (vr p0), some (vi p1), some (vi p2), none, some (vl p4), none, some (vi p6)] [] H) ?_
  intro self11 ih11 p6 H h
  unfold lX8_insertRising_11 at h
  refine pw_iload (pc := 11) F dX8_insertRising_11 rfl ?_
  refine pw_if_le (pc := 13) F 58 dX8_insertRising_13 (by decide) (fun hc => ?_) (fun hc => ?_)
  · have h := iteT hc h
    exact pw_mask [true, false, true, true, false, true, true] (ls' := [some (vr p0), none, some (vi p2), none, none, none, some (vi p6)]) rfl (jX8_insertRising_58_ok F q hn hf hl p0 p2 p6 H h)
  · have h := iteF hc h
    refine pw_aload_n (pc := 16) F dX8_insertRising_16 rfl ?_
    refine pw_iload_n (pc := 17) F dX8_insertRising_17 rfl ?_
    refine pw_aload_n (pc := 18) F dX8_insertRising_18 rfl ?_
    obtain ⟨x1, ex1, h⟩ := bnd h
    refine pw_get (pc := 19) F 8 7 42 (by decide) (by decide) g_a5c01fe640 inl_8 2 rfl dX8_insertRising_19 ex1 ?_
    refine pw_iload (pc := 22) F dX8_insertRising_22 rfl ?_
    refine pw_iconst (pc := 24) F 1 dX8_insertRising_24 (by decide) ?_
    refine pw_isub (pc := 25) F dX8_insertRising_25 ?_
    obtain ⟨x2, ex2, h⟩ := bnd h
    refine pw_iald (pc := 26) F dX8_insertRising_26 ex2 ?_
    obtain ⟨z3, ez3, h⟩ := bnd h
    refine pw_callV (pc := 27) (as := [vi p1, vi x2]) (st := []) (r := (some (vl z3.1))) F 313 8 (by decide) rfl (fun l => m_X8_heightOf l p0 p1 x2 H z3.1 z3.2 ez3) g_eab7b74c61 g_5838d5ae2e g_9424d33f1b g_99e03e18e2 g_c3baec6957 hd_X8_heightOf (rm_ok hf hl (by decide) (by decide)) rfl (vm_spec ez3).1 dX8_insertRising_27 rfl (stk' := [vl z3.1]) rfl ?_
    refine pw_lload (pc := 30) F dX8_insertRising_30 rfl ?_
    refine pw_lcmp (pc := 32) F dX8_insertRising_32 ?_
    refine pw_if_le (pc := 33) F 58 dX8_insertRising_33 (by decide) (fun hc => ?_) (fun hc => ?_)
    · have h := iteT hc h
      exact pw_mask [true, false, true, true, false, true, true] (ls' := [some (vr p0), none, some (vi p2), none, none, none, some (vi p6)]) rfl (jX8_insertRising_58_ok F q hn hf hl p0 p2 p6 z3.2 h)
    · have h := iteF hc h
      refine pw_aload_n (pc := 36) F dX8_insertRising_36 rfl ?_
      obtain ⟨x4, ex4, h⟩ := bnd h
      refine pw_get (pc := 37) F 8 7 42 (by decide) (by decide) g_a5c01fe640 inl_8 2 rfl dX8_insertRising_37 ex4 ?_
      refine pw_iload (pc := 40) F dX8_insertRising_40 rfl ?_
      refine pw_aload_n (pc := 42) F dX8_insertRising_42 rfl ?_
      obtain ⟨x5, ex5, h⟩ := bnd h
      refine pw_get (pc := 43) F 8 7 42 (by decide) (by decide) g_a5c01fe640 inl_8 2 rfl dX8_insertRising_43 ex5 ?_
      refine pw_iload (pc := 46) F dX8_insertRising_46 rfl ?_
      refine pw_iconst (pc := 48) F 1 dX8_insertRising_48 (by decide) ?_
      refine pw_isub (pc := 49) F dX8_insertRising_49 ?_
      obtain ⟨x6, ex6, h⟩ := bnd h
      refine pw_iald (pc := 50) F dX8_insertRising_50 ex6 ?_
      obtain ⟨H7, eH7, h⟩ := bnd h
      refine pw_iast (pc := 51) F dX8_insertRising_51 eH7 ?_
      refine pw_iinc (pc := 52) F dX8_insertRising_52 rfl (lt_nl hn (by decide)) [some (vr p0), some (vi p1), some (vi p2), none, some (vl p4), none, some (vi (w32 (p6 + (-1))))] rfl (by decide) ?_
      refine pw_goto (pc := 55) F 11 dX8_insertRising_55 (by decide) ?_
      exact pw_mask [true, true, true, true, true, true, true] (ls' := [some (vr p0), some (vi p1), some (vi p2), none, some (vl p4), none, some (vi (w32 (p6 + (-1))))]) rfl (ih11 (w32 (p6 + (-1))) H7 h)
def f_X8_insertRising (a0 a1 a2 a3 : Int) (H : PH) : RO := vm 8 a0 H <|
  (f_X8_heightOf a0 a1 a2 H).bind fun z1 => lq1 (lX8_insertRising_11 a0 a1 a2 z1.1) 6000 a3 z1.2
set_option maxHeartbeats 4000000 in
theorem m_X8_insertRising (l : Launch) (a0 a1 a2 a3 : Int) (H : PH) (rr : Int) (HH : PH) (h : f_X8_insertRising a0 a1 a2 a3 H = some (rr, HH)) : CT l yX8_insertRising cX8_insertRising 7 none 2 48 [vr a0, vi a1, vi a2, vi a3] H none HH := by
  refine CT.of RX8 (by decide) rfl [some (vr a0), some (vi a1), some (vi a2), some (vi a3), none, none, none] rfl rfl ?_
  intro E F q hn hf hl hm
  unfold f_X8_insertRising at h
  obtain ⟨hv, h⟩ := vm_spec h
  refine pw_aload_n (pc := 0) F dX8_insertRising_0 rfl ?_
  refine pw_iload_n (pc := 1) F dX8_insertRising_1 rfl ?_
  refine pw_iload_n (pc := 2) F dX8_insertRising_2 rfl ?_
  obtain ⟨z1, ez1, h⟩ := bnd h
  refine pw_callV (pc := 3) (as := [vi a1, vi a2]) (st := []) (r := (some (vl z1.1))) F 313 8 (by decide) rfl (fun l => m_X8_heightOf l a0 a1 a2 H z1.1 z1.2 ez1) g_eab7b74c61 g_5838d5ae2e g_9424d33f1b g_99e03e18e2 g_c3baec6957 hd_X8_heightOf (rm_ok hf hl (by decide) (by decide)) rfl (vm_spec ez1).1 dX8_insertRising_3 rfl (stk' := [vl z1.1]) rfl ?_
  refine pw_lstore (pc := 6) F dX8_insertRising_6 (lt_nl hn (by decide)) [some (vr a0), some (vi a1), some (vi a2), some (vi a3), some (vl z1.1), none, none] rfl ?_
  refine pw_iload_n (pc := 8) F dX8_insertRising_8 rfl ?_
  refine pw_istore (pc := 9) F dX8_insertRising_9 (lt_nl hn (by decide)) [some (vr a0), some (vi a1), some (vi a2), some (vi a3), some (vl z1.1), none, some (vi a3)] rfl ?_
  exact pw_mask [true, true, true, false, true, true, true] (ls' := [some (vr a0), some (vi a1), some (vi a2), none, some (vl z1.1), none, some (vi a3)]) rfl (lX8_insertRising_11_ok F q hn hf hl a0 a1 a2 z1.1  6000 a3 z1.2 h)
/-! HouseholdVault.sortRising(II)I -/
theorem dX8_sortRising_0 : decode cX8_sortRising 0 = .ok (.iconst 0, 1) := by decide +kernel
theorem dX8_sortRising_1 : decode cX8_sortRising 1 = .ok (.istore_n 3, 1) := by decide +kernel
theorem dX8_sortRising_2 : decode cX8_sortRising 2 = .ok (.iconst 0, 1) := by decide +kernel
theorem dX8_sortRising_3 : decode cX8_sortRising 3 = .ok (.istore 4, 2) := by decide +kernel
theorem dX8_sortRising_5 : decode cX8_sortRising 5 = .ok (.iload 4, 2) := by decide +kernel
theorem dX8_sortRising_7 : decode cX8_sortRising 7 = .ok (.aload_n 0, 1) := by decide +kernel
theorem dX8_sortRising_8 : decode cX8_sortRising 8 = .ok (.getfield 98, 3) := by decide +kernel
theorem dX8_sortRising_11 : decode cX8_sortRising 11 = .ok (.if_icmp .ge 77, 3) := by decide +kernel
theorem dX8_sortRising_14 : decode cX8_sortRising 14 = .ok (.aload_n 0, 1) := by decide +kernel
theorem dX8_sortRising_15 : decode cX8_sortRising 15 = .ok (.getfield 18, 3) := by decide +kernel
theorem dX8_sortRising_18 : decode cX8_sortRising 18 = .ok (.iload 4, 2) := by decide +kernel
theorem dX8_sortRising_20 : decode cX8_sortRising 20 = .ok (.aaload, 1) := by decide +kernel
theorem dX8_sortRising_21 : decode cX8_sortRising 21 = .ok (.astore 5, 2) := by decide +kernel
theorem dX8_sortRising_23 : decode cX8_sortRising 23 = .ok (.aload_n 0, 1) := by decide +kernel
theorem dX8_sortRising_24 : decode cX8_sortRising 24 = .ok (.getfield 12, 3) := by decide +kernel
theorem dX8_sortRising_27 : decode cX8_sortRising 27 = .ok (.aload 5, 2) := by decide +kernel
theorem dX8_sortRising_29 : decode cX8_sortRising 29 = .ok (.invokevirtual 179, 3) := by decide +kernel
theorem dX8_sortRising_32 : decode cX8_sortRising 32 = .ok (.aload 5, 2) := by decide +kernel
theorem dX8_sortRising_34 : decode cX8_sortRising 34 = .ok (.getfield 126, 3) := by decide +kernel
theorem dX8_sortRising_37 : decode cX8_sortRising 37 = .ok (.getfield 176, 3) := by decide +kernel
theorem dX8_sortRising_40 : decode cX8_sortRising 40 = .ok (.iload_n 1, 1) := by decide +kernel
theorem dX8_sortRising_41 : decode cX8_sortRising 41 = .ok (.iconst (-1), 1) := by decide +kernel
theorem dX8_sortRising_42 : decode cX8_sortRising 42 = .ok (.invokestatic 130, 3) := by decide +kernel
theorem dX8_sortRising_45 : decode cX8_sortRising 45 = .ok (.iaload, 1) := by decide +kernel
theorem dX8_sortRising_46 : decode cX8_sortRising 46 = .ok (.ifCond .eq 6, 3) := by decide +kernel
theorem dX8_sortRising_49 : decode cX8_sortRising 49 = .ok (.goto 33, 3) := by decide +kernel
theorem dX8_sortRising_52 : decode cX8_sortRising 52 = .ok (.iload_n 2, 1) := by decide +kernel
theorem dX8_sortRising_53 : decode cX8_sortRising 53 = .ok (.iconst (-1), 1) := by decide +kernel
theorem dX8_sortRising_54 : decode cX8_sortRising 54 = .ok (.if_icmp .eq 17, 3) := by decide +kernel
theorem dX8_sortRising_57 : decode cX8_sortRising 57 = .ok (.aload 5, 2) := by decide +kernel
theorem dX8_sortRising_59 : decode cX8_sortRising 59 = .ok (.iload_n 2, 1) := by decide +kernel
theorem dX8_sortRising_60 : decode cX8_sortRising 60 = .ok (.iconst (-1), 1) := by decide +kernel
theorem dX8_sortRising_61 : decode cX8_sortRising 61 = .ok (.iconst 0, 1) := by decide +kernel
theorem dX8_sortRising_62 : decode cX8_sortRising 62 = .ok (.invokevirtual 210, 3) := by decide +kernel
theorem dX8_sortRising_65 : decode cX8_sortRising 65 = .ok (.ifCond .ne 6, 3) := by decide +kernel
theorem dX8_sortRising_68 : decode cX8_sortRising 68 = .ok (.goto 14, 3) := by decide +kernel
theorem dX8_sortRising_71 : decode cX8_sortRising 71 = .ok (.aload_n 0, 1) := by decide +kernel
theorem dX8_sortRising_72 : decode cX8_sortRising 72 = .ok (.iload_n 1, 1) := by decide +kernel
theorem dX8_sortRising_73 : decode cX8_sortRising 73 = .ok (.iload 4, 2) := by decide +kernel
theorem dX8_sortRising_75 : decode cX8_sortRising 75 = .ok (.iload_n 3, 1) := by decide +kernel
theorem dX8_sortRising_76 : decode cX8_sortRising 76 = .ok (.invokevirtual 310, 3) := by decide +kernel
theorem dX8_sortRising_79 : decode cX8_sortRising 79 = .ok (.iinc 3 1, 3) := by decide +kernel
theorem dX8_sortRising_82 : decode cX8_sortRising 82 = .ok (.iinc 4 1, 3) := by decide +kernel
theorem dX8_sortRising_85 : decode cX8_sortRising 85 = .ok (.goto (-80), 3) := by decide +kernel
theorem dX8_sortRising_88 : decode cX8_sortRising 88 = .ok (.iload_n 3, 1) := by decide +kernel
theorem dX8_sortRising_89 : decode cX8_sortRising 89 = .ok (.ireturn, 1) := by decide +kernel
def jX8_sortRising_82 (self5 : Int → Int → PH → RO) (p0 p1 p2 p3 p4 : Int) (H : PH) : RO :=
  self5 p3 (w32 (p4 + 1)) H
set_option maxHeartbeats 4000000 in
theorem jX8_sortRising_82_ok {E : PE} {rr : Int} {HH : PH} (F : FX E cX8_sortRising RX8) (q : QE E (some (vi rr)) HH (some .int)) (hn : nLof E = 6) (hf : (roomOf E).frames = 5) (hl : (roomOf E).locals = 114) (self5 : Int → Int → PH → RO) (p0 p1 p2 p3 p4 : Int) (H : PH) (ih5 : ∀ (v3 v4 : Int) (HV : PH), self5 v3 v4 HV = some (rr, HH) → PW E 5 [some (vr p0), some (vi p1), some (vi p2), some (vi v3), some (vi v4), none] [] HV) (h : jX8_sortRising_82 self5 p0 p1 p2 p3 p4 H = some (rr, HH)) : PW E 82 [some (vr p0), some (vi p1), some (vi p2), some (vi p3), some (vi p4), none] [] H := by
  unfold jX8_sortRising_82 at h
  refine pw_iinc (pc := 82) F dX8_sortRising_82 rfl (lt_nl hn (by decide)) [some (vr p0), some (vi p1), some (vi p2), some (vi p3), some (vi (w32 (p4 + 1))), none] rfl (by decide) ?_
  refine pw_goto (pc := 85) F 5 dX8_sortRising_85 (by decide) ?_
  exact pw_mask [true, true, true, true, true, true] (ls' := [some (vr p0), some (vi p1), some (vi p2), some (vi p3), some (vi (w32 (p4 + 1))), none]) rfl (ih5 p3 (w32 (p4 + 1)) H h)
def jX8_sortRising_71 (self5 : Int → Int → PH → RO) (p0 p1 p2 p3 p4 : Int) (H : PH) : RO :=
  (f_X8_insertRising p0 p1 p4 p3 H).bind fun z1 => jX8_sortRising_82 self5 p0 p1 p2 (w32 (p3 + 1)) p4 z1.2
set_option maxHeartbeats 4000000 in
theorem jX8_sortRising_71_ok {E : PE} {rr : Int} {HH : PH} (F : FX E cX8_sortRising RX8) (q : QE E (some (vi rr)) HH (some .int)) (hn : nLof E = 6) (hf : (roomOf E).frames = 5) (hl : (roomOf E).locals = 114) (self5 : Int → Int → PH → RO) (p0 p1 p2 p3 p4 : Int) (H : PH) (ih5 : ∀ (v3 v4 : Int) (HV : PH), self5 v3 v4 HV = some (rr, HH) → PW E 5 [some (vr p0), some (vi p1), some (vi p2), some (vi v3), some (vi v4), none] [] HV) (h : jX8_sortRising_71 self5 p0 p1 p2 p3 p4 H = some (rr, HH)) : PW E 71 [some (vr p0), some (vi p1), some (vi p2), some (vi p3), some (vi p4), none] [] H := by
  unfold jX8_sortRising_71 at h
  refine pw_aload_n (pc := 71) F dX8_sortRising_71 rfl ?_
  refine pw_iload_n (pc := 72) F dX8_sortRising_72 rfl ?_
  refine pw_iload (pc := 73) F dX8_sortRising_73 rfl ?_
  refine pw_iload_n (pc := 75) F dX8_sortRising_75 rfl ?_
  obtain ⟨z1, ez1, h⟩ := bnd h
  refine pw_callV (pc := 76) (as := [vi p1, vi p4, vi p3]) (st := []) (r := none) F 310 8 (by decide) rfl (fun l => m_X8_insertRising l p0 p1 p4 p3 H z1.1 z1.2 ez1) g_7e68a734d2 g_65cbe0d982 g_3f4ccd4bfc g_99e03e18e2 g_a71c5f65eb hd_X8_insertRising (rm_ok hf hl (by decide) (by decide)) rfl (vm_spec ez1).1 dX8_sortRising_76 rfl (stk' := []) rfl ?_
  refine pw_iinc (pc := 79) F dX8_sortRising_79 rfl (lt_nl hn (by decide)) [some (vr p0), some (vi p1), some (vi p2), some (vi (w32 (p3 + 1))), some (vi p4), none] rfl (by decide) ?_
  exact pw_mask [true, true, true, true, true, true] (ls' := [some (vr p0), some (vi p1), some (vi p2), some (vi (w32 (p3 + 1))), some (vi p4), none]) rfl (jX8_sortRising_82_ok F q hn hf hl self5 p0 p1 p2 (w32 (p3 + 1)) p4 z1.2 ih5 h)
def lX8_sortRising_5 (p0 p1 p2 : Int) (self5 : Int → Int → PH → RO) (p3 p4 : Int) (H : PH) : RO :=
  (ld 24 H p0 2).bind fun x1 => (if p4 ≥ x1 then some (p3, H)
  else (ld 24 H p0 1).bind fun x2 => (ld 5 H x2 p4).bind fun x3 => (ld 24 H p0 0).bind fun x4 => (f_X3_settle x4 x3 H).bind fun z5 => (ld 20 z5.2 x3 0).bind fun x6 => (ld 22 z5.2 x6 1).bind fun x7 => (f_X8_spot p1 (-1) z5.2).bind fun z8 => (ld 0 z8.2 x7 z8.1).bind fun x9 => (if x9 = 0 then (if p2 = (-1) then jX8_sortRising_71 self5 p0 p1 p2 p3 p4 z8.2
  else (f_X4_isSo x3 p2 (-1) 0 z8.2).bind fun z10 => (if z10.1 ≠ 0 then jX8_sortRising_71 self5 p0 p1 p2 p3 p4 z10.2
  else jX8_sortRising_82 self5 p0 p1 p2 p3 p4 z10.2))
  else jX8_sortRising_82 self5 p0 p1 p2 p3 p4 z8.2))
set_option maxHeartbeats 4000000 in
theorem lX8_sortRising_5_ok {E : PE} {rr : Int} {HH : PH} (F : FX E cX8_sortRising RX8) (q : QE E (some (vi rr)) HH (some .int)) (hn : nLof E = 6) (hf : (roomOf E).frames = 5) (hl : (roomOf E).locals = 114) (p0 p1 p2 : Int) : ∀ (n : Nat) (p3 p4 : Int) (H : PH), lq2 (lX8_sortRising_5 p0 p1 p2) n p3 p4 H = some (rr, HH) → PW E 5 [some (vr p0), some (vi p1), some (vi p2), some (vi p3), some (vi p4), none] [] H := by
  refine lq2_ind (P := fun p3 p4 H => PW E 5 [some (vr p0), some (vi p1), some (vi p2), some (vi p3), some (vi p4), none] [] H) ?_
  intro self5 ih5 p3 p4 H h
  unfold lX8_sortRising_5 at h
  refine pw_iload (pc := 5) F dX8_sortRising_5 rfl ?_
  refine pw_aload_n (pc := 7) F dX8_sortRising_7 rfl ?_
  obtain ⟨x1, ex1, h⟩ := bnd h
  refine pw_get (pc := 8) F 8 2 98 (by decide) (by decide) g_51d983fb79 inl_8 0 rfl dX8_sortRising_8 ex1 ?_
  refine pw_icmp_ge (pc := 11) F 88 dX8_sortRising_11 (by decide) (fun hc => ?_) (fun hc => ?_)
  · have h := iteT hc h
    refine pw_iload_n (pc := 88) F dX8_sortRising_88 rfl ?_
    cases h
    exact pw_iret (pc := 89) F q dX8_sortRising_89
  · have h := iteF hc h
    refine pw_aload_n (pc := 14) F dX8_sortRising_14 rfl ?_
    obtain ⟨x2, ex2, h⟩ := bnd h
    refine pw_get (pc := 15) F 8 1 18 (by decide) (by decide) g_0efda17134 inl_8 2 rfl dX8_sortRising_15 ex2 ?_
    refine pw_iload (pc := 18) F dX8_sortRising_18 rfl ?_
    obtain ⟨x3, ex3, h⟩ := bnd h
    refine pw_aald (pc := 20) F 5 (by decide) dX8_sortRising_20 ex3 ?_
    refine pw_astore (pc := 21) F dX8_sortRising_21 (lt_nl hn (by decide)) [some (vr p0), some (vi p1), some (vi p2), some (vi p3), some (vi p4), some (vr x3)] rfl ?_
    refine pw_aload_n (pc := 23) F dX8_sortRising_23 rfl ?_
    obtain ⟨x4, ex4, h⟩ := bnd h
    refine pw_get (pc := 24) F 8 0 12 (by decide) (by decide) g_955d9610dc inl_8 2 rfl dX8_sortRising_24 ex4 ?_
    refine pw_aload (pc := 27) F dX8_sortRising_27 rfl ?_
    obtain ⟨z5, ez5, h⟩ := bnd h
    refine pw_callV (pc := 29) (as := [vr x3]) (st := []) (r := none) F 179 3 (by decide) rfl (fun l => m_X3_settle l x4 x3 H z5.1 z5.2 ez5) g_9494b7b84e g_25b0bd7147 g_67c8dc0219 g_106b72596f g_d1a08fcf56 hd_X3_settle (rm_ok hf hl (by decide) (by decide)) rfl (vm_spec ez5).1 dX8_sortRising_29 rfl (stk' := []) rfl ?_
    refine pw_aload (pc := 32) F dX8_sortRising_32 rfl ?_
    obtain ⟨x6, ex6, h⟩ := bnd h
    refine pw_get (pc := 34) F 4 0 126 (by decide) (by decide) g_8ec333b1d7 inl_4 2 rfl dX8_sortRising_34 ex6 ?_
    obtain ⟨x7, ex7, h⟩ := bnd h
    refine pw_get (pc := 37) F 6 1 176 (by decide) (by decide) g_47f3fc4b56 inl_6 2 rfl dX8_sortRising_37 ex7 ?_
    refine pw_iload_n (pc := 40) F dX8_sortRising_40 rfl ?_
    refine pw_iconst (pc := 41) F (-1) dX8_sortRising_41 (by decide) ?_
    obtain ⟨z8, ez8, h⟩ := bnd h
    refine pw_callS (pc := 42) (as := [vi p1, vi (-1)]) (st := [vr x7]) (r := (some (vi z8.1))) F 130 (fun l => m_X8_spot l p1 (-1) z5.2 z8.1 z8.2 ez8) g_3d0f1a9b86 g_aa0997f699 g_99e03e18e2 g_0d0469f624 hd_X8_spot (rm_ok hf hl (by decide) (by decide)) rfl dX8_sortRising_42 rfl (stk' := [vi z8.1, vr x7]) rfl ?_
    obtain ⟨x9, ex9, h⟩ := bnd h
    refine pw_iald (pc := 45) F dX8_sortRising_45 ex9 ?_
    refine pw_if_eq (pc := 46) F 52 dX8_sortRising_46 (by decide) (fun hc => ?_) (fun hc => ?_)
    · have h := iteT hc h
      refine pw_iload_n (pc := 52) F dX8_sortRising_52 rfl ?_
      refine pw_iconst (pc := 53) F (-1) dX8_sortRising_53 (by decide) ?_
      refine pw_icmp_eq (pc := 54) F 71 dX8_sortRising_54 (by decide) (fun hc => ?_) (fun hc => ?_)
      · have h := iteT hc h
        exact pw_mask [true, true, true, true, true, false] (ls' := [some (vr p0), some (vi p1), some (vi p2), some (vi p3), some (vi p4), none]) rfl (jX8_sortRising_71_ok F q hn hf hl self5 p0 p1 p2 p3 p4 z8.2 ih5 h)
      · have h := iteF hc h
        refine pw_aload (pc := 57) F dX8_sortRising_57 rfl ?_
        refine pw_iload_n (pc := 59) F dX8_sortRising_59 rfl ?_
        refine pw_iconst (pc := 60) F (-1) dX8_sortRising_60 (by decide) ?_
        refine pw_iconst (pc := 61) F 0 dX8_sortRising_61 (by decide) ?_
        obtain ⟨z10, ez10, h⟩ := bnd h
        refine pw_callV (pc := 62) (as := [vi p2, vi (-1), vi 0]) (st := []) (r := (some (vi z10.1))) F 210 4 (by decide) rfl (fun l => m_X4_isSo l x3 p2 (-1) 0 z8.2 z10.1 z10.2 ez10) g_98099921aa g_6c53eda5c7 g_f0127809a2 g_2b384744dc g_01f876b9a6 hd_X4_isSo (rm_ok hf hl (by decide) (by decide)) rfl (vm_spec ez10).1 dX8_sortRising_62 rfl (stk' := [vi z10.1]) rfl ?_
        refine pw_if_ne (pc := 65) F 71 dX8_sortRising_65 (by decide) (fun hc => ?_) (fun hc => ?_)
        · have h := iteT hc h
          exact pw_mask [true, true, true, true, true, false] (ls' := [some (vr p0), some (vi p1), some (vi p2), some (vi p3), some (vi p4), none]) rfl (jX8_sortRising_71_ok F q hn hf hl self5 p0 p1 p2 p3 p4 z10.2 ih5 h)
        · have h := iteF hc h
          refine pw_goto (pc := 68) F 82 dX8_sortRising_68 (by decide) ?_
          exact pw_mask [true, true, true, true, true, false] (ls' := [some (vr p0), some (vi p1), some (vi p2), some (vi p3), some (vi p4), none]) rfl (jX8_sortRising_82_ok F q hn hf hl self5 p0 p1 p2 p3 p4 z10.2 ih5 h)
    · have h := iteF hc h
      refine pw_goto (pc := 49) F 82 dX8_sortRising_49 (by decide) ?_
      exact pw_mask [true, true, true, true, true, false] (ls' := [some (vr p0), some (vi p1), some (vi p2), some (vi p3), some (vi p4), none]) rfl (jX8_sortRising_82_ok F q hn hf hl self5 p0 p1 p2 p3 p4 z8.2 ih5 h)
def f_X8_sortRising (a0 a1 a2 : Int) (H : PH) : RO := vm 8 a0 H <|
  lq2 (lX8_sortRising_5 a0 a1 a2) 6000 0 0 H
set_option maxHeartbeats 4000000 in
theorem m_X8_sortRising (l : Launch) (a0 a1 a2 : Int) (H : PH) (rr : Int) (HH : PH) (h : f_X8_sortRising a0 a1 a2 H = some (rr, HH)) : CT l yX8_sortRising cX8_sortRising 6 (some .int) 5 114 [vr a0, vi a1, vi a2] H (some (vi rr)) HH := by
  refine CT.of RX8 (by decide) rfl [some (vr a0), some (vi a1), some (vi a2), none, none, none] rfl rfl ?_
  intro E F q hn hf hl hm
  unfold f_X8_sortRising at h
  obtain ⟨hv, h⟩ := vm_spec h
  refine pw_iconst (pc := 0) F 0 dX8_sortRising_0 (by decide) ?_
  refine pw_istore_n (pc := 1) F dX8_sortRising_1 (lt_nl hn (by decide)) [some (vr a0), some (vi a1), some (vi a2), some (vi 0), none, none] rfl ?_
  refine pw_iconst (pc := 2) F 0 dX8_sortRising_2 (by decide) ?_
  refine pw_istore (pc := 3) F dX8_sortRising_3 (lt_nl hn (by decide)) [some (vr a0), some (vi a1), some (vi a2), some (vi 0), some (vi 0), none] rfl ?_
  exact pw_mask [true, true, true, true, true, true] (ls' := [some (vr a0), some (vi a1), some (vi a2), some (vi 0), some (vi 0), none]) rfl (lX8_sortRising_5_ok F q hn hf hl a0 a1 a2  6000 0 0 H h)
/-! HouseholdVault.missingAt(II)I -/
theorem dX8_missingAt_0 : decode cX8_missingAt 0 = .ok (.iload_n 2, 1) := by decide +kernel
theorem dX8_missingAt_1 : decode cX8_missingAt 1 = .ok (.istore_n 3, 1) := by decide +kernel
theorem dX8_missingAt_2 : decode cX8_missingAt 2 = .ok (.iconst 0, 1) := by decide +kernel
theorem dX8_missingAt_3 : decode cX8_missingAt 3 = .ok (.istore 4, 2) := by decide +kernel
theorem dX8_missingAt_5 : decode cX8_missingAt 5 = .ok (.iload 4, 2) := by decide +kernel
theorem dX8_missingAt_7 : decode cX8_missingAt 7 = .ok (.aload_n 0, 1) := by decide +kernel
theorem dX8_missingAt_8 : decode cX8_missingAt 8 = .ok (.getfield 98, 3) := by decide +kernel
theorem dX8_missingAt_11 : decode cX8_missingAt 11 = .ok (.if_icmp .ge 44, 3) := by decide +kernel
theorem dX8_missingAt_14 : decode cX8_missingAt 14 = .ok (.aload_n 0, 1) := by decide +kernel
theorem dX8_missingAt_15 : decode cX8_missingAt 15 = .ok (.getfield 18, 3) := by decide +kernel
theorem dX8_missingAt_18 : decode cX8_missingAt 18 = .ok (.iload 4, 2) := by decide +kernel
theorem dX8_missingAt_20 : decode cX8_missingAt 20 = .ok (.aaload, 1) := by decide +kernel
theorem dX8_missingAt_21 : decode cX8_missingAt 21 = .ok (.getfield 126, 3) := by decide +kernel
theorem dX8_missingAt_24 : decode cX8_missingAt 24 = .ok (.getfield 176, 3) := by decide +kernel
theorem dX8_missingAt_27 : decode cX8_missingAt 27 = .ok (.iload_n 1, 1) := by decide +kernel
theorem dX8_missingAt_28 : decode cX8_missingAt 28 = .ok (.iconst (-1), 1) := by decide +kernel
theorem dX8_missingAt_29 : decode cX8_missingAt 29 = .ok (.invokestatic 130, 3) := by decide +kernel
theorem dX8_missingAt_32 : decode cX8_missingAt 32 = .ok (.iaload, 1) := by decide +kernel
theorem dX8_missingAt_33 : decode cX8_missingAt 33 = .ok (.ifCond .ne 6, 3) := by decide +kernel
theorem dX8_missingAt_36 : decode cX8_missingAt 36 = .ok (.goto 13, 3) := by decide +kernel
theorem dX8_missingAt_39 : decode cX8_missingAt 39 = .ok (.iload_n 3, 1) := by decide +kernel
theorem dX8_missingAt_40 : decode cX8_missingAt 40 = .ok (.ifCond .ne 6, 3) := by decide +kernel
theorem dX8_missingAt_43 : decode cX8_missingAt 43 = .ok (.iload 4, 2) := by decide +kernel
theorem dX8_missingAt_45 : decode cX8_missingAt 45 = .ok (.ireturn, 1) := by decide +kernel
theorem dX8_missingAt_46 : decode cX8_missingAt 46 = .ok (.iinc 3 (-1), 3) := by decide +kernel
theorem dX8_missingAt_49 : decode cX8_missingAt 49 = .ok (.iinc 4 1, 3) := by decide +kernel
theorem dX8_missingAt_52 : decode cX8_missingAt 52 = .ok (.goto (-47), 3) := by decide +kernel
theorem dX8_missingAt_55 : decode cX8_missingAt 55 = .ok (.iconst (-1), 1) := by decide +kernel
theorem dX8_missingAt_56 : decode cX8_missingAt 56 = .ok (.ireturn, 1) := by decide +kernel
def jX8_missingAt_49 (self5 : Int → Int → PH → RO) (p0 p1 p3 p4 : Int) (H : PH) : RO :=
  self5 p3 (w32 (p4 + 1)) H
set_option maxHeartbeats 4000000 in
theorem jX8_missingAt_49_ok {E : PE} {rr : Int} {HH : PH} (F : FX E cX8_missingAt RX8) (q : QE E (some (vi rr)) HH (some .int)) (hn : nLof E = 5) (hf : (roomOf E).frames = 1) (hl : (roomOf E).locals = 21) (self5 : Int → Int → PH → RO) (p0 p1 p3 p4 : Int) (H : PH) (ih5 : ∀ (v3 v4 : Int) (HV : PH), self5 v3 v4 HV = some (rr, HH) → PW E 5 [some (vr p0), some (vi p1), none, some (vi v3), some (vi v4)] [] HV) (h : jX8_missingAt_49 self5 p0 p1 p3 p4 H = some (rr, HH)) : PW E 49 [some (vr p0), some (vi p1), none, some (vi p3), some (vi p4)] [] H := by
  unfold jX8_missingAt_49 at h
  refine pw_iinc (pc := 49) F dX8_missingAt_49 rfl (lt_nl hn (by decide)) [some (vr p0), some (vi p1), none, some (vi p3), some (vi (w32 (p4 + 1)))] rfl (by decide) ?_
  refine pw_goto (pc := 52) F 5 dX8_missingAt_52 (by decide) ?_
  exact pw_mask [true, true, true, true, true] (ls' := [some (vr p0), some (vi p1), none, some (vi p3), some (vi (w32 (p4 + 1)))]) rfl (ih5 p3 (w32 (p4 + 1)) H h)
def lX8_missingAt_5 (p0 p1 : Int) (self5 : Int → Int → PH → RO) (p3 p4 : Int) (H : PH) : RO :=
  (ld 24 H p0 2).bind fun x1 => (if p4 ≥ x1 then some ((-1), H)
  else (ld 24 H p0 1).bind fun x2 => (ld 5 H x2 p4).bind fun x3 => (ld 20 H x3 0).bind fun x4 => (ld 22 H x4 1).bind fun x5 => (f_X8_spot p1 (-1) H).bind fun z6 => (ld 0 z6.2 x5 z6.1).bind fun x7 => (if x7 ≠ 0 then (if p3 ≠ 0 then jX8_missingAt_49 self5 p0 p1 (w32 (p3 + (-1))) p4 z6.2
  else some (p4, z6.2))
  else jX8_missingAt_49 self5 p0 p1 p3 p4 z6.2))
set_option maxHeartbeats 4000000 in
theorem lX8_missingAt_5_ok {E : PE} {rr : Int} {HH : PH} (F : FX E cX8_missingAt RX8) (q : QE E (some (vi rr)) HH (some .int)) (hn : nLof E = 5) (hf : (roomOf E).frames = 1) (hl : (roomOf E).locals = 21) (p0 p1 : Int) : ∀ (n : Nat) (p3 p4 : Int) (H : PH), lq2 (lX8_missingAt_5 p0 p1) n p3 p4 H = some (rr, HH) → PW E 5 [some (vr p0), some (vi p1), none, some (vi p3), some (vi p4)] [] H := by
  refine lq2_ind (P := fun p3 p4 H => PW E 5 [some (vr p0), some (vi p1), none, some (vi p3), some (vi p4)] [] H) ?_
  intro self5 ih5 p3 p4 H h
  unfold lX8_missingAt_5 at h
  refine pw_iload (pc := 5) F dX8_missingAt_5 rfl ?_
  refine pw_aload_n (pc := 7) F dX8_missingAt_7 rfl ?_
  obtain ⟨x1, ex1, h⟩ := bnd h
  refine pw_get (pc := 8) F 8 2 98 (by decide) (by decide) g_51d983fb79 inl_8 0 rfl dX8_missingAt_8 ex1 ?_
  refine pw_icmp_ge (pc := 11) F 55 dX8_missingAt_11 (by decide) (fun hc => ?_) (fun hc => ?_)
  · have h := iteT hc h
    refine pw_iconst (pc := 55) F (-1) dX8_missingAt_55 (by decide) ?_
    cases h
    exact pw_iret (pc := 56) F q dX8_missingAt_56
  · have h := iteF hc h
    refine pw_aload_n (pc := 14) F dX8_missingAt_14 rfl ?_
    obtain ⟨x2, ex2, h⟩ := bnd h
    refine pw_get (pc := 15) F 8 1 18 (by decide) (by decide) g_0efda17134 inl_8 2 rfl dX8_missingAt_15 ex2 ?_
    refine pw_iload (pc := 18) F dX8_missingAt_18 rfl ?_
    obtain ⟨x3, ex3, h⟩ := bnd h
    refine pw_aald (pc := 20) F 5 (by decide) dX8_missingAt_20 ex3 ?_
    obtain ⟨x4, ex4, h⟩ := bnd h
    refine pw_get (pc := 21) F 4 0 126 (by decide) (by decide) g_8ec333b1d7 inl_4 2 rfl dX8_missingAt_21 ex4 ?_
    obtain ⟨x5, ex5, h⟩ := bnd h
    refine pw_get (pc := 24) F 6 1 176 (by decide) (by decide) g_47f3fc4b56 inl_6 2 rfl dX8_missingAt_24 ex5 ?_
    refine pw_iload_n (pc := 27) F dX8_missingAt_27 rfl ?_
    refine pw_iconst (pc := 28) F (-1) dX8_missingAt_28 (by decide) ?_
    obtain ⟨z6, ez6, h⟩ := bnd h
    refine pw_callS (pc := 29) (as := [vi p1, vi (-1)]) (st := [vr x5]) (r := (some (vi z6.1))) F 130 (fun l => m_X8_spot l p1 (-1) H z6.1 z6.2 ez6) g_3d0f1a9b86 g_aa0997f699 g_99e03e18e2 g_0d0469f624 hd_X8_spot (rm_ok hf hl (by decide) (by decide)) rfl dX8_missingAt_29 rfl (stk' := [vi z6.1, vr x5]) rfl ?_
    obtain ⟨x7, ex7, h⟩ := bnd h
    refine pw_iald (pc := 32) F dX8_missingAt_32 ex7 ?_
    refine pw_if_ne (pc := 33) F 39 dX8_missingAt_33 (by decide) (fun hc => ?_) (fun hc => ?_)
    · have h := iteT hc h
      refine pw_iload_n (pc := 39) F dX8_missingAt_39 rfl ?_
      refine pw_if_ne (pc := 40) F 46 dX8_missingAt_40 (by decide) (fun hc => ?_) (fun hc => ?_)
      · have h := iteT hc h
        refine pw_iinc (pc := 46) F dX8_missingAt_46 rfl (lt_nl hn (by decide)) [some (vr p0), some (vi p1), none, some (vi (w32 (p3 + (-1)))), some (vi p4)] rfl (by decide) ?_
        exact pw_mask [true, true, true, true, true] (ls' := [some (vr p0), some (vi p1), none, some (vi (w32 (p3 + (-1)))), some (vi p4)]) rfl (jX8_missingAt_49_ok F q hn hf hl self5 p0 p1 (w32 (p3 + (-1))) p4 z6.2 ih5 h)
      · have h := iteF hc h
        refine pw_iload (pc := 43) F dX8_missingAt_43 rfl ?_
        cases h
        exact pw_iret (pc := 45) F q dX8_missingAt_45
    · have h := iteF hc h
      refine pw_goto (pc := 36) F 49 dX8_missingAt_36 (by decide) ?_
      exact pw_mask [true, true, true, true, true] (ls' := [some (vr p0), some (vi p1), none, some (vi p3), some (vi p4)]) rfl (jX8_missingAt_49_ok F q hn hf hl self5 p0 p1 p3 p4 z6.2 ih5 h)
def f_X8_missingAt (a0 a1 a2 : Int) (H : PH) : RO := vm 8 a0 H <|
  lq2 (lX8_missingAt_5 a0 a1) 6000 a2 0 H
set_option maxHeartbeats 4000000 in
theorem m_X8_missingAt (l : Launch) (a0 a1 a2 : Int) (H : PH) (rr : Int) (HH : PH) (h : f_X8_missingAt a0 a1 a2 H = some (rr, HH)) : CT l yX8_missingAt cX8_missingAt 5 (some .int) 1 21 [vr a0, vi a1, vi a2] H (some (vi rr)) HH := by
  refine CT.of RX8 (by decide) rfl [some (vr a0), some (vi a1), some (vi a2), none, none] rfl rfl ?_
  intro E F q hn hf hl hm
  unfold f_X8_missingAt at h
  obtain ⟨hv, h⟩ := vm_spec h
  refine pw_iload_n (pc := 0) F dX8_missingAt_0 rfl ?_
  refine pw_istore_n (pc := 1) F dX8_missingAt_1 (lt_nl hn (by decide)) [some (vr a0), some (vi a1), some (vi a2), some (vi a2), none] rfl ?_
  refine pw_iconst (pc := 2) F 0 dX8_missingAt_2 (by decide) ?_
  refine pw_istore (pc := 3) F dX8_missingAt_3 (lt_nl hn (by decide)) [some (vr a0), some (vi a1), some (vi a2), some (vi a2), some (vi 0)] rfl ?_
  exact pw_mask [true, true, false, true, true] (ls' := [some (vr a0), some (vi a1), none, some (vi a2), some (vi 0)]) rfl (lX8_missingAt_5_ok F q hn hf hl a0 a1  6000 a2 0 H h)
/-! HouseholdVault.rank(II)I -/
theorem dX8_rank_0 : decode cX8_rank 0 = .ok (.aload_n 0, 1) := by decide +kernel
theorem dX8_rank_1 : decode cX8_rank 1 = .ok (.getfield 12, 3) := by decide +kernel
theorem dX8_rank_4 : decode cX8_rank 4 = .ok (.iload_n 1, 1) := by decide +kernel
theorem dX8_rank_5 : decode cX8_rank 5 = .ok (.invokevirtual 46, 3) := by decide +kernel
theorem dX8_rank_8 : decode cX8_rank 8 = .ok (.astore_n 3, 1) := by decide +kernel
theorem dX8_rank_9 : decode cX8_rank 9 = .ok (.aload_n 3, 1) := by decide +kernel
theorem dX8_rank_10 : decode cX8_rank 10 = .ok (.ifnull 15, 3) := by decide +kernel
theorem dX8_rank_13 : decode cX8_rank 13 = .ok (.iload_n 2, 1) := by decide +kernel
theorem dX8_rank_14 : decode cX8_rank 14 = .ok (.ifCond .lt 11, 3) := by decide +kernel
theorem dX8_rank_17 : decode cX8_rank 17 = .ok (.iload_n 2, 1) := by decide +kernel
theorem dX8_rank_18 : decode cX8_rank 18 = .ok (.aload_n 0, 1) := by decide +kernel
theorem dX8_rank_19 : decode cX8_rank 19 = .ok (.getfield 98, 3) := by decide +kernel
theorem dX8_rank_22 : decode cX8_rank 22 = .ok (.if_icmp .lt 5, 3) := by decide +kernel
theorem dX8_rank_25 : decode cX8_rank 25 = .ok (.iconst (-1), 1) := by decide +kernel
theorem dX8_rank_26 : decode cX8_rank 26 = .ok (.ireturn, 1) := by decide +kernel
theorem dX8_rank_27 : decode cX8_rank 27 = .ok (.aload_n 3, 1) := by decide +kernel
theorem dX8_rank_28 : decode cX8_rank 28 = .ok (.getfield 88, 3) := by decide +kernel
theorem dX8_rank_31 : decode cX8_rank 31 = .ok (.iconst (-1), 1) := by decide +kernel
theorem dX8_rank_32 : decode cX8_rank 32 = .ok (.if_icmp .ne 11, 3) := by decide +kernel
theorem dX8_rank_35 : decode cX8_rank 35 = .ok (.aload_n 3, 1) := by decide +kernel
theorem dX8_rank_36 : decode cX8_rank 36 = .ok (.getfield 50, 3) := by decide +kernel
theorem dX8_rank_39 : decode cX8_rank 39 = .ok (.iconst 1, 1) := by decide +kernel
theorem dX8_rank_40 : decode cX8_rank 40 = .ok (.if_icmp .ne 6, 3) := by decide +kernel
theorem dX8_rank_43 : decode cX8_rank 43 = .ok (.bipush (-2), 2) := by decide +kernel
theorem dX8_rank_45 : decode cX8_rank 45 = .ok (.ireturn, 1) := by decide +kernel
theorem dX8_rank_46 : decode cX8_rank 46 = .ok (.aload_n 0, 1) := by decide +kernel
theorem dX8_rank_47 : decode cX8_rank 47 = .ok (.iload_n 1, 1) := by decide +kernel
theorem dX8_rank_48 : decode cX8_rank 48 = .ok (.iconst (-1), 1) := by decide +kernel
theorem dX8_rank_49 : decode cX8_rank 49 = .ok (.invokevirtual 304, 3) := by decide +kernel
theorem dX8_rank_52 : decode cX8_rank 52 = .ok (.istore 4, 2) := by decide +kernel
theorem dX8_rank_54 : decode cX8_rank 54 = .ok (.iload_n 2, 1) := by decide +kernel
theorem dX8_rank_55 : decode cX8_rank 55 = .ok (.iload 4, 2) := by decide +kernel
theorem dX8_rank_57 : decode cX8_rank 57 = .ok (.if_icmp .ge 10, 3) := by decide +kernel
theorem dX8_rank_60 : decode cX8_rank 60 = .ok (.aload_n 0, 1) := by decide +kernel
theorem dX8_rank_61 : decode cX8_rank 61 = .ok (.getfield 42, 3) := by decide +kernel
theorem dX8_rank_64 : decode cX8_rank 64 = .ok (.iload_n 2, 1) := by decide +kernel
theorem dX8_rank_65 : decode cX8_rank 65 = .ok (.iaload, 1) := by decide +kernel
theorem dX8_rank_66 : decode cX8_rank 66 = .ok (.ireturn, 1) := by decide +kernel
theorem dX8_rank_67 : decode cX8_rank 67 = .ok (.aload_n 0, 1) := by decide +kernel
theorem dX8_rank_68 : decode cX8_rank 68 = .ok (.iload_n 1, 1) := by decide +kernel
theorem dX8_rank_69 : decode cX8_rank 69 = .ok (.iload_n 2, 1) := by decide +kernel
theorem dX8_rank_70 : decode cX8_rank 70 = .ok (.iload 4, 2) := by decide +kernel
theorem dX8_rank_72 : decode cX8_rank 72 = .ok (.isub, 1) := by decide +kernel
theorem dX8_rank_73 : decode cX8_rank 73 = .ok (.invokevirtual 307, 3) := by decide +kernel
theorem dX8_rank_76 : decode cX8_rank 76 = .ok (.ireturn, 1) := by decide +kernel
def f_X8_rank (a0 a1 a2 : Int) (H : PH) : RO := vm 8 a0 H <|
  (ld 24 H a0 0).bind fun x1 => (f_X3_questionOf x1 a1 H).bind fun z2 => (if z2.1 = -1 then some ((-1), z2.2)
  else (if a2 < 0 then some ((-1), z2.2)
  else (ld 24 z2.2 a0 2).bind fun x3 => (if a2 < x3 then (ld 21 z2.2 z2.1 1).bind fun x4 => (if x4 ≠ (-1) then some ((-2), z2.2)
  else (ld 21 z2.2 z2.1 0).bind fun x5 => (if x5 ≠ 1 then (f_X8_sortRising a0 a1 (-1) z2.2).bind fun z6 => (if a2 ≥ z6.1 then (f_X8_missingAt a0 a1 (w32 (a2 - z6.1)) z6.2).bind fun z7 => some (z7.1, z7.2)
  else (ld 24 z6.2 a0 7).bind fun x8 => (ld 0 z6.2 x8 a2).bind fun x9 => some (x9, z6.2))
  else some ((-2), z2.2)))
  else some ((-1), z2.2))))
set_option maxHeartbeats 4000000 in
theorem m_X8_rank (l : Launch) (a0 a1 a2 : Int) (H : PH) (rr : Int) (HH : PH) (h : f_X8_rank a0 a1 a2 H = some (rr, HH)) : CT l yX8_rank cX8_rank 5 (some .int) 6 139 [vr a0, vi a1, vi a2] H (some (vi rr)) HH := by
  refine CT.of RX8 (by decide) rfl [some (vr a0), some (vi a1), some (vi a2), none, none] rfl rfl ?_
  intro E F q hn hf hl hm
  unfold f_X8_rank at h
  obtain ⟨hv, h⟩ := vm_spec h
  refine pw_aload_n (pc := 0) F dX8_rank_0 rfl ?_
  obtain ⟨x1, ex1, h⟩ := bnd h
  refine pw_get (pc := 1) F 8 0 12 (by decide) (by decide) g_955d9610dc inl_8 2 rfl dX8_rank_1 ex1 ?_
  refine pw_iload_n (pc := 4) F dX8_rank_4 rfl ?_
  obtain ⟨z2, ez2, h⟩ := bnd h
  refine pw_callV (pc := 5) (as := [vi a1]) (st := []) (r := (some (vr z2.1))) F 46 3 (by decide) rfl (fun l => m_X3_questionOf l x1 a1 H z2.1 z2.2 ez2) g_babc17a83a g_e6ef547307 g_4b42450d0b g_106b72596f g_1cf8e31489 hd_X3_questionOf (rm_ok hf hl (by decide) (by decide)) rfl (vm_spec ez2).1 dX8_rank_5 rfl (stk' := [vr z2.1]) rfl ?_
  refine pw_astore_n (pc := 8) F dX8_rank_8 (lt_nl hn (by decide)) [some (vr a0), some (vi a1), some (vi a2), some (vr z2.1), none] rfl ?_
  refine pw_aload_n (pc := 9) F dX8_rank_9 rfl ?_
  refine pw_ifnull (pc := 10) F 25 dX8_rank_10 (by decide) (fun hc => ?_) (fun hc => ?_)
  · have h := iteT hc h
    refine pw_iconst (pc := 25) F (-1) dX8_rank_25 (by decide) ?_
    cases h
    exact pw_iret (pc := 26) F q dX8_rank_26
  · have h := iteF hc h
    refine pw_iload_n (pc := 13) F dX8_rank_13 rfl ?_
    refine pw_if_lt (pc := 14) F 25 dX8_rank_14 (by decide) (fun hc => ?_) (fun hc => ?_)
    · have h := iteT hc h
      refine pw_iconst (pc := 25) F (-1) dX8_rank_25 (by decide) ?_
      cases h
      exact pw_iret (pc := 26) F q dX8_rank_26
    · have h := iteF hc h
      refine pw_iload_n (pc := 17) F dX8_rank_17 rfl ?_
      refine pw_aload_n (pc := 18) F dX8_rank_18 rfl ?_
      obtain ⟨x3, ex3, h⟩ := bnd h
      refine pw_get (pc := 19) F 8 2 98 (by decide) (by decide) g_51d983fb79 inl_8 0 rfl dX8_rank_19 ex3 ?_
      refine pw_icmp_lt (pc := 22) F 27 dX8_rank_22 (by decide) (fun hc => ?_) (fun hc => ?_)
      · have h := iteT hc h
        refine pw_aload_n (pc := 27) F dX8_rank_27 rfl ?_
        obtain ⟨x4, ex4, h⟩ := bnd h
        refine pw_get (pc := 28) F 5 1 88 (by decide) (by decide) g_3644918d03 inl_5 0 rfl dX8_rank_28 ex4 ?_
        refine pw_iconst (pc := 31) F (-1) dX8_rank_31 (by decide) ?_
        refine pw_icmp_ne (pc := 32) F 43 dX8_rank_32 (by decide) (fun hc => ?_) (fun hc => ?_)
        · have h := iteT hc h
          refine pw_bipush (pc := 43) F (-2) dX8_rank_43 (by decide) ?_
          cases h
          exact pw_iret (pc := 45) F q dX8_rank_45
        · have h := iteF hc h
          refine pw_aload_n (pc := 35) F dX8_rank_35 rfl ?_
          obtain ⟨x5, ex5, h⟩ := bnd h
          refine pw_get (pc := 36) F 5 0 50 (by decide) (by decide) g_89512a4092 inl_5 0 rfl dX8_rank_36 ex5 ?_
          refine pw_iconst (pc := 39) F 1 dX8_rank_39 (by decide) ?_
          refine pw_icmp_ne (pc := 40) F 46 dX8_rank_40 (by decide) (fun hc => ?_) (fun hc => ?_)
          · have h := iteT hc h
            refine pw_aload_n (pc := 46) F dX8_rank_46 rfl ?_
            refine pw_iload_n (pc := 47) F dX8_rank_47 rfl ?_
            refine pw_iconst (pc := 48) F (-1) dX8_rank_48 (by decide) ?_
            obtain ⟨z6, ez6, h⟩ := bnd h
            refine pw_callV (pc := 49) (as := [vi a1, vi (-1)]) (st := []) (r := (some (vi z6.1))) F 304 8 (by decide) rfl (fun l => m_X8_sortRising l a0 a1 (-1) z2.2 z6.1 z6.2 ez6) g_b05158b03a g_7823623c0c g_78853c6ac0 g_99e03e18e2 g_37e5212558 hd_X8_sortRising (rm_ok hf hl (by decide) (by decide)) rfl (vm_spec ez6).1 dX8_rank_49 rfl (stk' := [vi z6.1]) rfl ?_
            refine pw_istore (pc := 52) F dX8_rank_52 (lt_nl hn (by decide)) [some (vr a0), some (vi a1), some (vi a2), some (vr z2.1), some (vi z6.1)] rfl ?_
            refine pw_iload_n (pc := 54) F dX8_rank_54 rfl ?_
            refine pw_iload (pc := 55) F dX8_rank_55 rfl ?_
            refine pw_icmp_ge (pc := 57) F 67 dX8_rank_57 (by decide) (fun hc => ?_) (fun hc => ?_)
            · have h := iteT hc h
              refine pw_aload_n (pc := 67) F dX8_rank_67 rfl ?_
              refine pw_iload_n (pc := 68) F dX8_rank_68 rfl ?_
              refine pw_iload_n (pc := 69) F dX8_rank_69 rfl ?_
              refine pw_iload (pc := 70) F dX8_rank_70 rfl ?_
              refine pw_isub (pc := 72) F dX8_rank_72 ?_
              obtain ⟨z7, ez7, h⟩ := bnd h
              refine pw_callV (pc := 73) (as := [vi a1, vi (w32 (a2 - z6.1))]) (st := []) (r := (some (vi z7.1))) F 307 8 (by decide) rfl (fun l => m_X8_missingAt l a0 a1 (w32 (a2 - z6.1)) z6.2 z7.1 z7.2 ez7) g_885c163c31 g_25905d43a7 g_785568d16d g_99e03e18e2 g_5be34986fb hd_X8_missingAt (rm_ok hf hl (by decide) (by decide)) rfl (vm_spec ez7).1 dX8_rank_73 rfl (stk' := [vi z7.1]) rfl ?_
              cases h
              exact pw_iret (pc := 76) F q dX8_rank_76
            · have h := iteF hc h
              refine pw_aload_n (pc := 60) F dX8_rank_60 rfl ?_
              obtain ⟨x8, ex8, h⟩ := bnd h
              refine pw_get (pc := 61) F 8 7 42 (by decide) (by decide) g_a5c01fe640 inl_8 2 rfl dX8_rank_61 ex8 ?_
              refine pw_iload_n (pc := 64) F dX8_rank_64 rfl ?_
              obtain ⟨x9, ex9, h⟩ := bnd h
              refine pw_iald (pc := 65) F dX8_rank_65 ex9 ?_
              cases h
              exact pw_iret (pc := 66) F q dX8_rank_66
          · have h := iteF hc h
            refine pw_bipush (pc := 43) F (-2) dX8_rank_43 (by decide) ?_
            cases h
            exact pw_iret (pc := 45) F q dX8_rank_45
      · have h := iteF hc h
        refine pw_iconst (pc := 25) F (-1) dX8_rank_25 (by decide) ?_
        cases h
        exact pw_iret (pc := 26) F q dX8_rank_26
/-! HouseholdVault.part(IIII)J -/
theorem dX8_part_0 : decode cX8_part 0 = .ok (.aload_n 0, 1) := by decide +kernel
theorem dX8_part_1 : decode cX8_part 1 = .ok (.getfield 12, 3) := by decide +kernel
theorem dX8_part_4 : decode cX8_part 4 = .ok (.iload_n 1, 1) := by decide +kernel
theorem dX8_part_5 : decode cX8_part 5 = .ok (.invokevirtual 46, 3) := by decide +kernel
theorem dX8_part_8 : decode cX8_part 8 = .ok (.astore 5, 2) := by decide +kernel
theorem dX8_part_10 : decode cX8_part 10 = .ok (.aload_n 0, 1) := by decide +kernel
theorem dX8_part_11 : decode cX8_part 11 = .ok (.getfield 12, 3) := by decide +kernel
theorem dX8_part_14 : decode cX8_part 14 = .ok (.iload_n 2, 1) := by decide +kernel
theorem dX8_part_15 : decode cX8_part 15 = .ok (.invokevirtual 107, 3) := by decide +kernel
theorem dX8_part_18 : decode cX8_part 18 = .ok (.astore 6, 2) := by decide +kernel
theorem dX8_part_20 : decode cX8_part 20 = .ok (.aload 5, 2) := by decide +kernel
theorem dX8_part_22 : decode cX8_part 22 = .ok (.ifnull 8, 3) := by decide +kernel
theorem dX8_part_25 : decode cX8_part 25 = .ok (.aload 6, 2) := by decide +kernel
theorem dX8_part_27 : decode cX8_part 27 = .ok (.ifnonnull 5, 3) := by decide +kernel
theorem dX8_part_30 : decode cX8_part 30 = .ok (.lconst 0, 1) := by decide +kernel
theorem dX8_part_31 : decode cX8_part 31 = .ok (.lreturn, 1) := by decide +kernel
theorem dX8_part_32 : decode cX8_part 32 = .ok (.iload 4, 2) := by decide +kernel
theorem dX8_part_34 : decode cX8_part 34 = .ok (.iconst 1, 1) := by decide +kernel
theorem dX8_part_35 : decode cX8_part 35 = .ok (.if_icmp .lt 21, 3) := by decide +kernel
theorem dX8_part_38 : decode cX8_part 38 = .ok (.iload 4, 2) := by decide +kernel
theorem dX8_part_40 : decode cX8_part 40 = .ok (.sipush 1000, 3) := by decide +kernel
theorem dX8_part_43 : decode cX8_part 43 = .ok (.if_icmp .gt 13, 3) := by decide +kernel
theorem dX8_part_46 : decode cX8_part 46 = .ok (.iload_n 3, 1) := by decide +kernel
theorem dX8_part_47 : decode cX8_part 47 = .ok (.ifCond .lt 9, 3) := by decide +kernel
theorem dX8_part_50 : decode cX8_part 50 = .ok (.iload_n 3, 1) := by decide +kernel
theorem dX8_part_51 : decode cX8_part 51 = .ok (.iload 4, 2) := by decide +kernel
theorem dX8_part_53 : decode cX8_part 53 = .ok (.if_icmp .le 5, 3) := by decide +kernel
theorem dX8_part_56 : decode cX8_part 56 = .ok (.lconst 0, 1) := by decide +kernel
theorem dX8_part_57 : decode cX8_part 57 = .ok (.lreturn, 1) := by decide +kernel
theorem dX8_part_58 : decode cX8_part 58 = .ok (.aload 5, 2) := by decide +kernel
theorem dX8_part_60 : decode cX8_part 60 = .ok (.getfield 88, 3) := by decide +kernel
theorem dX8_part_63 : decode cX8_part 63 = .ok (.iconst (-1), 1) := by decide +kernel
theorem dX8_part_64 : decode cX8_part 64 = .ok (.if_icmp .ne 30, 3) := by decide +kernel
theorem dX8_part_67 : decode cX8_part 67 = .ok (.aload 5, 2) := by decide +kernel
theorem dX8_part_69 : decode cX8_part 69 = .ok (.getfield 50, 3) := by decide +kernel
theorem dX8_part_72 : decode cX8_part 72 = .ok (.iconst 2, 1) := by decide +kernel
theorem dX8_part_73 : decode cX8_part 73 = .ok (.if_icmp .lt 21, 3) := by decide +kernel
theorem dX8_part_76 : decode cX8_part 76 = .ok (.aload 5, 2) := by decide +kernel
theorem dX8_part_78 : decode cX8_part 78 = .ok (.getfield 50, 3) := by decide +kernel
theorem dX8_part_81 : decode cX8_part 81 = .ok (.iconst 4, 1) := by decide +kernel
theorem dX8_part_82 : decode cX8_part 82 = .ok (.if_icmp .gt 12, 3) := by decide +kernel
theorem dX8_part_85 : decode cX8_part 85 = .ok (.aload 6, 2) := by decide +kernel
theorem dX8_part_87 : decode cX8_part 87 = .ok (.getfield 111, 3) := by decide +kernel
theorem dX8_part_90 : decode cX8_part 90 = .ok (.iconst (-1), 1) := by decide +kernel
theorem dX8_part_91 : decode cX8_part 91 = .ok (.if_icmp .eq 5, 3) := by decide +kernel
theorem dX8_part_94 : decode cX8_part 94 = .ok (.lconst 0, 1) := by decide +kernel
theorem dX8_part_95 : decode cX8_part 95 = .ok (.lreturn, 1) := by decide +kernel
theorem dX8_part_96 : decode cX8_part 96 = .ok (.aload_n 0, 1) := by decide +kernel
theorem dX8_part_97 : decode cX8_part 97 = .ok (.iload_n 1, 1) := by decide +kernel
theorem dX8_part_98 : decode cX8_part 98 = .ok (.iload_n 2, 1) := by decide +kernel
theorem dX8_part_99 : decode cX8_part 99 = .ok (.invokevirtual 304, 3) := by decide +kernel
theorem dX8_part_102 : decode cX8_part 102 = .ok (.istore 7, 2) := by decide +kernel
theorem dX8_part_104 : decode cX8_part 104 = .ok (.iload 7, 2) := by decide +kernel
theorem dX8_part_106 : decode cX8_part 106 = .ok (.ifCond .ne 5, 3) := by decide +kernel
theorem dX8_part_109 : decode cX8_part 109 = .ok (.lconst 0, 1) := by decide +kernel
theorem dX8_part_110 : decode cX8_part 110 = .ok (.lreturn, 1) := by decide +kernel
theorem dX8_part_111 : decode cX8_part 111 = .ok (.aload_n 0, 1) := by decide +kernel
theorem dX8_part_112 : decode cX8_part 112 = .ok (.getfield 42, 3) := by decide +kernel
theorem dX8_part_115 : decode cX8_part 115 = .ok (.iload 7, 2) := by decide +kernel
theorem dX8_part_117 : decode cX8_part 117 = .ok (.iconst 1, 1) := by decide +kernel
theorem dX8_part_118 : decode cX8_part 118 = .ok (.isub, 1) := by decide +kernel
theorem dX8_part_119 : decode cX8_part 119 = .ok (.iload_n 3, 1) := by decide +kernel
theorem dX8_part_120 : decode cX8_part 120 = .ok (.imul, 1) := by decide +kernel
theorem dX8_part_121 : decode cX8_part 121 = .ok (.iload 4, 2) := by decide +kernel
theorem dX8_part_123 : decode cX8_part 123 = .ok (.idiv, 1) := by decide +kernel
theorem dX8_part_124 : decode cX8_part 124 = .ok (.iaload, 1) := by decide +kernel
theorem dX8_part_125 : decode cX8_part 125 = .ok (.istore 8, 2) := by decide +kernel
theorem dX8_part_127 : decode cX8_part 127 = .ok (.aload_n 0, 1) := by decide +kernel
theorem dX8_part_128 : decode cX8_part 128 = .ok (.getfield 18, 3) := by decide +kernel
theorem dX8_part_131 : decode cX8_part 131 = .ok (.iload 8, 2) := by decide +kernel
theorem dX8_part_133 : decode cX8_part 133 = .ok (.aaload, 1) := by decide +kernel
theorem dX8_part_134 : decode cX8_part 134 = .ok (.getfield 126, 3) := by decide +kernel
theorem dX8_part_137 : decode cX8_part 137 = .ok (.getfield 172, 3) := by decide +kernel
theorem dX8_part_140 : decode cX8_part 140 = .ok (.iload_n 1, 1) := by decide +kernel
theorem dX8_part_141 : decode cX8_part 141 = .ok (.iconst (-1), 1) := by decide +kernel
theorem dX8_part_142 : decode cX8_part 142 = .ok (.invokestatic 130, 3) := by decide +kernel
theorem dX8_part_145 : decode cX8_part 145 = .ok (.laload, 1) := by decide +kernel
theorem dX8_part_146 : decode cX8_part 146 = .ok (.lreturn, 1) := by decide +kernel
def f_X8_part (a0 a1 a2 a3 a4 : Int) (H : PH) : RO := vm 8 a0 H <|
  (ld 24 H a0 0).bind fun x1 => (f_X3_questionOf x1 a1 H).bind fun z2 => (ld 24 z2.2 a0 0).bind fun x3 => (f_X3_conditionOf x3 a2 z2.2).bind fun z4 => (if z2.1 = -1 then some (0, z4.2)
  else (if z4.1 ≠ -1 then (if a4 < 1 then some (0, z4.2)
  else (if a4 > 1000 then some (0, z4.2)
  else (if a3 < 0 then some (0, z4.2)
  else (if a3 ≤ a4 then (ld 21 z4.2 z2.1 1).bind fun x5 => (if x5 ≠ (-1) then some (0, z4.2)
  else (ld 21 z4.2 z2.1 0).bind fun x6 => (if x6 < 2 then some (0, z4.2)
  else (ld 21 z4.2 z2.1 0).bind fun x7 => (if x7 > 4 then some (0, z4.2)
  else (ld 16 z4.2 z4.1 4).bind fun x8 => (if x8 = (-1) then (f_X8_sortRising a0 a1 a2 z4.2).bind fun z9 => (if z9.1 ≠ 0 then (ld 24 z9.2 a0 7).bind fun x10 => (if a4 = 0 then none else (ld 0 z9.2 x10 (w32 (Int.tdiv (w32 ((w32 (z9.1 - 1)) * a3)) a4))).bind fun x11 => (ld 24 z9.2 a0 1).bind fun x12 => (ld 5 z9.2 x12 x11).bind fun x13 => (ld 20 z9.2 x13 0).bind fun x14 => (ld 22 z9.2 x14 0).bind fun x15 => (f_X8_spot a1 (-1) z9.2).bind fun z16 => (ld 1 z16.2 x15 z16.1).bind fun x17 => some (x17, z16.2))
  else some (0, z9.2))
  else some (0, z4.2)))))
  else some (0, z4.2)))))
  else some (0, z4.2)))
set_option maxHeartbeats 4000000 in
theorem m_X8_part (l : Launch) (a0 a1 a2 a3 a4 : Int) (H : PH) (rr : Int) (HH : PH) (h : f_X8_part a0 a1 a2 a3 a4 H = some (rr, HH)) : CT l yX8_part cX8_part 9 (some .long) 6 139 [vr a0, vi a1, vi a2, vi a3, vi a4] H (some (vl rr)) HH := by
  refine CT.of RX8 (by decide) rfl [some (vr a0), some (vi a1), some (vi a2), some (vi a3), some (vi a4), none, none, none, none] rfl rfl ?_
  intro E F q hn hf hl hm
  unfold f_X8_part at h
  obtain ⟨hv, h⟩ := vm_spec h
  refine pw_aload_n (pc := 0) F dX8_part_0 rfl ?_
  obtain ⟨x1, ex1, h⟩ := bnd h
  refine pw_get (pc := 1) F 8 0 12 (by decide) (by decide) g_955d9610dc inl_8 2 rfl dX8_part_1 ex1 ?_
  refine pw_iload_n (pc := 4) F dX8_part_4 rfl ?_
  obtain ⟨z2, ez2, h⟩ := bnd h
  refine pw_callV (pc := 5) (as := [vi a1]) (st := []) (r := (some (vr z2.1))) F 46 3 (by decide) rfl (fun l => m_X3_questionOf l x1 a1 H z2.1 z2.2 ez2) g_babc17a83a g_e6ef547307 g_4b42450d0b g_106b72596f g_1cf8e31489 hd_X3_questionOf (rm_ok hf hl (by decide) (by decide)) rfl (vm_spec ez2).1 dX8_part_5 rfl (stk' := [vr z2.1]) rfl ?_
  refine pw_astore (pc := 8) F dX8_part_8 (lt_nl hn (by decide)) [some (vr a0), some (vi a1), some (vi a2), some (vi a3), some (vi a4), some (vr z2.1), none, none, none] rfl ?_
  refine pw_aload_n (pc := 10) F dX8_part_10 rfl ?_
  obtain ⟨x3, ex3, h⟩ := bnd h
  refine pw_get (pc := 11) F 8 0 12 (by decide) (by decide) g_955d9610dc inl_8 2 rfl dX8_part_11 ex3 ?_
  refine pw_iload_n (pc := 14) F dX8_part_14 rfl ?_
  obtain ⟨z4, ez4, h⟩ := bnd h
  refine pw_callV (pc := 15) (as := [vi a2]) (st := []) (r := (some (vr z4.1))) F 107 3 (by decide) rfl (fun l => m_X3_conditionOf l x3 a2 z2.2 z4.1 z4.2 ez4) g_49928f6725 g_b00562ac61 g_8e73955a14 g_106b72596f g_f065878191 hd_X3_conditionOf (rm_ok hf hl (by decide) (by decide)) rfl (vm_spec ez4).1 dX8_part_15 rfl (stk' := [vr z4.1]) rfl ?_
  refine pw_astore (pc := 18) F dX8_part_18 (lt_nl hn (by decide)) [some (vr a0), some (vi a1), some (vi a2), some (vi a3), some (vi a4), some (vr z2.1), some (vr z4.1), none, none] rfl ?_
  refine pw_aload (pc := 20) F dX8_part_20 rfl ?_
  refine pw_ifnull (pc := 22) F 30 dX8_part_22 (by decide) (fun hc => ?_) (fun hc => ?_)
  · have h := iteT hc h
    refine pw_lconst (pc := 30) F 0 dX8_part_30 (by decide) ?_
    cases h
    exact pw_lret (pc := 31) F q dX8_part_31
  · have h := iteF hc h
    refine pw_aload (pc := 25) F dX8_part_25 rfl ?_
    refine pw_ifnonnull (pc := 27) F 32 dX8_part_27 (by decide) (fun hc => ?_) (fun hc => ?_)
    · have h := iteT hc h
      refine pw_iload (pc := 32) F dX8_part_32 rfl ?_
      refine pw_iconst (pc := 34) F 1 dX8_part_34 (by decide) ?_
      refine pw_icmp_lt (pc := 35) F 56 dX8_part_35 (by decide) (fun hc => ?_) (fun hc => ?_)
      · have h := iteT hc h
        refine pw_lconst (pc := 56) F 0 dX8_part_56 (by decide) ?_
        cases h
        exact pw_lret (pc := 57) F q dX8_part_57
      · have h := iteF hc h
        refine pw_iload (pc := 38) F dX8_part_38 rfl ?_
        refine pw_sipush (pc := 40) F 1000 dX8_part_40 (by decide) ?_
        refine pw_icmp_gt (pc := 43) F 56 dX8_part_43 (by decide) (fun hc => ?_) (fun hc => ?_)
        · have h := iteT hc h
          refine pw_lconst (pc := 56) F 0 dX8_part_56 (by decide) ?_
          cases h
          exact pw_lret (pc := 57) F q dX8_part_57
        · have h := iteF hc h
          refine pw_iload_n (pc := 46) F dX8_part_46 rfl ?_
          refine pw_if_lt (pc := 47) F 56 dX8_part_47 (by decide) (fun hc => ?_) (fun hc => ?_)
          · have h := iteT hc h
            refine pw_lconst (pc := 56) F 0 dX8_part_56 (by decide) ?_
            cases h
            exact pw_lret (pc := 57) F q dX8_part_57
          · have h := iteF hc h
            refine pw_iload_n (pc := 50) F dX8_part_50 rfl ?_
            refine pw_iload (pc := 51) F dX8_part_51 rfl ?_
            refine pw_icmp_le (pc := 53) F 58 dX8_part_53 (by decide) (fun hc => ?_) (fun hc => ?_)
            · have h := iteT hc h
              refine pw_aload (pc := 58) F dX8_part_58 rfl ?_
              obtain ⟨x5, ex5, h⟩ := bnd h
              refine pw_get (pc := 60) F 5 1 88 (by decide) (by decide) g_3644918d03 inl_5 0 rfl dX8_part_60 ex5 ?_
              refine pw_iconst (pc := 63) F (-1) dX8_part_63 (by decide) ?_
              refine pw_icmp_ne (pc := 64) F 94 dX8_part_64 (by decide) (fun hc => ?_) (fun hc => ?_)
              · have h := iteT hc h
                refine pw_lconst (pc := 94) F 0 dX8_part_94 (by decide) ?_
                cases h
                exact pw_lret (pc := 95) F q dX8_part_95
              · have h := iteF hc h
                refine pw_aload (pc := 67) F dX8_part_67 rfl ?_
                obtain ⟨x6, ex6, h⟩ := bnd h
                refine pw_get (pc := 69) F 5 0 50 (by decide) (by decide) g_89512a4092 inl_5 0 rfl dX8_part_69 ex6 ?_
                refine pw_iconst (pc := 72) F 2 dX8_part_72 (by decide) ?_
                refine pw_icmp_lt (pc := 73) F 94 dX8_part_73 (by decide) (fun hc => ?_) (fun hc => ?_)
                · have h := iteT hc h
                  refine pw_lconst (pc := 94) F 0 dX8_part_94 (by decide) ?_
                  cases h
                  exact pw_lret (pc := 95) F q dX8_part_95
                · have h := iteF hc h
                  refine pw_aload (pc := 76) F dX8_part_76 rfl ?_
                  obtain ⟨x7, ex7, h⟩ := bnd h
                  refine pw_get (pc := 78) F 5 0 50 (by decide) (by decide) g_89512a4092 inl_5 0 rfl dX8_part_78 ex7 ?_
                  refine pw_iconst (pc := 81) F 4 dX8_part_81 (by decide) ?_
                  refine pw_icmp_gt (pc := 82) F 94 dX8_part_82 (by decide) (fun hc => ?_) (fun hc => ?_)
                  · have h := iteT hc h
                    refine pw_lconst (pc := 94) F 0 dX8_part_94 (by decide) ?_
                    cases h
                    exact pw_lret (pc := 95) F q dX8_part_95
                  · have h := iteF hc h
                    refine pw_aload (pc := 85) F dX8_part_85 rfl ?_
                    obtain ⟨x8, ex8, h⟩ := bnd h
                    refine pw_get (pc := 87) F 0 4 111 (by decide) (by decide) g_1ba1e534e4 inl_0 0 rfl dX8_part_87 ex8 ?_
                    refine pw_iconst (pc := 90) F (-1) dX8_part_90 (by decide) ?_
                    refine pw_icmp_eq (pc := 91) F 96 dX8_part_91 (by decide) (fun hc => ?_) (fun hc => ?_)
                    · have h := iteT hc h
                      refine pw_aload_n (pc := 96) F dX8_part_96 rfl ?_
                      refine pw_iload_n (pc := 97) F dX8_part_97 rfl ?_
                      refine pw_iload_n (pc := 98) F dX8_part_98 rfl ?_
                      obtain ⟨z9, ez9, h⟩ := bnd h
                      refine pw_callV (pc := 99) (as := [vi a1, vi a2]) (st := []) (r := (some (vi z9.1))) F 304 8 (by decide) rfl (fun l => m_X8_sortRising l a0 a1 a2 z4.2 z9.1 z9.2 ez9) g_b05158b03a g_7823623c0c g_78853c6ac0 g_99e03e18e2 g_37e5212558 hd_X8_sortRising (rm_ok hf hl (by decide) (by decide)) rfl (vm_spec ez9).1 dX8_part_99 rfl (stk' := [vi z9.1]) rfl ?_
                      refine pw_istore (pc := 102) F dX8_part_102 (lt_nl hn (by decide)) [some (vr a0), some (vi a1), some (vi a2), some (vi a3), some (vi a4), some (vr z2.1), some (vr z4.1), some (vi z9.1), none] rfl ?_
                      refine pw_iload (pc := 104) F dX8_part_104 rfl ?_
                      refine pw_if_ne (pc := 106) F 111 dX8_part_106 (by decide) (fun hc => ?_) (fun hc => ?_)
                      · have h := iteT hc h
                        refine pw_aload_n (pc := 111) F dX8_part_111 rfl ?_
                        obtain ⟨x10, ex10, h⟩ := bnd h
                        refine pw_get (pc := 112) F 8 7 42 (by decide) (by decide) g_a5c01fe640 inl_8 2 rfl dX8_part_112 ex10 ?_
                        refine pw_iload (pc := 115) F dX8_part_115 rfl ?_
                        refine pw_iconst (pc := 117) F 1 dX8_part_117 (by decide) ?_
                        refine pw_isub (pc := 118) F dX8_part_118 ?_
                        refine pw_iload_n (pc := 119) F dX8_part_119 rfl ?_
                        refine pw_imul (pc := 120) F dX8_part_120 ?_
                        refine pw_iload (pc := 121) F dX8_part_121 rfl ?_
                        by_cases hz123 : a4 = 0
                        · rw [if_pos hz123] at h; cases h
                        have h := iteF hz123 h
                        refine pw_idiv (pc := 123) F dX8_part_123 hz123 ?_
                        obtain ⟨x11, ex11, h⟩ := bnd h
                        refine pw_iald (pc := 124) F dX8_part_124 ex11 ?_
                        refine pw_istore (pc := 125) F dX8_part_125 (lt_nl hn (by decide)) [some (vr a0), some (vi a1), some (vi a2), some (vi a3), some (vi a4), some (vr z2.1), some (vr z4.1), some (vi z9.1), some (vi x11)] rfl ?_
                        refine pw_aload_n (pc := 127) F dX8_part_127 rfl ?_
                        obtain ⟨x12, ex12, h⟩ := bnd h
                        refine pw_get (pc := 128) F 8 1 18 (by decide) (by decide) g_0efda17134 inl_8 2 rfl dX8_part_128 ex12 ?_
                        refine pw_iload (pc := 131) F dX8_part_131 rfl ?_
                        obtain ⟨x13, ex13, h⟩ := bnd h
                        refine pw_aald (pc := 133) F 5 (by decide) dX8_part_133 ex13 ?_
                        obtain ⟨x14, ex14, h⟩ := bnd h
                        refine pw_get (pc := 134) F 4 0 126 (by decide) (by decide) g_8ec333b1d7 inl_4 2 rfl dX8_part_134 ex14 ?_
                        obtain ⟨x15, ex15, h⟩ := bnd h
                        refine pw_get (pc := 137) F 6 0 172 (by decide) (by decide) g_6a853c1f58 inl_6 2 rfl dX8_part_137 ex15 ?_
                        refine pw_iload_n (pc := 140) F dX8_part_140 rfl ?_
                        refine pw_iconst (pc := 141) F (-1) dX8_part_141 (by decide) ?_
                        obtain ⟨z16, ez16, h⟩ := bnd h
                        refine pw_callS (pc := 142) (as := [vi a1, vi (-1)]) (st := [vr x15]) (r := (some (vi z16.1))) F 130 (fun l => m_X8_spot l a1 (-1) z9.2 z16.1 z16.2 ez16) g_3d0f1a9b86 g_aa0997f699 g_99e03e18e2 g_0d0469f624 hd_X8_spot (rm_ok hf hl (by decide) (by decide)) rfl dX8_part_142 rfl (stk' := [vi z16.1, vr x15]) rfl ?_
                        obtain ⟨x17, ex17, h⟩ := bnd h
                        refine pw_lald (pc := 145) F dX8_part_145 ex17 ?_
                        cases h
                        exact pw_lret (pc := 146) F q dX8_part_146
                      · have h := iteF hc h
                        refine pw_lconst (pc := 109) F 0 dX8_part_109 (by decide) ?_
                        cases h
                        exact pw_lret (pc := 110) F q dX8_part_110
                    · have h := iteF hc h
                      refine pw_lconst (pc := 94) F 0 dX8_part_94 (by decide) ?_
                      cases h
                      exact pw_lret (pc := 95) F q dX8_part_95
            · have h := iteF hc h
              refine pw_lconst (pc := 56) F 0 dX8_part_56 (by decide) ?_
              cases h
              exact pw_lret (pc := 57) F q dX8_part_57
    · have h := iteF hc h
      refine pw_lconst (pc := 30) F 0 dX8_part_30 (by decide) ?_
      cases h
      exact pw_lret (pc := 31) F q dX8_part_31
/-! HouseholdVault.mark(IZ)I -/
theorem dX8_mark_0 : decode cX8_mark 0 = .ok (.aload_n 0, 1) := by decide +kernel
theorem dX8_mark_1 : decode cX8_mark 1 = .ok (.getfield 12, 3) := by decide +kernel
theorem dX8_mark_4 : decode cX8_mark 4 = .ok (.iload_n 1, 1) := by decide +kernel
theorem dX8_mark_5 : decode cX8_mark 5 = .ok (.invokevirtual 46, 3) := by decide +kernel
theorem dX8_mark_8 : decode cX8_mark 8 = .ok (.astore_n 3, 1) := by decide +kernel
theorem dX8_mark_9 : decode cX8_mark 9 = .ok (.aload_n 3, 1) := by decide +kernel
theorem dX8_mark_10 : decode cX8_mark 10 = .ok (.ifnonnull 5, 3) := by decide +kernel
theorem dX8_mark_13 : decode cX8_mark 13 = .ok (.iconst (-1), 1) := by decide +kernel
theorem dX8_mark_14 : decode cX8_mark 14 = .ok (.ireturn, 1) := by decide +kernel
theorem dX8_mark_15 : decode cX8_mark 15 = .ok (.aload_n 3, 1) := by decide +kernel
theorem dX8_mark_16 : decode cX8_mark 16 = .ok (.getfield 88, 3) := by decide +kernel
theorem dX8_mark_19 : decode cX8_mark 19 = .ok (.iconst (-1), 1) := by decide +kernel
theorem dX8_mark_20 : decode cX8_mark 20 = .ok (.if_icmp .ne 10, 3) := by decide +kernel
theorem dX8_mark_23 : decode cX8_mark 23 = .ok (.aload_n 3, 1) := by decide +kernel
theorem dX8_mark_24 : decode cX8_mark 24 = .ok (.getfield 75, 3) := by decide +kernel
theorem dX8_mark_27 : decode cX8_mark 27 = .ok (.ifCond .eq 6, 3) := by decide +kernel
theorem dX8_mark_30 : decode cX8_mark 30 = .ok (.bipush (-2), 2) := by decide +kernel
theorem dX8_mark_32 : decode cX8_mark 32 = .ok (.ireturn, 1) := by decide +kernel
theorem dX8_mark_33 : decode cX8_mark 33 = .ok (.aload_n 3, 1) := by decide +kernel
theorem dX8_mark_34 : decode cX8_mark 34 = .ok (.getfield 119, 3) := by decide +kernel
theorem dX8_mark_37 : decode cX8_mark 37 = .ok (.ifCond .eq 7, 3) := by decide +kernel
theorem dX8_mark_40 : decode cX8_mark 40 = .ok (.iconst 1, 1) := by decide +kernel
theorem dX8_mark_41 : decode cX8_mark 41 = .ok (.goto 4, 3) := by decide +kernel
theorem dX8_mark_44 : decode cX8_mark 44 = .ok (.iconst 0, 1) := by decide +kernel
theorem dX8_mark_45 : decode cX8_mark 45 = .ok (.istore 4, 2) := by decide +kernel
theorem dX8_mark_47 : decode cX8_mark 47 = .ok (.aload_n 3, 1) := by decide +kernel
theorem dX8_mark_48 : decode cX8_mark 48 = .ok (.iload_n 2, 1) := by decide +kernel
theorem dX8_mark_49 : decode cX8_mark 49 = .ok (.putfield 119, 3) := by decide +kernel
theorem dX8_mark_52 : decode cX8_mark 52 = .ok (.iload 4, 2) := by decide +kernel
theorem dX8_mark_54 : decode cX8_mark 54 = .ok (.ireturn, 1) := by decide +kernel
def jX8_mark_45 (p2 p3 s0 : Int) (H : PH) : RO :=
  (stz 21 H p3 11 p2).bind fun H1 => some (s0, H1)
set_option maxHeartbeats 4000000 in
theorem jX8_mark_45_ok {E : PE} {rr : Int} {HH : PH} (F : FX E cX8_mark RX8) (q : QE E (some (vi rr)) HH (some .int)) (hn : nLof E = 5) (hf : (roomOf E).frames = 1) (hl : (roomOf E).locals = 21) (p2 p3 s0 : Int) (H : PH) (h : jX8_mark_45 p2 p3 s0 H = some (rr, HH)) : PW E 45 [none, none, some (vi p2), some (vr p3), none] [vi s0] H := by
  unfold jX8_mark_45 at h
  refine pw_istore (pc := 45) F dX8_mark_45 (lt_nl hn (by decide)) [none, none, some (vi p2), some (vr p3), some (vi s0)] rfl ?_
  refine pw_aload_n (pc := 47) F dX8_mark_47 rfl ?_
  refine pw_iload_n (pc := 48) F dX8_mark_48 rfl ?_
  obtain ⟨H1, eH1, h⟩ := bnd h
  refine pw_put (pc := 49) F 5 11 119 (by decide) (by decide) g_5d7d6be57f inl_5 rfl 0 rfl dX8_mark_49 (stz_spec eH1).1 (stz_spec eH1).2 ?_
  refine pw_iload (pc := 52) F dX8_mark_52 rfl ?_
  cases h
  exact pw_iret (pc := 54) F q dX8_mark_54
def f_X8_mark (a0 a1 a2 : Int) (H : PH) : RO := vm 8 a0 H <|
  (ld 24 H a0 0).bind fun x1 => (f_X3_questionOf x1 a1 H).bind fun z2 => (if z2.1 ≠ -1 then (ld 21 z2.2 z2.1 1).bind fun x3 => (if x3 ≠ (-1) then some ((-2), z2.2)
  else (ld 21 z2.2 z2.1 2).bind fun x4 => (if x4 = 0 then (ld 21 z2.2 z2.1 11).bind fun x5 => (if x5 = 0 then jX8_mark_45 a2 z2.1 0 z2.2
  else jX8_mark_45 a2 z2.1 1 z2.2)
  else some ((-2), z2.2)))
  else some ((-1), z2.2))
set_option maxHeartbeats 4000000 in
theorem m_X8_mark (l : Launch) (a0 a1 a2 : Int) (H : PH) (rr : Int) (HH : PH) (h : f_X8_mark a0 a1 a2 H = some (rr, HH)) : CT l yX8_mark cX8_mark 5 (some .int) 1 21 [vr a0, vi a1, vi a2] H (some (vi rr)) HH := by
  refine CT.of RX8 (by decide) rfl [some (vr a0), some (vi a1), some (vi a2), none, none] rfl rfl ?_
  intro E F q hn hf hl hm
  unfold f_X8_mark at h
  obtain ⟨hv, h⟩ := vm_spec h
  refine pw_aload_n (pc := 0) F dX8_mark_0 rfl ?_
  obtain ⟨x1, ex1, h⟩ := bnd h
  refine pw_get (pc := 1) F 8 0 12 (by decide) (by decide) g_955d9610dc inl_8 2 rfl dX8_mark_1 ex1 ?_
  refine pw_iload_n (pc := 4) F dX8_mark_4 rfl ?_
  obtain ⟨z2, ez2, h⟩ := bnd h
  refine pw_callV (pc := 5) (as := [vi a1]) (st := []) (r := (some (vr z2.1))) F 46 3 (by decide) rfl (fun l => m_X3_questionOf l x1 a1 H z2.1 z2.2 ez2) g_babc17a83a g_e6ef547307 g_4b42450d0b g_106b72596f g_1cf8e31489 hd_X3_questionOf (rm_ok hf hl (by decide) (by decide)) rfl (vm_spec ez2).1 dX8_mark_5 rfl (stk' := [vr z2.1]) rfl ?_
  refine pw_astore_n (pc := 8) F dX8_mark_8 (lt_nl hn (by decide)) [some (vr a0), some (vi a1), some (vi a2), some (vr z2.1), none] rfl ?_
  refine pw_aload_n (pc := 9) F dX8_mark_9 rfl ?_
  refine pw_ifnonnull (pc := 10) F 15 dX8_mark_10 (by decide) (fun hc => ?_) (fun hc => ?_)
  · have h := iteT hc h
    refine pw_aload_n (pc := 15) F dX8_mark_15 rfl ?_
    obtain ⟨x3, ex3, h⟩ := bnd h
    refine pw_get (pc := 16) F 5 1 88 (by decide) (by decide) g_3644918d03 inl_5 0 rfl dX8_mark_16 ex3 ?_
    refine pw_iconst (pc := 19) F (-1) dX8_mark_19 (by decide) ?_
    refine pw_icmp_ne (pc := 20) F 30 dX8_mark_20 (by decide) (fun hc => ?_) (fun hc => ?_)
    · have h := iteT hc h
      refine pw_bipush (pc := 30) F (-2) dX8_mark_30 (by decide) ?_
      cases h
      exact pw_iret (pc := 32) F q dX8_mark_32
    · have h := iteF hc h
      refine pw_aload_n (pc := 23) F dX8_mark_23 rfl ?_
      obtain ⟨x4, ex4, h⟩ := bnd h
      refine pw_get (pc := 24) F 5 2 75 (by decide) (by decide) g_3884a6eb9d inl_5 0 rfl dX8_mark_24 ex4 ?_
      refine pw_if_eq (pc := 27) F 33 dX8_mark_27 (by decide) (fun hc => ?_) (fun hc => ?_)
      · have h := iteT hc h
        refine pw_aload_n (pc := 33) F dX8_mark_33 rfl ?_
        obtain ⟨x5, ex5, h⟩ := bnd h
        refine pw_get (pc := 34) F 5 11 119 (by decide) (by decide) g_5d7d6be57f inl_5 0 rfl dX8_mark_34 ex5 ?_
        refine pw_if_eq (pc := 37) F 44 dX8_mark_37 (by decide) (fun hc => ?_) (fun hc => ?_)
        · have h := iteT hc h
          refine pw_iconst (pc := 44) F 0 dX8_mark_44 (by decide) ?_
          exact pw_mask [false, false, true, true, true] (ls' := [none, none, some (vi a2), some (vr z2.1), none]) rfl (jX8_mark_45_ok F q hn hf hl a2 z2.1 0 z2.2 h)
        · have h := iteF hc h
          refine pw_iconst (pc := 40) F 1 dX8_mark_40 (by decide) ?_
          refine pw_goto (pc := 41) F 45 dX8_mark_41 (by decide) ?_
          exact pw_mask [false, false, true, true, true] (ls' := [none, none, some (vi a2), some (vr z2.1), none]) rfl (jX8_mark_45_ok F q hn hf hl a2 z2.1 1 z2.2 h)
      · have h := iteF hc h
        refine pw_bipush (pc := 30) F (-2) dX8_mark_30 (by decide) ?_
        cases h
        exact pw_iret (pc := 32) F q dX8_mark_32
  · have h := iteF hc h
    refine pw_iconst (pc := 13) F (-1) dX8_mark_13 (by decide) ?_
    cases h
    exact pw_iret (pc := 14) F q dX8_mark_14
/-! HouseholdVault.areLikeIn(ILHouseholdVault$Sheet;LHouseholdVault$Sheet;)Z -/
theorem dX8_areLikeIn_0 : decode cX8_areLikeIn 0 = .ok (.aload_n 2, 1) := by decide +kernel
theorem dX8_areLikeIn_1 : decode cX8_areLikeIn 1 = .ok (.iload_n 1, 1) := by decide +kernel
theorem dX8_areLikeIn_2 : decode cX8_areLikeIn 2 = .ok (.invokevirtual 183, 3) := by decide +kernel
theorem dX8_areLikeIn_5 : decode cX8_areLikeIn 5 = .ok (.istore 4, 2) := by decide +kernel
theorem dX8_areLikeIn_7 : decode cX8_areLikeIn 7 = .ok (.iload_n 1, 1) := by decide +kernel
theorem dX8_areLikeIn_8 : decode cX8_areLikeIn 8 = .ok (.iconst 1, 1) := by decide +kernel
theorem dX8_areLikeIn_9 : decode cX8_areLikeIn 9 = .ok (.iadd, 1) := by decide +kernel
theorem dX8_areLikeIn_10 : decode cX8_areLikeIn 10 = .ok (.istore 5, 2) := by decide +kernel
theorem dX8_areLikeIn_12 : decode cX8_areLikeIn 12 = .ok (.iload 5, 2) := by decide +kernel
theorem dX8_areLikeIn_14 : decode cX8_areLikeIn 14 = .ok (.aload_n 0, 1) := by decide +kernel
theorem dX8_areLikeIn_15 : decode cX8_areLikeIn 15 = .ok (.getfield 12, 3) := by decide +kernel
theorem dX8_areLikeIn_18 : decode cX8_areLikeIn 18 = .ok (.getfield 141, 3) := by decide +kernel
theorem dX8_areLikeIn_21 : decode cX8_areLikeIn 21 = .ok (.if_icmp .ge 74, 3) := by decide +kernel
theorem dX8_areLikeIn_24 : decode cX8_areLikeIn 24 = .ok (.aload_n 0, 1) := by decide +kernel
theorem dX8_areLikeIn_25 : decode cX8_areLikeIn 25 = .ok (.getfield 12, 3) := by decide +kernel
theorem dX8_areLikeIn_28 : decode cX8_areLikeIn 28 = .ok (.getfield 144, 3) := by decide +kernel
theorem dX8_areLikeIn_31 : decode cX8_areLikeIn 31 = .ok (.iload 5, 2) := by decide +kernel
theorem dX8_areLikeIn_33 : decode cX8_areLikeIn 33 = .ok (.aaload, 1) := by decide +kernel
theorem dX8_areLikeIn_34 : decode cX8_areLikeIn 34 = .ok (.astore 6, 2) := by decide +kernel
theorem dX8_areLikeIn_36 : decode cX8_areLikeIn 36 = .ok (.aload 6, 2) := by decide +kernel
theorem dX8_areLikeIn_38 : decode cX8_areLikeIn 38 = .ok (.getfield 88, 3) := by decide +kernel
theorem dX8_areLikeIn_41 : decode cX8_areLikeIn 41 = .ok (.iload_n 1, 1) := by decide +kernel
theorem dX8_areLikeIn_42 : decode cX8_areLikeIn 42 = .ok (.if_icmp .ne 47, 3) := by decide +kernel
theorem dX8_areLikeIn_45 : decode cX8_areLikeIn 45 = .ok (.aload 6, 2) := by decide +kernel
theorem dX8_areLikeIn_47 : decode cX8_areLikeIn 47 = .ok (.getfield 75, 3) := by decide +kernel
theorem dX8_areLikeIn_50 : decode cX8_areLikeIn 50 = .ok (.ifCond .eq 6, 3) := by decide +kernel
theorem dX8_areLikeIn_53 : decode cX8_areLikeIn 53 = .ok (.goto 36, 3) := by decide +kernel
theorem dX8_areLikeIn_56 : decode cX8_areLikeIn 56 = .ok (.iconst 0, 1) := by decide +kernel
theorem dX8_areLikeIn_57 : decode cX8_areLikeIn 57 = .ok (.istore 7, 2) := by decide +kernel
theorem dX8_areLikeIn_59 : decode cX8_areLikeIn 59 = .ok (.iload 7, 2) := by decide +kernel
theorem dX8_areLikeIn_61 : decode cX8_areLikeIn 61 = .ok (.iload 4, 2) := by decide +kernel
theorem dX8_areLikeIn_63 : decode cX8_areLikeIn 63 = .ok (.if_icmp .ge 26, 3) := by decide +kernel
theorem dX8_areLikeIn_66 : decode cX8_areLikeIn 66 = .ok (.aload_n 2, 1) := by decide +kernel
theorem dX8_areLikeIn_67 : decode cX8_areLikeIn 67 = .ok (.aload_n 3, 1) := by decide +kernel
theorem dX8_areLikeIn_68 : decode cX8_areLikeIn 68 = .ok (.iload 5, 2) := by decide +kernel
theorem dX8_areLikeIn_70 : decode cX8_areLikeIn 70 = .ok (.iload 7, 2) := by decide +kernel
theorem dX8_areLikeIn_72 : decode cX8_areLikeIn 72 = .ok (.invokestatic 130, 3) := by decide +kernel
theorem dX8_areLikeIn_75 : decode cX8_areLikeIn 75 = .ok (.invokevirtual 327, 3) := by decide +kernel
theorem dX8_areLikeIn_78 : decode cX8_areLikeIn 78 = .ok (.ifCond .ne 5, 3) := by decide +kernel
theorem dX8_areLikeIn_81 : decode cX8_areLikeIn 81 = .ok (.iconst 0, 1) := by decide +kernel
theorem dX8_areLikeIn_82 : decode cX8_areLikeIn 82 = .ok (.ireturn, 1) := by decide +kernel
theorem dX8_areLikeIn_83 : decode cX8_areLikeIn 83 = .ok (.iinc 7 1, 3) := by decide +kernel
theorem dX8_areLikeIn_86 : decode cX8_areLikeIn 86 = .ok (.goto (-27), 3) := by decide +kernel
theorem dX8_areLikeIn_89 : decode cX8_areLikeIn 89 = .ok (.iinc 5 1, 3) := by decide +kernel
theorem dX8_areLikeIn_92 : decode cX8_areLikeIn 92 = .ok (.goto (-80), 3) := by decide +kernel
theorem dX8_areLikeIn_95 : decode cX8_areLikeIn 95 = .ok (.iconst 1, 1) := by decide +kernel
theorem dX8_areLikeIn_96 : decode cX8_areLikeIn 96 = .ok (.ireturn, 1) := by decide +kernel
def jX8_areLikeIn_89 (self12 : Int → PH → RO) (p0 p1 p2 p3 p4 p5 : Int) (H : PH) : RO :=
  self12 (w32 (p5 + 1)) H
set_option maxHeartbeats 4000000 in
theorem jX8_areLikeIn_89_ok {E : PE} {rr : Int} {HH : PH} (F : FX E cX8_areLikeIn RX8) (q : QE E (some (vi rr)) HH (some .boolean)) (hn : nLof E = 8) (hf : (roomOf E).frames = 2) (hl : (roomOf E).locals = 42) (self12 : Int → PH → RO) (p0 p1 p2 p3 p4 p5 : Int) (H : PH) (ih12 : ∀ (v5 : Int) (HV : PH), self12 v5 HV = some (rr, HH) → PW E 12 [some (vr p0), some (vi p1), some (vr p2), some (vr p3), some (vi p4), some (vi v5), none, none] [] HV) (h : jX8_areLikeIn_89 self12 p0 p1 p2 p3 p4 p5 H = some (rr, HH)) : PW E 89 [some (vr p0), some (vi p1), some (vr p2), some (vr p3), some (vi p4), some (vi p5), none, none] [] H := by
  unfold jX8_areLikeIn_89 at h
  refine pw_iinc (pc := 89) F dX8_areLikeIn_89 rfl (lt_nl hn (by decide)) [some (vr p0), some (vi p1), some (vr p2), some (vr p3), some (vi p4), some (vi (w32 (p5 + 1))), none, none] rfl (by decide) ?_
  refine pw_goto (pc := 92) F 12 dX8_areLikeIn_92 (by decide) ?_
  exact pw_mask [true, true, true, true, true, true, true, true] (ls' := [some (vr p0), some (vi p1), some (vr p2), some (vr p3), some (vi p4), some (vi (w32 (p5 + 1))), none, none]) rfl (ih12 (w32 (p5 + 1)) H h)
def lX8_areLikeIn_59 (self12 : Int → PH → RO) (p0 p1 p2 p3 p4 p5 : Int) (self59 : Int → PH → RO) (p7 : Int) (H : PH) : RO :=
  (if p7 ≥ p4 then jX8_areLikeIn_89 self12 p0 p1 p2 p3 p4 p5 H
  else (f_X8_spot p5 p7 H).bind fun z1 => (f_X6_isLike p2 p3 z1.1 z1.2).bind fun z2 => (if z2.1 ≠ 0 then self59 (w32 (p7 + 1)) z2.2
  else some (0, z2.2)))
set_option maxHeartbeats 4000000 in
theorem lX8_areLikeIn_59_ok {E : PE} {rr : Int} {HH : PH} (F : FX E cX8_areLikeIn RX8) (q : QE E (some (vi rr)) HH (some .boolean)) (hn : nLof E = 8) (hf : (roomOf E).frames = 2) (hl : (roomOf E).locals = 42) (self12 : Int → PH → RO) (p0 p1 p2 p3 p4 p5 : Int) (ih12 : ∀ (v5 : Int) (HV : PH), self12 v5 HV = some (rr, HH) → PW E 12 [some (vr p0), some (vi p1), some (vr p2), some (vr p3), some (vi p4), some (vi v5), none, none] [] HV) : ∀ (n : Nat) (p7 : Int) (H : PH), lq1 (lX8_areLikeIn_59 self12 p0 p1 p2 p3 p4 p5) n p7 H = some (rr, HH) → PW E 59 [some (vr p0), some (vi p1), some (vr p2), some (vr p3), some (vi p4), some (vi p5), none, some (vi p7)] [] H := by
  refine lq1_ind (P := fun p7 H => PW E 59 [some (vr p0), some (vi p1), some (vr p2), some (vr p3), some (vi p4), some (vi p5), none, some (vi p7)] [] H) ?_
  intro self59 ih59 p7 H h
  unfold lX8_areLikeIn_59 at h
  refine pw_iload (pc := 59) F dX8_areLikeIn_59 rfl ?_
  refine pw_iload (pc := 61) F dX8_areLikeIn_61 rfl ?_
  refine pw_icmp_ge (pc := 63) F 89 dX8_areLikeIn_63 (by decide) (fun hc => ?_) (fun hc => ?_)
  · have h := iteT hc h
    exact pw_mask [true, true, true, true, true, true, true, false] (ls' := [some (vr p0), some (vi p1), some (vr p2), some (vr p3), some (vi p4), some (vi p5), none, none]) rfl (jX8_areLikeIn_89_ok F q hn hf hl self12 p0 p1 p2 p3 p4 p5 H ih12 h)
  · have h := iteF hc h
    refine pw_aload_n (pc := 66) F dX8_areLikeIn_66 rfl ?_
    refine pw_aload_n (pc := 67) F dX8_areLikeIn_67 rfl ?_
    refine pw_iload (pc := 68) F dX8_areLikeIn_68 rfl ?_
    refine pw_iload (pc := 70) F dX8_areLikeIn_70 rfl ?_
    obtain ⟨z1, ez1, h⟩ := bnd h
    refine pw_callS (pc := 72) (as := [vi p5, vi p7]) (st := [vr p3, vr p2]) (r := (some (vi z1.1))) F 130 (fun l => m_X8_spot l p5 p7 H z1.1 z1.2 ez1) g_3d0f1a9b86 g_aa0997f699 g_99e03e18e2 g_0d0469f624 hd_X8_spot (rm_ok hf hl (by decide) (by decide)) rfl dX8_areLikeIn_72 rfl (stk' := [vi z1.1, vr p3, vr p2]) rfl ?_
    obtain ⟨z2, ez2, h⟩ := bnd h
    refine pw_callV (pc := 75) (as := [vr p3, vi z1.1]) (st := []) (r := (some (vi z2.1))) F 327 6 (by decide) rfl (fun l => m_X6_isLike l p2 p3 z1.1 z1.2 z2.1 z2.2 ez2) g_f02cab396d g_99b49d63a4 g_e1eae53a3d g_6d91b6d2eb g_f10e83a0e2 hd_X6_isLike (rm_ok hf hl (by decide) (by decide)) rfl (vm_spec ez2).1 dX8_areLikeIn_75 rfl (stk' := [vi z2.1]) rfl ?_
    refine pw_if_ne (pc := 78) F 83 dX8_areLikeIn_78 (by decide) (fun hc => ?_) (fun hc => ?_)
    · have h := iteT hc h
      refine pw_iinc (pc := 83) F dX8_areLikeIn_83 rfl (lt_nl hn (by decide)) [some (vr p0), some (vi p1), some (vr p2), some (vr p3), some (vi p4), some (vi p5), none, some (vi (w32 (p7 + 1)))] rfl (by decide) ?_
      refine pw_goto (pc := 86) F 59 dX8_areLikeIn_86 (by decide) ?_
      exact pw_mask [true, true, true, true, true, true, true, true] (ls' := [some (vr p0), some (vi p1), some (vr p2), some (vr p3), some (vi p4), some (vi p5), none, some (vi (w32 (p7 + 1)))]) rfl (ih59 (w32 (p7 + 1)) z2.2 h)
    · have h := iteF hc h
      refine pw_iconst (pc := 81) F 0 dX8_areLikeIn_81 (by decide) ?_
      cases h
      exact pw_zret (pc := 82) F q (by decide) dX8_areLikeIn_82
def lX8_areLikeIn_12 (p0 p1 p2 p3 p4 : Int) (self12 : Int → PH → RO) (p5 : Int) (H : PH) : RO :=
  (ld 24 H p0 0).bind fun x1 => (ld 19 H x1 1).bind fun x2 => (if p5 ≥ x2 then some (1, H)
  else (ld 24 H p0 0).bind fun x3 => (ld 19 H x3 0).bind fun x4 => (ld 6 H x4 p5).bind fun x5 => (ld 21 H x5 1).bind fun x6 => (if x6 ≠ p1 then jX8_areLikeIn_89 self12 p0 p1 p2 p3 p4 p5 H
  else (ld 21 H x5 2).bind fun x7 => (if x7 = 0 then lq1 (lX8_areLikeIn_59 self12 p0 p1 p2 p3 p4 p5) 6000 0 H
  else jX8_areLikeIn_89 self12 p0 p1 p2 p3 p4 p5 H)))
set_option maxHeartbeats 4000000 in
theorem lX8_areLikeIn_12_ok {E : PE} {rr : Int} {HH : PH} (F : FX E cX8_areLikeIn RX8) (q : QE E (some (vi rr)) HH (some .boolean)) (hn : nLof E = 8) (hf : (roomOf E).frames = 2) (hl : (roomOf E).locals = 42) (p0 p1 p2 p3 p4 : Int) : ∀ (n : Nat) (p5 : Int) (H : PH), lq1 (lX8_areLikeIn_12 p0 p1 p2 p3 p4) n p5 H = some (rr, HH) → PW E 12 [some (vr p0), some (vi p1), some (vr p2), some (vr p3), some (vi p4), some (vi p5), none, none] [] H := by
  refine lq1_ind (P := fun p5 H => PW E 12 [some (vr p0), some (vi p1), some (vr p2), some (vr p3), some (vi p4), some (vi p5), none, none] [] H) ?_
  intro self12 ih12 p5 H h
  unfold lX8_areLikeIn_12 at h
  refine pw_iload (pc := 12) F dX8_areLikeIn_12 rfl ?_
  refine pw_aload_n (pc := 14) F dX8_areLikeIn_14 rfl ?_
  obtain ⟨x1, ex1, h⟩ := bnd h
  refine pw_get (pc := 15) F 8 0 12 (by decide) (by decide) g_955d9610dc inl_8 2 rfl dX8_areLikeIn_15 ex1 ?_
  obtain ⟨x2, ex2, h⟩ := bnd h
  refine pw_get (pc := 18) F 3 1 141 (by decide) (by decide) g_4a788c66ef inl_3 0 rfl dX8_areLikeIn_18 ex2 ?_
  refine pw_icmp_ge (pc := 21) F 95 dX8_areLikeIn_21 (by decide) (fun hc => ?_) (fun hc => ?_)
  · have h := iteT hc h
    refine pw_iconst (pc := 95) F 1 dX8_areLikeIn_95 (by decide) ?_
    cases h
    exact pw_zret (pc := 96) F q (by decide) dX8_areLikeIn_96
  · have h := iteF hc h
    refine pw_aload_n (pc := 24) F dX8_areLikeIn_24 rfl ?_
    obtain ⟨x3, ex3, h⟩ := bnd h
    refine pw_get (pc := 25) F 8 0 12 (by decide) (by decide) g_955d9610dc inl_8 2 rfl dX8_areLikeIn_25 ex3 ?_
    obtain ⟨x4, ex4, h⟩ := bnd h
    refine pw_get (pc := 28) F 3 0 144 (by decide) (by decide) g_78df9fc092 inl_3 2 rfl dX8_areLikeIn_28 ex4 ?_
    refine pw_iload (pc := 31) F dX8_areLikeIn_31 rfl ?_
    obtain ⟨x5, ex5, h⟩ := bnd h
    refine pw_aald (pc := 33) F 6 (by decide) dX8_areLikeIn_33 ex5 ?_
    refine pw_astore (pc := 34) F dX8_areLikeIn_34 (lt_nl hn (by decide)) [some (vr p0), some (vi p1), some (vr p2), some (vr p3), some (vi p4), some (vi p5), some (vr x5), none] rfl ?_
    refine pw_aload (pc := 36) F dX8_areLikeIn_36 rfl ?_
    obtain ⟨x6, ex6, h⟩ := bnd h
    refine pw_get (pc := 38) F 5 1 88 (by decide) (by decide) g_3644918d03 inl_5 0 rfl dX8_areLikeIn_38 ex6 ?_
    refine pw_iload_n (pc := 41) F dX8_areLikeIn_41 rfl ?_
    refine pw_icmp_ne (pc := 42) F 89 dX8_areLikeIn_42 (by decide) (fun hc => ?_) (fun hc => ?_)
    · have h := iteT hc h
      exact pw_mask [true, true, true, true, true, true, false, true] (ls' := [some (vr p0), some (vi p1), some (vr p2), some (vr p3), some (vi p4), some (vi p5), none, none]) rfl (jX8_areLikeIn_89_ok F q hn hf hl self12 p0 p1 p2 p3 p4 p5 H ih12 h)
    · have h := iteF hc h
      refine pw_aload (pc := 45) F dX8_areLikeIn_45 rfl ?_
      obtain ⟨x7, ex7, h⟩ := bnd h
      refine pw_get (pc := 47) F 5 2 75 (by decide) (by decide) g_3884a6eb9d inl_5 0 rfl dX8_areLikeIn_47 ex7 ?_
      refine pw_if_eq (pc := 50) F 56 dX8_areLikeIn_50 (by decide) (fun hc => ?_) (fun hc => ?_)
      · have h := iteT hc h
        refine pw_iconst (pc := 56) F 0 dX8_areLikeIn_56 (by decide) ?_
        refine pw_istore (pc := 57) F dX8_areLikeIn_57 (lt_nl hn (by decide)) [some (vr p0), some (vi p1), some (vr p2), some (vr p3), some (vi p4), some (vi p5), some (vr x5), some (vi 0)] rfl ?_
        exact pw_mask [true, true, true, true, true, true, false, true] (ls' := [some (vr p0), some (vi p1), some (vr p2), some (vr p3), some (vi p4), some (vi p5), none, some (vi 0)]) rfl (lX8_areLikeIn_59_ok F q hn hf hl self12 p0 p1 p2 p3 p4 p5 ih12  6000 0 H h)
      · have h := iteF hc h
        refine pw_goto (pc := 53) F 89 dX8_areLikeIn_53 (by decide) ?_
        exact pw_mask [true, true, true, true, true, true, false, true] (ls' := [some (vr p0), some (vi p1), some (vr p2), some (vr p3), some (vi p4), some (vi p5), none, none]) rfl (jX8_areLikeIn_89_ok F q hn hf hl self12 p0 p1 p2 p3 p4 p5 H ih12 h)
def f_X8_areLikeIn (a0 a1 a2 a3 : Int) (H : PH) : RO := vm 8 a0 H <|
  (f_X6_persons a2 a1 H).bind fun z1 => lq1 (lX8_areLikeIn_12 a0 a1 a2 a3 z1.1) 6000 (w32 (a1 + 1)) z1.2
set_option maxHeartbeats 4000000 in
theorem m_X8_areLikeIn (l : Launch) (a0 a1 a2 a3 : Int) (H : PH) (rr : Int) (HH : PH) (h : f_X8_areLikeIn a0 a1 a2 a3 H = some (rr, HH)) : CT l yX8_areLikeIn cX8_areLikeIn 8 (some .boolean) 2 42 [vr a0, vi a1, vr a2, vr a3] H (some (vi rr)) HH := by
  refine CT.of RX8 (by decide) rfl [some (vr a0), some (vi a1), some (vr a2), some (vr a3), none, none, none, none] rfl rfl ?_
  intro E F q hn hf hl hm
  unfold f_X8_areLikeIn at h
  obtain ⟨hv, h⟩ := vm_spec h
  refine pw_aload_n (pc := 0) F dX8_areLikeIn_0 rfl ?_
  refine pw_iload_n (pc := 1) F dX8_areLikeIn_1 rfl ?_
  obtain ⟨z1, ez1, h⟩ := bnd h
  refine pw_callV (pc := 2) (as := [vi a1]) (st := []) (r := (some (vi z1.1))) F 183 6 (by decide) rfl (fun l => m_X6_persons l a2 a1 H z1.1 z1.2 ez1) g_da7a44ffd1 g_57e4f7bfca g_eafb5ccad4 g_6d91b6d2eb g_7de7b516aa hd_X6_persons (rm_ok hf hl (by decide) (by decide)) rfl (vm_spec ez1).1 dX8_areLikeIn_2 rfl (stk' := [vi z1.1]) rfl ?_
  refine pw_istore (pc := 5) F dX8_areLikeIn_5 (lt_nl hn (by decide)) [some (vr a0), some (vi a1), some (vr a2), some (vr a3), some (vi z1.1), none, none, none] rfl ?_
  refine pw_iload_n (pc := 7) F dX8_areLikeIn_7 rfl ?_
  refine pw_iconst (pc := 8) F 1 dX8_areLikeIn_8 (by decide) ?_
  refine pw_iadd (pc := 9) F dX8_areLikeIn_9 ?_
  refine pw_istore (pc := 10) F dX8_areLikeIn_10 (lt_nl hn (by decide)) [some (vr a0), some (vi a1), some (vr a2), some (vr a3), some (vi z1.1), some (vi (w32 (a1 + 1))), none, none] rfl ?_
  exact pw_mask [true, true, true, true, true, true, true, true] (ls' := [some (vr a0), some (vi a1), some (vr a2), some (vr a3), some (vi z1.1), some (vi (w32 (a1 + 1))), none, none]) rfl (lX8_areLikeIn_12_ok F q hn hf hl a0 a1 a2 a3 z1.1  6000 (w32 (a1 + 1)) z1.2 h)
/-! HouseholdVault.areDoubles(LHouseholdVault$Sheet;LHouseholdVault$Sheet;)Z -/
theorem dX8_areDoubles_0 : decode cX8_areDoubles 0 = .ok (.iconst 0, 1) := by decide +kernel
theorem dX8_areDoubles_1 : decode cX8_areDoubles 1 = .ok (.istore_n 3, 1) := by decide +kernel
theorem dX8_areDoubles_2 : decode cX8_areDoubles 2 = .ok (.iload_n 3, 1) := by decide +kernel
theorem dX8_areDoubles_3 : decode cX8_areDoubles 3 = .ok (.aload_n 0, 1) := by decide +kernel
theorem dX8_areDoubles_4 : decode cX8_areDoubles 4 = .ok (.getfield 12, 3) := by decide +kernel
theorem dX8_areDoubles_7 : decode cX8_areDoubles 7 = .ok (.getfield 141, 3) := by decide +kernel
theorem dX8_areDoubles_10 : decode cX8_areDoubles 10 = .ok (.if_icmp .ge 67, 3) := by decide +kernel
theorem dX8_areDoubles_13 : decode cX8_areDoubles 13 = .ok (.aload_n 0, 1) := by decide +kernel
theorem dX8_areDoubles_14 : decode cX8_areDoubles 14 = .ok (.getfield 12, 3) := by decide +kernel
theorem dX8_areDoubles_17 : decode cX8_areDoubles 17 = .ok (.getfield 144, 3) := by decide +kernel
theorem dX8_areDoubles_20 : decode cX8_areDoubles 20 = .ok (.iload_n 3, 1) := by decide +kernel
theorem dX8_areDoubles_21 : decode cX8_areDoubles 21 = .ok (.aaload, 1) := by decide +kernel
theorem dX8_areDoubles_22 : decode cX8_areDoubles 22 = .ok (.astore 4, 2) := by decide +kernel
theorem dX8_areDoubles_24 : decode cX8_areDoubles 24 = .ok (.aload 4, 2) := by decide +kernel
theorem dX8_areDoubles_26 : decode cX8_areDoubles 26 = .ok (.getfield 119, 3) := by decide +kernel
theorem dX8_areDoubles_29 : decode cX8_areDoubles 29 = .ok (.ifCond .ne 6, 3) := by decide +kernel
theorem dX8_areDoubles_32 : decode cX8_areDoubles 32 = .ok (.goto 39, 3) := by decide +kernel
theorem dX8_areDoubles_35 : decode cX8_areDoubles 35 = .ok (.aload_n 1, 1) := by decide +kernel
theorem dX8_areDoubles_36 : decode cX8_areDoubles 36 = .ok (.aload_n 2, 1) := by decide +kernel
theorem dX8_areDoubles_37 : decode cX8_areDoubles 37 = .ok (.iload_n 3, 1) := by decide +kernel
theorem dX8_areDoubles_38 : decode cX8_areDoubles 38 = .ok (.iconst (-1), 1) := by decide +kernel
theorem dX8_areDoubles_39 : decode cX8_areDoubles 39 = .ok (.invokestatic 130, 3) := by decide +kernel
theorem dX8_areDoubles_42 : decode cX8_areDoubles 42 = .ok (.invokevirtual 327, 3) := by decide +kernel
theorem dX8_areDoubles_45 : decode cX8_areDoubles 45 = .ok (.ifCond .ne 5, 3) := by decide +kernel
theorem dX8_areDoubles_48 : decode cX8_areDoubles 48 = .ok (.iconst 0, 1) := by decide +kernel
theorem dX8_areDoubles_49 : decode cX8_areDoubles 49 = .ok (.ireturn, 1) := by decide +kernel
theorem dX8_areDoubles_50 : decode cX8_areDoubles 50 = .ok (.aload 4, 2) := by decide +kernel
theorem dX8_areDoubles_52 : decode cX8_areDoubles 52 = .ok (.getfield 50, 3) := by decide +kernel
theorem dX8_areDoubles_55 : decode cX8_areDoubles 55 = .ok (.iconst 5, 1) := by decide +kernel
theorem dX8_areDoubles_56 : decode cX8_areDoubles 56 = .ok (.if_icmp .ne 15, 3) := by decide +kernel
theorem dX8_areDoubles_59 : decode cX8_areDoubles 59 = .ok (.aload_n 0, 1) := by decide +kernel
theorem dX8_areDoubles_60 : decode cX8_areDoubles 60 = .ok (.iload_n 3, 1) := by decide +kernel
theorem dX8_areDoubles_61 : decode cX8_areDoubles 61 = .ok (.aload_n 1, 1) := by decide +kernel
theorem dX8_areDoubles_62 : decode cX8_areDoubles 62 = .ok (.aload_n 2, 1) := by decide +kernel
theorem dX8_areDoubles_63 : decode cX8_areDoubles 63 = .ok (.invokevirtual 331, 3) := by decide +kernel
theorem dX8_areDoubles_66 : decode cX8_areDoubles 66 = .ok (.ifCond .ne 5, 3) := by decide +kernel
theorem dX8_areDoubles_69 : decode cX8_areDoubles 69 = .ok (.iconst 0, 1) := by decide +kernel
theorem dX8_areDoubles_70 : decode cX8_areDoubles 70 = .ok (.ireturn, 1) := by decide +kernel
theorem dX8_areDoubles_71 : decode cX8_areDoubles 71 = .ok (.iinc 3 1, 3) := by decide +kernel
theorem dX8_areDoubles_74 : decode cX8_areDoubles 74 = .ok (.goto (-72), 3) := by decide +kernel
theorem dX8_areDoubles_77 : decode cX8_areDoubles 77 = .ok (.iconst 1, 1) := by decide +kernel
theorem dX8_areDoubles_78 : decode cX8_areDoubles 78 = .ok (.ireturn, 1) := by decide +kernel
def jX8_areDoubles_71 (self2 : Int → PH → RO) (p0 p1 p2 p3 : Int) (H : PH) : RO :=
  self2 (w32 (p3 + 1)) H
set_option maxHeartbeats 4000000 in
theorem jX8_areDoubles_71_ok {E : PE} {rr : Int} {HH : PH} (F : FX E cX8_areDoubles RX8) (q : QE E (some (vi rr)) HH (some .boolean)) (hn : nLof E = 5) (hf : (roomOf E).frames = 3) (hl : (roomOf E).locals = 69) (self2 : Int → PH → RO) (p0 p1 p2 p3 : Int) (H : PH) (ih2 : ∀ (v3 : Int) (HV : PH), self2 v3 HV = some (rr, HH) → PW E 2 [some (vr p0), some (vr p1), some (vr p2), some (vi v3), none] [] HV) (h : jX8_areDoubles_71 self2 p0 p1 p2 p3 H = some (rr, HH)) : PW E 71 [some (vr p0), some (vr p1), some (vr p2), some (vi p3), none] [] H := by
  unfold jX8_areDoubles_71 at h
  refine pw_iinc (pc := 71) F dX8_areDoubles_71 rfl (lt_nl hn (by decide)) [some (vr p0), some (vr p1), some (vr p2), some (vi (w32 (p3 + 1))), none] rfl (by decide) ?_
  refine pw_goto (pc := 74) F 2 dX8_areDoubles_74 (by decide) ?_
  exact pw_mask [true, true, true, true, true] (ls' := [some (vr p0), some (vr p1), some (vr p2), some (vi (w32 (p3 + 1))), none]) rfl (ih2 (w32 (p3 + 1)) H h)
def lX8_areDoubles_2 (p0 p1 p2 : Int) (self2 : Int → PH → RO) (p3 : Int) (H : PH) : RO :=
  (ld 24 H p0 0).bind fun x1 => (ld 19 H x1 1).bind fun x2 => (if p3 ≥ x2 then some (1, H)
  else (ld 24 H p0 0).bind fun x3 => (ld 19 H x3 0).bind fun x4 => (ld 6 H x4 p3).bind fun x5 => (ld 21 H x5 11).bind fun x6 => (if x6 ≠ 0 then (f_X8_spot p3 (-1) H).bind fun z7 => (f_X6_isLike p1 p2 z7.1 z7.2).bind fun z8 => (if z8.1 ≠ 0 then (ld 21 z8.2 x5 0).bind fun x9 => (if x9 ≠ 5 then jX8_areDoubles_71 self2 p0 p1 p2 p3 z8.2
  else (f_X8_areLikeIn p0 p3 p1 p2 z8.2).bind fun z10 => (if z10.1 ≠ 0 then jX8_areDoubles_71 self2 p0 p1 p2 p3 z10.2
  else some (0, z10.2)))
  else some (0, z8.2))
  else jX8_areDoubles_71 self2 p0 p1 p2 p3 H))
set_option maxHeartbeats 4000000 in
theorem lX8_areDoubles_2_ok {E : PE} {rr : Int} {HH : PH} (F : FX E cX8_areDoubles RX8) (q : QE E (some (vi rr)) HH (some .boolean)) (hn : nLof E = 5) (hf : (roomOf E).frames = 3) (hl : (roomOf E).locals = 69) (p0 p1 p2 : Int) : ∀ (n : Nat) (p3 : Int) (H : PH), lq1 (lX8_areDoubles_2 p0 p1 p2) n p3 H = some (rr, HH) → PW E 2 [some (vr p0), some (vr p1), some (vr p2), some (vi p3), none] [] H := by
  refine lq1_ind (P := fun p3 H => PW E 2 [some (vr p0), some (vr p1), some (vr p2), some (vi p3), none] [] H) ?_
  intro self2 ih2 p3 H h
  unfold lX8_areDoubles_2 at h
  refine pw_iload_n (pc := 2) F dX8_areDoubles_2 rfl ?_
  refine pw_aload_n (pc := 3) F dX8_areDoubles_3 rfl ?_
  obtain ⟨x1, ex1, h⟩ := bnd h
  refine pw_get (pc := 4) F 8 0 12 (by decide) (by decide) g_955d9610dc inl_8 2 rfl dX8_areDoubles_4 ex1 ?_
  obtain ⟨x2, ex2, h⟩ := bnd h
  refine pw_get (pc := 7) F 3 1 141 (by decide) (by decide) g_4a788c66ef inl_3 0 rfl dX8_areDoubles_7 ex2 ?_
  refine pw_icmp_ge (pc := 10) F 77 dX8_areDoubles_10 (by decide) (fun hc => ?_) (fun hc => ?_)
  · have h := iteT hc h
    refine pw_iconst (pc := 77) F 1 dX8_areDoubles_77 (by decide) ?_
    cases h
    exact pw_zret (pc := 78) F q (by decide) dX8_areDoubles_78
  · have h := iteF hc h
    refine pw_aload_n (pc := 13) F dX8_areDoubles_13 rfl ?_
    obtain ⟨x3, ex3, h⟩ := bnd h
    refine pw_get (pc := 14) F 8 0 12 (by decide) (by decide) g_955d9610dc inl_8 2 rfl dX8_areDoubles_14 ex3 ?_
    obtain ⟨x4, ex4, h⟩ := bnd h
    refine pw_get (pc := 17) F 3 0 144 (by decide) (by decide) g_78df9fc092 inl_3 2 rfl dX8_areDoubles_17 ex4 ?_
    refine pw_iload_n (pc := 20) F dX8_areDoubles_20 rfl ?_
    obtain ⟨x5, ex5, h⟩ := bnd h
    refine pw_aald (pc := 21) F 6 (by decide) dX8_areDoubles_21 ex5 ?_
    refine pw_astore (pc := 22) F dX8_areDoubles_22 (lt_nl hn (by decide)) [some (vr p0), some (vr p1), some (vr p2), some (vi p3), some (vr x5)] rfl ?_
    refine pw_aload (pc := 24) F dX8_areDoubles_24 rfl ?_
    obtain ⟨x6, ex6, h⟩ := bnd h
    refine pw_get (pc := 26) F 5 11 119 (by decide) (by decide) g_5d7d6be57f inl_5 0 rfl dX8_areDoubles_26 ex6 ?_
    refine pw_if_ne (pc := 29) F 35 dX8_areDoubles_29 (by decide) (fun hc => ?_) (fun hc => ?_)
    · have h := iteT hc h
      refine pw_aload_n (pc := 35) F dX8_areDoubles_35 rfl ?_
      refine pw_aload_n (pc := 36) F dX8_areDoubles_36 rfl ?_
      refine pw_iload_n (pc := 37) F dX8_areDoubles_37 rfl ?_
      refine pw_iconst (pc := 38) F (-1) dX8_areDoubles_38 (by decide) ?_
      obtain ⟨z7, ez7, h⟩ := bnd h
      refine pw_callS (pc := 39) (as := [vi p3, vi (-1)]) (st := [vr p2, vr p1]) (r := (some (vi z7.1))) F 130 (fun l => m_X8_spot l p3 (-1) H z7.1 z7.2 ez7) g_3d0f1a9b86 g_aa0997f699 g_99e03e18e2 g_0d0469f624 hd_X8_spot (rm_ok hf hl (by decide) (by decide)) rfl dX8_areDoubles_39 rfl (stk' := [vi z7.1, vr p2, vr p1]) rfl ?_
      obtain ⟨z8, ez8, h⟩ := bnd h
      refine pw_callV (pc := 42) (as := [vr p2, vi z7.1]) (st := []) (r := (some (vi z8.1))) F 327 6 (by decide) rfl (fun l => m_X6_isLike l p1 p2 z7.1 z7.2 z8.1 z8.2 ez8) g_f02cab396d g_99b49d63a4 g_e1eae53a3d g_6d91b6d2eb g_f10e83a0e2 hd_X6_isLike (rm_ok hf hl (by decide) (by decide)) rfl (vm_spec ez8).1 dX8_areDoubles_42 rfl (stk' := [vi z8.1]) rfl ?_
      refine pw_if_ne (pc := 45) F 50 dX8_areDoubles_45 (by decide) (fun hc => ?_) (fun hc => ?_)
      · have h := iteT hc h
        refine pw_aload (pc := 50) F dX8_areDoubles_50 rfl ?_
        obtain ⟨x9, ex9, h⟩ := bnd h
        refine pw_get (pc := 52) F 5 0 50 (by decide) (by decide) g_89512a4092 inl_5 0 rfl dX8_areDoubles_52 ex9 ?_
        refine pw_iconst (pc := 55) F 5 dX8_areDoubles_55 (by decide) ?_
        refine pw_icmp_ne (pc := 56) F 71 dX8_areDoubles_56 (by decide) (fun hc => ?_) (fun hc => ?_)
        · have h := iteT hc h
          exact pw_mask [true, true, true, true, false] (ls' := [some (vr p0), some (vr p1), some (vr p2), some (vi p3), none]) rfl (jX8_areDoubles_71_ok F q hn hf hl self2 p0 p1 p2 p3 z8.2 ih2 h)
        · have h := iteF hc h
          refine pw_aload_n (pc := 59) F dX8_areDoubles_59 rfl ?_
          refine pw_iload_n (pc := 60) F dX8_areDoubles_60 rfl ?_
          refine pw_aload_n (pc := 61) F dX8_areDoubles_61 rfl ?_
          refine pw_aload_n (pc := 62) F dX8_areDoubles_62 rfl ?_
          obtain ⟨z10, ez10, h⟩ := bnd h
          refine pw_callV (pc := 63) (as := [vi p3, vr p1, vr p2]) (st := []) (r := (some (vi z10.1))) F 331 8 (by decide) rfl (fun l => m_X8_areLikeIn l p0 p3 p1 p2 z8.2 z10.1 z10.2 ez10) g_5c84d6cada g_867f725346 g_378e6b9d85 g_99e03e18e2 g_a7dea15af1 hd_X8_areLikeIn (rm_ok hf hl (by decide) (by decide)) rfl (vm_spec ez10).1 dX8_areDoubles_63 rfl (stk' := [vi z10.1]) rfl ?_
          refine pw_if_ne (pc := 66) F 71 dX8_areDoubles_66 (by decide) (fun hc => ?_) (fun hc => ?_)
          · have h := iteT hc h
            exact pw_mask [true, true, true, true, false] (ls' := [some (vr p0), some (vr p1), some (vr p2), some (vi p3), none]) rfl (jX8_areDoubles_71_ok F q hn hf hl self2 p0 p1 p2 p3 z10.2 ih2 h)
          · have h := iteF hc h
            refine pw_iconst (pc := 69) F 0 dX8_areDoubles_69 (by decide) ?_
            cases h
            exact pw_zret (pc := 70) F q (by decide) dX8_areDoubles_70
      · have h := iteF hc h
        refine pw_iconst (pc := 48) F 0 dX8_areDoubles_48 (by decide) ?_
        cases h
        exact pw_zret (pc := 49) F q (by decide) dX8_areDoubles_49
    · have h := iteF hc h
      refine pw_goto (pc := 32) F 71 dX8_areDoubles_32 (by decide) ?_
      exact pw_mask [true, true, true, true, false] (ls' := [some (vr p0), some (vr p1), some (vr p2), some (vi p3), none]) rfl (jX8_areDoubles_71_ok F q hn hf hl self2 p0 p1 p2 p3 H ih2 h)
def f_X8_areDoubles (a0 a1 a2 : Int) (H : PH) : RO := vm 8 a0 H <|
  lq1 (lX8_areDoubles_2 a0 a1 a2) 6000 0 H
set_option maxHeartbeats 4000000 in
theorem m_X8_areDoubles (l : Launch) (a0 a1 a2 : Int) (H : PH) (rr : Int) (HH : PH) (h : f_X8_areDoubles a0 a1 a2 H = some (rr, HH)) : CT l yX8_areDoubles cX8_areDoubles 5 (some .boolean) 3 69 [vr a0, vr a1, vr a2] H (some (vi rr)) HH := by
  refine CT.of RX8 (by decide) rfl [some (vr a0), some (vr a1), some (vr a2), none, none] rfl rfl ?_
  intro E F q hn hf hl hm
  unfold f_X8_areDoubles at h
  obtain ⟨hv, h⟩ := vm_spec h
  refine pw_iconst (pc := 0) F 0 dX8_areDoubles_0 (by decide) ?_
  refine pw_istore_n (pc := 1) F dX8_areDoubles_1 (lt_nl hn (by decide)) [some (vr a0), some (vr a1), some (vr a2), some (vi 0), none] rfl ?_
  exact pw_mask [true, true, true, true, true] (ls' := [some (vr a0), some (vr a1), some (vr a2), some (vi 0), none]) rfl (lX8_areDoubles_2_ok F q hn hf hl a0 a1 a2  6000 0 H h)
/-! HouseholdVault.findDoubles(I)V -/
theorem dX8_findDoubles_0 : decode cX8_findDoubles 0 = .ok (.aload_n 0, 1) := by decide +kernel
theorem dX8_findDoubles_1 : decode cX8_findDoubles 1 = .ok (.getfield 38, 3) := by decide +kernel
theorem dX8_findDoubles_4 : decode cX8_findDoubles 4 = .ok (.iload_n 1, 1) := by decide +kernel
theorem dX8_findDoubles_5 : decode cX8_findDoubles 5 = .ok (.invokevirtual 224, 3) := by decide +kernel
theorem dX8_findDoubles_8 : decode cX8_findDoubles 8 = .ok (.aload_n 0, 1) := by decide +kernel
theorem dX8_findDoubles_9 : decode cX8_findDoubles 9 = .ok (.getfield 12, 3) := by decide +kernel
theorem dX8_findDoubles_12 : decode cX8_findDoubles 12 = .ok (.invokevirtual 320, 3) := by decide +kernel
theorem dX8_findDoubles_15 : decode cX8_findDoubles 15 = .ok (.ifCond .ne 4, 3) := by decide +kernel
theorem dX8_findDoubles_18 : decode cX8_findDoubles 18 = .ok (.return_, 1) := by decide +kernel
theorem dX8_findDoubles_19 : decode cX8_findDoubles 19 = .ok (.iconst 0, 1) := by decide +kernel
theorem dX8_findDoubles_20 : decode cX8_findDoubles 20 = .ok (.istore_n 2, 1) := by decide +kernel
theorem dX8_findDoubles_21 : decode cX8_findDoubles 21 = .ok (.iload_n 2, 1) := by decide +kernel
theorem dX8_findDoubles_22 : decode cX8_findDoubles 22 = .ok (.aload_n 0, 1) := by decide +kernel
theorem dX8_findDoubles_23 : decode cX8_findDoubles 23 = .ok (.getfield 98, 3) := by decide +kernel
theorem dX8_findDoubles_26 : decode cX8_findDoubles 26 = .ok (.if_icmp .ge 62, 3) := by decide +kernel
theorem dX8_findDoubles_29 : decode cX8_findDoubles 29 = .ok (.iload_n 2, 1) := by decide +kernel
theorem dX8_findDoubles_30 : decode cX8_findDoubles 30 = .ok (.iconst 1, 1) := by decide +kernel
theorem dX8_findDoubles_31 : decode cX8_findDoubles 31 = .ok (.iadd, 1) := by decide +kernel
theorem dX8_findDoubles_32 : decode cX8_findDoubles 32 = .ok (.istore_n 3, 1) := by decide +kernel
theorem dX8_findDoubles_33 : decode cX8_findDoubles 33 = .ok (.iload_n 3, 1) := by decide +kernel
theorem dX8_findDoubles_34 : decode cX8_findDoubles 34 = .ok (.aload_n 0, 1) := by decide +kernel
theorem dX8_findDoubles_35 : decode cX8_findDoubles 35 = .ok (.getfield 98, 3) := by decide +kernel
theorem dX8_findDoubles_38 : decode cX8_findDoubles 38 = .ok (.if_icmp .ge 44, 3) := by decide +kernel
theorem dX8_findDoubles_41 : decode cX8_findDoubles 41 = .ok (.aload_n 0, 1) := by decide +kernel
theorem dX8_findDoubles_42 : decode cX8_findDoubles 42 = .ok (.aload_n 0, 1) := by decide +kernel
theorem dX8_findDoubles_43 : decode cX8_findDoubles 43 = .ok (.getfield 18, 3) := by decide +kernel
theorem dX8_findDoubles_46 : decode cX8_findDoubles 46 = .ok (.iload_n 2, 1) := by decide +kernel
theorem dX8_findDoubles_47 : decode cX8_findDoubles 47 = .ok (.aaload, 1) := by decide +kernel
theorem dX8_findDoubles_48 : decode cX8_findDoubles 48 = .ok (.getfield 126, 3) := by decide +kernel
theorem dX8_findDoubles_51 : decode cX8_findDoubles 51 = .ok (.aload_n 0, 1) := by decide +kernel
theorem dX8_findDoubles_52 : decode cX8_findDoubles 52 = .ok (.getfield 18, 3) := by decide +kernel
theorem dX8_findDoubles_55 : decode cX8_findDoubles 55 = .ok (.iload_n 3, 1) := by decide +kernel
theorem dX8_findDoubles_56 : decode cX8_findDoubles 56 = .ok (.aaload, 1) := by decide +kernel
theorem dX8_findDoubles_57 : decode cX8_findDoubles 57 = .ok (.getfield 126, 3) := by decide +kernel
theorem dX8_findDoubles_60 : decode cX8_findDoubles 60 = .ok (.invokevirtual 323, 3) := by decide +kernel
theorem dX8_findDoubles_63 : decode cX8_findDoubles 63 = .ok (.ifCond .eq 13, 3) := by decide +kernel
theorem dX8_findDoubles_66 : decode cX8_findDoubles 66 = .ok (.aload_n 0, 1) := by decide +kernel
theorem dX8_findDoubles_67 : decode cX8_findDoubles 67 = .ok (.getfield 38, 3) := by decide +kernel
theorem dX8_findDoubles_70 : decode cX8_findDoubles 70 = .ok (.iload_n 2, 1) := by decide +kernel
theorem dX8_findDoubles_71 : decode cX8_findDoubles 71 = .ok (.iload_n 3, 1) := by decide +kernel
theorem dX8_findDoubles_72 : decode cX8_findDoubles 72 = .ok (.iconst (-1), 1) := by decide +kernel
theorem dX8_findDoubles_73 : decode cX8_findDoubles 73 = .ok (.invokevirtual 241, 3) := by decide +kernel
theorem dX8_findDoubles_76 : decode cX8_findDoubles 76 = .ok (.iinc 3 1, 3) := by decide +kernel
theorem dX8_findDoubles_79 : decode cX8_findDoubles 79 = .ok (.goto (-46), 3) := by decide +kernel
theorem dX8_findDoubles_82 : decode cX8_findDoubles 82 = .ok (.iinc 2 1, 3) := by decide +kernel
theorem dX8_findDoubles_85 : decode cX8_findDoubles 85 = .ok (.goto (-64), 3) := by decide +kernel
theorem dX8_findDoubles_88 : decode cX8_findDoubles 88 = .ok (.return_, 1) := by decide +kernel
def jX8_findDoubles_76 (self21 : Int → PH → RO) (self33 : Int → PH → RO) (p0 p2 p3 : Int) (H : PH) : RO :=
  self33 (w32 (p3 + 1)) H
set_option maxHeartbeats 4000000 in
theorem jX8_findDoubles_76_ok {E : PE} {rr : Int} {HH : PH} (F : FX E cX8_findDoubles RX8) (q : QE E none HH none) (hn : nLof E = 4) (hf : (roomOf E).frames = 4) (hl : (roomOf E).locals = 93) (self21 : Int → PH → RO) (self33 : Int → PH → RO) (p0 p2 p3 : Int) (H : PH) (ih21 : ∀ (v2 : Int) (HV : PH), self21 v2 HV = some (rr, HH) → PW E 21 [some (vr p0), none, some (vi v2), none] [] HV) (ih33 : ∀ (v3 : Int) (HV : PH), self33 v3 HV = some (rr, HH) → PW E 33 [some (vr p0), none, some (vi p2), some (vi v3)] [] HV) (h : jX8_findDoubles_76 self21 self33 p0 p2 p3 H = some (rr, HH)) : PW E 76 [some (vr p0), none, some (vi p2), some (vi p3)] [] H := by
  unfold jX8_findDoubles_76 at h
  refine pw_iinc (pc := 76) F dX8_findDoubles_76 rfl (lt_nl hn (by decide)) [some (vr p0), none, some (vi p2), some (vi (w32 (p3 + 1)))] rfl (by decide) ?_
  refine pw_goto (pc := 79) F 33 dX8_findDoubles_79 (by decide) ?_
  exact pw_mask [true, true, true, true] (ls' := [some (vr p0), none, some (vi p2), some (vi (w32 (p3 + 1)))]) rfl (ih33 (w32 (p3 + 1)) H h)
def lX8_findDoubles_33 (self21 : Int → PH → RO) (p0 p2 : Int) (self33 : Int → PH → RO) (p3 : Int) (H : PH) : RO :=
  (ld 24 H p0 2).bind fun x1 => (if p3 ≥ x1 then self21 (w32 (p2 + 1)) H
  else (ld 24 H p0 1).bind fun x2 => (ld 5 H x2 p2).bind fun x3 => (ld 20 H x3 0).bind fun x4 => (ld 24 H p0 1).bind fun x5 => (ld 5 H x5 p3).bind fun x6 => (ld 20 H x6 0).bind fun x7 => (f_X8_areDoubles p0 x4 x7 H).bind fun z8 => (if z8.1 = 0 then jX8_findDoubles_76 self21 self33 p0 p2 p3 z8.2
  else (ld 24 z8.2 p0 6).bind fun x9 => (f_X2_meet x9 p2 p3 (-1) z8.2).bind fun z10 => jX8_findDoubles_76 self21 self33 p0 p2 p3 z10.2))
set_option maxHeartbeats 4000000 in
theorem lX8_findDoubles_33_ok {E : PE} {rr : Int} {HH : PH} (F : FX E cX8_findDoubles RX8) (q : QE E none HH none) (hn : nLof E = 4) (hf : (roomOf E).frames = 4) (hl : (roomOf E).locals = 93) (self21 : Int → PH → RO) (p0 p2 : Int) (ih21 : ∀ (v2 : Int) (HV : PH), self21 v2 HV = some (rr, HH) → PW E 21 [some (vr p0), none, some (vi v2), none] [] HV) : ∀ (n : Nat) (p3 : Int) (H : PH), lq1 (lX8_findDoubles_33 self21 p0 p2) n p3 H = some (rr, HH) → PW E 33 [some (vr p0), none, some (vi p2), some (vi p3)] [] H := by
  refine lq1_ind (P := fun p3 H => PW E 33 [some (vr p0), none, some (vi p2), some (vi p3)] [] H) ?_
  intro self33 ih33 p3 H h
  unfold lX8_findDoubles_33 at h
  refine pw_iload_n (pc := 33) F dX8_findDoubles_33 rfl ?_
  refine pw_aload_n (pc := 34) F dX8_findDoubles_34 rfl ?_
  obtain ⟨x1, ex1, h⟩ := bnd h
  refine pw_get (pc := 35) F 8 2 98 (by decide) (by decide) g_51d983fb79 inl_8 0 rfl dX8_findDoubles_35 ex1 ?_
  refine pw_icmp_ge (pc := 38) F 82 dX8_findDoubles_38 (by decide) (fun hc => ?_) (fun hc => ?_)
  · have h := iteT hc h
    refine pw_iinc (pc := 82) F dX8_findDoubles_82 rfl (lt_nl hn (by decide)) [some (vr p0), none, some (vi (w32 (p2 + 1))), some (vi p3)] rfl (by decide) ?_
    refine pw_goto (pc := 85) F 21 dX8_findDoubles_85 (by decide) ?_
    exact pw_mask [true, true, true, false] (ls' := [some (vr p0), none, some (vi (w32 (p2 + 1))), none]) rfl (ih21 (w32 (p2 + 1)) H h)
  · have h := iteF hc h
    refine pw_aload_n (pc := 41) F dX8_findDoubles_41 rfl ?_
    refine pw_aload_n (pc := 42) F dX8_findDoubles_42 rfl ?_
    obtain ⟨x2, ex2, h⟩ := bnd h
    refine pw_get (pc := 43) F 8 1 18 (by decide) (by decide) g_0efda17134 inl_8 2 rfl dX8_findDoubles_43 ex2 ?_
    refine pw_iload_n (pc := 46) F dX8_findDoubles_46 rfl ?_
    obtain ⟨x3, ex3, h⟩ := bnd h
    refine pw_aald (pc := 47) F 5 (by decide) dX8_findDoubles_47 ex3 ?_
    obtain ⟨x4, ex4, h⟩ := bnd h
    refine pw_get (pc := 48) F 4 0 126 (by decide) (by decide) g_8ec333b1d7 inl_4 2 rfl dX8_findDoubles_48 ex4 ?_
    refine pw_aload_n (pc := 51) F dX8_findDoubles_51 rfl ?_
    obtain ⟨x5, ex5, h⟩ := bnd h
    refine pw_get (pc := 52) F 8 1 18 (by decide) (by decide) g_0efda17134 inl_8 2 rfl dX8_findDoubles_52 ex5 ?_
    refine pw_iload_n (pc := 55) F dX8_findDoubles_55 rfl ?_
    obtain ⟨x6, ex6, h⟩ := bnd h
    refine pw_aald (pc := 56) F 5 (by decide) dX8_findDoubles_56 ex6 ?_
    obtain ⟨x7, ex7, h⟩ := bnd h
    refine pw_get (pc := 57) F 4 0 126 (by decide) (by decide) g_8ec333b1d7 inl_4 2 rfl dX8_findDoubles_57 ex7 ?_
    obtain ⟨z8, ez8, h⟩ := bnd h
    refine pw_callV (pc := 60) (as := [vr x4, vr x7]) (st := []) (r := (some (vi z8.1))) F 323 8 (by decide) rfl (fun l => m_X8_areDoubles l p0 x4 x7 H z8.1 z8.2 ez8) g_19963021a6 g_c9c2f5ffba g_7a3a83bd73 g_99e03e18e2 g_b03c4086fa hd_X8_areDoubles (rm_ok hf hl (by decide) (by decide)) rfl (vm_spec ez8).1 dX8_findDoubles_60 rfl (stk' := [vi z8.1]) rfl ?_
    refine pw_if_eq (pc := 63) F 76 dX8_findDoubles_63 (by decide) (fun hc => ?_) (fun hc => ?_)
    · have h := iteT hc h
      exact pw_mask [true, true, true, true] (ls' := [some (vr p0), none, some (vi p2), some (vi p3)]) rfl (jX8_findDoubles_76_ok F q hn hf hl self21 self33 p0 p2 p3 z8.2 ih21 ih33 h)
    · have h := iteF hc h
      refine pw_aload_n (pc := 66) F dX8_findDoubles_66 rfl ?_
      obtain ⟨x9, ex9, h⟩ := bnd h
      refine pw_get (pc := 67) F 8 6 38 (by decide) (by decide) g_f8de3d2cc6 inl_8 2 rfl dX8_findDoubles_67 ex9 ?_
      refine pw_iload_n (pc := 70) F dX8_findDoubles_70 rfl ?_
      refine pw_iload_n (pc := 71) F dX8_findDoubles_71 rfl ?_
      refine pw_iconst (pc := 72) F (-1) dX8_findDoubles_72 (by decide) ?_
      obtain ⟨z10, ez10, h⟩ := bnd h
      refine pw_callV (pc := 73) (as := [vi p2, vi p3, vi (-1)]) (st := []) (r := none) F 241 2 (by decide) rfl (fun l => m_X2_meet l x9 p2 p3 (-1) z8.2 z10.1 z10.2 ez10) g_9536165261 g_271e0cfd5d g_53b8e75756 g_d27e9d3e51 g_4a28ae1195 hd_X2_meet (rm_ok hf hl (by decide) (by decide)) rfl (vm_spec ez10).1 dX8_findDoubles_73 rfl (stk' := []) rfl ?_
      exact pw_mask [true, true, true, true] (ls' := [some (vr p0), none, some (vi p2), some (vi p3)]) rfl (jX8_findDoubles_76_ok F q hn hf hl self21 self33 p0 p2 p3 z10.2 ih21 ih33 h)
def lX8_findDoubles_21 (p0 : Int) (self21 : Int → PH → RO) (p2 : Int) (H : PH) : RO :=
  (ld 24 H p0 2).bind fun x1 => (if p2 ≥ x1 then some (0, H)
  else lq1 (lX8_findDoubles_33 self21 p0 p2) 6000 (w32 (p2 + 1)) H)
set_option maxHeartbeats 4000000 in
theorem lX8_findDoubles_21_ok {E : PE} {rr : Int} {HH : PH} (F : FX E cX8_findDoubles RX8) (q : QE E none HH none) (hn : nLof E = 4) (hf : (roomOf E).frames = 4) (hl : (roomOf E).locals = 93) (p0 : Int) : ∀ (n : Nat) (p2 : Int) (H : PH), lq1 (lX8_findDoubles_21 p0) n p2 H = some (rr, HH) → PW E 21 [some (vr p0), none, some (vi p2), none] [] H := by
  refine lq1_ind (P := fun p2 H => PW E 21 [some (vr p0), none, some (vi p2), none] [] H) ?_
  intro self21 ih21 p2 H h
  unfold lX8_findDoubles_21 at h
  refine pw_iload_n (pc := 21) F dX8_findDoubles_21 rfl ?_
  refine pw_aload_n (pc := 22) F dX8_findDoubles_22 rfl ?_
  obtain ⟨x1, ex1, h⟩ := bnd h
  refine pw_get (pc := 23) F 8 2 98 (by decide) (by decide) g_51d983fb79 inl_8 0 rfl dX8_findDoubles_23 ex1 ?_
  refine pw_icmp_ge (pc := 26) F 88 dX8_findDoubles_26 (by decide) (fun hc => ?_) (fun hc => ?_)
  · have h := iteT hc h
    cases h
    exact pw_vret (pc := 88) F q dX8_findDoubles_88
  · have h := iteF hc h
    refine pw_iload_n (pc := 29) F dX8_findDoubles_29 rfl ?_
    refine pw_iconst (pc := 30) F 1 dX8_findDoubles_30 (by decide) ?_
    refine pw_iadd (pc := 31) F dX8_findDoubles_31 ?_
    refine pw_istore_n (pc := 32) F dX8_findDoubles_32 (lt_nl hn (by decide)) [some (vr p0), none, some (vi p2), some (vi (w32 (p2 + 1)))] rfl ?_
    exact pw_mask [true, true, true, true] (ls' := [some (vr p0), none, some (vi p2), some (vi (w32 (p2 + 1)))]) rfl (lX8_findDoubles_33_ok F q hn hf hl self21 p0 p2 ih21  6000 (w32 (p2 + 1)) H h)
def f_X8_findDoubles (a0 a1 : Int) (H : PH) : RO := vm 8 a0 H <|
  (ld 24 H a0 6).bind fun x1 => (f_X2_start x1 a1 H).bind fun z2 => (ld 24 z2.2 a0 0).bind fun x3 => (f_X3_hasMarked x3 z2.2).bind fun z4 => (if z4.1 ≠ 0 then lq1 (lX8_findDoubles_21 a0) 6000 0 z4.2
  else some (0, z4.2))
set_option maxHeartbeats 4000000 in
theorem m_X8_findDoubles (l : Launch) (a0 a1 : Int) (H : PH) (rr : Int) (HH : PH) (h : f_X8_findDoubles a0 a1 H = some (rr, HH)) : CT l yX8_findDoubles cX8_findDoubles 4 none 4 93 [vr a0, vi a1] H none HH := by
  refine CT.of RX8 (by decide) rfl [some (vr a0), some (vi a1), none, none] rfl rfl ?_
  intro E F q hn hf hl hm
  unfold f_X8_findDoubles at h
  obtain ⟨hv, h⟩ := vm_spec h
  refine pw_aload_n (pc := 0) F dX8_findDoubles_0 rfl ?_
  obtain ⟨x1, ex1, h⟩ := bnd h
  refine pw_get (pc := 1) F 8 6 38 (by decide) (by decide) g_f8de3d2cc6 inl_8 2 rfl dX8_findDoubles_1 ex1 ?_
  refine pw_iload_n (pc := 4) F dX8_findDoubles_4 rfl ?_
  obtain ⟨z2, ez2, h⟩ := bnd h
  refine pw_callV (pc := 5) (as := [vi a1]) (st := []) (r := none) F 224 2 (by decide) rfl (fun l => m_X2_start l x1 a1 H z2.1 z2.2 ez2) g_379c302b23 g_69fe0f0b64 g_fa02ca82da g_d27e9d3e51 g_e6b26bf678 hd_X2_start (rm_ok hf hl (by decide) (by decide)) rfl (vm_spec ez2).1 dX8_findDoubles_5 rfl (stk' := []) rfl ?_
  refine pw_aload_n (pc := 8) F dX8_findDoubles_8 rfl ?_
  obtain ⟨x3, ex3, h⟩ := bnd h
  refine pw_get (pc := 9) F 8 0 12 (by decide) (by decide) g_955d9610dc inl_8 2 rfl dX8_findDoubles_9 ex3 ?_
  obtain ⟨z4, ez4, h⟩ := bnd h
  refine pw_callV (pc := 12) (as := []) (st := []) (r := (some (vi z4.1))) F 320 3 (by decide) rfl (fun l => m_X3_hasMarked l x3 z2.2 z4.1 z4.2 ez4) g_2ea2858a30 g_9a30a9d57b g_b913c3c44e g_106b72596f g_1672d01152 hd_X3_hasMarked (rm_ok hf hl (by decide) (by decide)) rfl (vm_spec ez4).1 dX8_findDoubles_12 rfl (stk' := [vi z4.1]) rfl ?_
  refine pw_if_ne (pc := 15) F 19 dX8_findDoubles_15 (by decide) (fun hc => ?_) (fun hc => ?_)
  · have h := iteT hc h
    refine pw_iconst (pc := 19) F 0 dX8_findDoubles_19 (by decide) ?_
    refine pw_istore_n (pc := 20) F dX8_findDoubles_20 (lt_nl hn (by decide)) [some (vr a0), some (vi a1), some (vi 0), none] rfl ?_
    exact pw_mask [true, false, true, true] (ls' := [some (vr a0), none, some (vi 0), none]) rfl (lX8_findDoubles_21_ok F q hn hf hl a0  6000 0 z4.2 h)
  · have h := iteF hc h
    cases h
    exact pw_vret (pc := 18) F q dX8_findDoubles_18
/-! HouseholdVault.doubles()I -/
theorem dX8_doubles_0 : decode cX8_doubles 0 = .ok (.aload_n 0, 1) := by decide +kernel
theorem dX8_doubles_1 : decode cX8_doubles 1 = .ok (.iconst (-1), 1) := by decide +kernel
theorem dX8_doubles_2 : decode cX8_doubles 2 = .ok (.invokevirtual 317, 3) := by decide +kernel
theorem dX8_doubles_5 : decode cX8_doubles 5 = .ok (.aload_n 0, 1) := by decide +kernel
theorem dX8_doubles_6 : decode cX8_doubles 6 = .ok (.getfield 38, 3) := by decide +kernel
theorem dX8_doubles_9 : decode cX8_doubles 9 = .ok (.getfield 217, 3) := by decide +kernel
theorem dX8_doubles_12 : decode cX8_doubles 12 = .ok (.ireturn, 1) := by decide +kernel
def f_X8_doubles (a0 : Int) (H : PH) : RO := vm 8 a0 H <|
  (f_X8_findDoubles a0 (-1) H).bind fun z1 => (ld 24 z1.2 a0 6).bind fun x2 => (ld 18 z1.2 x2 1).bind fun x3 => some (x3, z1.2)
set_option maxHeartbeats 4000000 in
theorem m_X8_doubles (l : Launch) (a0 : Int) (H : PH) (rr : Int) (HH : PH) (h : f_X8_doubles a0 H = some (rr, HH)) : CT l yX8_doubles cX8_doubles 1 (some .int) 5 116 [vr a0] H (some (vi rr)) HH := by
  refine CT.of RX8 (by decide) rfl [some (vr a0)] rfl rfl ?_
  intro E F q hn hf hl hm
  unfold f_X8_doubles at h
  obtain ⟨hv, h⟩ := vm_spec h
  refine pw_aload_n (pc := 0) F dX8_doubles_0 rfl ?_
  refine pw_iconst (pc := 1) F (-1) dX8_doubles_1 (by decide) ?_
  obtain ⟨z1, ez1, h⟩ := bnd h
  refine pw_callV (pc := 2) (as := [vi (-1)]) (st := []) (r := none) F 317 8 (by decide) rfl (fun l => m_X8_findDoubles l a0 (-1) H z1.1 z1.2 ez1) g_7d7244e19b g_f5fed8dd0d g_d8829d7a27 g_99e03e18e2 g_5a318fa1e7 hd_X8_findDoubles (rm_ok hf hl (by decide) (by decide)) rfl (vm_spec ez1).1 dX8_doubles_2 rfl (stk' := []) rfl ?_
  refine pw_aload_n (pc := 5) F dX8_doubles_5 rfl ?_
  obtain ⟨x2, ex2, h⟩ := bnd h
  refine pw_get (pc := 6) F 8 6 38 (by decide) (by decide) g_f8de3d2cc6 inl_8 2 rfl dX8_doubles_6 ex2 ?_
  obtain ⟨x3, ex3, h⟩ := bnd h
  refine pw_get (pc := 9) F 2 1 217 (by decide) (by decide) g_c45e5dcd85 inl_2 0 rfl dX8_doubles_9 ex3 ?_
  cases h
  exact pw_iret (pc := 12) F q dX8_doubles_12
/-! HouseholdVault.doubleAt(II)I -/
theorem dX8_doubleAt_0 : decode cX8_doubleAt 0 = .ok (.iload_n 1, 1) := by decide +kernel
theorem dX8_doubleAt_1 : decode cX8_doubleAt 1 = .ok (.ifCond .ge 5, 3) := by decide +kernel
theorem dX8_doubleAt_4 : decode cX8_doubleAt 4 = .ok (.iconst (-1), 1) := by decide +kernel
theorem dX8_doubleAt_5 : decode cX8_doubleAt 5 = .ok (.ireturn, 1) := by decide +kernel
theorem dX8_doubleAt_6 : decode cX8_doubleAt 6 = .ok (.aload_n 0, 1) := by decide +kernel
theorem dX8_doubleAt_7 : decode cX8_doubleAt 7 = .ok (.iload_n 1, 1) := by decide +kernel
theorem dX8_doubleAt_8 : decode cX8_doubleAt 8 = .ok (.invokevirtual 317, 3) := by decide +kernel
theorem dX8_doubleAt_11 : decode cX8_doubleAt 11 = .ok (.aload_n 0, 1) := by decide +kernel
theorem dX8_doubleAt_12 : decode cX8_doubleAt 12 = .ok (.getfield 38, 3) := by decide +kernel
theorem dX8_doubleAt_15 : decode cX8_doubleAt 15 = .ok (.iload_n 2, 1) := by decide +kernel
theorem dX8_doubleAt_16 : decode cX8_doubleAt 16 = .ok (.iconst 2, 1) := by decide +kernel
theorem dX8_doubleAt_17 : decode cX8_doubleAt 17 = .ok (.iconst (-1), 1) := by decide +kernel
theorem dX8_doubleAt_18 : decode cX8_doubleAt 18 = .ok (.invokevirtual 220, 3) := by decide +kernel
theorem dX8_doubleAt_21 : decode cX8_doubleAt 21 = .ok (.ireturn, 1) := by decide +kernel
def f_X8_doubleAt (a0 a1 a2 : Int) (H : PH) : RO := vm 8 a0 H <|
  (if a1 ≥ 0 then (f_X8_findDoubles a0 a1 H).bind fun z1 => (ld 24 z1.2 a0 6).bind fun x2 => (f_X2_told x2 a2 2 (-1) z1.2).bind fun z3 => some (z3.1, z3.2)
  else some ((-1), H))
set_option maxHeartbeats 4000000 in
theorem m_X8_doubleAt (l : Launch) (a0 a1 a2 : Int) (H : PH) (rr : Int) (HH : PH) (h : f_X8_doubleAt a0 a1 a2 H = some (rr, HH)) : CT l yX8_doubleAt cX8_doubleAt 3 (some .int) 5 116 [vr a0, vi a1, vi a2] H (some (vi rr)) HH := by
  refine CT.of RX8 (by decide) rfl [some (vr a0), some (vi a1), some (vi a2)] rfl rfl ?_
  intro E F q hn hf hl hm
  unfold f_X8_doubleAt at h
  obtain ⟨hv, h⟩ := vm_spec h
  refine pw_iload_n (pc := 0) F dX8_doubleAt_0 rfl ?_
  refine pw_if_ge (pc := 1) F 6 dX8_doubleAt_1 (by decide) (fun hc => ?_) (fun hc => ?_)
  · have h := iteT hc h
    refine pw_aload_n (pc := 6) F dX8_doubleAt_6 rfl ?_
    refine pw_iload_n (pc := 7) F dX8_doubleAt_7 rfl ?_
    obtain ⟨z1, ez1, h⟩ := bnd h
    refine pw_callV (pc := 8) (as := [vi a1]) (st := []) (r := none) F 317 8 (by decide) rfl (fun l => m_X8_findDoubles l a0 a1 H z1.1 z1.2 ez1) g_7d7244e19b g_f5fed8dd0d g_d8829d7a27 g_99e03e18e2 g_5a318fa1e7 hd_X8_findDoubles (rm_ok hf hl (by decide) (by decide)) rfl (vm_spec ez1).1 dX8_doubleAt_8 rfl (stk' := []) rfl ?_
    refine pw_aload_n (pc := 11) F dX8_doubleAt_11 rfl ?_
    obtain ⟨x2, ex2, h⟩ := bnd h
    refine pw_get (pc := 12) F 8 6 38 (by decide) (by decide) g_f8de3d2cc6 inl_8 2 rfl dX8_doubleAt_12 ex2 ?_
    refine pw_iload_n (pc := 15) F dX8_doubleAt_15 rfl ?_
    refine pw_iconst (pc := 16) F 2 dX8_doubleAt_16 (by decide) ?_
    refine pw_iconst (pc := 17) F (-1) dX8_doubleAt_17 (by decide) ?_
    obtain ⟨z3, ez3, h⟩ := bnd h
    refine pw_callV (pc := 18) (as := [vi a2, vi 2, vi (-1)]) (st := []) (r := (some (vi z3.1))) F 220 2 (by decide) rfl (fun l => m_X2_told l x2 a2 2 (-1) z1.2 z3.1 z3.2 ez3) g_975d610aae g_2ddf4c4420 g_c1c0e76a98 g_d27e9d3e51 g_e0ef5765d2 hd_X2_told (rm_ok hf hl (by decide) (by decide)) rfl (vm_spec ez3).1 dX8_doubleAt_18 rfl (stk' := [vi z3.1]) rfl ?_
    cases h
    exact pw_iret (pc := 21) F q dX8_doubleAt_21
  · have h := iteF hc h
    refine pw_iconst (pc := 4) F (-1) dX8_doubleAt_4 (by decide) ?_
    cases h
    exact pw_iret (pc := 5) F q dX8_doubleAt_5
/-! HouseholdVault.freeze()I -/
theorem dX8_freeze_0 : decode cX8_freeze 0 = .ok (.aload_n 0, 1) := by decide +kernel
theorem dX8_freeze_1 : decode cX8_freeze 1 = .ok (.getfield 335, 3) := by decide +kernel
theorem dX8_freeze_4 : decode cX8_freeze 4 = .ok (.bipush 6, 2) := by decide +kernel
theorem dX8_freeze_6 : decode cX8_freeze 6 = .ok (.if_icmp .lt 6, 3) := by decide +kernel
theorem dX8_freeze_9 : decode cX8_freeze 9 = .ok (.bipush (-4), 2) := by decide +kernel
theorem dX8_freeze_11 : decode cX8_freeze 11 = .ok (.ireturn, 1) := by decide +kernel
theorem dX8_freeze_12 : decode cX8_freeze 12 = .ok (.aload_n 0, 1) := by decide +kernel
theorem dX8_freeze_13 : decode cX8_freeze 13 = .ok (.getfield 98, 3) := by decide +kernel
theorem dX8_freeze_16 : decode cX8_freeze 16 = .ok (.anewarray 135, 3) := by decide +kernel
theorem dX8_freeze_19 : decode cX8_freeze 19 = .ok (.astore_n 1, 1) := by decide +kernel
theorem dX8_freeze_20 : decode cX8_freeze 20 = .ok (.iconst 0, 1) := by decide +kernel
theorem dX8_freeze_21 : decode cX8_freeze 21 = .ok (.istore_n 2, 1) := by decide +kernel
theorem dX8_freeze_22 : decode cX8_freeze 22 = .ok (.iload_n 2, 1) := by decide +kernel
theorem dX8_freeze_23 : decode cX8_freeze 23 = .ok (.aload_n 0, 1) := by decide +kernel
theorem dX8_freeze_24 : decode cX8_freeze 24 = .ok (.getfield 98, 3) := by decide +kernel
theorem dX8_freeze_27 : decode cX8_freeze 27 = .ok (.if_icmp .ge 35, 3) := by decide +kernel
theorem dX8_freeze_30 : decode cX8_freeze 30 = .ok (.aload_n 1, 1) := by decide +kernel
theorem dX8_freeze_31 : decode cX8_freeze 31 = .ok (.iload_n 2, 1) := by decide +kernel
theorem dX8_freeze_32 : decode cX8_freeze 32 = .ok (.new 135, 3) := by decide +kernel
theorem dX8_freeze_35 : decode cX8_freeze 35 = .ok (.dup, 1) := by decide +kernel
theorem dX8_freeze_36 : decode cX8_freeze 36 = .ok (.aload_n 0, 1) := by decide +kernel
theorem dX8_freeze_37 : decode cX8_freeze 37 = .ok (.getfield 18, 3) := by decide +kernel
theorem dX8_freeze_40 : decode cX8_freeze 40 = .ok (.iload_n 2, 1) := by decide +kernel
theorem dX8_freeze_41 : decode cX8_freeze 41 = .ok (.aaload, 1) := by decide +kernel
theorem dX8_freeze_42 : decode cX8_freeze 42 = .ok (.getfield 126, 3) := by decide +kernel
theorem dX8_freeze_45 : decode cX8_freeze 45 = .ok (.aload_n 0, 1) := by decide +kernel
theorem dX8_freeze_46 : decode cX8_freeze 46 = .ok (.getfield 12, 3) := by decide +kernel
theorem dX8_freeze_49 : decode cX8_freeze 49 = .ok (.getfield 141, 3) := by decide +kernel
theorem dX8_freeze_52 : decode cX8_freeze 52 = .ok (.invokespecial 338, 3) := by decide +kernel
theorem dX8_freeze_55 : decode cX8_freeze 55 = .ok (.aastore, 1) := by decide +kernel
theorem dX8_freeze_56 : decode cX8_freeze 56 = .ok (.iinc 2 1, 3) := by decide +kernel
theorem dX8_freeze_59 : decode cX8_freeze 59 = .ok (.goto (-37), 3) := by decide +kernel
theorem dX8_freeze_62 : decode cX8_freeze 62 = .ok (.aload_n 0, 1) := by decide +kernel
theorem dX8_freeze_63 : decode cX8_freeze 63 = .ok (.getfield 24, 3) := by decide +kernel
theorem dX8_freeze_66 : decode cX8_freeze 66 = .ok (.aload_n 0, 1) := by decide +kernel
theorem dX8_freeze_67 : decode cX8_freeze 67 = .ok (.getfield 335, 3) := by decide +kernel
theorem dX8_freeze_70 : decode cX8_freeze 70 = .ok (.new 22, 3) := by decide +kernel
theorem dX8_freeze_73 : decode cX8_freeze 73 = .ok (.dup, 1) := by decide +kernel
theorem dX8_freeze_74 : decode cX8_freeze 74 = .ok (.aload_n 1, 1) := by decide +kernel
theorem dX8_freeze_75 : decode cX8_freeze 75 = .ok (.aload_n 0, 1) := by decide +kernel
theorem dX8_freeze_76 : decode cX8_freeze 76 = .ok (.getfield 12, 3) := by decide +kernel
theorem dX8_freeze_79 : decode cX8_freeze 79 = .ok (.getfield 141, 3) := by decide +kernel
theorem dX8_freeze_82 : decode cX8_freeze 82 = .ok (.invokespecial 341, 3) := by decide +kernel
theorem dX8_freeze_85 : decode cX8_freeze 85 = .ok (.aastore, 1) := by decide +kernel
theorem dX8_freeze_86 : decode cX8_freeze 86 = .ok (.aload_n 0, 1) := by decide +kernel
theorem dX8_freeze_87 : decode cX8_freeze 87 = .ok (.dup, 1) := by decide +kernel
theorem dX8_freeze_88 : decode cX8_freeze 88 = .ok (.getfield 335, 3) := by decide +kernel
theorem dX8_freeze_91 : decode cX8_freeze 91 = .ok (.iconst 1, 1) := by decide +kernel
theorem dX8_freeze_92 : decode cX8_freeze 92 = .ok (.iadd, 1) := by decide +kernel
theorem dX8_freeze_93 : decode cX8_freeze 93 = .ok (.putfield 335, 3) := by decide +kernel
theorem dX8_freeze_96 : decode cX8_freeze 96 = .ok (.aload_n 0, 1) := by decide +kernel
theorem dX8_freeze_97 : decode cX8_freeze 97 = .ok (.getfield 335, 3) := by decide +kernel
theorem dX8_freeze_100 : decode cX8_freeze 100 = .ok (.iconst 1, 1) := by decide +kernel
theorem dX8_freeze_101 : decode cX8_freeze 101 = .ok (.isub, 1) := by decide +kernel
theorem dX8_freeze_102 : decode cX8_freeze 102 = .ok (.ireturn, 1) := by decide +kernel
def lX8_freeze_22 (p0 p1 : Int) (self22 : Int → PH → RO) (p2 : Int) (H : PH) : RO :=
  (ld 24 H p0 2).bind fun x1 => (if p2 ≥ x1 then (ld 24 H p0 3).bind fun x2 => (ld 24 H p0 4).bind fun x3 => (newo 1 H).bind fun z4 => (ld 24 z4.2 p0 0).bind fun x5 => (ld 19 z4.2 x5 1).bind fun x6 => (f_X1_init z4.1 p1 x6 z4.2).bind fun z7 => (sta 4 1 z7.2 x2 x3 z4.1).bind fun H8 => (ld 24 H8 p0 4).bind fun x9 => (stv 24 H8 p0 4 (w32 (x9 + 1))).bind fun H10 => (ld 24 H10 p0 4).bind fun x11 => some ((w32 (x11 - 1)), H10)
  else (newo 6 H).bind fun z12 => (ld 24 z12.2 p0 1).bind fun x13 => (ld 5 z12.2 x13 p2).bind fun x14 => (ld 20 z12.2 x14 0).bind fun x15 => (ld 24 z12.2 p0 0).bind fun x16 => (ld 19 z12.2 x16 1).bind fun x17 => (f_X6_init_ z12.1 x15 x17 z12.2).bind fun z18 => (sta 7 6 z18.2 p1 p2 z12.1).bind fun H19 => self22 (w32 (p2 + 1)) H19)
set_option maxHeartbeats 4000000 in
theorem lX8_freeze_22_ok {E : PE} {rr : Int} {HH : PH} (F : FX E cX8_freeze RX8) (q : QE E (some (vi rr)) HH (some .int)) (hn : nLof E = 3) (hf : (roomOf E).frames = 4) (hl : (roomOf E).locals = 109) (p0 p1 : Int) : ∀ (n : Nat) (p2 : Int) (H : PH), lq1 (lX8_freeze_22 p0 p1) n p2 H = some (rr, HH) → PW E 22 [some (vr p0), some (vr p1), some (vi p2)] [] H := by
  refine lq1_ind (P := fun p2 H => PW E 22 [some (vr p0), some (vr p1), some (vi p2)] [] H) ?_
  intro self22 ih22 p2 H h
  unfold lX8_freeze_22 at h
  refine pw_iload_n (pc := 22) F dX8_freeze_22 rfl ?_
  refine pw_aload_n (pc := 23) F dX8_freeze_23 rfl ?_
  obtain ⟨x1, ex1, h⟩ := bnd h
  refine pw_get (pc := 24) F 8 2 98 (by decide) (by decide) g_51d983fb79 inl_8 0 rfl dX8_freeze_24 ex1 ?_
  refine pw_icmp_ge (pc := 27) F 62 dX8_freeze_27 (by decide) (fun hc => ?_) (fun hc => ?_)
  · have h := iteT hc h
    refine pw_aload_n (pc := 62) F dX8_freeze_62 rfl ?_
    obtain ⟨x2, ex2, h⟩ := bnd h
    refine pw_get (pc := 63) F 8 3 24 (by decide) (by decide) g_09faac908b inl_8 2 rfl dX8_freeze_63 ex2 ?_
    refine pw_aload_n (pc := 66) F dX8_freeze_66 rfl ?_
    obtain ⟨x3, ex3, h⟩ := bnd h
    refine pw_get (pc := 67) F 8 4 335 (by decide) (by decide) g_533bc01838 inl_8 0 rfl dX8_freeze_67 ex3 ?_
    obtain ⟨z4, ez4, h⟩ := bnd h
    refine pw_new (pc := 70) F 1 22 (by decide) g_be4aa3ff4c g_8ef65aad51 g_3431918d7c inl_1 dX8_freeze_70 ez4 ?_
    refine pw_dup (pc := 73) F dX8_freeze_73 (pvne rfl) ?_
    refine pw_aload_n (pc := 74) F dX8_freeze_74 rfl ?_
    refine pw_aload_n (pc := 75) F dX8_freeze_75 rfl ?_
    obtain ⟨x5, ex5, h⟩ := bnd h
    refine pw_get (pc := 76) F 8 0 12 (by decide) (by decide) g_955d9610dc inl_8 2 rfl dX8_freeze_76 ex5 ?_
    obtain ⟨x6, ex6, h⟩ := bnd h
    refine pw_get (pc := 79) F 3 1 141 (by decide) (by decide) g_4a788c66ef inl_3 0 rfl dX8_freeze_79 ex6 ?_
    obtain ⟨z7, ez7, h⟩ := bnd h
    refine pw_callI (pc := 82) (as := [vr p1, vi x6]) (st := [vr z4.1, vi x3, vr x2]) F 341 (vm_nn (vm_spec ez7).1) (fun l => m_X1_init l z4.1 p1 x6 z4.2 z7.1 z7.2 ez7) rfl g_f571e11dc1 g_ff320477db g_cf66e99dd3 g_76a26552d2 hd_X1_init (rm_ok hf hl (by decide) (by decide)) rfl dX8_freeze_82 rfl ?_
    obtain ⟨H8, eH8, h⟩ := bnd h
    refine pw_aast (pc := 85) F 4 1 (by decide) ⟨rfl, by decide⟩ dX8_freeze_85 (sta_spec eH8).2 (sta_spec eH8).1 ?_
    refine pw_aload_n (pc := 86) F dX8_freeze_86 rfl ?_
    refine pw_dup (pc := 87) F dX8_freeze_87 (pvne rfl) ?_
    obtain ⟨x9, ex9, h⟩ := bnd h
    refine pw_get (pc := 88) F 8 4 335 (by decide) (by decide) g_533bc01838 inl_8 0 rfl dX8_freeze_88 ex9 ?_
    refine pw_iconst (pc := 91) F 1 dX8_freeze_91 (by decide) ?_
    refine pw_iadd (pc := 92) F dX8_freeze_92 ?_
    obtain ⟨H10, eH10, h⟩ := bnd h
    refine pw_put (pc := 93) F 8 4 335 (by decide) (by decide) g_533bc01838 inl_8 rfl 0 rfl dX8_freeze_93 trivial eH10 ?_
    refine pw_aload_n (pc := 96) F dX8_freeze_96 rfl ?_
    obtain ⟨x11, ex11, h⟩ := bnd h
    refine pw_get (pc := 97) F 8 4 335 (by decide) (by decide) g_533bc01838 inl_8 0 rfl dX8_freeze_97 ex11 ?_
    refine pw_iconst (pc := 100) F 1 dX8_freeze_100 (by decide) ?_
    refine pw_isub (pc := 101) F dX8_freeze_101 ?_
    cases h
    exact pw_iret (pc := 102) F q dX8_freeze_102
  · have h := iteF hc h
    refine pw_aload_n (pc := 30) F dX8_freeze_30 rfl ?_
    refine pw_iload_n (pc := 31) F dX8_freeze_31 rfl ?_
    obtain ⟨z12, ez12, h⟩ := bnd h
    refine pw_new (pc := 32) F 6 135 (by decide) g_981c5d16b2 g_17df4778bc g_761596d198 inl_6 dX8_freeze_32 ez12 ?_
    refine pw_dup (pc := 35) F dX8_freeze_35 (pvne rfl) ?_
    refine pw_aload_n (pc := 36) F dX8_freeze_36 rfl ?_
    obtain ⟨x13, ex13, h⟩ := bnd h
    refine pw_get (pc := 37) F 8 1 18 (by decide) (by decide) g_0efda17134 inl_8 2 rfl dX8_freeze_37 ex13 ?_
    refine pw_iload_n (pc := 40) F dX8_freeze_40 rfl ?_
    obtain ⟨x14, ex14, h⟩ := bnd h
    refine pw_aald (pc := 41) F 5 (by decide) dX8_freeze_41 ex14 ?_
    obtain ⟨x15, ex15, h⟩ := bnd h
    refine pw_get (pc := 42) F 4 0 126 (by decide) (by decide) g_8ec333b1d7 inl_4 2 rfl dX8_freeze_42 ex15 ?_
    refine pw_aload_n (pc := 45) F dX8_freeze_45 rfl ?_
    obtain ⟨x16, ex16, h⟩ := bnd h
    refine pw_get (pc := 46) F 8 0 12 (by decide) (by decide) g_955d9610dc inl_8 2 rfl dX8_freeze_46 ex16 ?_
    obtain ⟨x17, ex17, h⟩ := bnd h
    refine pw_get (pc := 49) F 3 1 141 (by decide) (by decide) g_4a788c66ef inl_3 0 rfl dX8_freeze_49 ex17 ?_
    obtain ⟨z18, ez18, h⟩ := bnd h
    refine pw_callI (pc := 52) (as := [vr x15, vi x17]) (st := [vr z12.1, vi p2, vr p1]) F 338 (vm_nn (vm_spec ez18).1) (fun l => m_X6_init_ l z12.1 x15 x17 z12.2 z18.1 z18.2 ez18) rfl g_668ddc41df g_40fc43b565 g_6d91b6d2eb g_f63b9c6a32 hd_X6_init_ (rm_ok hf hl (by decide) (by decide)) rfl dX8_freeze_52 rfl ?_
    obtain ⟨H19, eH19, h⟩ := bnd h
    refine pw_aast (pc := 55) F 7 6 (by decide) ⟨rfl, by decide⟩ dX8_freeze_55 (sta_spec eH19).2 (sta_spec eH19).1 ?_
    refine pw_iinc (pc := 56) F dX8_freeze_56 rfl (lt_nl hn (by decide)) [some (vr p0), some (vr p1), some (vi (w32 (p2 + 1)))] rfl (by decide) ?_
    refine pw_goto (pc := 59) F 22 dX8_freeze_59 (by decide) ?_
    exact pw_mask [true, true, true] (ls' := [some (vr p0), some (vr p1), some (vi (w32 (p2 + 1)))]) rfl (ih22 (w32 (p2 + 1)) H19 h)
def f_X8_freeze (a0 : Int) (H : PH) : RO := vm 8 a0 H <|
  (ld 24 H a0 4).bind fun x1 => (if x1 < 6 then (ld 24 H a0 2).bind fun x2 => (newa 7 x2 H).bind fun z3 => lq1 (lX8_freeze_22 a0 z3.1) 6000 0 z3.2
  else some ((-4), H))
set_option maxHeartbeats 4000000 in
theorem m_X8_freeze (l : Launch) (a0 : Int) (H : PH) (rr : Int) (HH : PH) (h : f_X8_freeze a0 H = some (rr, HH)) : CT l yX8_freeze cX8_freeze 3 (some .int) 4 109 [vr a0] H (some (vi rr)) HH := by
  refine CT.of RX8 (by decide) rfl [some (vr a0), none, none] rfl rfl ?_
  intro E F q hn hf hl hm
  unfold f_X8_freeze at h
  obtain ⟨hv, h⟩ := vm_spec h
  refine pw_aload_n (pc := 0) F dX8_freeze_0 rfl ?_
  obtain ⟨x1, ex1, h⟩ := bnd h
  refine pw_get (pc := 1) F 8 4 335 (by decide) (by decide) g_533bc01838 inl_8 0 rfl dX8_freeze_1 ex1 ?_
  refine pw_bipush (pc := 4) F 6 dX8_freeze_4 (by decide) ?_
  refine pw_icmp_lt (pc := 6) F 12 dX8_freeze_6 (by decide) (fun hc => ?_) (fun hc => ?_)
  · have h := iteT hc h
    refine pw_aload_n (pc := 12) F dX8_freeze_12 rfl ?_
    obtain ⟨x2, ex2, h⟩ := bnd h
    refine pw_get (pc := 13) F 8 2 98 (by decide) (by decide) g_51d983fb79 inl_8 0 rfl dX8_freeze_13 ex2 ?_
    obtain ⟨z3, ez3, h⟩ := bnd h
    refine pw_anew (pc := 16) F 7 135 (by decide) g_f92ade062b dX8_freeze_16 ez3 ?_
    refine pw_astore_n (pc := 19) F dX8_freeze_19 (lt_nl hn (by decide)) [some (vr a0), some (vr z3.1), none] rfl ?_
    refine pw_iconst (pc := 20) F 0 dX8_freeze_20 (by decide) ?_
    refine pw_istore_n (pc := 21) F dX8_freeze_21 (lt_nl hn (by decide)) [some (vr a0), some (vr z3.1), some (vi 0)] rfl ?_
    exact pw_mask [true, true, true] (ls' := [some (vr a0), some (vr z3.1), some (vi 0)]) rfl (lX8_freeze_22_ok F q hn hf hl a0 z3.1  6000 0 z3.2 h)
  · have h := iteF hc h
    refine pw_bipush (pc := 9) F (-4) dX8_freeze_9 (by decide) ?_
    cases h
    exact pw_iret (pc := 11) F q dX8_freeze_11
/-! HouseholdVault.editionOf(I)LHouseholdVault$Edition; -/
theorem dX8_editionOf_0 : decode cX8_editionOf 0 = .ok (.iload_n 1, 1) := by decide +kernel
theorem dX8_editionOf_1 : decode cX8_editionOf 1 = .ok (.ifCond .lt 20, 3) := by decide +kernel
theorem dX8_editionOf_4 : decode cX8_editionOf 4 = .ok (.iload_n 1, 1) := by decide +kernel
theorem dX8_editionOf_5 : decode cX8_editionOf 5 = .ok (.aload_n 0, 1) := by decide +kernel
theorem dX8_editionOf_6 : decode cX8_editionOf 6 = .ok (.getfield 335, 3) := by decide +kernel
theorem dX8_editionOf_9 : decode cX8_editionOf 9 = .ok (.if_icmp .ge 12, 3) := by decide +kernel
theorem dX8_editionOf_12 : decode cX8_editionOf 12 = .ok (.aload_n 0, 1) := by decide +kernel
theorem dX8_editionOf_13 : decode cX8_editionOf 13 = .ok (.getfield 24, 3) := by decide +kernel
theorem dX8_editionOf_16 : decode cX8_editionOf 16 = .ok (.iload_n 1, 1) := by decide +kernel
theorem dX8_editionOf_17 : decode cX8_editionOf 17 = .ok (.aaload, 1) := by decide +kernel
theorem dX8_editionOf_18 : decode cX8_editionOf 18 = .ok (.goto 4, 3) := by decide +kernel
theorem dX8_editionOf_21 : decode cX8_editionOf 21 = .ok (.aconst_null, 1) := by decide +kernel
theorem dX8_editionOf_22 : decode cX8_editionOf 22 = .ok (.areturn, 1) := by decide +kernel
def f_X8_editionOf (a0 a1 : Int) (H : PH) : RO := vm 8 a0 H <|
  (if a1 < 0 then some ((-1), H)
  else (ld 24 H a0 4).bind fun x1 => (if a1 ≥ x1 then some ((-1), H)
  else (ld 24 H a0 3).bind fun x2 => (ld 4 H x2 a1).bind fun x3 => some (x3, H)))
set_option maxHeartbeats 4000000 in
theorem m_X8_editionOf (l : Launch) (a0 a1 : Int) (H : PH) (rr : Int) (HH : PH) (h : f_X8_editionOf a0 a1 H = some (rr, HH)) : CT l yX8_editionOf cX8_editionOf 2 (some (.object "HouseholdVault$Edition")) 0 0 [vr a0, vi a1] H (some (vr rr)) HH := by
  refine CT.of RX8 (by decide) rfl [some (vr a0), some (vi a1)] rfl rfl ?_
  intro E F q hn hf hl hm
  unfold f_X8_editionOf at h
  obtain ⟨hv, h⟩ := vm_spec h
  refine pw_iload_n (pc := 0) F dX8_editionOf_0 rfl ?_
  refine pw_if_lt (pc := 1) F 21 dX8_editionOf_1 (by decide) (fun hc => ?_) (fun hc => ?_)
  · have h := iteT hc h
    refine pw_null (pc := 21) F dX8_editionOf_21 ?_
    cases h
    exact pw_aret (pc := 22) F (Or.inl ⟨_, rfl⟩) q dX8_editionOf_22
  · have h := iteF hc h
    refine pw_iload_n (pc := 4) F dX8_editionOf_4 rfl ?_
    refine pw_aload_n (pc := 5) F dX8_editionOf_5 rfl ?_
    obtain ⟨x1, ex1, h⟩ := bnd h
    refine pw_get (pc := 6) F 8 4 335 (by decide) (by decide) g_533bc01838 inl_8 0 rfl dX8_editionOf_6 ex1 ?_
    refine pw_icmp_ge (pc := 9) F 21 dX8_editionOf_9 (by decide) (fun hc => ?_) (fun hc => ?_)
    · have h := iteT hc h
      refine pw_null (pc := 21) F dX8_editionOf_21 ?_
      cases h
      exact pw_aret (pc := 22) F (Or.inl ⟨_, rfl⟩) q dX8_editionOf_22
    · have h := iteF hc h
      refine pw_aload_n (pc := 12) F dX8_editionOf_12 rfl ?_
      obtain ⟨x2, ex2, h⟩ := bnd h
      refine pw_get (pc := 13) F 8 3 24 (by decide) (by decide) g_09faac908b inl_8 2 rfl dX8_editionOf_13 ex2 ?_
      refine pw_iload_n (pc := 16) F dX8_editionOf_16 rfl ?_
      obtain ⟨x3, ex3, h⟩ := bnd h
      refine pw_aald (pc := 17) F 4 (by decide) dX8_editionOf_17 ex3 ?_
      refine pw_goto (pc := 18) F 22 dX8_editionOf_18 (by decide) ?_
      cases h
      exact pw_aret (pc := 22) F (Or.inl ⟨_, rfl⟩) q dX8_editionOf_22
/-! HouseholdVault.frozenSheet(IIII)LHouseholdVault$Sheet; -/
theorem dX8_frozenSheet_0 : decode cX8_frozenSheet 0 = .ok (.aload_n 0, 1) := by decide +kernel
theorem dX8_frozenSheet_1 : decode cX8_frozenSheet 1 = .ok (.iload_n 1, 1) := by decide +kernel
theorem dX8_frozenSheet_2 : decode cX8_frozenSheet 2 = .ok (.invokevirtual 348, 3) := by decide +kernel
theorem dX8_frozenSheet_5 : decode cX8_frozenSheet 5 = .ok (.astore 5, 2) := by decide +kernel
theorem dX8_frozenSheet_7 : decode cX8_frozenSheet 7 = .ok (.aload_n 0, 1) := by decide +kernel
theorem dX8_frozenSheet_8 : decode cX8_frozenSheet 8 = .ok (.getfield 12, 3) := by decide +kernel
theorem dX8_frozenSheet_11 : decode cX8_frozenSheet 11 = .ok (.iload_n 3, 1) := by decide +kernel
theorem dX8_frozenSheet_12 : decode cX8_frozenSheet 12 = .ok (.invokevirtual 46, 3) := by decide +kernel
theorem dX8_frozenSheet_15 : decode cX8_frozenSheet 15 = .ok (.astore 6, 2) := by decide +kernel
theorem dX8_frozenSheet_17 : decode cX8_frozenSheet 17 = .ok (.aload 5, 2) := by decide +kernel
theorem dX8_frozenSheet_19 : decode cX8_frozenSheet 19 = .ok (.ifnull 16, 3) := by decide +kernel
theorem dX8_frozenSheet_22 : decode cX8_frozenSheet 22 = .ok (.aload 6, 2) := by decide +kernel
theorem dX8_frozenSheet_24 : decode cX8_frozenSheet 24 = .ok (.ifnull 11, 3) := by decide +kernel
theorem dX8_frozenSheet_27 : decode cX8_frozenSheet 27 = .ok (.aload 6, 2) := by decide +kernel
theorem dX8_frozenSheet_29 : decode cX8_frozenSheet 29 = .ok (.getfield 75, 3) := by decide +kernel
theorem dX8_frozenSheet_32 : decode cX8_frozenSheet 32 = .ok (.ifCond .eq 5, 3) := by decide +kernel
theorem dX8_frozenSheet_35 : decode cX8_frozenSheet 35 = .ok (.aconst_null, 1) := by decide +kernel
theorem dX8_frozenSheet_36 : decode cX8_frozenSheet 36 = .ok (.areturn, 1) := by decide +kernel
theorem dX8_frozenSheet_37 : decode cX8_frozenSheet 37 = .ok (.iload_n 3, 1) := by decide +kernel
theorem dX8_frozenSheet_38 : decode cX8_frozenSheet 38 = .ok (.aload 5, 2) := by decide +kernel
theorem dX8_frozenSheet_40 : decode cX8_frozenSheet 40 = .ok (.getfield 376, 3) := by decide +kernel
theorem dX8_frozenSheet_43 : decode cX8_frozenSheet 43 = .ok (.if_icmp .ge 17, 3) := by decide +kernel
theorem dX8_frozenSheet_46 : decode cX8_frozenSheet 46 = .ok (.iload_n 2, 1) := by decide +kernel
theorem dX8_frozenSheet_47 : decode cX8_frozenSheet 47 = .ok (.ifCond .lt 13, 3) := by decide +kernel
theorem dX8_frozenSheet_50 : decode cX8_frozenSheet 50 = .ok (.iload_n 2, 1) := by decide +kernel
theorem dX8_frozenSheet_51 : decode cX8_frozenSheet 51 = .ok (.aload 5, 2) := by decide +kernel
theorem dX8_frozenSheet_53 : decode cX8_frozenSheet 53 = .ok (.getfield 356, 3) := by decide +kernel
theorem dX8_frozenSheet_56 : decode cX8_frozenSheet 56 = .ok (.arraylength, 1) := by decide +kernel
theorem dX8_frozenSheet_57 : decode cX8_frozenSheet 57 = .ok (.if_icmp .lt 5, 3) := by decide +kernel
theorem dX8_frozenSheet_60 : decode cX8_frozenSheet 60 = .ok (.aconst_null, 1) := by decide +kernel
theorem dX8_frozenSheet_61 : decode cX8_frozenSheet 61 = .ok (.areturn, 1) := by decide +kernel
theorem dX8_frozenSheet_62 : decode cX8_frozenSheet 62 = .ok (.aload 5, 2) := by decide +kernel
theorem dX8_frozenSheet_64 : decode cX8_frozenSheet 64 = .ok (.getfield 356, 3) := by decide +kernel
theorem dX8_frozenSheet_67 : decode cX8_frozenSheet 67 = .ok (.iload_n 2, 1) := by decide +kernel
theorem dX8_frozenSheet_68 : decode cX8_frozenSheet 68 = .ok (.aaload, 1) := by decide +kernel
theorem dX8_frozenSheet_69 : decode cX8_frozenSheet 69 = .ok (.astore 7, 2) := by decide +kernel
theorem dX8_frozenSheet_71 : decode cX8_frozenSheet 71 = .ok (.aload 7, 2) := by decide +kernel
theorem dX8_frozenSheet_73 : decode cX8_frozenSheet 73 = .ok (.aload 6, 2) := by decide +kernel
theorem dX8_frozenSheet_75 : decode cX8_frozenSheet 75 = .ok (.getfield 88, 3) := by decide +kernel
theorem dX8_frozenSheet_78 : decode cX8_frozenSheet 78 = .ok (.iload 4, 2) := by decide +kernel
theorem dX8_frozenSheet_80 : decode cX8_frozenSheet 80 = .ok (.invokestatic 152, 3) := by decide +kernel
theorem dX8_frozenSheet_83 : decode cX8_frozenSheet 83 = .ok (.ifCond .eq 8, 3) := by decide +kernel
theorem dX8_frozenSheet_86 : decode cX8_frozenSheet 86 = .ok (.aload 7, 2) := by decide +kernel
theorem dX8_frozenSheet_88 : decode cX8_frozenSheet 88 = .ok (.goto 4, 3) := by decide +kernel
theorem dX8_frozenSheet_91 : decode cX8_frozenSheet 91 = .ok (.aconst_null, 1) := by decide +kernel
theorem dX8_frozenSheet_92 : decode cX8_frozenSheet 92 = .ok (.areturn, 1) := by decide +kernel
def f_X8_frozenSheet (a0 a1 a2 a3 a4 : Int) (H : PH) : RO := vm 8 a0 H <|
  (f_X8_editionOf a0 a1 H).bind fun z1 => (ld 24 z1.2 a0 0).bind fun x2 => (f_X3_questionOf x2 a3 z1.2).bind fun z3 => (if z1.1 = -1 then some ((-1), z3.2)
  else (if z3.1 = -1 then some ((-1), z3.2)
  else (ld 21 z3.2 z3.1 2).bind fun x4 => (if x4 = 0 then (ld 17 z3.2 z1.1 1).bind fun x5 => (if a3 ≥ x5 then some ((-1), z3.2)
  else (if a2 < 0 then some ((-1), z3.2)
  else (ld 17 z3.2 z1.1 0).bind fun x6 => (alen z3.2 x6).bind fun x7 => (if a2 < x7 then (ld 17 z3.2 z1.1 0).bind fun x8 => (ld 7 z3.2 x8 a2).bind fun x9 => (ld 21 z3.2 z3.1 1).bind fun x10 => (f_X8_isPlace x9 x10 a4 z3.2).bind fun z11 => (if z11.1 = 0 then some ((-1), z11.2)
  else some (x9, z11.2))
  else some ((-1), z3.2))))
  else some ((-1), z3.2))))
set_option maxHeartbeats 4000000 in
theorem m_X8_frozenSheet (l : Launch) (a0 a1 a2 a3 a4 : Int) (H : PH) (rr : Int) (HH : PH) (h : f_X8_frozenSheet a0 a1 a2 a3 a4 H = some (rr, HH)) : CT l yX8_frozenSheet cX8_frozenSheet 8 (some (.object "HouseholdVault$Sheet")) 3 64 [vr a0, vi a1, vi a2, vi a3, vi a4] H (some (vr rr)) HH := by
  refine CT.of RX8 (by decide) rfl [some (vr a0), some (vi a1), some (vi a2), some (vi a3), some (vi a4), none, none, none] rfl rfl ?_
  intro E F q hn hf hl hm
  unfold f_X8_frozenSheet at h
  obtain ⟨hv, h⟩ := vm_spec h
  refine pw_aload_n (pc := 0) F dX8_frozenSheet_0 rfl ?_
  refine pw_iload_n (pc := 1) F dX8_frozenSheet_1 rfl ?_
  obtain ⟨z1, ez1, h⟩ := bnd h
  refine pw_callV (pc := 2) (as := [vi a1]) (st := []) (r := (some (vr z1.1))) F 348 8 (by decide) rfl (fun l => m_X8_editionOf l a0 a1 H z1.1 z1.2 ez1) g_4811072f13 g_fd5c22ba94 g_9b6d66f1d5 g_99e03e18e2 g_c89f233e61 hd_X8_editionOf (rm_ok hf hl (by decide) (by decide)) rfl (vm_spec ez1).1 dX8_frozenSheet_2 rfl (stk' := [vr z1.1]) rfl ?_
  refine pw_astore (pc := 5) F dX8_frozenSheet_5 (lt_nl hn (by decide)) [some (vr a0), some (vi a1), some (vi a2), some (vi a3), some (vi a4), some (vr z1.1), none, none] rfl ?_
  refine pw_aload_n (pc := 7) F dX8_frozenSheet_7 rfl ?_
  obtain ⟨x2, ex2, h⟩ := bnd h
  refine pw_get (pc := 8) F 8 0 12 (by decide) (by decide) g_955d9610dc inl_8 2 rfl dX8_frozenSheet_8 ex2 ?_
  refine pw_iload_n (pc := 11) F dX8_frozenSheet_11 rfl ?_
  obtain ⟨z3, ez3, h⟩ := bnd h
  refine pw_callV (pc := 12) (as := [vi a3]) (st := []) (r := (some (vr z3.1))) F 46 3 (by decide) rfl (fun l => m_X3_questionOf l x2 a3 z1.2 z3.1 z3.2 ez3) g_babc17a83a g_e6ef547307 g_4b42450d0b g_106b72596f g_1cf8e31489 hd_X3_questionOf (rm_ok hf hl (by decide) (by decide)) rfl (vm_spec ez3).1 dX8_frozenSheet_12 rfl (stk' := [vr z3.1]) rfl ?_
  refine pw_astore (pc := 15) F dX8_frozenSheet_15 (lt_nl hn (by decide)) [some (vr a0), some (vi a1), some (vi a2), some (vi a3), some (vi a4), some (vr z1.1), some (vr z3.1), none] rfl ?_
  refine pw_aload (pc := 17) F dX8_frozenSheet_17 rfl ?_
  refine pw_ifnull (pc := 19) F 35 dX8_frozenSheet_19 (by decide) (fun hc => ?_) (fun hc => ?_)
  · have h := iteT hc h
    refine pw_null (pc := 35) F dX8_frozenSheet_35 ?_
    cases h
    exact pw_aret (pc := 36) F (Or.inl ⟨_, rfl⟩) q dX8_frozenSheet_36
  · have h := iteF hc h
    refine pw_aload (pc := 22) F dX8_frozenSheet_22 rfl ?_
    refine pw_ifnull (pc := 24) F 35 dX8_frozenSheet_24 (by decide) (fun hc => ?_) (fun hc => ?_)
    · have h := iteT hc h
      refine pw_null (pc := 35) F dX8_frozenSheet_35 ?_
      cases h
      exact pw_aret (pc := 36) F (Or.inl ⟨_, rfl⟩) q dX8_frozenSheet_36
    · have h := iteF hc h
      refine pw_aload (pc := 27) F dX8_frozenSheet_27 rfl ?_
      obtain ⟨x4, ex4, h⟩ := bnd h
      refine pw_get (pc := 29) F 5 2 75 (by decide) (by decide) g_3884a6eb9d inl_5 0 rfl dX8_frozenSheet_29 ex4 ?_
      refine pw_if_eq (pc := 32) F 37 dX8_frozenSheet_32 (by decide) (fun hc => ?_) (fun hc => ?_)
      · have h := iteT hc h
        refine pw_iload_n (pc := 37) F dX8_frozenSheet_37 rfl ?_
        refine pw_aload (pc := 38) F dX8_frozenSheet_38 rfl ?_
        obtain ⟨x5, ex5, h⟩ := bnd h
        refine pw_get (pc := 40) F 1 1 376 (by decide) (by decide) g_ec6a53010b inl_1 0 rfl dX8_frozenSheet_40 ex5 ?_
        refine pw_icmp_ge (pc := 43) F 60 dX8_frozenSheet_43 (by decide) (fun hc => ?_) (fun hc => ?_)
        · have h := iteT hc h
          refine pw_null (pc := 60) F dX8_frozenSheet_60 ?_
          cases h
          exact pw_aret (pc := 61) F (Or.inl ⟨_, rfl⟩) q dX8_frozenSheet_61
        · have h := iteF hc h
          refine pw_iload_n (pc := 46) F dX8_frozenSheet_46 rfl ?_
          refine pw_if_lt (pc := 47) F 60 dX8_frozenSheet_47 (by decide) (fun hc => ?_) (fun hc => ?_)
          · have h := iteT hc h
            refine pw_null (pc := 60) F dX8_frozenSheet_60 ?_
            cases h
            exact pw_aret (pc := 61) F (Or.inl ⟨_, rfl⟩) q dX8_frozenSheet_61
          · have h := iteF hc h
            refine pw_iload_n (pc := 50) F dX8_frozenSheet_50 rfl ?_
            refine pw_aload (pc := 51) F dX8_frozenSheet_51 rfl ?_
            obtain ⟨x6, ex6, h⟩ := bnd h
            refine pw_get (pc := 53) F 1 0 356 (by decide) (by decide) g_bee30a97df inl_1 2 rfl dX8_frozenSheet_53 ex6 ?_
            obtain ⟨x7, ex7, h⟩ := bnd h
            refine pw_alen (pc := 56) F dX8_frozenSheet_56 ex7 ?_
            refine pw_icmp_lt (pc := 57) F 62 dX8_frozenSheet_57 (by decide) (fun hc => ?_) (fun hc => ?_)
            · have h := iteT hc h
              refine pw_aload (pc := 62) F dX8_frozenSheet_62 rfl ?_
              obtain ⟨x8, ex8, h⟩ := bnd h
              refine pw_get (pc := 64) F 1 0 356 (by decide) (by decide) g_bee30a97df inl_1 2 rfl dX8_frozenSheet_64 ex8 ?_
              refine pw_iload_n (pc := 67) F dX8_frozenSheet_67 rfl ?_
              obtain ⟨x9, ex9, h⟩ := bnd h
              refine pw_aald (pc := 68) F 7 (by decide) dX8_frozenSheet_68 ex9 ?_
              refine pw_astore (pc := 69) F dX8_frozenSheet_69 (lt_nl hn (by decide)) [some (vr a0), some (vi a1), some (vi a2), some (vi a3), some (vi a4), some (vr z1.1), some (vr z3.1), some (vr x9)] rfl ?_
              refine pw_aload (pc := 71) F dX8_frozenSheet_71 rfl ?_
              refine pw_aload (pc := 73) F dX8_frozenSheet_73 rfl ?_
              obtain ⟨x10, ex10, h⟩ := bnd h
              refine pw_get (pc := 75) F 5 1 88 (by decide) (by decide) g_3644918d03 inl_5 0 rfl dX8_frozenSheet_75 ex10 ?_
              refine pw_iload (pc := 78) F dX8_frozenSheet_78 rfl ?_
              obtain ⟨z11, ez11, h⟩ := bnd h
              refine pw_callS (pc := 80) (as := [vr x9, vi x10, vi a4]) (st := []) (r := (some (vi z11.1))) F 152 (fun l => m_X8_isPlace l x9 x10 a4 z3.2 z11.1 z11.2 ez11) g_f22e7a095c g_0137baa7bf g_99e03e18e2 g_4c36b6c4cd hd_X8_isPlace (rm_ok hf hl (by decide) (by decide)) rfl dX8_frozenSheet_80 rfl (stk' := [vi z11.1]) rfl ?_
              refine pw_if_eq (pc := 83) F 91 dX8_frozenSheet_83 (by decide) (fun hc => ?_) (fun hc => ?_)
              · have h := iteT hc h
                refine pw_null (pc := 91) F dX8_frozenSheet_91 ?_
                cases h
                exact pw_aret (pc := 92) F (Or.inl ⟨_, rfl⟩) q dX8_frozenSheet_92
              · have h := iteF hc h
                refine pw_aload (pc := 86) F dX8_frozenSheet_86 rfl ?_
                refine pw_goto (pc := 88) F 92 dX8_frozenSheet_88 (by decide) ?_
                cases h
                exact pw_aret (pc := 92) F (Or.inl ⟨_, rfl⟩) q dX8_frozenSheet_92
            · have h := iteF hc h
              refine pw_null (pc := 60) F dX8_frozenSheet_60 ?_
              cases h
              exact pw_aret (pc := 61) F (Or.inl ⟨_, rfl⟩) q dX8_frozenSheet_61
      · have h := iteF hc h
        refine pw_null (pc := 35) F dX8_frozenSheet_35 ?_
        cases h
        exact pw_aret (pc := 36) F (Or.inl ⟨_, rfl⟩) q dX8_frozenSheet_36
/-! HouseholdVault.frozen(IIII)J -/
theorem dX8_frozen_0 : decode cX8_frozen 0 = .ok (.aload_n 0, 1) := by decide +kernel
theorem dX8_frozen_1 : decode cX8_frozen 1 = .ok (.iload_n 1, 1) := by decide +kernel
theorem dX8_frozen_2 : decode cX8_frozen 2 = .ok (.iload_n 2, 1) := by decide +kernel
theorem dX8_frozen_3 : decode cX8_frozen 3 = .ok (.iload_n 3, 1) := by decide +kernel
theorem dX8_frozen_4 : decode cX8_frozen 4 = .ok (.iload 4, 2) := by decide +kernel
theorem dX8_frozen_6 : decode cX8_frozen 6 = .ok (.invokevirtual 344, 3) := by decide +kernel
theorem dX8_frozen_9 : decode cX8_frozen 9 = .ok (.astore 5, 2) := by decide +kernel
theorem dX8_frozen_11 : decode cX8_frozen 11 = .ok (.aload 5, 2) := by decide +kernel
theorem dX8_frozen_13 : decode cX8_frozen 13 = .ok (.ifnonnull 7, 3) := by decide +kernel
theorem dX8_frozen_16 : decode cX8_frozen 16 = .ok (.lconst 0, 1) := by decide +kernel
theorem dX8_frozen_17 : decode cX8_frozen 17 = .ok (.goto 15, 3) := by decide +kernel
theorem dX8_frozen_20 : decode cX8_frozen 20 = .ok (.aload 5, 2) := by decide +kernel
theorem dX8_frozen_22 : decode cX8_frozen 22 = .ok (.getfield 172, 3) := by decide +kernel
theorem dX8_frozen_25 : decode cX8_frozen 25 = .ok (.iload_n 3, 1) := by decide +kernel
theorem dX8_frozen_26 : decode cX8_frozen 26 = .ok (.iload 4, 2) := by decide +kernel
theorem dX8_frozen_28 : decode cX8_frozen 28 = .ok (.invokestatic 130, 3) := by decide +kernel
theorem dX8_frozen_31 : decode cX8_frozen 31 = .ok (.laload, 1) := by decide +kernel
theorem dX8_frozen_32 : decode cX8_frozen 32 = .ok (.lreturn, 1) := by decide +kernel
def f_X8_frozen (a0 a1 a2 a3 a4 : Int) (H : PH) : RO := vm 8 a0 H <|
  (f_X8_frozenSheet a0 a1 a2 a3 a4 H).bind fun z1 => (if z1.1 ≠ -1 then (ld 22 z1.2 z1.1 0).bind fun x2 => (f_X8_spot a3 a4 z1.2).bind fun z3 => (ld 1 z3.2 x2 z3.1).bind fun x4 => some (x4, z3.2)
  else some (0, z1.2))
set_option maxHeartbeats 4000000 in
theorem m_X8_frozen (l : Launch) (a0 a1 a2 a3 a4 : Int) (H : PH) (rr : Int) (HH : PH) (h : f_X8_frozen a0 a1 a2 a3 a4 H = some (rr, HH)) : CT l yX8_frozen cX8_frozen 6 (some .long) 4 91 [vr a0, vi a1, vi a2, vi a3, vi a4] H (some (vl rr)) HH := by
  refine CT.of RX8 (by decide) rfl [some (vr a0), some (vi a1), some (vi a2), some (vi a3), some (vi a4), none] rfl rfl ?_
  intro E F q hn hf hl hm
  unfold f_X8_frozen at h
  obtain ⟨hv, h⟩ := vm_spec h
  refine pw_aload_n (pc := 0) F dX8_frozen_0 rfl ?_
  refine pw_iload_n (pc := 1) F dX8_frozen_1 rfl ?_
  refine pw_iload_n (pc := 2) F dX8_frozen_2 rfl ?_
  refine pw_iload_n (pc := 3) F dX8_frozen_3 rfl ?_
  refine pw_iload (pc := 4) F dX8_frozen_4 rfl ?_
  obtain ⟨z1, ez1, h⟩ := bnd h
  refine pw_callV (pc := 6) (as := [vi a1, vi a2, vi a3, vi a4]) (st := []) (r := (some (vr z1.1))) F 344 8 (by decide) rfl (fun l => m_X8_frozenSheet l a0 a1 a2 a3 a4 H z1.1 z1.2 ez1) g_b8a9624dde g_2f1dfae41c g_f147ea985b g_99e03e18e2 g_70b6ae201f hd_X8_frozenSheet (rm_ok hf hl (by decide) (by decide)) rfl (vm_spec ez1).1 dX8_frozen_6 rfl (stk' := [vr z1.1]) rfl ?_
  refine pw_astore (pc := 9) F dX8_frozen_9 (lt_nl hn (by decide)) [some (vr a0), some (vi a1), some (vi a2), some (vi a3), some (vi a4), some (vr z1.1)] rfl ?_
  refine pw_aload (pc := 11) F dX8_frozen_11 rfl ?_
  refine pw_ifnonnull (pc := 13) F 20 dX8_frozen_13 (by decide) (fun hc => ?_) (fun hc => ?_)
  · have h := iteT hc h
    refine pw_aload (pc := 20) F dX8_frozen_20 rfl ?_
    obtain ⟨x2, ex2, h⟩ := bnd h
    refine pw_get (pc := 22) F 6 0 172 (by decide) (by decide) g_6a853c1f58 inl_6 2 rfl dX8_frozen_22 ex2 ?_
    refine pw_iload_n (pc := 25) F dX8_frozen_25 rfl ?_
    refine pw_iload (pc := 26) F dX8_frozen_26 rfl ?_
    obtain ⟨z3, ez3, h⟩ := bnd h
    refine pw_callS (pc := 28) (as := [vi a3, vi a4]) (st := [vr x2]) (r := (some (vi z3.1))) F 130 (fun l => m_X8_spot l a3 a4 z1.2 z3.1 z3.2 ez3) g_3d0f1a9b86 g_aa0997f699 g_99e03e18e2 g_0d0469f624 hd_X8_spot (rm_ok hf hl (by decide) (by decide)) rfl dX8_frozen_28 rfl (stk' := [vi z3.1, vr x2]) rfl ?_
    obtain ⟨x4, ex4, h⟩ := bnd h
    refine pw_lald (pc := 31) F dX8_frozen_31 ex4 ?_
    cases h
    exact pw_lret (pc := 32) F q dX8_frozen_32
  · have h := iteF hc h
    refine pw_lconst (pc := 16) F 0 dX8_frozen_16 (by decide) ?_
    refine pw_goto (pc := 17) F 32 dX8_frozen_17 (by decide) ?_
    cases h
    exact pw_lret (pc := 32) F q dX8_frozen_32
/-! HouseholdVault.frozenReason(IIII)I -/
theorem dX8_frozenReason_0 : decode cX8_frozenReason 0 = .ok (.aload_n 0, 1) := by decide +kernel
theorem dX8_frozenReason_1 : decode cX8_frozenReason 1 = .ok (.iload_n 1, 1) := by decide +kernel
theorem dX8_frozenReason_2 : decode cX8_frozenReason 2 = .ok (.iload_n 2, 1) := by decide +kernel
theorem dX8_frozenReason_3 : decode cX8_frozenReason 3 = .ok (.iload_n 3, 1) := by decide +kernel
theorem dX8_frozenReason_4 : decode cX8_frozenReason 4 = .ok (.iload 4, 2) := by decide +kernel
theorem dX8_frozenReason_6 : decode cX8_frozenReason 6 = .ok (.invokevirtual 344, 3) := by decide +kernel
theorem dX8_frozenReason_9 : decode cX8_frozenReason 9 = .ok (.astore 5, 2) := by decide +kernel
theorem dX8_frozenReason_11 : decode cX8_frozenReason 11 = .ok (.aload 5, 2) := by decide +kernel
theorem dX8_frozenReason_13 : decode cX8_frozenReason 13 = .ok (.ifnonnull 7, 3) := by decide +kernel
theorem dX8_frozenReason_16 : decode cX8_frozenReason 16 = .ok (.iconst (-1), 1) := by decide +kernel
theorem dX8_frozenReason_17 : decode cX8_frozenReason 17 = .ok (.goto 15, 3) := by decide +kernel
theorem dX8_frozenReason_20 : decode cX8_frozenReason 20 = .ok (.aload 5, 2) := by decide +kernel
theorem dX8_frozenReason_22 : decode cX8_frozenReason 22 = .ok (.getfield 176, 3) := by decide +kernel
theorem dX8_frozenReason_25 : decode cX8_frozenReason 25 = .ok (.iload_n 3, 1) := by decide +kernel
theorem dX8_frozenReason_26 : decode cX8_frozenReason 26 = .ok (.iload 4, 2) := by decide +kernel
theorem dX8_frozenReason_28 : decode cX8_frozenReason 28 = .ok (.invokestatic 130, 3) := by decide +kernel
theorem dX8_frozenReason_31 : decode cX8_frozenReason 31 = .ok (.iaload, 1) := by decide +kernel
theorem dX8_frozenReason_32 : decode cX8_frozenReason 32 = .ok (.ireturn, 1) := by decide +kernel
def f_X8_frozenReason (a0 a1 a2 a3 a4 : Int) (H : PH) : RO := vm 8 a0 H <|
  (f_X8_frozenSheet a0 a1 a2 a3 a4 H).bind fun z1 => (if z1.1 ≠ -1 then (ld 22 z1.2 z1.1 1).bind fun x2 => (f_X8_spot a3 a4 z1.2).bind fun z3 => (ld 0 z3.2 x2 z3.1).bind fun x4 => some (x4, z3.2)
  else some ((-1), z1.2))
set_option maxHeartbeats 4000000 in
theorem m_X8_frozenReason (l : Launch) (a0 a1 a2 a3 a4 : Int) (H : PH) (rr : Int) (HH : PH) (h : f_X8_frozenReason a0 a1 a2 a3 a4 H = some (rr, HH)) : CT l yX8_frozenReason cX8_frozenReason 6 (some .int) 4 91 [vr a0, vi a1, vi a2, vi a3, vi a4] H (some (vi rr)) HH := by
  refine CT.of RX8 (by decide) rfl [some (vr a0), some (vi a1), some (vi a2), some (vi a3), some (vi a4), none] rfl rfl ?_
  intro E F q hn hf hl hm
  unfold f_X8_frozenReason at h
  obtain ⟨hv, h⟩ := vm_spec h
  refine pw_aload_n (pc := 0) F dX8_frozenReason_0 rfl ?_
  refine pw_iload_n (pc := 1) F dX8_frozenReason_1 rfl ?_
  refine pw_iload_n (pc := 2) F dX8_frozenReason_2 rfl ?_
  refine pw_iload_n (pc := 3) F dX8_frozenReason_3 rfl ?_
  refine pw_iload (pc := 4) F dX8_frozenReason_4 rfl ?_
  obtain ⟨z1, ez1, h⟩ := bnd h
  refine pw_callV (pc := 6) (as := [vi a1, vi a2, vi a3, vi a4]) (st := []) (r := (some (vr z1.1))) F 344 8 (by decide) rfl (fun l => m_X8_frozenSheet l a0 a1 a2 a3 a4 H z1.1 z1.2 ez1) g_b8a9624dde g_2f1dfae41c g_f147ea985b g_99e03e18e2 g_70b6ae201f hd_X8_frozenSheet (rm_ok hf hl (by decide) (by decide)) rfl (vm_spec ez1).1 dX8_frozenReason_6 rfl (stk' := [vr z1.1]) rfl ?_
  refine pw_astore (pc := 9) F dX8_frozenReason_9 (lt_nl hn (by decide)) [some (vr a0), some (vi a1), some (vi a2), some (vi a3), some (vi a4), some (vr z1.1)] rfl ?_
  refine pw_aload (pc := 11) F dX8_frozenReason_11 rfl ?_
  refine pw_ifnonnull (pc := 13) F 20 dX8_frozenReason_13 (by decide) (fun hc => ?_) (fun hc => ?_)
  · have h := iteT hc h
    refine pw_aload (pc := 20) F dX8_frozenReason_20 rfl ?_
    obtain ⟨x2, ex2, h⟩ := bnd h
    refine pw_get (pc := 22) F 6 1 176 (by decide) (by decide) g_47f3fc4b56 inl_6 2 rfl dX8_frozenReason_22 ex2 ?_
    refine pw_iload_n (pc := 25) F dX8_frozenReason_25 rfl ?_
    refine pw_iload (pc := 26) F dX8_frozenReason_26 rfl ?_
    obtain ⟨z3, ez3, h⟩ := bnd h
    refine pw_callS (pc := 28) (as := [vi a3, vi a4]) (st := [vr x2]) (r := (some (vi z3.1))) F 130 (fun l => m_X8_spot l a3 a4 z1.2 z3.1 z3.2 ez3) g_3d0f1a9b86 g_aa0997f699 g_99e03e18e2 g_0d0469f624 hd_X8_spot (rm_ok hf hl (by decide) (by decide)) rfl dX8_frozenReason_28 rfl (stk' := [vi z3.1, vr x2]) rfl ?_
    obtain ⟨x4, ex4, h⟩ := bnd h
    refine pw_iald (pc := 31) F dX8_frozenReason_31 ex4 ?_
    cases h
    exact pw_iret (pc := 32) F q dX8_frozenReason_32
  · have h := iteF hc h
    refine pw_iconst (pc := 16) F (-1) dX8_frozenReason_16 (by decide) ?_
    refine pw_goto (pc := 17) F 32 dX8_frozenReason_17 (by decide) ?_
    cases h
    exact pw_iret (pc := 32) F q dX8_frozenReason_32
/-! HouseholdVault.meetChanges(LHouseholdVault$Sheet;LHouseholdVault$Sheet;II)V -/
theorem dX8_meetChanges_0 : decode cX8_meetChanges 0 = .ok (.aload_n 0, 1) := by decide +kernel
theorem dX8_meetChanges_1 : decode cX8_meetChanges 1 = .ok (.getfield 12, 3) := by decide +kernel
theorem dX8_meetChanges_4 : decode cX8_meetChanges 4 = .ok (.getfield 144, 3) := by decide +kernel
theorem dX8_meetChanges_7 : decode cX8_meetChanges 7 = .ok (.iload 4, 2) := by decide +kernel
theorem dX8_meetChanges_9 : decode cX8_meetChanges 9 = .ok (.aaload, 1) := by decide +kernel
theorem dX8_meetChanges_10 : decode cX8_meetChanges 10 = .ok (.getfield 88, 3) := by decide +kernel
theorem dX8_meetChanges_13 : decode cX8_meetChanges 13 = .ok (.istore 5, 2) := by decide +kernel
theorem dX8_meetChanges_15 : decode cX8_meetChanges 15 = .ok (.aload_n 1, 1) := by decide +kernel
theorem dX8_meetChanges_16 : decode cX8_meetChanges 16 = .ok (.iload 5, 2) := by decide +kernel
theorem dX8_meetChanges_18 : decode cX8_meetChanges 18 = .ok (.invokestatic 230, 3) := by decide +kernel
theorem dX8_meetChanges_21 : decode cX8_meetChanges 21 = .ok (.istore 6, 2) := by decide +kernel
theorem dX8_meetChanges_23 : decode cX8_meetChanges 23 = .ok (.aload_n 2, 1) := by decide +kernel
theorem dX8_meetChanges_24 : decode cX8_meetChanges 24 = .ok (.iload 5, 2) := by decide +kernel
theorem dX8_meetChanges_26 : decode cX8_meetChanges 26 = .ok (.invokestatic 230, 3) := by decide +kernel
theorem dX8_meetChanges_29 : decode cX8_meetChanges 29 = .ok (.istore 7, 2) := by decide +kernel
theorem dX8_meetChanges_31 : decode cX8_meetChanges 31 = .ok (.iload 6, 2) := by decide +kernel
theorem dX8_meetChanges_33 : decode cX8_meetChanges 33 = .ok (.iload 7, 2) := by decide +kernel
theorem dX8_meetChanges_35 : decode cX8_meetChanges 35 = .ok (.invokestatic 360, 3) := by decide +kernel
theorem dX8_meetChanges_38 : decode cX8_meetChanges 38 = .ok (.istore 8, 2) := by decide +kernel
theorem dX8_meetChanges_40 : decode cX8_meetChanges 40 = .ok (.iload 6, 2) := by decide +kernel
theorem dX8_meetChanges_42 : decode cX8_meetChanges 42 = .ok (.iload 7, 2) := by decide +kernel
theorem dX8_meetChanges_44 : decode cX8_meetChanges 44 = .ok (.invokestatic 205, 3) := by decide +kernel
theorem dX8_meetChanges_47 : decode cX8_meetChanges 47 = .ok (.istore 9, 2) := by decide +kernel
theorem dX8_meetChanges_49 : decode cX8_meetChanges 49 = .ok (.iconst 0, 1) := by decide +kernel
theorem dX8_meetChanges_50 : decode cX8_meetChanges 50 = .ok (.istore 10, 2) := by decide +kernel
theorem dX8_meetChanges_52 : decode cX8_meetChanges 52 = .ok (.iload 10, 2) := by decide +kernel
theorem dX8_meetChanges_54 : decode cX8_meetChanges 54 = .ok (.iload 9, 2) := by decide +kernel
theorem dX8_meetChanges_56 : decode cX8_meetChanges 56 = .ok (.if_icmp .ge 48, 3) := by decide +kernel
theorem dX8_meetChanges_59 : decode cX8_meetChanges 59 = .ok (.iload 10, 2) := by decide +kernel
theorem dX8_meetChanges_61 : decode cX8_meetChanges 61 = .ok (.iload 8, 2) := by decide +kernel
theorem dX8_meetChanges_63 : decode cX8_meetChanges 63 = .ok (.if_icmp .ge 18, 3) := by decide +kernel
theorem dX8_meetChanges_66 : decode cX8_meetChanges 66 = .ok (.aload_n 1, 1) := by decide +kernel
theorem dX8_meetChanges_67 : decode cX8_meetChanges 67 = .ok (.aload_n 2, 1) := by decide +kernel
theorem dX8_meetChanges_68 : decode cX8_meetChanges 68 = .ok (.iload 4, 2) := by decide +kernel
theorem dX8_meetChanges_70 : decode cX8_meetChanges 70 = .ok (.iload 10, 2) := by decide +kernel
theorem dX8_meetChanges_72 : decode cX8_meetChanges 72 = .ok (.invokestatic 130, 3) := by decide +kernel
theorem dX8_meetChanges_75 : decode cX8_meetChanges 75 = .ok (.invokevirtual 327, 3) := by decide +kernel
theorem dX8_meetChanges_78 : decode cX8_meetChanges 78 = .ok (.ifCond .ne 20, 3) := by decide +kernel
theorem dX8_meetChanges_81 : decode cX8_meetChanges 81 = .ok (.aload_n 0, 1) := by decide +kernel
theorem dX8_meetChanges_82 : decode cX8_meetChanges 82 = .ok (.getfield 38, 3) := by decide +kernel
theorem dX8_meetChanges_85 : decode cX8_meetChanges 85 = .ok (.iload_n 3, 1) := by decide +kernel
theorem dX8_meetChanges_86 : decode cX8_meetChanges 86 = .ok (.iload 4, 2) := by decide +kernel
theorem dX8_meetChanges_88 : decode cX8_meetChanges 88 = .ok (.iload 5, 2) := by decide +kernel
theorem dX8_meetChanges_90 : decode cX8_meetChanges 90 = .ok (.iload 10, 2) := by decide +kernel
theorem dX8_meetChanges_92 : decode cX8_meetChanges 92 = .ok (.invokestatic 238, 3) := by decide +kernel
theorem dX8_meetChanges_95 : decode cX8_meetChanges 95 = .ok (.invokevirtual 241, 3) := by decide +kernel
theorem dX8_meetChanges_98 : decode cX8_meetChanges 98 = .ok (.iinc 10 1, 3) := by decide +kernel
theorem dX8_meetChanges_101 : decode cX8_meetChanges 101 = .ok (.goto (-49), 3) := by decide +kernel
theorem dX8_meetChanges_104 : decode cX8_meetChanges 104 = .ok (.return_, 1) := by decide +kernel
def jX8_meetChanges_98 (self52 : Int → PH → RO) (p0 p1 p2 p3 p4 p5 p8 p9 p10 : Int) (H : PH) : RO :=
  self52 (w32 (p10 + 1)) H
set_option maxHeartbeats 4000000 in
theorem jX8_meetChanges_98_ok {E : PE} {rr : Int} {HH : PH} (F : FX E cX8_meetChanges RX8) (q : QE E none HH none) (hn : nLof E = 11) (hf : (roomOf E).frames = 3) (hl : (roomOf E).locals = 63) (self52 : Int → PH → RO) (p0 p1 p2 p3 p4 p5 p8 p9 p10 : Int) (H : PH) (ih52 : ∀ (v10 : Int) (HV : PH), self52 v10 HV = some (rr, HH) → PW E 52 [some (vr p0), some (vr p1), some (vr p2), some (vi p3), some (vi p4), some (vi p5), none, none, some (vi p8), some (vi p9), some (vi v10)] [] HV) (h : jX8_meetChanges_98 self52 p0 p1 p2 p3 p4 p5 p8 p9 p10 H = some (rr, HH)) : PW E 98 [some (vr p0), some (vr p1), some (vr p2), some (vi p3), some (vi p4), some (vi p5), none, none, some (vi p8), some (vi p9), some (vi p10)] [] H := by
  unfold jX8_meetChanges_98 at h
  refine pw_iinc (pc := 98) F dX8_meetChanges_98 rfl (lt_nl hn (by decide)) [some (vr p0), some (vr p1), some (vr p2), some (vi p3), some (vi p4), some (vi p5), none, none, some (vi p8), some (vi p9), some (vi (w32 (p10 + 1)))] rfl (by decide) ?_
  refine pw_goto (pc := 101) F 52 dX8_meetChanges_101 (by decide) ?_
  exact pw_mask [true, true, true, true, true, true, true, true, true, true, true] (ls' := [some (vr p0), some (vr p1), some (vr p2), some (vi p3), some (vi p4), some (vi p5), none, none, some (vi p8), some (vi p9), some (vi (w32 (p10 + 1)))]) rfl (ih52 (w32 (p10 + 1)) H h)
def jX8_meetChanges_81 (self52 : Int → PH → RO) (p0 p1 p2 p3 p4 p5 p8 p9 p10 : Int) (H : PH) : RO :=
  (ld 24 H p0 6).bind fun x1 => (f_X8_personOf p5 p10 H).bind fun z2 => (f_X2_meet x1 p3 p4 z2.1 z2.2).bind fun z3 => jX8_meetChanges_98 self52 p0 p1 p2 p3 p4 p5 p8 p9 p10 z3.2
set_option maxHeartbeats 4000000 in
theorem jX8_meetChanges_81_ok {E : PE} {rr : Int} {HH : PH} (F : FX E cX8_meetChanges RX8) (q : QE E none HH none) (hn : nLof E = 11) (hf : (roomOf E).frames = 3) (hl : (roomOf E).locals = 63) (self52 : Int → PH → RO) (p0 p1 p2 p3 p4 p5 p8 p9 p10 : Int) (H : PH) (ih52 : ∀ (v10 : Int) (HV : PH), self52 v10 HV = some (rr, HH) → PW E 52 [some (vr p0), some (vr p1), some (vr p2), some (vi p3), some (vi p4), some (vi p5), none, none, some (vi p8), some (vi p9), some (vi v10)] [] HV) (h : jX8_meetChanges_81 self52 p0 p1 p2 p3 p4 p5 p8 p9 p10 H = some (rr, HH)) : PW E 81 [some (vr p0), some (vr p1), some (vr p2), some (vi p3), some (vi p4), some (vi p5), none, none, some (vi p8), some (vi p9), some (vi p10)] [] H := by
  unfold jX8_meetChanges_81 at h
  refine pw_aload_n (pc := 81) F dX8_meetChanges_81 rfl ?_
  obtain ⟨x1, ex1, h⟩ := bnd h
  refine pw_get (pc := 82) F 8 6 38 (by decide) (by decide) g_f8de3d2cc6 inl_8 2 rfl dX8_meetChanges_82 ex1 ?_
  refine pw_iload_n (pc := 85) F dX8_meetChanges_85 rfl ?_
  refine pw_iload (pc := 86) F dX8_meetChanges_86 rfl ?_
  refine pw_iload (pc := 88) F dX8_meetChanges_88 rfl ?_
  refine pw_iload (pc := 90) F dX8_meetChanges_90 rfl ?_
  obtain ⟨z2, ez2, h⟩ := bnd h
  refine pw_callS (pc := 92) (as := [vi p5, vi p10]) (st := [vi p4, vi p3, vr x1]) (r := (some (vi z2.1))) F 238 (fun l => m_X8_personOf l p5 p10 H z2.1 z2.2 ez2) g_7cfdbc0380 g_0456d19d5b g_99e03e18e2 g_b67ca90755 hd_X8_personOf (rm_ok hf hl (by decide) (by decide)) rfl dX8_meetChanges_92 rfl (stk' := [vi z2.1, vi p4, vi p3, vr x1]) rfl ?_
  obtain ⟨z3, ez3, h⟩ := bnd h
  refine pw_callV (pc := 95) (as := [vi p3, vi p4, vi z2.1]) (st := []) (r := none) F 241 2 (by decide) rfl (fun l => m_X2_meet l x1 p3 p4 z2.1 z2.2 z3.1 z3.2 ez3) g_9536165261 g_271e0cfd5d g_53b8e75756 g_d27e9d3e51 g_4a28ae1195 hd_X2_meet (rm_ok hf hl (by decide) (by decide)) rfl (vm_spec ez3).1 dX8_meetChanges_95 rfl (stk' := []) rfl ?_
  exact pw_mask [true, true, true, true, true, true, true, true, true, true, true] (ls' := [some (vr p0), some (vr p1), some (vr p2), some (vi p3), some (vi p4), some (vi p5), none, none, some (vi p8), some (vi p9), some (vi p10)]) rfl (jX8_meetChanges_98_ok F q hn hf hl self52 p0 p1 p2 p3 p4 p5 p8 p9 p10 z3.2 ih52 h)
def lX8_meetChanges_52 (p0 p1 p2 p3 p4 p5 p8 p9 : Int) (self52 : Int → PH → RO) (p10 : Int) (H : PH) : RO :=
  (if p10 ≥ p9 then some (0, H)
  else (if p10 ≥ p8 then jX8_meetChanges_81 self52 p0 p1 p2 p3 p4 p5 p8 p9 p10 H
  else (f_X8_spot p4 p10 H).bind fun z1 => (f_X6_isLike p1 p2 z1.1 z1.2).bind fun z2 => (if z2.1 ≠ 0 then jX8_meetChanges_98 self52 p0 p1 p2 p3 p4 p5 p8 p9 p10 z2.2
  else jX8_meetChanges_81 self52 p0 p1 p2 p3 p4 p5 p8 p9 p10 z2.2)))
set_option maxHeartbeats 4000000 in
theorem lX8_meetChanges_52_ok {E : PE} {rr : Int} {HH : PH} (F : FX E cX8_meetChanges RX8) (q : QE E none HH none) (hn : nLof E = 11) (hf : (roomOf E).frames = 3) (hl : (roomOf E).locals = 63) (p0 p1 p2 p3 p4 p5 p8 p9 : Int) : ∀ (n : Nat) (p10 : Int) (H : PH), lq1 (lX8_meetChanges_52 p0 p1 p2 p3 p4 p5 p8 p9) n p10 H = some (rr, HH) → PW E 52 [some (vr p0), some (vr p1), some (vr p2), some (vi p3), some (vi p4), some (vi p5), none, none, some (vi p8), some (vi p9), some (vi p10)] [] H := by
  refine lq1_ind (P := fun p10 H => PW E 52 [some (vr p0), some (vr p1), some (vr p2), some (vi p3), some (vi p4), some (vi p5), none, none, some (vi p8), some (vi p9), some (vi p10)] [] H) ?_
  intro self52 ih52 p10 H h
  unfold lX8_meetChanges_52 at h
  refine pw_iload (pc := 52) F dX8_meetChanges_52 rfl ?_
  refine pw_iload (pc := 54) F dX8_meetChanges_54 rfl ?_
  refine pw_icmp_ge (pc := 56) F 104 dX8_meetChanges_56 (by decide) (fun hc => ?_) (fun hc => ?_)
  · have h := iteT hc h
    cases h
    exact pw_vret (pc := 104) F q dX8_meetChanges_104
  · have h := iteF hc h
    refine pw_iload (pc := 59) F dX8_meetChanges_59 rfl ?_
    refine pw_iload (pc := 61) F dX8_meetChanges_61 rfl ?_
    refine pw_icmp_ge (pc := 63) F 81 dX8_meetChanges_63 (by decide) (fun hc => ?_) (fun hc => ?_)
    · have h := iteT hc h
      exact pw_mask [true, true, true, true, true, true, true, true, true, true, true] (ls' := [some (vr p0), some (vr p1), some (vr p2), some (vi p3), some (vi p4), some (vi p5), none, none, some (vi p8), some (vi p9), some (vi p10)]) rfl (jX8_meetChanges_81_ok F q hn hf hl self52 p0 p1 p2 p3 p4 p5 p8 p9 p10 H ih52 h)
    · have h := iteF hc h
      refine pw_aload_n (pc := 66) F dX8_meetChanges_66 rfl ?_
      refine pw_aload_n (pc := 67) F dX8_meetChanges_67 rfl ?_
      refine pw_iload (pc := 68) F dX8_meetChanges_68 rfl ?_
      refine pw_iload (pc := 70) F dX8_meetChanges_70 rfl ?_
      obtain ⟨z1, ez1, h⟩ := bnd h
      refine pw_callS (pc := 72) (as := [vi p4, vi p10]) (st := [vr p2, vr p1]) (r := (some (vi z1.1))) F 130 (fun l => m_X8_spot l p4 p10 H z1.1 z1.2 ez1) g_3d0f1a9b86 g_aa0997f699 g_99e03e18e2 g_0d0469f624 hd_X8_spot (rm_ok hf hl (by decide) (by decide)) rfl dX8_meetChanges_72 rfl (stk' := [vi z1.1, vr p2, vr p1]) rfl ?_
      obtain ⟨z2, ez2, h⟩ := bnd h
      refine pw_callV (pc := 75) (as := [vr p2, vi z1.1]) (st := []) (r := (some (vi z2.1))) F 327 6 (by decide) rfl (fun l => m_X6_isLike l p1 p2 z1.1 z1.2 z2.1 z2.2 ez2) g_f02cab396d g_99b49d63a4 g_e1eae53a3d g_6d91b6d2eb g_f10e83a0e2 hd_X6_isLike (rm_ok hf hl (by decide) (by decide)) rfl (vm_spec ez2).1 dX8_meetChanges_75 rfl (stk' := [vi z2.1]) rfl ?_
      refine pw_if_ne (pc := 78) F 98 dX8_meetChanges_78 (by decide) (fun hc => ?_) (fun hc => ?_)
      · have h := iteT hc h
        exact pw_mask [true, true, true, true, true, true, true, true, true, true, true] (ls' := [some (vr p0), some (vr p1), some (vr p2), some (vi p3), some (vi p4), some (vi p5), none, none, some (vi p8), some (vi p9), some (vi p10)]) rfl (jX8_meetChanges_98_ok F q hn hf hl self52 p0 p1 p2 p3 p4 p5 p8 p9 p10 z2.2 ih52 h)
      · have h := iteF hc h
        exact pw_mask [true, true, true, true, true, true, true, true, true, true, true] (ls' := [some (vr p0), some (vr p1), some (vr p2), some (vi p3), some (vi p4), some (vi p5), none, none, some (vi p8), some (vi p9), some (vi p10)]) rfl (jX8_meetChanges_81_ok F q hn hf hl self52 p0 p1 p2 p3 p4 p5 p8 p9 p10 z2.2 ih52 h)
def f_X8_meetChanges (a0 a1 a2 a3 a4 : Int) (H : PH) : RO := vm 8 a0 H <|
  (ld 24 H a0 0).bind fun x1 => (ld 19 H x1 0).bind fun x2 => (ld 6 H x2 a4).bind fun x3 => (ld 21 H x3 1).bind fun x4 => (f_X8_placesOf a1 x4 H).bind fun z5 => (f_X8_placesOf a2 x4 z5.2).bind fun z6 => lq1 (lX8_meetChanges_52 a0 a1 a2 a3 a4 x4 (imin z5.1 z6.1) (imax z5.1 z6.1)) 6000 0 z6.2
set_option maxHeartbeats 4000000 in
theorem m_X8_meetChanges (l : Launch) (a0 a1 a2 a3 a4 : Int) (H : PH) (rr : Int) (HH : PH) (h : f_X8_meetChanges a0 a1 a2 a3 a4 H = some (rr, HH)) : CT l yX8_meetChanges cX8_meetChanges 11 none 3 63 [vr a0, vr a1, vr a2, vi a3, vi a4] H none HH := by
  refine CT.of RX8 (by decide) rfl [some (vr a0), some (vr a1), some (vr a2), some (vi a3), some (vi a4), none, none, none, none, none, none] rfl rfl ?_
  intro E F q hn hf hl hm
  unfold f_X8_meetChanges at h
  obtain ⟨hv, h⟩ := vm_spec h
  refine pw_aload_n (pc := 0) F dX8_meetChanges_0 rfl ?_
  obtain ⟨x1, ex1, h⟩ := bnd h
  refine pw_get (pc := 1) F 8 0 12 (by decide) (by decide) g_955d9610dc inl_8 2 rfl dX8_meetChanges_1 ex1 ?_
  obtain ⟨x2, ex2, h⟩ := bnd h
  refine pw_get (pc := 4) F 3 0 144 (by decide) (by decide) g_78df9fc092 inl_3 2 rfl dX8_meetChanges_4 ex2 ?_
  refine pw_iload (pc := 7) F dX8_meetChanges_7 rfl ?_
  obtain ⟨x3, ex3, h⟩ := bnd h
  refine pw_aald (pc := 9) F 6 (by decide) dX8_meetChanges_9 ex3 ?_
  obtain ⟨x4, ex4, h⟩ := bnd h
  refine pw_get (pc := 10) F 5 1 88 (by decide) (by decide) g_3644918d03 inl_5 0 rfl dX8_meetChanges_10 ex4 ?_
  refine pw_istore (pc := 13) F dX8_meetChanges_13 (lt_nl hn (by decide)) [some (vr a0), some (vr a1), some (vr a2), some (vi a3), some (vi a4), some (vi x4), none, none, none, none, none] rfl ?_
  refine pw_aload_n (pc := 15) F dX8_meetChanges_15 rfl ?_
  refine pw_iload (pc := 16) F dX8_meetChanges_16 rfl ?_
  obtain ⟨z5, ez5, h⟩ := bnd h
  refine pw_callS (pc := 18) (as := [vr a1, vi x4]) (st := []) (r := (some (vi z5.1))) F 230 (fun l => m_X8_placesOf l a1 x4 H z5.1 z5.2 ez5) g_337a394b58 g_4eaddf5732 g_99e03e18e2 g_b1b540d8aa hd_X8_placesOf (rm_ok hf hl (by decide) (by decide)) rfl dX8_meetChanges_18 rfl (stk' := [vi z5.1]) rfl ?_
  refine pw_istore (pc := 21) F dX8_meetChanges_21 (lt_nl hn (by decide)) [some (vr a0), some (vr a1), some (vr a2), some (vi a3), some (vi a4), some (vi x4), some (vi z5.1), none, none, none, none] rfl ?_
  refine pw_aload_n (pc := 23) F dX8_meetChanges_23 rfl ?_
  refine pw_iload (pc := 24) F dX8_meetChanges_24 rfl ?_
  obtain ⟨z6, ez6, h⟩ := bnd h
  refine pw_callS (pc := 26) (as := [vr a2, vi x4]) (st := []) (r := (some (vi z6.1))) F 230 (fun l => m_X8_placesOf l a2 x4 z5.2 z6.1 z6.2 ez6) g_337a394b58 g_4eaddf5732 g_99e03e18e2 g_b1b540d8aa hd_X8_placesOf (rm_ok hf hl (by decide) (by decide)) rfl dX8_meetChanges_26 rfl (stk' := [vi z6.1]) rfl ?_
  refine pw_istore (pc := 29) F dX8_meetChanges_29 (lt_nl hn (by decide)) [some (vr a0), some (vr a1), some (vr a2), some (vi a3), some (vi a4), some (vi x4), some (vi z5.1), some (vi z6.1), none, none, none] rfl ?_
  refine pw_iload (pc := 31) F dX8_meetChanges_31 rfl ?_
  refine pw_iload (pc := 33) F dX8_meetChanges_33 rfl ?_
  refine pw_mmin (pc := 35) F 360 g_7b2c370fc8 g_6443835c00 g_544deca7c6 g_4cca852340 (rm_ok hf hl (by decide) (by decide)) rfl dX8_meetChanges_35 ?_
  refine pw_istore (pc := 38) F dX8_meetChanges_38 (lt_nl hn (by decide)) [some (vr a0), some (vr a1), some (vr a2), some (vi a3), some (vi a4), some (vi x4), some (vi z5.1), some (vi z6.1), some (vi (imin z5.1 z6.1)), none, none] rfl ?_
  refine pw_iload (pc := 40) F dX8_meetChanges_40 rfl ?_
  refine pw_iload (pc := 42) F dX8_meetChanges_42 rfl ?_
  refine pw_mmax (pc := 44) F 205 g_ca8853aa87 g_8b9497d0c0 g_544deca7c6 g_7292adb7fd (rm_ok hf hl (by decide) (by decide)) rfl dX8_meetChanges_44 ?_
  refine pw_istore (pc := 47) F dX8_meetChanges_47 (lt_nl hn (by decide)) [some (vr a0), some (vr a1), some (vr a2), some (vi a3), some (vi a4), some (vi x4), some (vi z5.1), some (vi z6.1), some (vi (imin z5.1 z6.1)), some (vi (imax z5.1 z6.1)), none] rfl ?_
  refine pw_iconst (pc := 49) F 0 dX8_meetChanges_49 (by decide) ?_
  refine pw_istore (pc := 50) F dX8_meetChanges_50 (lt_nl hn (by decide)) [some (vr a0), some (vr a1), some (vr a2), some (vi a3), some (vi a4), some (vi x4), some (vi z5.1), some (vi z6.1), some (vi (imin z5.1 z6.1)), some (vi (imax z5.1 z6.1)), some (vi 0)] rfl ?_
  exact pw_mask [true, true, true, true, true, true, false, false, true, true, true] (ls' := [some (vr a0), some (vr a1), some (vr a2), some (vi a3), some (vi a4), some (vi x4), none, none, some (vi (imin z5.1 z6.1)), some (vi (imax z5.1 z6.1)), some (vi 0)]) rfl (lX8_meetChanges_52_ok F q hn hf hl a0 a1 a2 a3 a4 x4 (imin z5.1 z6.1) (imax z5.1 z6.1)  6000 0 z6.2 h)
