/-! HouseholdVault$Table.giveOneMore()V -/
theorem dX7_giveOneMore_0 : decode cX7_giveOneMore 0 = .ok (.iconst 0, 1) := by decide +kernel
theorem dX7_giveOneMore_1 : decode cX7_giveOneMore 1 = .ok (.istore_n 1, 1) := by decide +kernel
theorem dX7_giveOneMore_2 : decode cX7_giveOneMore 2 = .ok (.iconst 1, 1) := by decide +kernel
theorem dX7_giveOneMore_3 : decode cX7_giveOneMore 3 = .ok (.istore_n 2, 1) := by decide +kernel
theorem dX7_giveOneMore_4 : decode cX7_giveOneMore 4 = .ok (.iload_n 2, 1) := by decide +kernel
theorem dX7_giveOneMore_5 : decode cX7_giveOneMore 5 = .ok (.aload_n 0, 1) := by decide +kernel
theorem dX7_giveOneMore_6 : decode cX7_giveOneMore 6 = .ok (.invokevirtual 59, 3) := by decide +kernel
theorem dX7_giveOneMore_9 : decode cX7_giveOneMore 9 = .ok (.if_icmp .ge 27, 3) := by decide +kernel
theorem dX7_giveOneMore_12 : decode cX7_giveOneMore 12 = .ok (.aload_n 0, 1) := by decide +kernel
theorem dX7_giveOneMore_13 : decode cX7_giveOneMore 13 = .ok (.getfield 22, 3) := by decide +kernel
theorem dX7_giveOneMore_16 : decode cX7_giveOneMore 16 = .ok (.iload_n 2, 1) := by decide +kernel
theorem dX7_giveOneMore_17 : decode cX7_giveOneMore 17 = .ok (.laload, 1) := by decide +kernel
theorem dX7_giveOneMore_18 : decode cX7_giveOneMore 18 = .ok (.aload_n 0, 1) := by decide +kernel
theorem dX7_giveOneMore_19 : decode cX7_giveOneMore 19 = .ok (.getfield 22, 3) := by decide +kernel
theorem dX7_giveOneMore_22 : decode cX7_giveOneMore 22 = .ok (.iload_n 1, 1) := by decide +kernel
theorem dX7_giveOneMore_23 : decode cX7_giveOneMore 23 = .ok (.laload, 1) := by decide +kernel
theorem dX7_giveOneMore_24 : decode cX7_giveOneMore 24 = .ok (.lcmp, 1) := by decide +kernel
theorem dX7_giveOneMore_25 : decode cX7_giveOneMore 25 = .ok (.ifCond .le 5, 3) := by decide +kernel
theorem dX7_giveOneMore_28 : decode cX7_giveOneMore 28 = .ok (.iload_n 2, 1) := by decide +kernel
theorem dX7_giveOneMore_29 : decode cX7_giveOneMore 29 = .ok (.istore_n 1, 1) := by decide +kernel
theorem dX7_giveOneMore_30 : decode cX7_giveOneMore 30 = .ok (.iinc 2 1, 3) := by decide +kernel
theorem dX7_giveOneMore_33 : decode cX7_giveOneMore 33 = .ok (.goto (-29), 3) := by decide +kernel
theorem dX7_giveOneMore_36 : decode cX7_giveOneMore 36 = .ok (.aload_n 0, 1) := by decide +kernel
theorem dX7_giveOneMore_37 : decode cX7_giveOneMore 37 = .ok (.getfield 19, 3) := by decide +kernel
theorem dX7_giveOneMore_40 : decode cX7_giveOneMore 40 = .ok (.iload_n 1, 1) := by decide +kernel
theorem dX7_giveOneMore_41 : decode cX7_giveOneMore 41 = .ok (.dup2, 1) := by decide +kernel
theorem dX7_giveOneMore_42 : decode cX7_giveOneMore 42 = .ok (.iaload, 1) := by decide +kernel
theorem dX7_giveOneMore_43 : decode cX7_giveOneMore 43 = .ok (.iconst 1, 1) := by decide +kernel
theorem dX7_giveOneMore_44 : decode cX7_giveOneMore 44 = .ok (.iadd, 1) := by decide +kernel
theorem dX7_giveOneMore_45 : decode cX7_giveOneMore 45 = .ok (.iastore, 1) := by decide +kernel
theorem dX7_giveOneMore_46 : decode cX7_giveOneMore 46 = .ok (.aload_n 0, 1) := by decide +kernel
theorem dX7_giveOneMore_47 : decode cX7_giveOneMore 47 = .ok (.getfield 22, 3) := by decide +kernel
theorem dX7_giveOneMore_50 : decode cX7_giveOneMore 50 = .ok (.iload_n 1, 1) := by decide +kernel
theorem dX7_giveOneMore_51 : decode cX7_giveOneMore 51 = .ok (.ldc2_w 66, 3) := by decide +kernel
theorem dX7_giveOneMore_54 : decode cX7_giveOneMore 54 = .ok (.lastore, 1) := by decide +kernel
theorem dX7_giveOneMore_55 : decode cX7_giveOneMore 55 = .ok (.return_, 1) := by decide +kernel
def jX7_giveOneMore_30 (self4 : Int → Int → PH → RO) (p0 p1 p2 : Int) (H : PH) : RO :=
  self4 p1 (w32 (p2 + 1)) H
set_option maxHeartbeats 4000000 in
theorem jX7_giveOneMore_30_ok {E : PE} {rr : Int} {HH : PH} (F : FX E cX7_giveOneMore RX7) (q : QE E none HH none) (hn : nLof E = 3) (hf : (roomOf E).frames = 1) (hl : (roomOf E).locals = 20) (self4 : Int → Int → PH → RO) (p0 p1 p2 : Int) (H : PH) (ih4 : ∀ (v1 v2 : Int) (HV : PH), self4 v1 v2 HV = some (rr, HH) → PW E 4 [some (vr p0), some (vi v1), some (vi v2)] [] HV) (h : jX7_giveOneMore_30 self4 p0 p1 p2 H = some (rr, HH)) : PW E 30 [some (vr p0), some (vi p1), some (vi p2)] [] H := by
  unfold jX7_giveOneMore_30 at h
  refine pw_iinc (pc := 30) F dX7_giveOneMore_30 rfl (lt_nl hn (by decide)) [some (vr p0), some (vi p1), some (vi (w32 (p2 + 1)))] rfl (by decide) ?_
  refine pw_goto (pc := 33) F 4 dX7_giveOneMore_33 (by decide) ?_
  exact pw_mask [true, true, true] (ls' := [some (vr p0), some (vi p1), some (vi (w32 (p2 + 1)))]) rfl (ih4 p1 (w32 (p2 + 1)) H h)
def lX7_giveOneMore_4 (p0 : Int) (self4 : Int → Int → PH → RO) (p1 p2 : Int) (H : PH) : RO :=
  (f_X7_cells p0 H).bind fun z1 => (if p2 ≥ z1.1 then (ld 23 z1.2 p0 5).bind fun x2 => (ld 0 z1.2 x2 p1).bind fun x3 => (stv 0 z1.2 x2 p1 (w32 (x3 + 1))).bind fun H4 => (ld 23 H4 p0 6).bind fun x5 => (stv 1 H4 x5 p1 (-1)).bind fun H6 => some (0, H6)
  else (ld 23 z1.2 p0 6).bind fun x7 => (ld 1 z1.2 x7 p2).bind fun x8 => (ld 23 z1.2 p0 6).bind fun x9 => (ld 1 z1.2 x9 p1).bind fun x10 => (if (lc x8 x10) ≤ 0 then jX7_giveOneMore_30 self4 p0 p1 p2 z1.2
  else jX7_giveOneMore_30 self4 p0 p2 p2 z1.2))
set_option maxHeartbeats 4000000 in
theorem lX7_giveOneMore_4_ok {E : PE} {rr : Int} {HH : PH} (F : FX E cX7_giveOneMore RX7) (q : QE E none HH none) (hn : nLof E = 3) (hf : (roomOf E).frames = 1) (hl : (roomOf E).locals = 20) (p0 : Int) : ∀ (n : Nat) (p1 p2 : Int) (H : PH), lq2 (lX7_giveOneMore_4 p0) n p1 p2 H = some (rr, HH) → PW E 4 [some (vr p0), some (vi p1), some (vi p2)] [] H := by
  refine lq2_ind (P := fun p1 p2 H => PW E 4 [some (vr p0), some (vi p1), some (vi p2)] [] H) ?_
  intro self4 ih4 p1 p2 H h
  unfold lX7_giveOneMore_4 at h
  refine pw_iload_n (pc := 4) F dX7_giveOneMore_4 rfl ?_
  refine pw_aload_n (pc := 5) F dX7_giveOneMore_5 rfl ?_
  obtain ⟨z1, ez1, h⟩ := bnd h
  refine pw_callV (pc := 6) (as := []) (st := [vi p2]) (r := (some (vi z1.1))) F 59 7 (by decide) rfl (fun l => m_X7_cells l p0 H z1.1 z1.2 ez1) g_8284c179e4 g_63b3101b09 g_52aff81344 g_030a77a6da g_6db5cc8efa hd_X7_cells (rm_ok hf hl (by decide) (by decide)) rfl (vm_spec ez1).1 dX7_giveOneMore_6 rfl (stk' := [vi z1.1, vi p2]) rfl ?_
  refine pw_icmp_ge (pc := 9) F 36 dX7_giveOneMore_9 (by decide) (fun hc => ?_) (fun hc => ?_)
  · have h := iteT hc h
    refine pw_aload_n (pc := 36) F dX7_giveOneMore_36 rfl ?_
    obtain ⟨x2, ex2, h⟩ := bnd h
    refine pw_get (pc := 37) F 7 5 19 (by decide) (by decide) g_174638763c inl_7 2 rfl dX7_giveOneMore_37 ex2 ?_
    refine pw_iload_n (pc := 40) F dX7_giveOneMore_40 rfl ?_
    refine pw_dup2 (pc := 41) F dX7_giveOneMore_41 (pvne rfl) (pvne rfl) ?_
    obtain ⟨x3, ex3, h⟩ := bnd h
    refine pw_iald (pc := 42) F dX7_giveOneMore_42 ex3 ?_
    refine pw_iconst (pc := 43) F 1 dX7_giveOneMore_43 (by decide) ?_
    refine pw_iadd (pc := 44) F dX7_giveOneMore_44 ?_
    obtain ⟨H4, eH4, h⟩ := bnd h
    refine pw_iast (pc := 45) F dX7_giveOneMore_45 eH4 ?_
    refine pw_aload_n (pc := 46) F dX7_giveOneMore_46 rfl ?_
    obtain ⟨x5, ex5, h⟩ := bnd h
    refine pw_get (pc := 47) F 7 6 22 (by decide) (by decide) g_0d79f5ff1b inl_7 2 rfl dX7_giveOneMore_47 ex5 ?_
    refine pw_iload_n (pc := 50) F dX7_giveOneMore_50 rfl ?_
    refine pw_ldc2 (pc := 51) F (-1) g_b56b72a0e9 dX7_giveOneMore_51 (by decide) ?_
    obtain ⟨H6, eH6, h⟩ := bnd h
    refine pw_last (pc := 54) F dX7_giveOneMore_54 eH6 ?_
    cases h
    exact pw_vret (pc := 55) F q dX7_giveOneMore_55
  · have h := iteF hc h
    refine pw_aload_n (pc := 12) F dX7_giveOneMore_12 rfl ?_
    obtain ⟨x7, ex7, h⟩ := bnd h
    refine pw_get (pc := 13) F 7 6 22 (by decide) (by decide) g_0d79f5ff1b inl_7 2 rfl dX7_giveOneMore_13 ex7 ?_
    refine pw_iload_n (pc := 16) F dX7_giveOneMore_16 rfl ?_
    obtain ⟨x8, ex8, h⟩ := bnd h
    refine pw_lald (pc := 17) F dX7_giveOneMore_17 ex8 ?_
    refine pw_aload_n (pc := 18) F dX7_giveOneMore_18 rfl ?_
    obtain ⟨x9, ex9, h⟩ := bnd h
    refine pw_get (pc := 19) F 7 6 22 (by decide) (by decide) g_0d79f5ff1b inl_7 2 rfl dX7_giveOneMore_19 ex9 ?_
    refine pw_iload_n (pc := 22) F dX7_giveOneMore_22 rfl ?_
    obtain ⟨x10, ex10, h⟩ := bnd h
    refine pw_lald (pc := 23) F dX7_giveOneMore_23 ex10 ?_
    refine pw_lcmp (pc := 24) F dX7_giveOneMore_24 ?_
    refine pw_if_le (pc := 25) F 30 dX7_giveOneMore_25 (by decide) (fun hc => ?_) (fun hc => ?_)
    · have h := iteT hc h
      exact pw_mask [true, true, true] (ls' := [some (vr p0), some (vi p1), some (vi p2)]) rfl (jX7_giveOneMore_30_ok F q hn hf hl self4 p0 p1 p2 z1.2 ih4 h)
    · have h := iteF hc h
      refine pw_iload_n (pc := 28) F dX7_giveOneMore_28 rfl ?_
      refine pw_istore_n (pc := 29) F dX7_giveOneMore_29 (lt_nl hn (by decide)) [some (vr p0), some (vi p2), some (vi p2)] rfl ?_
      exact pw_mask [true, true, true] (ls' := [some (vr p0), some (vi p2), some (vi p2)]) rfl (jX7_giveOneMore_30_ok F q hn hf hl self4 p0 p2 p2 z1.2 ih4 h)
def f_X7_giveOneMore (a0 : Int) (H : PH) : RO := vm 7 a0 H <|
  lq2 (lX7_giveOneMore_4 a0) 6000 0 1 H
set_option maxHeartbeats 4000000 in
theorem m_X7_giveOneMore (l : Launch) (a0 : Int) (H : PH) (rr : Int) (HH : PH) (h : f_X7_giveOneMore a0 H = some (rr, HH)) : CT l yX7_giveOneMore cX7_giveOneMore 3 none 1 20 [vr a0] H none HH := by
  refine CT.of RX7 (by decide) rfl [some (vr a0), none, none] rfl rfl ?_
  intro E F q hn hf hl hm
  unfold f_X7_giveOneMore at h
  obtain ⟨hv, h⟩ := vm_spec h
  refine pw_iconst (pc := 0) F 0 dX7_giveOneMore_0 (by decide) ?_
  refine pw_istore_n (pc := 1) F dX7_giveOneMore_1 (lt_nl hn (by decide)) [some (vr a0), some (vi 0), none] rfl ?_
  refine pw_iconst (pc := 2) F 1 dX7_giveOneMore_2 (by decide) ?_
  refine pw_istore_n (pc := 3) F dX7_giveOneMore_3 (lt_nl hn (by decide)) [some (vr a0), some (vi 0), some (vi 1)] rfl ?_
  exact pw_mask [true, true, true] (ls' := [some (vr a0), some (vi 0), some (vi 1)]) rfl (lX7_giveOneMore_4_ok F q hn hf hl a0  6000 0 1 H h)
/-! HouseholdVault$Table.reckonShares(I)Z -/
theorem dX7_reckonShares_0 : decode cX7_reckonShares 0 = .ok (.aload_n 0, 1) := by decide +kernel
theorem dX7_reckonShares_1 : decode cX7_reckonShares 1 = .ok (.getfield 19, 3) := by decide +kernel
theorem dX7_reckonShares_4 : decode cX7_reckonShares 4 = .ok (.iconst 0, 1) := by decide +kernel
theorem dX7_reckonShares_5 : decode cX7_reckonShares 5 = .ok (.invokestatic 39, 3) := by decide +kernel
theorem dX7_reckonShares_8 : decode cX7_reckonShares 8 = .ok (.lconst 0, 1) := by decide +kernel
theorem dX7_reckonShares_9 : decode cX7_reckonShares 9 = .ok (.lstore_n 2, 1) := by decide +kernel
theorem dX7_reckonShares_10 : decode cX7_reckonShares 10 = .ok (.iconst 0, 1) := by decide +kernel
theorem dX7_reckonShares_11 : decode cX7_reckonShares 11 = .ok (.istore 4, 2) := by decide +kernel
theorem dX7_reckonShares_13 : decode cX7_reckonShares 13 = .ok (.iload 4, 2) := by decide +kernel
theorem dX7_reckonShares_15 : decode cX7_reckonShares 15 = .ok (.aload_n 0, 1) := by decide +kernel
theorem dX7_reckonShares_16 : decode cX7_reckonShares 16 = .ok (.invokevirtual 59, 3) := by decide +kernel
theorem dX7_reckonShares_19 : decode cX7_reckonShares 19 = .ok (.if_icmp .ge 19, 3) := by decide +kernel
theorem dX7_reckonShares_22 : decode cX7_reckonShares 22 = .ok (.lload_n 2, 1) := by decide +kernel
theorem dX7_reckonShares_23 : decode cX7_reckonShares 23 = .ok (.aload_n 0, 1) := by decide +kernel
theorem dX7_reckonShares_24 : decode cX7_reckonShares 24 = .ok (.getfield 15, 3) := by decide +kernel
theorem dX7_reckonShares_27 : decode cX7_reckonShares 27 = .ok (.iload 4, 2) := by decide +kernel
theorem dX7_reckonShares_29 : decode cX7_reckonShares 29 = .ok (.laload, 1) := by decide +kernel
theorem dX7_reckonShares_30 : decode cX7_reckonShares 30 = .ok (.ladd, 1) := by decide +kernel
theorem dX7_reckonShares_31 : decode cX7_reckonShares 31 = .ok (.lstore_n 2, 1) := by decide +kernel
theorem dX7_reckonShares_32 : decode cX7_reckonShares 32 = .ok (.iinc 4 1, 3) := by decide +kernel
theorem dX7_reckonShares_35 : decode cX7_reckonShares 35 = .ok (.goto (-22), 3) := by decide +kernel
theorem dX7_reckonShares_38 : decode cX7_reckonShares 38 = .ok (.lload_n 2, 1) := by decide +kernel
theorem dX7_reckonShares_39 : decode cX7_reckonShares 39 = .ok (.lconst 0, 1) := by decide +kernel
theorem dX7_reckonShares_40 : decode cX7_reckonShares 40 = .ok (.lcmp, 1) := by decide +kernel
theorem dX7_reckonShares_41 : decode cX7_reckonShares 41 = .ok (.ifCond .gt 5, 3) := by decide +kernel
theorem dX7_reckonShares_44 : decode cX7_reckonShares 44 = .ok (.iconst 0, 1) := by decide +kernel
theorem dX7_reckonShares_45 : decode cX7_reckonShares 45 = .ok (.ireturn, 1) := by decide +kernel
theorem dX7_reckonShares_46 : decode cX7_reckonShares 46 = .ok (.iload_n 1, 1) := by decide +kernel
theorem dX7_reckonShares_47 : decode cX7_reckonShares 47 = .ok (.istore 4, 2) := by decide +kernel
theorem dX7_reckonShares_49 : decode cX7_reckonShares 49 = .ok (.iconst 0, 1) := by decide +kernel
theorem dX7_reckonShares_50 : decode cX7_reckonShares 50 = .ok (.istore 5, 2) := by decide +kernel
theorem dX7_reckonShares_52 : decode cX7_reckonShares 52 = .ok (.iload 5, 2) := by decide +kernel
theorem dX7_reckonShares_54 : decode cX7_reckonShares 54 = .ok (.aload_n 0, 1) := by decide +kernel
theorem dX7_reckonShares_55 : decode cX7_reckonShares 55 = .ok (.invokevirtual 59, 3) := by decide +kernel
theorem dX7_reckonShares_58 : decode cX7_reckonShares 58 = .ok (.if_icmp .ge 60, 3) := by decide +kernel
theorem dX7_reckonShares_61 : decode cX7_reckonShares 61 = .ok (.aload_n 0, 1) := by decide +kernel
theorem dX7_reckonShares_62 : decode cX7_reckonShares 62 = .ok (.getfield 19, 3) := by decide +kernel
theorem dX7_reckonShares_65 : decode cX7_reckonShares 65 = .ok (.iload 5, 2) := by decide +kernel
theorem dX7_reckonShares_67 : decode cX7_reckonShares 67 = .ok (.iload_n 1, 1) := by decide +kernel
theorem dX7_reckonShares_68 : decode cX7_reckonShares 68 = .ok (.i2l, 1) := by decide +kernel
theorem dX7_reckonShares_69 : decode cX7_reckonShares 69 = .ok (.aload_n 0, 1) := by decide +kernel
theorem dX7_reckonShares_70 : decode cX7_reckonShares 70 = .ok (.getfield 15, 3) := by decide +kernel
theorem dX7_reckonShares_73 : decode cX7_reckonShares 73 = .ok (.iload 5, 2) := by decide +kernel
theorem dX7_reckonShares_75 : decode cX7_reckonShares 75 = .ok (.laload, 1) := by decide +kernel
theorem dX7_reckonShares_76 : decode cX7_reckonShares 76 = .ok (.lmul, 1) := by decide +kernel
theorem dX7_reckonShares_77 : decode cX7_reckonShares 77 = .ok (.lload_n 2, 1) := by decide +kernel
theorem dX7_reckonShares_78 : decode cX7_reckonShares 78 = .ok (.ldiv, 1) := by decide +kernel
theorem dX7_reckonShares_79 : decode cX7_reckonShares 79 = .ok (.l2i, 1) := by decide +kernel
theorem dX7_reckonShares_80 : decode cX7_reckonShares 80 = .ok (.iastore, 1) := by decide +kernel
theorem dX7_reckonShares_81 : decode cX7_reckonShares 81 = .ok (.aload_n 0, 1) := by decide +kernel
theorem dX7_reckonShares_82 : decode cX7_reckonShares 82 = .ok (.getfield 22, 3) := by decide +kernel
theorem dX7_reckonShares_85 : decode cX7_reckonShares 85 = .ok (.iload 5, 2) := by decide +kernel
theorem dX7_reckonShares_87 : decode cX7_reckonShares 87 = .ok (.iload_n 1, 1) := by decide +kernel
theorem dX7_reckonShares_88 : decode cX7_reckonShares 88 = .ok (.i2l, 1) := by decide +kernel
theorem dX7_reckonShares_89 : decode cX7_reckonShares 89 = .ok (.aload_n 0, 1) := by decide +kernel
theorem dX7_reckonShares_90 : decode cX7_reckonShares 90 = .ok (.getfield 15, 3) := by decide +kernel
theorem dX7_reckonShares_93 : decode cX7_reckonShares 93 = .ok (.iload 5, 2) := by decide +kernel
theorem dX7_reckonShares_95 : decode cX7_reckonShares 95 = .ok (.laload, 1) := by decide +kernel
theorem dX7_reckonShares_96 : decode cX7_reckonShares 96 = .ok (.lmul, 1) := by decide +kernel
theorem dX7_reckonShares_97 : decode cX7_reckonShares 97 = .ok (.lload_n 2, 1) := by decide +kernel
theorem dX7_reckonShares_98 : decode cX7_reckonShares 98 = .ok (.lrem, 1) := by decide +kernel
theorem dX7_reckonShares_99 : decode cX7_reckonShares 99 = .ok (.lastore, 1) := by decide +kernel
theorem dX7_reckonShares_100 : decode cX7_reckonShares 100 = .ok (.iload 4, 2) := by decide +kernel
theorem dX7_reckonShares_102 : decode cX7_reckonShares 102 = .ok (.aload_n 0, 1) := by decide +kernel
theorem dX7_reckonShares_103 : decode cX7_reckonShares 103 = .ok (.getfield 19, 3) := by decide +kernel
theorem dX7_reckonShares_106 : decode cX7_reckonShares 106 = .ok (.iload 5, 2) := by decide +kernel
theorem dX7_reckonShares_108 : decode cX7_reckonShares 108 = .ok (.iaload, 1) := by decide +kernel
theorem dX7_reckonShares_109 : decode cX7_reckonShares 109 = .ok (.isub, 1) := by decide +kernel
theorem dX7_reckonShares_110 : decode cX7_reckonShares 110 = .ok (.istore 4, 2) := by decide +kernel
theorem dX7_reckonShares_112 : decode cX7_reckonShares 112 = .ok (.iinc 5 1, 3) := by decide +kernel
theorem dX7_reckonShares_115 : decode cX7_reckonShares 115 = .ok (.goto (-63), 3) := by decide +kernel
theorem dX7_reckonShares_118 : decode cX7_reckonShares 118 = .ok (.iconst 0, 1) := by decide +kernel
theorem dX7_reckonShares_119 : decode cX7_reckonShares 119 = .ok (.istore 5, 2) := by decide +kernel
theorem dX7_reckonShares_121 : decode cX7_reckonShares 121 = .ok (.iload 5, 2) := by decide +kernel
theorem dX7_reckonShares_123 : decode cX7_reckonShares 123 = .ok (.iload 4, 2) := by decide +kernel
theorem dX7_reckonShares_125 : decode cX7_reckonShares 125 = .ok (.if_icmp .ge 13, 3) := by decide +kernel
theorem dX7_reckonShares_128 : decode cX7_reckonShares 128 = .ok (.aload_n 0, 1) := by decide +kernel
theorem dX7_reckonShares_129 : decode cX7_reckonShares 129 = .ok (.invokevirtual 63, 3) := by decide +kernel
theorem dX7_reckonShares_132 : decode cX7_reckonShares 132 = .ok (.iinc 5 1, 3) := by decide +kernel
theorem dX7_reckonShares_135 : decode cX7_reckonShares 135 = .ok (.goto (-14), 3) := by decide +kernel
theorem dX7_reckonShares_138 : decode cX7_reckonShares 138 = .ok (.iconst 1, 1) := by decide +kernel
theorem dX7_reckonShares_139 : decode cX7_reckonShares 139 = .ok (.ireturn, 1) := by decide +kernel
def lX7_reckonShares_121 (p0 p4 : Int) (self121 : Int → PH → RO) (p5 : Int) (H : PH) : RO :=
  (if p5 ≥ p4 then some (1, H)
  else (f_X7_giveOneMore p0 H).bind fun z1 => self121 (w32 (p5 + 1)) z1.2)
set_option maxHeartbeats 4000000 in
theorem lX7_reckonShares_121_ok {E : PE} {rr : Int} {HH : PH} (F : FX E cX7_reckonShares RX7) (q : QE E (some (vi rr)) HH (some .boolean)) (hn : nLof E = 6) (hf : (roomOf E).frames = 2) (hl : (roomOf E).locals = 42) (p0 p4 : Int) : ∀ (n : Nat) (p5 : Int) (H : PH), lq1 (lX7_reckonShares_121 p0 p4) n p5 H = some (rr, HH) → PW E 121 [some (vr p0), none, none, none, some (vi p4), some (vi p5)] [] H := by
  refine lq1_ind (P := fun p5 H => PW E 121 [some (vr p0), none, none, none, some (vi p4), some (vi p5)] [] H) ?_
  intro self121 ih121 p5 H h
  unfold lX7_reckonShares_121 at h
  refine pw_iload (pc := 121) F dX7_reckonShares_121 rfl ?_
  refine pw_iload (pc := 123) F dX7_reckonShares_123 rfl ?_
  refine pw_icmp_ge (pc := 125) F 138 dX7_reckonShares_125 (by decide) (fun hc => ?_) (fun hc => ?_)
  · have h := iteT hc h
    refine pw_iconst (pc := 138) F 1 dX7_reckonShares_138 (by decide) ?_
    cases h
    exact pw_zret (pc := 139) F q (by decide) dX7_reckonShares_139
  · have h := iteF hc h
    refine pw_aload_n (pc := 128) F dX7_reckonShares_128 rfl ?_
    obtain ⟨z1, ez1, h⟩ := bnd h
    refine pw_callV (pc := 129) (as := []) (st := []) (r := none) F 63 7 (by decide) rfl (fun l => m_X7_giveOneMore l p0 H z1.1 z1.2 ez1) g_a9169ab7ac g_3894c1f5d6 g_f4886fce42 g_030a77a6da g_08ba90cb68 hd_X7_giveOneMore (rm_ok hf hl (by decide) (by decide)) rfl (vm_spec ez1).1 dX7_reckonShares_129 rfl (stk' := []) rfl ?_
    refine pw_iinc (pc := 132) F dX7_reckonShares_132 rfl (lt_nl hn (by decide)) [some (vr p0), none, none, none, some (vi p4), some (vi (w32 (p5 + 1)))] rfl (by decide) ?_
    refine pw_goto (pc := 135) F 121 dX7_reckonShares_135 (by decide) ?_
    exact pw_mask [true, true, true, true, true, true] (ls' := [some (vr p0), none, none, none, some (vi p4), some (vi (w32 (p5 + 1)))]) rfl (ih121 (w32 (p5 + 1)) z1.2 h)
def lX7_reckonShares_52 (p0 p1 p2 : Int) (self52 : Int → Int → PH → RO) (p4 p5 : Int) (H : PH) : RO :=
  (f_X7_cells p0 H).bind fun z1 => (if p5 ≥ z1.1 then lq1 (lX7_reckonShares_121 p0 p4) 6000 0 z1.2
  else (ld 23 z1.2 p0 5).bind fun x2 => (ld 23 z1.2 p0 4).bind fun x3 => (ld 1 z1.2 x3 p5).bind fun x4 => (if p2 = 0 then none else (stv 0 z1.2 x2 p5 (w32 (w64 (Int.tdiv (w64 (p1 * x4)) p2)))).bind fun H5 => (ld 23 H5 p0 6).bind fun x6 => (ld 23 H5 p0 4).bind fun x7 => (ld 1 H5 x7 p5).bind fun x8 => (if p2 = 0 then none else (stv 1 H5 x6 p5 (Int.tmod (w64 (p1 * x8)) p2)).bind fun H9 => (ld 23 H9 p0 5).bind fun x10 => (ld 0 H9 x10 p5).bind fun x11 => self52 (w32 (p4 - x11)) (w32 (p5 + 1)) H9)))
set_option maxHeartbeats 4000000 in
theorem lX7_reckonShares_52_ok {E : PE} {rr : Int} {HH : PH} (F : FX E cX7_reckonShares RX7) (q : QE E (some (vi rr)) HH (some .boolean)) (hn : nLof E = 6) (hf : (roomOf E).frames = 2) (hl : (roomOf E).locals = 42) (p0 p1 p2 : Int) : ∀ (n : Nat) (p4 p5 : Int) (H : PH), lq2 (lX7_reckonShares_52 p0 p1 p2) n p4 p5 H = some (rr, HH) → PW E 52 [some (vr p0), some (vi p1), some (vl p2), none, some (vi p4), some (vi p5)] [] H := by
  refine lq2_ind (P := fun p4 p5 H => PW E 52 [some (vr p0), some (vi p1), some (vl p2), none, some (vi p4), some (vi p5)] [] H) ?_
  intro self52 ih52 p4 p5 H h
  unfold lX7_reckonShares_52 at h
  refine pw_iload (pc := 52) F dX7_reckonShares_52 rfl ?_
  refine pw_aload_n (pc := 54) F dX7_reckonShares_54 rfl ?_
  obtain ⟨z1, ez1, h⟩ := bnd h
  refine pw_callV (pc := 55) (as := []) (st := [vi p5]) (r := (some (vi z1.1))) F 59 7 (by decide) rfl (fun l => m_X7_cells l p0 H z1.1 z1.2 ez1) g_8284c179e4 g_63b3101b09 g_52aff81344 g_030a77a6da g_6db5cc8efa hd_X7_cells (rm_ok hf hl (by decide) (by decide)) rfl (vm_spec ez1).1 dX7_reckonShares_55 rfl (stk' := [vi z1.1, vi p5]) rfl ?_
  refine pw_icmp_ge (pc := 58) F 118 dX7_reckonShares_58 (by decide) (fun hc => ?_) (fun hc => ?_)
  · have h := iteT hc h
    refine pw_iconst (pc := 118) F 0 dX7_reckonShares_118 (by decide) ?_
    refine pw_istore (pc := 119) F dX7_reckonShares_119 (lt_nl hn (by decide)) [some (vr p0), some (vi p1), some (vl p2), none, some (vi p4), some (vi 0)] rfl ?_
    exact pw_mask [true, false, false, true, true, true] (ls' := [some (vr p0), none, none, none, some (vi p4), some (vi 0)]) rfl (lX7_reckonShares_121_ok F q hn hf hl p0 p4  6000 0 z1.2 h)
  · have h := iteF hc h
    refine pw_aload_n (pc := 61) F dX7_reckonShares_61 rfl ?_
    obtain ⟨x2, ex2, h⟩ := bnd h
    refine pw_get (pc := 62) F 7 5 19 (by decide) (by decide) g_174638763c inl_7 2 rfl dX7_reckonShares_62 ex2 ?_
    refine pw_iload (pc := 65) F dX7_reckonShares_65 rfl ?_
    refine pw_iload_n (pc := 67) F dX7_reckonShares_67 rfl ?_
    refine pw_i2l (pc := 68) F dX7_reckonShares_68 ?_
    refine pw_aload_n (pc := 69) F dX7_reckonShares_69 rfl ?_
    obtain ⟨x3, ex3, h⟩ := bnd h
    refine pw_get (pc := 70) F 7 4 15 (by decide) (by decide) g_4595692087 inl_7 2 rfl dX7_reckonShares_70 ex3 ?_
    refine pw_iload (pc := 73) F dX7_reckonShares_73 rfl ?_
    obtain ⟨x4, ex4, h⟩ := bnd h
    refine pw_lald (pc := 75) F dX7_reckonShares_75 ex4 ?_
    refine pw_lmul (pc := 76) F dX7_reckonShares_76 ?_
    refine pw_lload_n (pc := 77) F dX7_reckonShares_77 rfl ?_
    by_cases hz78 : p2 = 0
    · rw [if_pos hz78] at h; cases h
    have h := iteF hz78 h
    refine pw_ldiv (pc := 78) F dX7_reckonShares_78 hz78 ?_
    refine pw_l2i (pc := 79) F dX7_reckonShares_79 ?_
    obtain ⟨H5, eH5, h⟩ := bnd h
    refine pw_iast (pc := 80) F dX7_reckonShares_80 eH5 ?_
    refine pw_aload_n (pc := 81) F dX7_reckonShares_81 rfl ?_
    obtain ⟨x6, ex6, h⟩ := bnd h
    refine pw_get (pc := 82) F 7 6 22 (by decide) (by decide) g_0d79f5ff1b inl_7 2 rfl dX7_reckonShares_82 ex6 ?_
    refine pw_iload (pc := 85) F dX7_reckonShares_85 rfl ?_
    refine pw_iload_n (pc := 87) F dX7_reckonShares_87 rfl ?_
    refine pw_i2l (pc := 88) F dX7_reckonShares_88 ?_
    refine pw_aload_n (pc := 89) F dX7_reckonShares_89 rfl ?_
    obtain ⟨x7, ex7, h⟩ := bnd h
    refine pw_get (pc := 90) F 7 4 15 (by decide) (by decide) g_4595692087 inl_7 2 rfl dX7_reckonShares_90 ex7 ?_
    refine pw_iload (pc := 93) F dX7_reckonShares_93 rfl ?_
    obtain ⟨x8, ex8, h⟩ := bnd h
    refine pw_lald (pc := 95) F dX7_reckonShares_95 ex8 ?_
    refine pw_lmul (pc := 96) F dX7_reckonShares_96 ?_
    refine pw_lload_n (pc := 97) F dX7_reckonShares_97 rfl ?_
    by_cases hz98 : p2 = 0
    · rw [if_pos hz98] at h; cases h
    have h := iteF hz98 h
    refine pw_lrem (pc := 98) F dX7_reckonShares_98 hz98 ?_
    obtain ⟨H9, eH9, h⟩ := bnd h
    refine pw_last (pc := 99) F dX7_reckonShares_99 eH9 ?_
    refine pw_iload (pc := 100) F dX7_reckonShares_100 rfl ?_
    refine pw_aload_n (pc := 102) F dX7_reckonShares_102 rfl ?_
    obtain ⟨x10, ex10, h⟩ := bnd h
    refine pw_get (pc := 103) F 7 5 19 (by decide) (by decide) g_174638763c inl_7 2 rfl dX7_reckonShares_103 ex10 ?_
    refine pw_iload (pc := 106) F dX7_reckonShares_106 rfl ?_
    obtain ⟨x11, ex11, h⟩ := bnd h
    refine pw_iald (pc := 108) F dX7_reckonShares_108 ex11 ?_
    refine pw_isub (pc := 109) F dX7_reckonShares_109 ?_
    refine pw_istore (pc := 110) F dX7_reckonShares_110 (lt_nl hn (by decide)) [some (vr p0), some (vi p1), some (vl p2), none, some (vi (w32 (p4 - x11))), some (vi p5)] rfl ?_
    refine pw_iinc (pc := 112) F dX7_reckonShares_112 rfl (lt_nl hn (by decide)) [some (vr p0), some (vi p1), some (vl p2), none, some (vi (w32 (p4 - x11))), some (vi (w32 (p5 + 1)))] rfl (by decide) ?_
    refine pw_goto (pc := 115) F 52 dX7_reckonShares_115 (by decide) ?_
    exact pw_mask [true, true, true, true, true, true] (ls' := [some (vr p0), some (vi p1), some (vl p2), none, some (vi (w32 (p4 - x11))), some (vi (w32 (p5 + 1)))]) rfl (ih52 (w32 (p4 - x11)) (w32 (p5 + 1)) H9 h)
def lX7_reckonShares_13 (p0 p1 : Int) (self13 : Int → Int → PH → RO) (p2 p4 : Int) (H : PH) : RO :=
  (f_X7_cells p0 H).bind fun z1 => (if p4 ≥ z1.1 then (if (lc p2 0) > 0 then lq2 (lX7_reckonShares_52 p0 p1 p2) 6000 p1 0 z1.2
  else some (0, z1.2))
  else (ld 23 z1.2 p0 4).bind fun x2 => (ld 1 z1.2 x2 p4).bind fun x3 => self13 (w64 (p2 + x3)) (w32 (p4 + 1)) z1.2)
set_option maxHeartbeats 4000000 in
theorem lX7_reckonShares_13_ok {E : PE} {rr : Int} {HH : PH} (F : FX E cX7_reckonShares RX7) (q : QE E (some (vi rr)) HH (some .boolean)) (hn : nLof E = 6) (hf : (roomOf E).frames = 2) (hl : (roomOf E).locals = 42) (p0 p1 : Int) : ∀ (n : Nat) (p2 p4 : Int) (H : PH), lq2 (lX7_reckonShares_13 p0 p1) n p2 p4 H = some (rr, HH) → PW E 13 [some (vr p0), some (vi p1), some (vl p2), none, some (vi p4), none] [] H := by
  refine lq2_ind (P := fun p2 p4 H => PW E 13 [some (vr p0), some (vi p1), some (vl p2), none, some (vi p4), none] [] H) ?_
  intro self13 ih13 p2 p4 H h
  unfold lX7_reckonShares_13 at h
  refine pw_iload (pc := 13) F dX7_reckonShares_13 rfl ?_
  refine pw_aload_n (pc := 15) F dX7_reckonShares_15 rfl ?_
  obtain ⟨z1, ez1, h⟩ := bnd h
  refine pw_callV (pc := 16) (as := []) (st := [vi p4]) (r := (some (vi z1.1))) F 59 7 (by decide) rfl (fun l => m_X7_cells l p0 H z1.1 z1.2 ez1) g_8284c179e4 g_63b3101b09 g_52aff81344 g_030a77a6da g_6db5cc8efa hd_X7_cells (rm_ok hf hl (by decide) (by decide)) rfl (vm_spec ez1).1 dX7_reckonShares_16 rfl (stk' := [vi z1.1, vi p4]) rfl ?_
  refine pw_icmp_ge (pc := 19) F 38 dX7_reckonShares_19 (by decide) (fun hc => ?_) (fun hc => ?_)
  · have h := iteT hc h
    refine pw_lload_n (pc := 38) F dX7_reckonShares_38 rfl ?_
    refine pw_lconst (pc := 39) F 0 dX7_reckonShares_39 (by decide) ?_
    refine pw_lcmp (pc := 40) F dX7_reckonShares_40 ?_
    refine pw_if_gt (pc := 41) F 46 dX7_reckonShares_41 (by decide) (fun hc => ?_) (fun hc => ?_)
    · have h := iteT hc h
      refine pw_iload_n (pc := 46) F dX7_reckonShares_46 rfl ?_
      refine pw_istore (pc := 47) F dX7_reckonShares_47 (lt_nl hn (by decide)) [some (vr p0), some (vi p1), some (vl p2), none, some (vi p1), none] rfl ?_
      refine pw_iconst (pc := 49) F 0 dX7_reckonShares_49 (by decide) ?_
      refine pw_istore (pc := 50) F dX7_reckonShares_50 (lt_nl hn (by decide)) [some (vr p0), some (vi p1), some (vl p2), none, some (vi p1), some (vi 0)] rfl ?_
      exact pw_mask [true, true, true, true, true, true] (ls' := [some (vr p0), some (vi p1), some (vl p2), none, some (vi p1), some (vi 0)]) rfl (lX7_reckonShares_52_ok F q hn hf hl p0 p1 p2  6000 p1 0 z1.2 h)
    · have h := iteF hc h
      refine pw_iconst (pc := 44) F 0 dX7_reckonShares_44 (by decide) ?_
      cases h
      exact pw_zret (pc := 45) F q (by decide) dX7_reckonShares_45
  · have h := iteF hc h
    refine pw_lload_n (pc := 22) F dX7_reckonShares_22 rfl ?_
    refine pw_aload_n (pc := 23) F dX7_reckonShares_23 rfl ?_
    obtain ⟨x2, ex2, h⟩ := bnd h
    refine pw_get (pc := 24) F 7 4 15 (by decide) (by decide) g_4595692087 inl_7 2 rfl dX7_reckonShares_24 ex2 ?_
    refine pw_iload (pc := 27) F dX7_reckonShares_27 rfl ?_
    obtain ⟨x3, ex3, h⟩ := bnd h
    refine pw_lald (pc := 29) F dX7_reckonShares_29 ex3 ?_
    refine pw_ladd (pc := 30) F dX7_reckonShares_30 ?_
    refine pw_lstore_n (pc := 31) F dX7_reckonShares_31 (lt_nl hn (by decide)) [some (vr p0), some (vi p1), some (vl (w64 (p2 + x3))), none, some (vi p4), none] rfl ?_
    refine pw_iinc (pc := 32) F dX7_reckonShares_32 rfl (lt_nl hn (by decide)) [some (vr p0), some (vi p1), some (vl (w64 (p2 + x3))), none, some (vi (w32 (p4 + 1))), none] rfl (by decide) ?_
    refine pw_goto (pc := 35) F 13 dX7_reckonShares_35 (by decide) ?_
    exact pw_mask [true, true, true, true, true, true] (ls' := [some (vr p0), some (vi p1), some (vl (w64 (p2 + x3))), none, some (vi (w32 (p4 + 1))), none]) rfl (ih13 (w64 (p2 + x3)) (w32 (p4 + 1)) z1.2 h)
def f_X7_reckonShares (a0 a1 : Int) (H : PH) : RO := vm 7 a0 H <|
  (ld 23 H a0 5).bind fun x1 => (f_J7_fill_53178 x1 0 H).bind fun z2 => lq2 (lX7_reckonShares_13 a0 a1) 6000 0 0 z2.2
set_option maxHeartbeats 4000000 in
theorem m_X7_reckonShares (l : Launch) (a0 a1 : Int) (H : PH) (rr : Int) (HH : PH) (h : f_X7_reckonShares a0 a1 H = some (rr, HH)) : CT l yX7_reckonShares cX7_reckonShares 6 (some .boolean) 2 42 [vr a0, vi a1] H (some (vi rr)) HH := by
  refine CT.of RX7 (by decide) rfl [some (vr a0), some (vi a1), none, none, none, none] rfl rfl ?_
  intro E F q hn hf hl hm
  unfold f_X7_reckonShares at h
  obtain ⟨hv, h⟩ := vm_spec h
  refine pw_aload_n (pc := 0) F dX7_reckonShares_0 rfl ?_
  obtain ⟨x1, ex1, h⟩ := bnd h
  refine pw_get (pc := 1) F 7 5 19 (by decide) (by decide) g_174638763c inl_7 2 rfl dX7_reckonShares_1 ex1 ?_
  refine pw_iconst (pc := 4) F 0 dX7_reckonShares_4 (by decide) ?_
  obtain ⟨z2, ez2, h⟩ := bnd h
  refine pw_callS (pc := 5) (as := [vr x1, vi 0]) (st := []) (r := none) F 39 (fun l => m_J7_fill_53178 l x1 0 H z2.1 z2.2 ez2) g_4c43356a59 g_68318bac72 g_242181dc25 g_eeb4d3e40c hd_J7_fill_53178 (rm_ok hf hl (by decide) (by decide)) rfl dX7_reckonShares_5 rfl (stk' := []) rfl ?_
  refine pw_lconst (pc := 8) F 0 dX7_reckonShares_8 (by decide) ?_
  refine pw_lstore_n (pc := 9) F dX7_reckonShares_9 (lt_nl hn (by decide)) [some (vr a0), some (vi a1), some (vl 0), none, none, none] rfl ?_
  refine pw_iconst (pc := 10) F 0 dX7_reckonShares_10 (by decide) ?_
  refine pw_istore (pc := 11) F dX7_reckonShares_11 (lt_nl hn (by decide)) [some (vr a0), some (vi a1), some (vl 0), none, some (vi 0), none] rfl ?_
  exact pw_mask [true, true, true, true, true, true] (ls' := [some (vr a0), some (vi a1), some (vl 0), none, some (vi 0), none]) rfl (lX7_reckonShares_13_ok F q hn hf hl a0 a1  6000 0 0 z2.2 h)
/-! HouseholdVault$Table.isHeld(II)Z -/
theorem dX7_isHeld_0 : decode cX7_isHeld 0 = .ok (.aload_n 0, 1) := by decide +kernel
theorem dX7_isHeld_1 : decode cX7_isHeld 1 = .ok (.getfield 25, 3) := by decide +kernel
theorem dX7_isHeld_4 : decode cX7_isHeld 4 = .ok (.iload_n 1, 1) := by decide +kernel
theorem dX7_isHeld_5 : decode cX7_isHeld 5 = .ok (.iaload, 1) := by decide +kernel
theorem dX7_isHeld_6 : decode cX7_isHeld 6 = .ok (.iload_n 2, 1) := by decide +kernel
theorem dX7_isHeld_7 : decode cX7_isHeld 7 = .ok (.ishr, 1) := by decide +kernel
theorem dX7_isHeld_8 : decode cX7_isHeld 8 = .ok (.iconst 1, 1) := by decide +kernel
theorem dX7_isHeld_9 : decode cX7_isHeld 9 = .ok (.iand, 1) := by decide +kernel
theorem dX7_isHeld_10 : decode cX7_isHeld 10 = .ok (.ifCond .eq 7, 3) := by decide +kernel
theorem dX7_isHeld_13 : decode cX7_isHeld 13 = .ok (.iconst 1, 1) := by decide +kernel
theorem dX7_isHeld_14 : decode cX7_isHeld 14 = .ok (.goto 4, 3) := by decide +kernel
theorem dX7_isHeld_17 : decode cX7_isHeld 17 = .ok (.iconst 0, 1) := by decide +kernel
theorem dX7_isHeld_18 : decode cX7_isHeld 18 = .ok (.ireturn, 1) := by decide +kernel
def f_X7_isHeld (a0 a1 a2 : Int) (H : PH) : RO := vm 7 a0 H <|
  (ld 23 H a0 7).bind fun x1 => (ld 0 H x1 a1).bind fun x2 => (if (i_and (i_shr x2 a2) 1) = 0 then some (0, H)
  else some (1, H))
set_option maxHeartbeats 4000000 in
theorem m_X7_isHeld (l : Launch) (a0 a1 a2 : Int) (H : PH) (rr : Int) (HH : PH) (h : f_X7_isHeld a0 a1 a2 H = some (rr, HH)) : CT l yX7_isHeld cX7_isHeld 3 (some .boolean) 0 0 [vr a0, vi a1, vi a2] H (some (vi rr)) HH := by
  refine CT.of RX7 (by decide) rfl [some (vr a0), some (vi a1), some (vi a2)] rfl rfl ?_
  intro E F q hn hf hl hm
  unfold f_X7_isHeld at h
  obtain ⟨hv, h⟩ := vm_spec h
  refine pw_aload_n (pc := 0) F dX7_isHeld_0 rfl ?_
  obtain ⟨x1, ex1, h⟩ := bnd h
  refine pw_get (pc := 1) F 7 7 25 (by decide) (by decide) g_8fd9c0111a inl_7 2 rfl dX7_isHeld_1 ex1 ?_
  refine pw_iload_n (pc := 4) F dX7_isHeld_4 rfl ?_
  obtain ⟨x2, ex2, h⟩ := bnd h
  refine pw_iald (pc := 5) F dX7_isHeld_5 ex2 ?_
  refine pw_iload_n (pc := 6) F dX7_isHeld_6 rfl ?_
  refine pw_ishr (pc := 7) F dX7_isHeld_7 ?_
  refine pw_iconst (pc := 8) F 1 dX7_isHeld_8 (by decide) ?_
  refine pw_iand (pc := 9) F dX7_isHeld_9 ?_
  refine pw_if_eq (pc := 10) F 17 dX7_isHeld_10 (by decide) (fun hc => ?_) (fun hc => ?_)
  · have h := iteT hc h
    refine pw_iconst (pc := 17) F 0 dX7_isHeld_17 (by decide) ?_
    cases h
    exact pw_zret (pc := 18) F q (by decide) dX7_isHeld_18
  · have h := iteF hc h
    refine pw_iconst (pc := 13) F 1 dX7_isHeld_13 (by decide) ?_
    refine pw_goto (pc := 14) F 18 dX7_isHeld_14 (by decide) ?_
    cases h
    exact pw_zret (pc := 18) F q (by decide) dX7_isHeld_18
/-! HouseholdVault$Table.hold(II)V -/
theorem dX7_hold_0 : decode cX7_hold 0 = .ok (.aload_n 0, 1) := by decide +kernel
theorem dX7_hold_1 : decode cX7_hold 1 = .ok (.getfield 25, 3) := by decide +kernel
theorem dX7_hold_4 : decode cX7_hold 4 = .ok (.iload_n 1, 1) := by decide +kernel
theorem dX7_hold_5 : decode cX7_hold 5 = .ok (.dup2, 1) := by decide +kernel
theorem dX7_hold_6 : decode cX7_hold 6 = .ok (.iaload, 1) := by decide +kernel
theorem dX7_hold_7 : decode cX7_hold 7 = .ok (.iconst 1, 1) := by decide +kernel
theorem dX7_hold_8 : decode cX7_hold 8 = .ok (.iload_n 2, 1) := by decide +kernel
theorem dX7_hold_9 : decode cX7_hold 9 = .ok (.ishl, 1) := by decide +kernel
theorem dX7_hold_10 : decode cX7_hold 10 = .ok (.ior, 1) := by decide +kernel
theorem dX7_hold_11 : decode cX7_hold 11 = .ok (.iastore, 1) := by decide +kernel
theorem dX7_hold_12 : decode cX7_hold 12 = .ok (.aload_n 0, 1) := by decide +kernel
theorem dX7_hold_13 : decode cX7_hold 13 = .ok (.dup, 1) := by decide +kernel
theorem dX7_hold_14 : decode cX7_hold 14 = .ok (.getfield 68, 3) := by decide +kernel
theorem dX7_hold_17 : decode cX7_hold 17 = .ok (.iconst 1, 1) := by decide +kernel
theorem dX7_hold_18 : decode cX7_hold 18 = .ok (.iadd, 1) := by decide +kernel
theorem dX7_hold_19 : decode cX7_hold 19 = .ok (.putfield 68, 3) := by decide +kernel
theorem dX7_hold_22 : decode cX7_hold 22 = .ok (.return_, 1) := by decide +kernel
def f_X7_hold (a0 a1 a2 : Int) (H : PH) : RO := vm 7 a0 H <|
  (ld 23 H a0 7).bind fun x1 => (ld 0 H x1 a1).bind fun x2 => (stv 0 H x1 a1 (i_or x2 (i_shl 1 a2))).bind fun H3 => (ld 23 H3 a0 8).bind fun x4 => (stv 23 H3 a0 8 (w32 (x4 + 1))).bind fun H5 => some (0, H5)
set_option maxHeartbeats 4000000 in
theorem m_X7_hold (l : Launch) (a0 a1 a2 : Int) (H : PH) (rr : Int) (HH : PH) (h : f_X7_hold a0 a1 a2 H = some (rr, HH)) : CT l yX7_hold cX7_hold 3 none 0 0 [vr a0, vi a1, vi a2] H none HH := by
  refine CT.of RX7 (by decide) rfl [some (vr a0), some (vi a1), some (vi a2)] rfl rfl ?_
  intro E F q hn hf hl hm
  unfold f_X7_hold at h
  obtain ⟨hv, h⟩ := vm_spec h
  refine pw_aload_n (pc := 0) F dX7_hold_0 rfl ?_
  obtain ⟨x1, ex1, h⟩ := bnd h
  refine pw_get (pc := 1) F 7 7 25 (by decide) (by decide) g_8fd9c0111a inl_7 2 rfl dX7_hold_1 ex1 ?_
  refine pw_iload_n (pc := 4) F dX7_hold_4 rfl ?_
  refine pw_dup2 (pc := 5) F dX7_hold_5 (pvne rfl) (pvne rfl) ?_
  obtain ⟨x2, ex2, h⟩ := bnd h
  refine pw_iald (pc := 6) F dX7_hold_6 ex2 ?_
  refine pw_iconst (pc := 7) F 1 dX7_hold_7 (by decide) ?_
  refine pw_iload_n (pc := 8) F dX7_hold_8 rfl ?_
  refine pw_ishl (pc := 9) F dX7_hold_9 ?_
  refine pw_ior (pc := 10) F dX7_hold_10 ?_
  obtain ⟨H3, eH3, h⟩ := bnd h
  refine pw_iast (pc := 11) F dX7_hold_11 eH3 ?_
  refine pw_aload_n (pc := 12) F dX7_hold_12 rfl ?_
  refine pw_dup (pc := 13) F dX7_hold_13 (pvne rfl) ?_
  obtain ⟨x4, ex4, h⟩ := bnd h
  refine pw_get (pc := 14) F 7 8 68 (by decide) (by decide) g_dbfccfd81a inl_7 0 rfl dX7_hold_14 ex4 ?_
  refine pw_iconst (pc := 17) F 1 dX7_hold_17 (by decide) ?_
  refine pw_iadd (pc := 18) F dX7_hold_18 ?_
  obtain ⟨H5, eH5, h⟩ := bnd h
  refine pw_put (pc := 19) F 7 8 68 (by decide) (by decide) g_dbfccfd81a inl_7 rfl 0 rfl dX7_hold_19 trivial eH5 ?_
  cases h
  exact pw_vret (pc := 22) F q dX7_hold_22
/-! HouseholdVault$Table.holdBelow(I)V -/
theorem dX7_holdBelow_0 : decode cX7_holdBelow 0 = .ok (.aload_n 0, 1) := by decide +kernel
theorem dX7_holdBelow_1 : decode cX7_holdBelow 1 = .ok (.invokevirtual 48, 3) := by decide +kernel
theorem dX7_holdBelow_4 : decode cX7_holdBelow 4 = .ok (.iconst 0, 1) := by decide +kernel
theorem dX7_holdBelow_5 : decode cX7_holdBelow 5 = .ok (.istore_n 2, 1) := by decide +kernel
theorem dX7_holdBelow_6 : decode cX7_holdBelow 6 = .ok (.iload_n 2, 1) := by decide +kernel
theorem dX7_holdBelow_7 : decode cX7_holdBelow 7 = .ok (.aload_n 0, 1) := by decide +kernel
theorem dX7_holdBelow_8 : decode cX7_holdBelow 8 = .ok (.getfield 28, 3) := by decide +kernel
theorem dX7_holdBelow_11 : decode cX7_holdBelow 11 = .ok (.if_icmp .ge 55, 3) := by decide +kernel
theorem dX7_holdBelow_14 : decode cX7_holdBelow 14 = .ok (.iconst 0, 1) := by decide +kernel
theorem dX7_holdBelow_15 : decode cX7_holdBelow 15 = .ok (.istore_n 3, 1) := by decide +kernel
theorem dX7_holdBelow_16 : decode cX7_holdBelow 16 = .ok (.iload_n 3, 1) := by decide +kernel
theorem dX7_holdBelow_17 : decode cX7_holdBelow 17 = .ok (.aload_n 0, 1) := by decide +kernel
theorem dX7_holdBelow_18 : decode cX7_holdBelow 18 = .ok (.getfield 32, 3) := by decide +kernel
theorem dX7_holdBelow_21 : decode cX7_holdBelow 21 = .ok (.if_icmp .ge 39, 3) := by decide +kernel
theorem dX7_holdBelow_24 : decode cX7_holdBelow 24 = .ok (.aload_n 0, 1) := by decide +kernel
theorem dX7_holdBelow_25 : decode cX7_holdBelow 25 = .ok (.getfield 9, 3) := by decide +kernel
theorem dX7_holdBelow_28 : decode cX7_holdBelow 28 = .ok (.aload_n 0, 1) := by decide +kernel
theorem dX7_holdBelow_29 : decode cX7_holdBelow 29 = .ok (.iload_n 2, 1) := by decide +kernel
theorem dX7_holdBelow_30 : decode cX7_holdBelow 30 = .ok (.iload_n 3, 1) := by decide +kernel
theorem dX7_holdBelow_31 : decode cX7_holdBelow 31 = .ok (.invokevirtual 55, 3) := by decide +kernel
theorem dX7_holdBelow_34 : decode cX7_holdBelow 34 = .ok (.iaload, 1) := by decide +kernel
theorem dX7_holdBelow_35 : decode cX7_holdBelow 35 = .ok (.istore 4, 2) := by decide +kernel
theorem dX7_holdBelow_37 : decode cX7_holdBelow 37 = .ok (.iload 4, 2) := by decide +kernel
theorem dX7_holdBelow_39 : decode cX7_holdBelow 39 = .ok (.ifCond .le 15, 3) := by decide +kernel
theorem dX7_holdBelow_42 : decode cX7_holdBelow 42 = .ok (.iload 4, 2) := by decide +kernel
theorem dX7_holdBelow_44 : decode cX7_holdBelow 44 = .ok (.iload_n 1, 1) := by decide +kernel
theorem dX7_holdBelow_45 : decode cX7_holdBelow 45 = .ok (.if_icmp .ge 9, 3) := by decide +kernel
theorem dX7_holdBelow_48 : decode cX7_holdBelow 48 = .ok (.aload_n 0, 1) := by decide +kernel
theorem dX7_holdBelow_49 : decode cX7_holdBelow 49 = .ok (.iload_n 2, 1) := by decide +kernel
theorem dX7_holdBelow_50 : decode cX7_holdBelow 50 = .ok (.iload_n 3, 1) := by decide +kernel
theorem dX7_holdBelow_51 : decode cX7_holdBelow 51 = .ok (.invokevirtual 71, 3) := by decide +kernel
theorem dX7_holdBelow_54 : decode cX7_holdBelow 54 = .ok (.iinc 3 1, 3) := by decide +kernel
theorem dX7_holdBelow_57 : decode cX7_holdBelow 57 = .ok (.goto (-41), 3) := by decide +kernel
theorem dX7_holdBelow_60 : decode cX7_holdBelow 60 = .ok (.iinc 2 1, 3) := by decide +kernel
theorem dX7_holdBelow_63 : decode cX7_holdBelow 63 = .ok (.goto (-57), 3) := by decide +kernel
theorem dX7_holdBelow_66 : decode cX7_holdBelow 66 = .ok (.return_, 1) := by decide +kernel
def jX7_holdBelow_54 (self6 : Int → PH → RO) (self16 : Int → PH → RO) (p0 p1 p2 p3 : Int) (H : PH) : RO :=
  self16 (w32 (p3 + 1)) H
set_option maxHeartbeats 4000000 in
theorem jX7_holdBelow_54_ok {E : PE} {rr : Int} {HH : PH} (F : FX E cX7_holdBelow RX7) (q : QE E none HH none) (hn : nLof E = 5) (hf : (roomOf E).frames = 2) (hl : (roomOf E).locals = 43) (self6 : Int → PH → RO) (self16 : Int → PH → RO) (p0 p1 p2 p3 : Int) (H : PH) (ih6 : ∀ (v2 : Int) (HV : PH), self6 v2 HV = some (rr, HH) → PW E 6 [some (vr p0), some (vi p1), some (vi v2), none, none] [] HV) (ih16 : ∀ (v3 : Int) (HV : PH), self16 v3 HV = some (rr, HH) → PW E 16 [some (vr p0), some (vi p1), some (vi p2), some (vi v3), none] [] HV) (h : jX7_holdBelow_54 self6 self16 p0 p1 p2 p3 H = some (rr, HH)) : PW E 54 [some (vr p0), some (vi p1), some (vi p2), some (vi p3), none] [] H := by
  unfold jX7_holdBelow_54 at h
  refine pw_iinc (pc := 54) F dX7_holdBelow_54 rfl (lt_nl hn (by decide)) [some (vr p0), some (vi p1), some (vi p2), some (vi (w32 (p3 + 1))), none] rfl (by decide) ?_
  refine pw_goto (pc := 57) F 16 dX7_holdBelow_57 (by decide) ?_
  exact pw_mask [true, true, true, true, true] (ls' := [some (vr p0), some (vi p1), some (vi p2), some (vi (w32 (p3 + 1))), none]) rfl (ih16 (w32 (p3 + 1)) H h)
def lX7_holdBelow_16 (self6 : Int → PH → RO) (p0 p1 p2 : Int) (self16 : Int → PH → RO) (p3 : Int) (H : PH) : RO :=
  (ld 23 H p0 1).bind fun x1 => (if p3 ≥ x1 then self6 (w32 (p2 + 1)) H
  else (ld 23 H p0 3).bind fun x2 => (f_X7_at p0 p2 p3 H).bind fun z3 => (ld 0 z3.2 x2 z3.1).bind fun x4 => (if x4 ≤ 0 then jX7_holdBelow_54 self6 self16 p0 p1 p2 p3 z3.2
  else (if x4 ≥ p1 then jX7_holdBelow_54 self6 self16 p0 p1 p2 p3 z3.2
  else (f_X7_hold p0 p2 p3 z3.2).bind fun z5 => jX7_holdBelow_54 self6 self16 p0 p1 p2 p3 z5.2)))
set_option maxHeartbeats 4000000 in
theorem lX7_holdBelow_16_ok {E : PE} {rr : Int} {HH : PH} (F : FX E cX7_holdBelow RX7) (q : QE E none HH none) (hn : nLof E = 5) (hf : (roomOf E).frames = 2) (hl : (roomOf E).locals = 43) (self6 : Int → PH → RO) (p0 p1 p2 : Int) (ih6 : ∀ (v2 : Int) (HV : PH), self6 v2 HV = some (rr, HH) → PW E 6 [some (vr p0), some (vi p1), some (vi v2), none, none] [] HV) : ∀ (n : Nat) (p3 : Int) (H : PH), lq1 (lX7_holdBelow_16 self6 p0 p1 p2) n p3 H = some (rr, HH) → PW E 16 [some (vr p0), some (vi p1), some (vi p2), some (vi p3), none] [] H := by
  refine lq1_ind (P := fun p3 H => PW E 16 [some (vr p0), some (vi p1), some (vi p2), some (vi p3), none] [] H) ?_
  intro self16 ih16 p3 H h
  unfold lX7_holdBelow_16 at h
  refine pw_iload_n (pc := 16) F dX7_holdBelow_16 rfl ?_
  refine pw_aload_n (pc := 17) F dX7_holdBelow_17 rfl ?_
  obtain ⟨x1, ex1, h⟩ := bnd h
  refine pw_get (pc := 18) F 7 1 32 (by decide) (by decide) g_d0dccf0994 inl_7 0 rfl dX7_holdBelow_18 ex1 ?_
  refine pw_icmp_ge (pc := 21) F 60 dX7_holdBelow_21 (by decide) (fun hc => ?_) (fun hc => ?_)
  · have h := iteT hc h
    refine pw_iinc (pc := 60) F dX7_holdBelow_60 rfl (lt_nl hn (by decide)) [some (vr p0), some (vi p1), some (vi (w32 (p2 + 1))), some (vi p3), none] rfl (by decide) ?_
    refine pw_goto (pc := 63) F 6 dX7_holdBelow_63 (by decide) ?_
    exact pw_mask [true, true, true, false, true] (ls' := [some (vr p0), some (vi p1), some (vi (w32 (p2 + 1))), none, none]) rfl (ih6 (w32 (p2 + 1)) H h)
  · have h := iteF hc h
    refine pw_aload_n (pc := 24) F dX7_holdBelow_24 rfl ?_
    obtain ⟨x2, ex2, h⟩ := bnd h
    refine pw_get (pc := 25) F 7 3 9 (by decide) (by decide) g_b6ed047181 inl_7 2 rfl dX7_holdBelow_25 ex2 ?_
    refine pw_aload_n (pc := 28) F dX7_holdBelow_28 rfl ?_
    refine pw_iload_n (pc := 29) F dX7_holdBelow_29 rfl ?_
    refine pw_iload_n (pc := 30) F dX7_holdBelow_30 rfl ?_
    obtain ⟨z3, ez3, h⟩ := bnd h
    refine pw_callV (pc := 31) (as := [vi p2, vi p3]) (st := [vr x2]) (r := (some (vi z3.1))) F 55 7 (by decide) rfl (fun l => m_X7_at l p0 p2 p3 H z3.1 z3.2 ez3) g_fcdeebc82f g_e482649742 g_bf833bcebb g_030a77a6da g_4843a546b7 hd_X7_at (rm_ok hf hl (by decide) (by decide)) rfl (vm_spec ez3).1 dX7_holdBelow_31 rfl (stk' := [vi z3.1, vr x2]) rfl ?_
    obtain ⟨x4, ex4, h⟩ := bnd h
    refine pw_iald (pc := 34) F dX7_holdBelow_34 ex4 ?_
    refine pw_istore (pc := 35) F dX7_holdBelow_35 (lt_nl hn (by decide)) [some (vr p0), some (vi p1), some (vi p2), some (vi p3), some (vi x4)] rfl ?_
    refine pw_iload (pc := 37) F dX7_holdBelow_37 rfl ?_
    refine pw_if_le (pc := 39) F 54 dX7_holdBelow_39 (by decide) (fun hc => ?_) (fun hc => ?_)
    · have h := iteT hc h
      exact pw_mask [true, true, true, true, false] (ls' := [some (vr p0), some (vi p1), some (vi p2), some (vi p3), none]) rfl (jX7_holdBelow_54_ok F q hn hf hl self6 self16 p0 p1 p2 p3 z3.2 ih6 ih16 h)
    · have h := iteF hc h
      refine pw_iload (pc := 42) F dX7_holdBelow_42 rfl ?_
      refine pw_iload_n (pc := 44) F dX7_holdBelow_44 rfl ?_
      refine pw_icmp_ge (pc := 45) F 54 dX7_holdBelow_45 (by decide) (fun hc => ?_) (fun hc => ?_)
      · have h := iteT hc h
        exact pw_mask [true, true, true, true, false] (ls' := [some (vr p0), some (vi p1), some (vi p2), some (vi p3), none]) rfl (jX7_holdBelow_54_ok F q hn hf hl self6 self16 p0 p1 p2 p3 z3.2 ih6 ih16 h)
      · have h := iteF hc h
        refine pw_aload_n (pc := 48) F dX7_holdBelow_48 rfl ?_
        refine pw_iload_n (pc := 49) F dX7_holdBelow_49 rfl ?_
        refine pw_iload_n (pc := 50) F dX7_holdBelow_50 rfl ?_
        obtain ⟨z5, ez5, h⟩ := bnd h
        refine pw_callV (pc := 51) (as := [vi p2, vi p3]) (st := []) (r := none) F 71 7 (by decide) rfl (fun l => m_X7_hold l p0 p2 p3 z3.2 z5.1 z5.2 ez5) g_c8bf8baadb g_aae1ed0d35 g_8ad7ddce2c g_030a77a6da g_0827f3684b hd_X7_hold (rm_ok hf hl (by decide) (by decide)) rfl (vm_spec ez5).1 dX7_holdBelow_51 rfl (stk' := []) rfl ?_
        exact pw_mask [true, true, true, true, false] (ls' := [some (vr p0), some (vi p1), some (vi p2), some (vi p3), none]) rfl (jX7_holdBelow_54_ok F q hn hf hl self6 self16 p0 p1 p2 p3 z5.2 ih6 ih16 h)
def lX7_holdBelow_6 (p0 p1 : Int) (self6 : Int → PH → RO) (p2 : Int) (H : PH) : RO :=
  (ld 23 H p0 0).bind fun x1 => (if p2 ≥ x1 then some (0, H)
  else lq1 (lX7_holdBelow_16 self6 p0 p1 p2) 6000 0 H)
set_option maxHeartbeats 4000000 in
theorem lX7_holdBelow_6_ok {E : PE} {rr : Int} {HH : PH} (F : FX E cX7_holdBelow RX7) (q : QE E none HH none) (hn : nLof E = 5) (hf : (roomOf E).frames = 2) (hl : (roomOf E).locals = 43) (p0 p1 : Int) : ∀ (n : Nat) (p2 : Int) (H : PH), lq1 (lX7_holdBelow_6 p0 p1) n p2 H = some (rr, HH) → PW E 6 [some (vr p0), some (vi p1), some (vi p2), none, none] [] H := by
  refine lq1_ind (P := fun p2 H => PW E 6 [some (vr p0), some (vi p1), some (vi p2), none, none] [] H) ?_
  intro self6 ih6 p2 H h
  unfold lX7_holdBelow_6 at h
  refine pw_iload_n (pc := 6) F dX7_holdBelow_6 rfl ?_
  refine pw_aload_n (pc := 7) F dX7_holdBelow_7 rfl ?_
  obtain ⟨x1, ex1, h⟩ := bnd h
  refine pw_get (pc := 8) F 7 0 28 (by decide) (by decide) g_7af97f1e3d inl_7 0 rfl dX7_holdBelow_8 ex1 ?_
  refine pw_icmp_ge (pc := 11) F 66 dX7_holdBelow_11 (by decide) (fun hc => ?_) (fun hc => ?_)
  · have h := iteT hc h
    cases h
    exact pw_vret (pc := 66) F q dX7_holdBelow_66
  · have h := iteF hc h
    refine pw_iconst (pc := 14) F 0 dX7_holdBelow_14 (by decide) ?_
    refine pw_istore_n (pc := 15) F dX7_holdBelow_15 (lt_nl hn (by decide)) [some (vr p0), some (vi p1), some (vi p2), some (vi 0), none] rfl ?_
    exact pw_mask [true, true, true, true, true] (ls' := [some (vr p0), some (vi p1), some (vi p2), some (vi 0), none]) rfl (lX7_holdBelow_16_ok F q hn hf hl self6 p0 p1 p2 ih6  6000 0 H h)
def f_X7_holdBelow (a0 a1 : Int) (H : PH) : RO := vm 7 a0 H <|
  (f_X7_holdNone a0 H).bind fun z1 => lq1 (lX7_holdBelow_6 a0 a1) 6000 0 z1.2
set_option maxHeartbeats 4000000 in
theorem m_X7_holdBelow (l : Launch) (a0 a1 : Int) (H : PH) (rr : Int) (HH : PH) (h : f_X7_holdBelow a0 a1 H = some (rr, HH)) : CT l yX7_holdBelow cX7_holdBelow 5 none 2 43 [vr a0, vi a1] H none HH := by
  refine CT.of RX7 (by decide) rfl [some (vr a0), some (vi a1), none, none, none] rfl rfl ?_
  intro E F q hn hf hl hm
  unfold f_X7_holdBelow at h
  obtain ⟨hv, h⟩ := vm_spec h
  refine pw_aload_n (pc := 0) F dX7_holdBelow_0 rfl ?_
  obtain ⟨z1, ez1, h⟩ := bnd h
  refine pw_callV (pc := 1) (as := []) (st := []) (r := none) F 48 7 (by decide) rfl (fun l => m_X7_holdNone l a0 H z1.1 z1.2 ez1) g_ef8c2311d6 g_96547fb903 g_6781550bf5 g_030a77a6da g_9b3b464a34 hd_X7_holdNone (rm_ok hf hl (by decide) (by decide)) rfl (vm_spec ez1).1 dX7_holdBelow_1 rfl (stk' := []) rfl ?_
  refine pw_iconst (pc := 4) F 0 dX7_holdBelow_4 (by decide) ?_
  refine pw_istore_n (pc := 5) F dX7_holdBelow_5 (lt_nl hn (by decide)) [some (vr a0), some (vi a1), some (vi 0), none, none] rfl ?_
  exact pw_mask [true, true, true, true, true] (ls' := [some (vr a0), some (vi a1), some (vi 0), none, none]) rfl (lX7_holdBelow_6_ok F q hn hf hl a0 a1  6000 0 z1.2 h)
/-! HouseholdVault$Table.isFree(II)Z -/
theorem dX7_isFree_0 : decode cX7_isFree 0 = .ok (.aload_n 0, 1) := by decide +kernel
theorem dX7_isFree_1 : decode cX7_isFree 1 = .ok (.getfield 35, 3) := by decide +kernel
theorem dX7_isFree_4 : decode cX7_isFree 4 = .ok (.ifCond .ne 17, 3) := by decide +kernel
theorem dX7_isFree_7 : decode cX7_isFree 7 = .ok (.aload_n 0, 1) := by decide +kernel
theorem dX7_isFree_8 : decode cX7_isFree 8 = .ok (.getfield 68, 3) := by decide +kernel
theorem dX7_isFree_11 : decode cX7_isFree 11 = .ok (.iconst 1, 1) := by decide +kernel
theorem dX7_isFree_12 : decode cX7_isFree 12 = .ok (.if_icmp .le 7, 3) := by decide +kernel
theorem dX7_isFree_15 : decode cX7_isFree 15 = .ok (.iconst 1, 1) := by decide +kernel
theorem dX7_isFree_16 : decode cX7_isFree 16 = .ok (.goto 4, 3) := by decide +kernel
theorem dX7_isFree_19 : decode cX7_isFree 19 = .ok (.iconst 0, 1) := by decide +kernel
theorem dX7_isFree_20 : decode cX7_isFree 20 = .ok (.ireturn, 1) := by decide +kernel
theorem dX7_isFree_21 : decode cX7_isFree 21 = .ok (.aload_n 0, 1) := by decide +kernel
theorem dX7_isFree_22 : decode cX7_isFree 22 = .ok (.getfield 25, 3) := by decide +kernel
theorem dX7_isFree_25 : decode cX7_isFree 25 = .ok (.iload_n 1, 1) := by decide +kernel
theorem dX7_isFree_26 : decode cX7_isFree 26 = .ok (.iaload, 1) := by decide +kernel
theorem dX7_isFree_27 : decode cX7_isFree 27 = .ok (.iconst 1, 1) := by decide +kernel
theorem dX7_isFree_28 : decode cX7_isFree 28 = .ok (.iload_n 2, 1) := by decide +kernel
theorem dX7_isFree_29 : decode cX7_isFree 29 = .ok (.ishl, 1) := by decide +kernel
theorem dX7_isFree_30 : decode cX7_isFree 30 = .ok (.iconst (-1), 1) := by decide +kernel
theorem dX7_isFree_31 : decode cX7_isFree 31 = .ok (.ixor, 1) := by decide +kernel
theorem dX7_isFree_32 : decode cX7_isFree 32 = .ok (.iand, 1) := by decide +kernel
theorem dX7_isFree_33 : decode cX7_isFree 33 = .ok (.istore_n 3, 1) := by decide +kernel
theorem dX7_isFree_34 : decode cX7_isFree 34 = .ok (.iconst 0, 1) := by decide +kernel
theorem dX7_isFree_35 : decode cX7_isFree 35 = .ok (.istore 4, 2) := by decide +kernel
theorem dX7_isFree_37 : decode cX7_isFree 37 = .ok (.iload 4, 2) := by decide +kernel
theorem dX7_isFree_39 : decode cX7_isFree 39 = .ok (.aload_n 0, 1) := by decide +kernel
theorem dX7_isFree_40 : decode cX7_isFree 40 = .ok (.getfield 28, 3) := by decide +kernel
theorem dX7_isFree_43 : decode cX7_isFree 43 = .ok (.if_icmp .ge 76, 3) := by decide +kernel
theorem dX7_isFree_46 : decode cX7_isFree 46 = .ok (.iload_n 3, 1) := by decide +kernel
theorem dX7_isFree_47 : decode cX7_isFree 47 = .ok (.istore 5, 2) := by decide +kernel
theorem dX7_isFree_49 : decode cX7_isFree 49 = .ok (.iconst 0, 1) := by decide +kernel
theorem dX7_isFree_50 : decode cX7_isFree 50 = .ok (.istore 6, 2) := by decide +kernel
theorem dX7_isFree_52 : decode cX7_isFree 52 = .ok (.iload 6, 2) := by decide +kernel
theorem dX7_isFree_54 : decode cX7_isFree 54 = .ok (.aload_n 0, 1) := by decide +kernel
theorem dX7_isFree_55 : decode cX7_isFree 55 = .ok (.getfield 28, 3) := by decide +kernel
theorem dX7_isFree_58 : decode cX7_isFree 58 = .ok (.if_icmp .ge 37, 3) := by decide +kernel
theorem dX7_isFree_61 : decode cX7_isFree 61 = .ok (.iload 6, 2) := by decide +kernel
theorem dX7_isFree_63 : decode cX7_isFree 63 = .ok (.iload_n 1, 1) := by decide +kernel
theorem dX7_isFree_64 : decode cX7_isFree 64 = .ok (.if_icmp .eq 25, 3) := by decide +kernel
theorem dX7_isFree_67 : decode cX7_isFree 67 = .ok (.aload_n 0, 1) := by decide +kernel
theorem dX7_isFree_68 : decode cX7_isFree 68 = .ok (.getfield 25, 3) := by decide +kernel
theorem dX7_isFree_71 : decode cX7_isFree 71 = .ok (.iload 6, 2) := by decide +kernel
theorem dX7_isFree_73 : decode cX7_isFree 73 = .ok (.iaload, 1) := by decide +kernel
theorem dX7_isFree_74 : decode cX7_isFree 74 = .ok (.iload_n 3, 1) := by decide +kernel
theorem dX7_isFree_75 : decode cX7_isFree 75 = .ok (.iand, 1) := by decide +kernel
theorem dX7_isFree_76 : decode cX7_isFree 76 = .ok (.ifCond .eq 13, 3) := by decide +kernel
theorem dX7_isFree_79 : decode cX7_isFree 79 = .ok (.iload_n 3, 1) := by decide +kernel
theorem dX7_isFree_80 : decode cX7_isFree 80 = .ok (.aload_n 0, 1) := by decide +kernel
theorem dX7_isFree_81 : decode cX7_isFree 81 = .ok (.getfield 25, 3) := by decide +kernel
theorem dX7_isFree_84 : decode cX7_isFree 84 = .ok (.iload 6, 2) := by decide +kernel
theorem dX7_isFree_86 : decode cX7_isFree 86 = .ok (.iaload, 1) := by decide +kernel
theorem dX7_isFree_87 : decode cX7_isFree 87 = .ok (.ior, 1) := by decide +kernel
theorem dX7_isFree_88 : decode cX7_isFree 88 = .ok (.istore_n 3, 1) := by decide +kernel
theorem dX7_isFree_89 : decode cX7_isFree 89 = .ok (.iinc 6 1, 3) := by decide +kernel
theorem dX7_isFree_92 : decode cX7_isFree 92 = .ok (.goto (-40), 3) := by decide +kernel
theorem dX7_isFree_95 : decode cX7_isFree 95 = .ok (.iload_n 3, 1) := by decide +kernel
theorem dX7_isFree_96 : decode cX7_isFree 96 = .ok (.iload_n 2, 1) := by decide +kernel
theorem dX7_isFree_97 : decode cX7_isFree 97 = .ok (.ishr, 1) := by decide +kernel
theorem dX7_isFree_98 : decode cX7_isFree 98 = .ok (.iconst 1, 1) := by decide +kernel
theorem dX7_isFree_99 : decode cX7_isFree 99 = .ok (.iand, 1) := by decide +kernel
theorem dX7_isFree_100 : decode cX7_isFree 100 = .ok (.ifCond .eq 5, 3) := by decide +kernel
theorem dX7_isFree_103 : decode cX7_isFree 103 = .ok (.iconst 1, 1) := by decide +kernel
theorem dX7_isFree_104 : decode cX7_isFree 104 = .ok (.ireturn, 1) := by decide +kernel
theorem dX7_isFree_105 : decode cX7_isFree 105 = .ok (.iload_n 3, 1) := by decide +kernel
theorem dX7_isFree_106 : decode cX7_isFree 106 = .ok (.iload 5, 2) := by decide +kernel
theorem dX7_isFree_108 : decode cX7_isFree 108 = .ok (.if_icmp .ne 5, 3) := by decide +kernel
theorem dX7_isFree_111 : decode cX7_isFree 111 = .ok (.iconst 0, 1) := by decide +kernel
theorem dX7_isFree_112 : decode cX7_isFree 112 = .ok (.ireturn, 1) := by decide +kernel
theorem dX7_isFree_113 : decode cX7_isFree 113 = .ok (.iinc 4 1, 3) := by decide +kernel
theorem dX7_isFree_116 : decode cX7_isFree 116 = .ok (.goto (-79), 3) := by decide +kernel
theorem dX7_isFree_119 : decode cX7_isFree 119 = .ok (.iconst 0, 1) := by decide +kernel
theorem dX7_isFree_120 : decode cX7_isFree 120 = .ok (.ireturn, 1) := by decide +kernel
def jX7_isFree_89 (self37 : Int → Int → PH → RO) (self52 : Int → Int → PH → RO) (p0 p1 p2 p3 p4 p5 p6 : Int) (H : PH) : RO :=
  self52 p3 (w32 (p6 + 1)) H
set_option maxHeartbeats 4000000 in
theorem jX7_isFree_89_ok {E : PE} {rr : Int} {HH : PH} (F : FX E cX7_isFree RX7) (q : QE E (some (vi rr)) HH (some .boolean)) (hn : nLof E = 7) (hf : (roomOf E).frames = 0) (hl : (roomOf E).locals = 0) (self37 : Int → Int → PH → RO) (self52 : Int → Int → PH → RO) (p0 p1 p2 p3 p4 p5 p6 : Int) (H : PH) (ih37 : ∀ (v3 v4 : Int) (HV : PH), self37 v3 v4 HV = some (rr, HH) → PW E 37 [some (vr p0), some (vi p1), some (vi p2), some (vi v3), some (vi v4), none, none] [] HV) (ih52 : ∀ (v3 v6 : Int) (HV : PH), self52 v3 v6 HV = some (rr, HH) → PW E 52 [some (vr p0), some (vi p1), some (vi p2), some (vi v3), some (vi p4), some (vi p5), some (vi v6)] [] HV) (h : jX7_isFree_89 self37 self52 p0 p1 p2 p3 p4 p5 p6 H = some (rr, HH)) : PW E 89 [some (vr p0), some (vi p1), some (vi p2), some (vi p3), some (vi p4), some (vi p5), some (vi p6)] [] H := by
  unfold jX7_isFree_89 at h
  refine pw_iinc (pc := 89) F dX7_isFree_89 rfl (lt_nl hn (by decide)) [some (vr p0), some (vi p1), some (vi p2), some (vi p3), some (vi p4), some (vi p5), some (vi (w32 (p6 + 1)))] rfl (by decide) ?_
  refine pw_goto (pc := 92) F 52 dX7_isFree_92 (by decide) ?_
  exact pw_mask [true, true, true, true, true, true, true] (ls' := [some (vr p0), some (vi p1), some (vi p2), some (vi p3), some (vi p4), some (vi p5), some (vi (w32 (p6 + 1)))]) rfl (ih52 p3 (w32 (p6 + 1)) H h)
def lX7_isFree_52 (self37 : Int → Int → PH → RO) (p0 p1 p2 p4 p5 : Int) (self52 : Int → Int → PH → RO) (p3 p6 : Int) (H : PH) : RO :=
  (ld 23 H p0 0).bind fun x1 => (if p6 ≥ x1 then (if (i_and (i_shr p3 p2) 1) = 0 then (if p3 ≠ p5 then self37 p3 (w32 (p4 + 1)) H
  else some (0, H))
  else some (1, H))
  else (if p6 = p1 then jX7_isFree_89 self37 self52 p0 p1 p2 p3 p4 p5 p6 H
  else (ld 23 H p0 7).bind fun x2 => (ld 0 H x2 p6).bind fun x3 => (if (i_and x3 p3) = 0 then jX7_isFree_89 self37 self52 p0 p1 p2 p3 p4 p5 p6 H
  else (ld 23 H p0 7).bind fun x4 => (ld 0 H x4 p6).bind fun x5 => jX7_isFree_89 self37 self52 p0 p1 p2 (i_or p3 x5) p4 p5 p6 H)))
set_option maxHeartbeats 4000000 in
theorem lX7_isFree_52_ok {E : PE} {rr : Int} {HH : PH} (F : FX E cX7_isFree RX7) (q : QE E (some (vi rr)) HH (some .boolean)) (hn : nLof E = 7) (hf : (roomOf E).frames = 0) (hl : (roomOf E).locals = 0) (self37 : Int → Int → PH → RO) (p0 p1 p2 p4 p5 : Int) (ih37 : ∀ (v3 v4 : Int) (HV : PH), self37 v3 v4 HV = some (rr, HH) → PW E 37 [some (vr p0), some (vi p1), some (vi p2), some (vi v3), some (vi v4), none, none] [] HV) : ∀ (n : Nat) (p3 p6 : Int) (H : PH), lq2 (lX7_isFree_52 self37 p0 p1 p2 p4 p5) n p3 p6 H = some (rr, HH) → PW E 52 [some (vr p0), some (vi p1), some (vi p2), some (vi p3), some (vi p4), some (vi p5), some (vi p6)] [] H := by
  refine lq2_ind (P := fun p3 p6 H => PW E 52 [some (vr p0), some (vi p1), some (vi p2), some (vi p3), some (vi p4), some (vi p5), some (vi p6)] [] H) ?_
  intro self52 ih52 p3 p6 H h
  unfold lX7_isFree_52 at h
  refine pw_iload (pc := 52) F dX7_isFree_52 rfl ?_
  refine pw_aload_n (pc := 54) F dX7_isFree_54 rfl ?_
  obtain ⟨x1, ex1, h⟩ := bnd h
  refine pw_get (pc := 55) F 7 0 28 (by decide) (by decide) g_7af97f1e3d inl_7 0 rfl dX7_isFree_55 ex1 ?_
  refine pw_icmp_ge (pc := 58) F 95 dX7_isFree_58 (by decide) (fun hc => ?_) (fun hc => ?_)
  · have h := iteT hc h
    refine pw_iload_n (pc := 95) F dX7_isFree_95 rfl ?_
    refine pw_iload_n (pc := 96) F dX7_isFree_96 rfl ?_
    refine pw_ishr (pc := 97) F dX7_isFree_97 ?_
    refine pw_iconst (pc := 98) F 1 dX7_isFree_98 (by decide) ?_
    refine pw_iand (pc := 99) F dX7_isFree_99 ?_
    refine pw_if_eq (pc := 100) F 105 dX7_isFree_100 (by decide) (fun hc => ?_) (fun hc => ?_)
    · have h := iteT hc h
      refine pw_iload_n (pc := 105) F dX7_isFree_105 rfl ?_
      refine pw_iload (pc := 106) F dX7_isFree_106 rfl ?_
      refine pw_icmp_ne (pc := 108) F 113 dX7_isFree_108 (by decide) (fun hc => ?_) (fun hc => ?_)
      · have h := iteT hc h
        refine pw_iinc (pc := 113) F dX7_isFree_113 rfl (lt_nl hn (by decide)) [some (vr p0), some (vi p1), some (vi p2), some (vi p3), some (vi (w32 (p4 + 1))), some (vi p5), some (vi p6)] rfl (by decide) ?_
        refine pw_goto (pc := 116) F 37 dX7_isFree_116 (by decide) ?_
        exact pw_mask [true, true, true, true, true, false, false] (ls' := [some (vr p0), some (vi p1), some (vi p2), some (vi p3), some (vi (w32 (p4 + 1))), none, none]) rfl (ih37 p3 (w32 (p4 + 1)) H h)
      · have h := iteF hc h
        refine pw_iconst (pc := 111) F 0 dX7_isFree_111 (by decide) ?_
        cases h
        exact pw_zret (pc := 112) F q (by decide) dX7_isFree_112
    · have h := iteF hc h
      refine pw_iconst (pc := 103) F 1 dX7_isFree_103 (by decide) ?_
      cases h
      exact pw_zret (pc := 104) F q (by decide) dX7_isFree_104
  · have h := iteF hc h
    refine pw_iload (pc := 61) F dX7_isFree_61 rfl ?_
    refine pw_iload_n (pc := 63) F dX7_isFree_63 rfl ?_
    refine pw_icmp_eq (pc := 64) F 89 dX7_isFree_64 (by decide) (fun hc => ?_) (fun hc => ?_)
    · have h := iteT hc h
      exact pw_mask [true, true, true, true, true, true, true] (ls' := [some (vr p0), some (vi p1), some (vi p2), some (vi p3), some (vi p4), some (vi p5), some (vi p6)]) rfl (jX7_isFree_89_ok F q hn hf hl self37 self52 p0 p1 p2 p3 p4 p5 p6 H ih37 ih52 h)
    · have h := iteF hc h
      refine pw_aload_n (pc := 67) F dX7_isFree_67 rfl ?_
      obtain ⟨x2, ex2, h⟩ := bnd h
      refine pw_get (pc := 68) F 7 7 25 (by decide) (by decide) g_8fd9c0111a inl_7 2 rfl dX7_isFree_68 ex2 ?_
      refine pw_iload (pc := 71) F dX7_isFree_71 rfl ?_
      obtain ⟨x3, ex3, h⟩ := bnd h
      refine pw_iald (pc := 73) F dX7_isFree_73 ex3 ?_
      refine pw_iload_n (pc := 74) F dX7_isFree_74 rfl ?_
      refine pw_iand (pc := 75) F dX7_isFree_75 ?_
      refine pw_if_eq (pc := 76) F 89 dX7_isFree_76 (by decide) (fun hc => ?_) (fun hc => ?_)
      · have h := iteT hc h
        exact pw_mask [true, true, true, true, true, true, true] (ls' := [some (vr p0), some (vi p1), some (vi p2), some (vi p3), some (vi p4), some (vi p5), some (vi p6)]) rfl (jX7_isFree_89_ok F q hn hf hl self37 self52 p0 p1 p2 p3 p4 p5 p6 H ih37 ih52 h)
      · have h := iteF hc h
        refine pw_iload_n (pc := 79) F dX7_isFree_79 rfl ?_
        refine pw_aload_n (pc := 80) F dX7_isFree_80 rfl ?_
        obtain ⟨x4, ex4, h⟩ := bnd h
        refine pw_get (pc := 81) F 7 7 25 (by decide) (by decide) g_8fd9c0111a inl_7 2 rfl dX7_isFree_81 ex4 ?_
        refine pw_iload (pc := 84) F dX7_isFree_84 rfl ?_
        obtain ⟨x5, ex5, h⟩ := bnd h
        refine pw_iald (pc := 86) F dX7_isFree_86 ex5 ?_
        refine pw_ior (pc := 87) F dX7_isFree_87 ?_
        refine pw_istore_n (pc := 88) F dX7_isFree_88 (lt_nl hn (by decide)) [some (vr p0), some (vi p1), some (vi p2), some (vi (i_or p3 x5)), some (vi p4), some (vi p5), some (vi p6)] rfl ?_
        exact pw_mask [true, true, true, true, true, true, true] (ls' := [some (vr p0), some (vi p1), some (vi p2), some (vi (i_or p3 x5)), some (vi p4), some (vi p5), some (vi p6)]) rfl (jX7_isFree_89_ok F q hn hf hl self37 self52 p0 p1 p2 (i_or p3 x5) p4 p5 p6 H ih37 ih52 h)
def lX7_isFree_37 (p0 p1 p2 : Int) (self37 : Int → Int → PH → RO) (p3 p4 : Int) (H : PH) : RO :=
  (ld 23 H p0 0).bind fun x1 => (if p4 ≥ x1 then some (0, H)
  else lq2 (lX7_isFree_52 self37 p0 p1 p2 p4 p3) 6000 p3 0 H)
set_option maxHeartbeats 4000000 in
theorem lX7_isFree_37_ok {E : PE} {rr : Int} {HH : PH} (F : FX E cX7_isFree RX7) (q : QE E (some (vi rr)) HH (some .boolean)) (hn : nLof E = 7) (hf : (roomOf E).frames = 0) (hl : (roomOf E).locals = 0) (p0 p1 p2 : Int) : ∀ (n : Nat) (p3 p4 : Int) (H : PH), lq2 (lX7_isFree_37 p0 p1 p2) n p3 p4 H = some (rr, HH) → PW E 37 [some (vr p0), some (vi p1), some (vi p2), some (vi p3), some (vi p4), none, none] [] H := by
  refine lq2_ind (P := fun p3 p4 H => PW E 37 [some (vr p0), some (vi p1), some (vi p2), some (vi p3), some (vi p4), none, none] [] H) ?_
  intro self37 ih37 p3 p4 H h
  unfold lX7_isFree_37 at h
  refine pw_iload (pc := 37) F dX7_isFree_37 rfl ?_
  refine pw_aload_n (pc := 39) F dX7_isFree_39 rfl ?_
  obtain ⟨x1, ex1, h⟩ := bnd h
  refine pw_get (pc := 40) F 7 0 28 (by decide) (by decide) g_7af97f1e3d inl_7 0 rfl dX7_isFree_40 ex1 ?_
  refine pw_icmp_ge (pc := 43) F 119 dX7_isFree_43 (by decide) (fun hc => ?_) (fun hc => ?_)
  · have h := iteT hc h
    refine pw_iconst (pc := 119) F 0 dX7_isFree_119 (by decide) ?_
    cases h
    exact pw_zret (pc := 120) F q (by decide) dX7_isFree_120
  · have h := iteF hc h
    refine pw_iload_n (pc := 46) F dX7_isFree_46 rfl ?_
    refine pw_istore (pc := 47) F dX7_isFree_47 (lt_nl hn (by decide)) [some (vr p0), some (vi p1), some (vi p2), some (vi p3), some (vi p4), some (vi p3), none] rfl ?_
    refine pw_iconst (pc := 49) F 0 dX7_isFree_49 (by decide) ?_
    refine pw_istore (pc := 50) F dX7_isFree_50 (lt_nl hn (by decide)) [some (vr p0), some (vi p1), some (vi p2), some (vi p3), some (vi p4), some (vi p3), some (vi 0)] rfl ?_
    exact pw_mask [true, true, true, true, true, true, true] (ls' := [some (vr p0), some (vi p1), some (vi p2), some (vi p3), some (vi p4), some (vi p3), some (vi 0)]) rfl (lX7_isFree_52_ok F q hn hf hl self37 p0 p1 p2 p4 p3 ih37  6000 p3 0 H h)
def f_X7_isFree (a0 a1 a2 : Int) (H : PH) : RO := vm 7 a0 H <|
  (ld 23 H a0 2).bind fun x1 => (if x1 ≠ 0 then (ld 23 H a0 7).bind fun x2 => (ld 0 H x2 a1).bind fun x3 => lq2 (lX7_isFree_37 a0 a1 a2) 6000 (i_and x3 (i_xor (i_shl 1 a2) (-1))) 0 H
  else (ld 23 H a0 8).bind fun x4 => (if x4 ≤ 1 then some (0, H)
  else some (1, H)))
set_option maxHeartbeats 4000000 in
theorem m_X7_isFree (l : Launch) (a0 a1 a2 : Int) (H : PH) (rr : Int) (HH : PH) (h : f_X7_isFree a0 a1 a2 H = some (rr, HH)) : CT l yX7_isFree cX7_isFree 7 (some .boolean) 0 0 [vr a0, vi a1, vi a2] H (some (vi rr)) HH := by
  refine CT.of RX7 (by decide) rfl [some (vr a0), some (vi a1), some (vi a2), none, none, none, none] rfl rfl ?_
  intro E F q hn hf hl hm
  unfold f_X7_isFree at h
  obtain ⟨hv, h⟩ := vm_spec h
  refine pw_aload_n (pc := 0) F dX7_isFree_0 rfl ?_
  obtain ⟨x1, ex1, h⟩ := bnd h
  refine pw_get (pc := 1) F 7 2 35 (by decide) (by decide) g_1e8f3b285b inl_7 0 rfl dX7_isFree_1 ex1 ?_
  refine pw_if_ne (pc := 4) F 21 dX7_isFree_4 (by decide) (fun hc => ?_) (fun hc => ?_)
  · have h := iteT hc h
    refine pw_aload_n (pc := 21) F dX7_isFree_21 rfl ?_
    obtain ⟨x2, ex2, h⟩ := bnd h
    refine pw_get (pc := 22) F 7 7 25 (by decide) (by decide) g_8fd9c0111a inl_7 2 rfl dX7_isFree_22 ex2 ?_
    refine pw_iload_n (pc := 25) F dX7_isFree_25 rfl ?_
    obtain ⟨x3, ex3, h⟩ := bnd h
    refine pw_iald (pc := 26) F dX7_isFree_26 ex3 ?_
    refine pw_iconst (pc := 27) F 1 dX7_isFree_27 (by decide) ?_
    refine pw_iload_n (pc := 28) F dX7_isFree_28 rfl ?_
    refine pw_ishl (pc := 29) F dX7_isFree_29 ?_
    refine pw_iconst (pc := 30) F (-1) dX7_isFree_30 (by decide) ?_
    refine pw_ixor (pc := 31) F dX7_isFree_31 ?_
    refine pw_iand (pc := 32) F dX7_isFree_32 ?_
    refine pw_istore_n (pc := 33) F dX7_isFree_33 (lt_nl hn (by decide)) [some (vr a0), some (vi a1), some (vi a2), some (vi (i_and x3 (i_xor (i_shl 1 a2) (-1)))), none, none, none] rfl ?_
    refine pw_iconst (pc := 34) F 0 dX7_isFree_34 (by decide) ?_
    refine pw_istore (pc := 35) F dX7_isFree_35 (lt_nl hn (by decide)) [some (vr a0), some (vi a1), some (vi a2), some (vi (i_and x3 (i_xor (i_shl 1 a2) (-1)))), some (vi 0), none, none] rfl ?_
    exact pw_mask [true, true, true, true, true, true, true] (ls' := [some (vr a0), some (vi a1), some (vi a2), some (vi (i_and x3 (i_xor (i_shl 1 a2) (-1)))), some (vi 0), none, none]) rfl (lX7_isFree_37_ok F q hn hf hl a0 a1 a2  6000 (i_and x3 (i_xor (i_shl 1 a2) (-1))) 0 H h)
  · have h := iteF hc h
    refine pw_aload_n (pc := 7) F dX7_isFree_7 rfl ?_
    obtain ⟨x4, ex4, h⟩ := bnd h
    refine pw_get (pc := 8) F 7 8 68 (by decide) (by decide) g_dbfccfd81a inl_7 0 rfl dX7_isFree_8 ex4 ?_
    refine pw_iconst (pc := 11) F 1 dX7_isFree_11 (by decide) ?_
    refine pw_icmp_le (pc := 12) F 19 dX7_isFree_12 (by decide) (fun hc => ?_) (fun hc => ?_)
    · have h := iteT hc h
      refine pw_iconst (pc := 19) F 0 dX7_isFree_19 (by decide) ?_
      cases h
      exact pw_zret (pc := 20) F q (by decide) dX7_isFree_20
    · have h := iteF hc h
      refine pw_iconst (pc := 15) F 1 dX7_isFree_15 (by decide) ?_
      refine pw_goto (pc := 16) F 20 dX7_isFree_16 (by decide) ?_
      cases h
      exact pw_zret (pc := 20) F q (by decide) dX7_isFree_20
/-! HouseholdVault$Table.firstFollowing()I -/
theorem dX7_firstFollowing_0 : decode cX7_firstFollowing 0 = .ok (.iconst 0, 1) := by decide +kernel
theorem dX7_firstFollowing_1 : decode cX7_firstFollowing 1 = .ok (.istore_n 1, 1) := by decide +kernel
theorem dX7_firstFollowing_2 : decode cX7_firstFollowing 2 = .ok (.iload_n 1, 1) := by decide +kernel
theorem dX7_firstFollowing_3 : decode cX7_firstFollowing 3 = .ok (.aload_n 0, 1) := by decide +kernel
theorem dX7_firstFollowing_4 : decode cX7_firstFollowing 4 = .ok (.getfield 28, 3) := by decide +kernel
theorem dX7_firstFollowing_7 : decode cX7_firstFollowing 7 = .ok (.if_icmp .ge 50, 3) := by decide +kernel
theorem dX7_firstFollowing_10 : decode cX7_firstFollowing 10 = .ok (.iconst 0, 1) := by decide +kernel
theorem dX7_firstFollowing_11 : decode cX7_firstFollowing 11 = .ok (.istore_n 2, 1) := by decide +kernel
theorem dX7_firstFollowing_12 : decode cX7_firstFollowing 12 = .ok (.iload_n 2, 1) := by decide +kernel
theorem dX7_firstFollowing_13 : decode cX7_firstFollowing 13 = .ok (.aload_n 0, 1) := by decide +kernel
theorem dX7_firstFollowing_14 : decode cX7_firstFollowing 14 = .ok (.getfield 32, 3) := by decide +kernel
theorem dX7_firstFollowing_17 : decode cX7_firstFollowing 17 = .ok (.if_icmp .ge 34, 3) := by decide +kernel
theorem dX7_firstFollowing_20 : decode cX7_firstFollowing 20 = .ok (.aload_n 0, 1) := by decide +kernel
theorem dX7_firstFollowing_21 : decode cX7_firstFollowing 21 = .ok (.iload_n 1, 1) := by decide +kernel
theorem dX7_firstFollowing_22 : decode cX7_firstFollowing 22 = .ok (.iload_n 2, 1) := by decide +kernel
theorem dX7_firstFollowing_23 : decode cX7_firstFollowing 23 = .ok (.invokevirtual 85, 3) := by decide +kernel
theorem dX7_firstFollowing_26 : decode cX7_firstFollowing 26 = .ok (.ifCond .eq 19, 3) := by decide +kernel
theorem dX7_firstFollowing_29 : decode cX7_firstFollowing 29 = .ok (.aload_n 0, 1) := by decide +kernel
theorem dX7_firstFollowing_30 : decode cX7_firstFollowing 30 = .ok (.iload_n 1, 1) := by decide +kernel
theorem dX7_firstFollowing_31 : decode cX7_firstFollowing 31 = .ok (.iload_n 2, 1) := by decide +kernel
theorem dX7_firstFollowing_32 : decode cX7_firstFollowing 32 = .ok (.invokevirtual 88, 3) := by decide +kernel
theorem dX7_firstFollowing_35 : decode cX7_firstFollowing 35 = .ok (.ifCond .ne 10, 3) := by decide +kernel
theorem dX7_firstFollowing_38 : decode cX7_firstFollowing 38 = .ok (.aload_n 0, 1) := by decide +kernel
theorem dX7_firstFollowing_39 : decode cX7_firstFollowing 39 = .ok (.iload_n 1, 1) := by decide +kernel
theorem dX7_firstFollowing_40 : decode cX7_firstFollowing 40 = .ok (.iload_n 2, 1) := by decide +kernel
theorem dX7_firstFollowing_41 : decode cX7_firstFollowing 41 = .ok (.invokevirtual 55, 3) := by decide +kernel
theorem dX7_firstFollowing_44 : decode cX7_firstFollowing 44 = .ok (.ireturn, 1) := by decide +kernel
theorem dX7_firstFollowing_45 : decode cX7_firstFollowing 45 = .ok (.iinc 2 1, 3) := by decide +kernel
theorem dX7_firstFollowing_48 : decode cX7_firstFollowing 48 = .ok (.goto (-36), 3) := by decide +kernel
theorem dX7_firstFollowing_51 : decode cX7_firstFollowing 51 = .ok (.iinc 1 1, 3) := by decide +kernel
theorem dX7_firstFollowing_54 : decode cX7_firstFollowing 54 = .ok (.goto (-52), 3) := by decide +kernel
theorem dX7_firstFollowing_57 : decode cX7_firstFollowing 57 = .ok (.iconst (-1), 1) := by decide +kernel
theorem dX7_firstFollowing_58 : decode cX7_firstFollowing 58 = .ok (.ireturn, 1) := by decide +kernel
def jX7_firstFollowing_45 (self2 : Int → PH → RO) (self12 : Int → PH → RO) (p0 p1 p2 : Int) (H : PH) : RO :=
  self12 (w32 (p2 + 1)) H
set_option maxHeartbeats 4000000 in
theorem jX7_firstFollowing_45_ok {E : PE} {rr : Int} {HH : PH} (F : FX E cX7_firstFollowing RX7) (q : QE E (some (vi rr)) HH (some .int)) (hn : nLof E = 3) (hf : (roomOf E).frames = 1) (hl : (roomOf E).locals = 26) (self2 : Int → PH → RO) (self12 : Int → PH → RO) (p0 p1 p2 : Int) (H : PH) (ih2 : ∀ (v1 : Int) (HV : PH), self2 v1 HV = some (rr, HH) → PW E 2 [some (vr p0), some (vi v1), none] [] HV) (ih12 : ∀ (v2 : Int) (HV : PH), self12 v2 HV = some (rr, HH) → PW E 12 [some (vr p0), some (vi p1), some (vi v2)] [] HV) (h : jX7_firstFollowing_45 self2 self12 p0 p1 p2 H = some (rr, HH)) : PW E 45 [some (vr p0), some (vi p1), some (vi p2)] [] H := by
  unfold jX7_firstFollowing_45 at h
  refine pw_iinc (pc := 45) F dX7_firstFollowing_45 rfl (lt_nl hn (by decide)) [some (vr p0), some (vi p1), some (vi (w32 (p2 + 1)))] rfl (by decide) ?_
  refine pw_goto (pc := 48) F 12 dX7_firstFollowing_48 (by decide) ?_
  exact pw_mask [true, true, true] (ls' := [some (vr p0), some (vi p1), some (vi (w32 (p2 + 1)))]) rfl (ih12 (w32 (p2 + 1)) H h)
def lX7_firstFollowing_12 (self2 : Int → PH → RO) (p0 p1 : Int) (self12 : Int → PH → RO) (p2 : Int) (H : PH) : RO :=
  (ld 23 H p0 1).bind fun x1 => (if p2 ≥ x1 then self2 (w32 (p1 + 1)) H
  else (f_X7_isHeld p0 p1 p2 H).bind fun z2 => (if z2.1 = 0 then jX7_firstFollowing_45 self2 self12 p0 p1 p2 z2.2
  else (f_X7_isFree p0 p1 p2 z2.2).bind fun z3 => (if z3.1 ≠ 0 then jX7_firstFollowing_45 self2 self12 p0 p1 p2 z3.2
  else (f_X7_at p0 p1 p2 z3.2).bind fun z4 => some (z4.1, z4.2))))
set_option maxHeartbeats 4000000 in
theorem lX7_firstFollowing_12_ok {E : PE} {rr : Int} {HH : PH} (F : FX E cX7_firstFollowing RX7) (q : QE E (some (vi rr)) HH (some .int)) (hn : nLof E = 3) (hf : (roomOf E).frames = 1) (hl : (roomOf E).locals = 26) (self2 : Int → PH → RO) (p0 p1 : Int) (ih2 : ∀ (v1 : Int) (HV : PH), self2 v1 HV = some (rr, HH) → PW E 2 [some (vr p0), some (vi v1), none] [] HV) : ∀ (n : Nat) (p2 : Int) (H : PH), lq1 (lX7_firstFollowing_12 self2 p0 p1) n p2 H = some (rr, HH) → PW E 12 [some (vr p0), some (vi p1), some (vi p2)] [] H := by
  refine lq1_ind (P := fun p2 H => PW E 12 [some (vr p0), some (vi p1), some (vi p2)] [] H) ?_
  intro self12 ih12 p2 H h
  unfold lX7_firstFollowing_12 at h
  refine pw_iload_n (pc := 12) F dX7_firstFollowing_12 rfl ?_
  refine pw_aload_n (pc := 13) F dX7_firstFollowing_13 rfl ?_
  obtain ⟨x1, ex1, h⟩ := bnd h
  refine pw_get (pc := 14) F 7 1 32 (by decide) (by decide) g_d0dccf0994 inl_7 0 rfl dX7_firstFollowing_14 ex1 ?_
  refine pw_icmp_ge (pc := 17) F 51 dX7_firstFollowing_17 (by decide) (fun hc => ?_) (fun hc => ?_)
  · have h := iteT hc h
    refine pw_iinc (pc := 51) F dX7_firstFollowing_51 rfl (lt_nl hn (by decide)) [some (vr p0), some (vi (w32 (p1 + 1))), some (vi p2)] rfl (by decide) ?_
    refine pw_goto (pc := 54) F 2 dX7_firstFollowing_54 (by decide) ?_
    exact pw_mask [true, true, false] (ls' := [some (vr p0), some (vi (w32 (p1 + 1))), none]) rfl (ih2 (w32 (p1 + 1)) H h)
  · have h := iteF hc h
    refine pw_aload_n (pc := 20) F dX7_firstFollowing_20 rfl ?_
    refine pw_iload_n (pc := 21) F dX7_firstFollowing_21 rfl ?_
    refine pw_iload_n (pc := 22) F dX7_firstFollowing_22 rfl ?_
    obtain ⟨z2, ez2, h⟩ := bnd h
    refine pw_callV (pc := 23) (as := [vi p1, vi p2]) (st := []) (r := (some (vi z2.1))) F 85 7 (by decide) rfl (fun l => m_X7_isHeld l p0 p1 p2 H z2.1 z2.2 ez2) g_209c21ef8e g_8e7660debb g_2bb44259a2 g_030a77a6da g_24b12a3bb9 hd_X7_isHeld (rm_ok hf hl (by decide) (by decide)) rfl (vm_spec ez2).1 dX7_firstFollowing_23 rfl (stk' := [vi z2.1]) rfl ?_
    refine pw_if_eq (pc := 26) F 45 dX7_firstFollowing_26 (by decide) (fun hc => ?_) (fun hc => ?_)
    · have h := iteT hc h
      exact pw_mask [true, true, true] (ls' := [some (vr p0), some (vi p1), some (vi p2)]) rfl (jX7_firstFollowing_45_ok F q hn hf hl self2 self12 p0 p1 p2 z2.2 ih2 ih12 h)
    · have h := iteF hc h
      refine pw_aload_n (pc := 29) F dX7_firstFollowing_29 rfl ?_
      refine pw_iload_n (pc := 30) F dX7_firstFollowing_30 rfl ?_
      refine pw_iload_n (pc := 31) F dX7_firstFollowing_31 rfl ?_
      obtain ⟨z3, ez3, h⟩ := bnd h
      refine pw_callV (pc := 32) (as := [vi p1, vi p2]) (st := []) (r := (some (vi z3.1))) F 88 7 (by decide) rfl (fun l => m_X7_isFree l p0 p1 p2 z2.2 z3.1 z3.2 ez3) g_5e3490a3b5 g_00000286b2 g_7fccd1169f g_030a77a6da g_d6f0552876 hd_X7_isFree (rm_ok hf hl (by decide) (by decide)) rfl (vm_spec ez3).1 dX7_firstFollowing_32 rfl (stk' := [vi z3.1]) rfl ?_
      refine pw_if_ne (pc := 35) F 45 dX7_firstFollowing_35 (by decide) (fun hc => ?_) (fun hc => ?_)
      · have h := iteT hc h
        exact pw_mask [true, true, true] (ls' := [some (vr p0), some (vi p1), some (vi p2)]) rfl (jX7_firstFollowing_45_ok F q hn hf hl self2 self12 p0 p1 p2 z3.2 ih2 ih12 h)
      · have h := iteF hc h
        refine pw_aload_n (pc := 38) F dX7_firstFollowing_38 rfl ?_
        refine pw_iload_n (pc := 39) F dX7_firstFollowing_39 rfl ?_
        refine pw_iload_n (pc := 40) F dX7_firstFollowing_40 rfl ?_
        obtain ⟨z4, ez4, h⟩ := bnd h
        refine pw_callV (pc := 41) (as := [vi p1, vi p2]) (st := []) (r := (some (vi z4.1))) F 55 7 (by decide) rfl (fun l => m_X7_at l p0 p1 p2 z3.2 z4.1 z4.2 ez4) g_fcdeebc82f g_e482649742 g_bf833bcebb g_030a77a6da g_4843a546b7 hd_X7_at (rm_ok hf hl (by decide) (by decide)) rfl (vm_spec ez4).1 dX7_firstFollowing_41 rfl (stk' := [vi z4.1]) rfl ?_
        cases h
        exact pw_iret (pc := 44) F q dX7_firstFollowing_44
def lX7_firstFollowing_2 (p0 : Int) (self2 : Int → PH → RO) (p1 : Int) (H : PH) : RO :=
  (ld 23 H p0 0).bind fun x1 => (if p1 ≥ x1 then some ((-1), H)
  else lq1 (lX7_firstFollowing_12 self2 p0 p1) 6000 0 H)
set_option maxHeartbeats 4000000 in
theorem lX7_firstFollowing_2_ok {E : PE} {rr : Int} {HH : PH} (F : FX E cX7_firstFollowing RX7) (q : QE E (some (vi rr)) HH (some .int)) (hn : nLof E = 3) (hf : (roomOf E).frames = 1) (hl : (roomOf E).locals = 26) (p0 : Int) : ∀ (n : Nat) (p1 : Int) (H : PH), lq1 (lX7_firstFollowing_2 p0) n p1 H = some (rr, HH) → PW E 2 [some (vr p0), some (vi p1), none] [] H := by
  refine lq1_ind (P := fun p1 H => PW E 2 [some (vr p0), some (vi p1), none] [] H) ?_
  intro self2 ih2 p1 H h
  unfold lX7_firstFollowing_2 at h
  refine pw_iload_n (pc := 2) F dX7_firstFollowing_2 rfl ?_
  refine pw_aload_n (pc := 3) F dX7_firstFollowing_3 rfl ?_
  obtain ⟨x1, ex1, h⟩ := bnd h
  refine pw_get (pc := 4) F 7 0 28 (by decide) (by decide) g_7af97f1e3d inl_7 0 rfl dX7_firstFollowing_4 ex1 ?_
  refine pw_icmp_ge (pc := 7) F 57 dX7_firstFollowing_7 (by decide) (fun hc => ?_) (fun hc => ?_)
  · have h := iteT hc h
    refine pw_iconst (pc := 57) F (-1) dX7_firstFollowing_57 (by decide) ?_
    cases h
    exact pw_iret (pc := 58) F q dX7_firstFollowing_58
  · have h := iteF hc h
    refine pw_iconst (pc := 10) F 0 dX7_firstFollowing_10 (by decide) ?_
    refine pw_istore_n (pc := 11) F dX7_firstFollowing_11 (lt_nl hn (by decide)) [some (vr p0), some (vi p1), some (vi 0)] rfl ?_
    exact pw_mask [true, true, true] (ls' := [some (vr p0), some (vi p1), some (vi 0)]) rfl (lX7_firstFollowing_12_ok F q hn hf hl self2 p0 p1 ih2  6000 0 H h)
def f_X7_firstFollowing (a0 : Int) (H : PH) : RO := vm 7 a0 H <|
  lq1 (lX7_firstFollowing_2 a0) 6000 0 H
set_option maxHeartbeats 4000000 in
theorem m_X7_firstFollowing (l : Launch) (a0 : Int) (H : PH) (rr : Int) (HH : PH) (h : f_X7_firstFollowing a0 H = some (rr, HH)) : CT l yX7_firstFollowing cX7_firstFollowing 3 (some .int) 1 26 [vr a0] H (some (vi rr)) HH := by
  refine CT.of RX7 (by decide) rfl [some (vr a0), none, none] rfl rfl ?_
  intro E F q hn hf hl hm
  unfold f_X7_firstFollowing at h
  obtain ⟨hv, h⟩ := vm_spec h
  refine pw_iconst (pc := 0) F 0 dX7_firstFollowing_0 (by decide) ?_
  refine pw_istore_n (pc := 1) F dX7_firstFollowing_1 (lt_nl hn (by decide)) [some (vr a0), some (vi 0), none] rfl ?_
  exact pw_mask [true, true, true] (ls' := [some (vr a0), some (vi 0), none]) rfl (lX7_firstFollowing_2_ok F q hn hf hl a0  6000 0 H h)
/-! HouseholdVault$Table.leastOpen(IIII)I -/
theorem dX7_leastOpen_0 : decode cX7_leastOpen 0 = .ok (.iconst (-1), 1) := by decide +kernel
theorem dX7_leastOpen_1 : decode cX7_leastOpen 1 = .ok (.istore 5, 2) := by decide +kernel
theorem dX7_leastOpen_3 : decode cX7_leastOpen 3 = .ok (.iload_n 1, 1) := by decide +kernel
theorem dX7_leastOpen_4 : decode cX7_leastOpen 4 = .ok (.istore 6, 2) := by decide +kernel
theorem dX7_leastOpen_6 : decode cX7_leastOpen 6 = .ok (.iload 6, 2) := by decide +kernel
theorem dX7_leastOpen_8 : decode cX7_leastOpen 8 = .ok (.iload_n 2, 1) := by decide +kernel
theorem dX7_leastOpen_9 : decode cX7_leastOpen 9 = .ok (.if_icmp .ge 78, 3) := by decide +kernel
theorem dX7_leastOpen_12 : decode cX7_leastOpen 12 = .ok (.iload_n 3, 1) := by decide +kernel
theorem dX7_leastOpen_13 : decode cX7_leastOpen 13 = .ok (.istore 7, 2) := by decide +kernel
theorem dX7_leastOpen_15 : decode cX7_leastOpen 15 = .ok (.iload 7, 2) := by decide +kernel
theorem dX7_leastOpen_17 : decode cX7_leastOpen 17 = .ok (.iload 4, 2) := by decide +kernel
theorem dX7_leastOpen_19 : decode cX7_leastOpen 19 = .ok (.if_icmp .ge 62, 3) := by decide +kernel
theorem dX7_leastOpen_22 : decode cX7_leastOpen 22 = .ok (.aload_n 0, 1) := by decide +kernel
theorem dX7_leastOpen_23 : decode cX7_leastOpen 23 = .ok (.iload 6, 2) := by decide +kernel
theorem dX7_leastOpen_25 : decode cX7_leastOpen 25 = .ok (.iload 7, 2) := by decide +kernel
theorem dX7_leastOpen_27 : decode cX7_leastOpen 27 = .ok (.invokevirtual 85, 3) := by decide +kernel
theorem dX7_leastOpen_30 : decode cX7_leastOpen 30 = .ok (.ifCond .eq 6, 3) := by decide +kernel
theorem dX7_leastOpen_33 : decode cX7_leastOpen 33 = .ok (.goto 42, 3) := by decide +kernel
theorem dX7_leastOpen_36 : decode cX7_leastOpen 36 = .ok (.iload 5, 2) := by decide +kernel
theorem dX7_leastOpen_38 : decode cX7_leastOpen 38 = .ok (.iconst (-1), 1) := by decide +kernel
theorem dX7_leastOpen_39 : decode cX7_leastOpen 39 = .ok (.if_icmp .eq 26, 3) := by decide +kernel
theorem dX7_leastOpen_42 : decode cX7_leastOpen 42 = .ok (.aload_n 0, 1) := by decide +kernel
theorem dX7_leastOpen_43 : decode cX7_leastOpen 43 = .ok (.getfield 9, 3) := by decide +kernel
theorem dX7_leastOpen_46 : decode cX7_leastOpen 46 = .ok (.aload_n 0, 1) := by decide +kernel
theorem dX7_leastOpen_47 : decode cX7_leastOpen 47 = .ok (.iload 6, 2) := by decide +kernel
theorem dX7_leastOpen_49 : decode cX7_leastOpen 49 = .ok (.iload 7, 2) := by decide +kernel
theorem dX7_leastOpen_51 : decode cX7_leastOpen 51 = .ok (.invokevirtual 55, 3) := by decide +kernel
theorem dX7_leastOpen_54 : decode cX7_leastOpen 54 = .ok (.iaload, 1) := by decide +kernel
theorem dX7_leastOpen_55 : decode cX7_leastOpen 55 = .ok (.aload_n 0, 1) := by decide +kernel
theorem dX7_leastOpen_56 : decode cX7_leastOpen 56 = .ok (.getfield 9, 3) := by decide +kernel
theorem dX7_leastOpen_59 : decode cX7_leastOpen 59 = .ok (.iload 5, 2) := by decide +kernel
theorem dX7_leastOpen_61 : decode cX7_leastOpen 61 = .ok (.iaload, 1) := by decide +kernel
theorem dX7_leastOpen_62 : decode cX7_leastOpen 62 = .ok (.if_icmp .ge 13, 3) := by decide +kernel
theorem dX7_leastOpen_65 : decode cX7_leastOpen 65 = .ok (.aload_n 0, 1) := by decide +kernel
theorem dX7_leastOpen_66 : decode cX7_leastOpen 66 = .ok (.iload 6, 2) := by decide +kernel
theorem dX7_leastOpen_68 : decode cX7_leastOpen 68 = .ok (.iload 7, 2) := by decide +kernel
theorem dX7_leastOpen_70 : decode cX7_leastOpen 70 = .ok (.invokevirtual 55, 3) := by decide +kernel
theorem dX7_leastOpen_73 : decode cX7_leastOpen 73 = .ok (.istore 5, 2) := by decide +kernel
theorem dX7_leastOpen_75 : decode cX7_leastOpen 75 = .ok (.iinc 7 1, 3) := by decide +kernel
theorem dX7_leastOpen_78 : decode cX7_leastOpen 78 = .ok (.goto (-63), 3) := by decide +kernel
theorem dX7_leastOpen_81 : decode cX7_leastOpen 81 = .ok (.iinc 6 1, 3) := by decide +kernel
theorem dX7_leastOpen_84 : decode cX7_leastOpen 84 = .ok (.goto (-78), 3) := by decide +kernel
theorem dX7_leastOpen_87 : decode cX7_leastOpen 87 = .ok (.iload 5, 2) := by decide +kernel
theorem dX7_leastOpen_89 : decode cX7_leastOpen 89 = .ok (.ireturn, 1) := by decide +kernel
def jX7_leastOpen_75 (self6 : Int → Int → PH → RO) (self15 : Int → Int → PH → RO) (p0 p2 p3 p4 p5 p6 p7 : Int) (H : PH) : RO :=
  self15 p5 (w32 (p7 + 1)) H
set_option maxHeartbeats 4000000 in
theorem jX7_leastOpen_75_ok {E : PE} {rr : Int} {HH : PH} (F : FX E cX7_leastOpen RX7) (q : QE E (some (vi rr)) HH (some .int)) (hn : nLof E = 8) (hf : (roomOf E).frames = 1) (hl : (roomOf E).locals = 22) (self6 : Int → Int → PH → RO) (self15 : Int → Int → PH → RO) (p0 p2 p3 p4 p5 p6 p7 : Int) (H : PH) (ih6 : ∀ (v5 v6 : Int) (HV : PH), self6 v5 v6 HV = some (rr, HH) → PW E 6 [some (vr p0), none, some (vi p2), some (vi p3), some (vi p4), some (vi v5), some (vi v6), none] [] HV) (ih15 : ∀ (v5 v7 : Int) (HV : PH), self15 v5 v7 HV = some (rr, HH) → PW E 15 [some (vr p0), none, some (vi p2), some (vi p3), some (vi p4), some (vi v5), some (vi p6), some (vi v7)] [] HV) (h : jX7_leastOpen_75 self6 self15 p0 p2 p3 p4 p5 p6 p7 H = some (rr, HH)) : PW E 75 [some (vr p0), none, some (vi p2), some (vi p3), some (vi p4), some (vi p5), some (vi p6), some (vi p7)] [] H := by
  unfold jX7_leastOpen_75 at h
  refine pw_iinc (pc := 75) F dX7_leastOpen_75 rfl (lt_nl hn (by decide)) [some (vr p0), none, some (vi p2), some (vi p3), some (vi p4), some (vi p5), some (vi p6), some (vi (w32 (p7 + 1)))] rfl (by decide) ?_
  refine pw_goto (pc := 78) F 15 dX7_leastOpen_78 (by decide) ?_
  exact pw_mask [true, true, true, true, true, true, true, true] (ls' := [some (vr p0), none, some (vi p2), some (vi p3), some (vi p4), some (vi p5), some (vi p6), some (vi (w32 (p7 + 1)))]) rfl (ih15 p5 (w32 (p7 + 1)) H h)
def jX7_leastOpen_65 (self6 : Int → Int → PH → RO) (self15 : Int → Int → PH → RO) (p0 p2 p3 p4 p6 p7 : Int) (H : PH) : RO :=
  (f_X7_at p0 p6 p7 H).bind fun z1 => jX7_leastOpen_75 self6 self15 p0 p2 p3 p4 z1.1 p6 p7 z1.2
set_option maxHeartbeats 4000000 in
theorem jX7_leastOpen_65_ok {E : PE} {rr : Int} {HH : PH} (F : FX E cX7_leastOpen RX7) (q : QE E (some (vi rr)) HH (some .int)) (hn : nLof E = 8) (hf : (roomOf E).frames = 1) (hl : (roomOf E).locals = 22) (self6 : Int → Int → PH → RO) (self15 : Int → Int → PH → RO) (p0 p2 p3 p4 p6 p7 : Int) (H : PH) (ih6 : ∀ (v5 v6 : Int) (HV : PH), self6 v5 v6 HV = some (rr, HH) → PW E 6 [some (vr p0), none, some (vi p2), some (vi p3), some (vi p4), some (vi v5), some (vi v6), none] [] HV) (ih15 : ∀ (v5 v7 : Int) (HV : PH), self15 v5 v7 HV = some (rr, HH) → PW E 15 [some (vr p0), none, some (vi p2), some (vi p3), some (vi p4), some (vi v5), some (vi p6), some (vi v7)] [] HV) (h : jX7_leastOpen_65 self6 self15 p0 p2 p3 p4 p6 p7 H = some (rr, HH)) : PW E 65 [some (vr p0), none, some (vi p2), some (vi p3), some (vi p4), none, some (vi p6), some (vi p7)] [] H := by
  unfold jX7_leastOpen_65 at h
  refine pw_aload_n (pc := 65) F dX7_leastOpen_65 rfl ?_
  refine pw_iload (pc := 66) F dX7_leastOpen_66 rfl ?_
  refine pw_iload (pc := 68) F dX7_leastOpen_68 rfl ?_
  obtain ⟨z1, ez1, h⟩ := bnd h
  refine pw_callV (pc := 70) (as := [vi p6, vi p7]) (st := []) (r := (some (vi z1.1))) F 55 7 (by decide) rfl (fun l => m_X7_at l p0 p6 p7 H z1.1 z1.2 ez1) g_fcdeebc82f g_e482649742 g_bf833bcebb g_030a77a6da g_4843a546b7 hd_X7_at (rm_ok hf hl (by decide) (by decide)) rfl (vm_spec ez1).1 dX7_leastOpen_70 rfl (stk' := [vi z1.1]) rfl ?_
  refine pw_istore (pc := 73) F dX7_leastOpen_73 (lt_nl hn (by decide)) [some (vr p0), none, some (vi p2), some (vi p3), some (vi p4), some (vi z1.1), some (vi p6), some (vi p7)] rfl ?_
  exact pw_mask [true, true, true, true, true, true, true, true] (ls' := [some (vr p0), none, some (vi p2), some (vi p3), some (vi p4), some (vi z1.1), some (vi p6), some (vi p7)]) rfl (jX7_leastOpen_75_ok F q hn hf hl self6 self15 p0 p2 p3 p4 z1.1 p6 p7 z1.2 ih6 ih15 h)
def lX7_leastOpen_15 (self6 : Int → Int → PH → RO) (p0 p2 p3 p4 p6 : Int) (self15 : Int → Int → PH → RO) (p5 p7 : Int) (H : PH) : RO :=
  (if p7 ≥ p4 then self6 p5 (w32 (p6 + 1)) H
  else (f_X7_isHeld p0 p6 p7 H).bind fun z1 => (if z1.1 = 0 then (if p5 = (-1) then jX7_leastOpen_65 self6 self15 p0 p2 p3 p4 p6 p7 z1.2
  else (ld 23 z1.2 p0 3).bind fun x2 => (f_X7_at p0 p6 p7 z1.2).bind fun z3 => (ld 0 z3.2 x2 z3.1).bind fun x4 => (ld 23 z3.2 p0 3).bind fun x5 => (ld 0 z3.2 x5 p5).bind fun x6 => (if x4 ≥ x6 then jX7_leastOpen_75 self6 self15 p0 p2 p3 p4 p5 p6 p7 z3.2
  else jX7_leastOpen_65 self6 self15 p0 p2 p3 p4 p6 p7 z3.2))
  else jX7_leastOpen_75 self6 self15 p0 p2 p3 p4 p5 p6 p7 z1.2))
set_option maxHeartbeats 4000000 in
theorem lX7_leastOpen_15_ok {E : PE} {rr : Int} {HH : PH} (F : FX E cX7_leastOpen RX7) (q : QE E (some (vi rr)) HH (some .int)) (hn : nLof E = 8) (hf : (roomOf E).frames = 1) (hl : (roomOf E).locals = 22) (self6 : Int → Int → PH → RO) (p0 p2 p3 p4 p6 : Int) (ih6 : ∀ (v5 v6 : Int) (HV : PH), self6 v5 v6 HV = some (rr, HH) → PW E 6 [some (vr p0), none, some (vi p2), some (vi p3), some (vi p4), some (vi v5), some (vi v6), none] [] HV) : ∀ (n : Nat) (p5 p7 : Int) (H : PH), lq2 (lX7_leastOpen_15 self6 p0 p2 p3 p4 p6) n p5 p7 H = some (rr, HH) → PW E 15 [some (vr p0), none, some (vi p2), some (vi p3), some (vi p4), some (vi p5), some (vi p6), some (vi p7)] [] H := by
  refine lq2_ind (P := fun p5 p7 H => PW E 15 [some (vr p0), none, some (vi p2), some (vi p3), some (vi p4), some (vi p5), some (vi p6), some (vi p7)] [] H) ?_
  intro self15 ih15 p5 p7 H h
  unfold lX7_leastOpen_15 at h
  refine pw_iload (pc := 15) F dX7_leastOpen_15 rfl ?_
  refine pw_iload (pc := 17) F dX7_leastOpen_17 rfl ?_
  refine pw_icmp_ge (pc := 19) F 81 dX7_leastOpen_19 (by decide) (fun hc => ?_) (fun hc => ?_)
  · have h := iteT hc h
    refine pw_iinc (pc := 81) F dX7_leastOpen_81 rfl (lt_nl hn (by decide)) [some (vr p0), none, some (vi p2), some (vi p3), some (vi p4), some (vi p5), some (vi (w32 (p6 + 1))), some (vi p7)] rfl (by decide) ?_
    refine pw_goto (pc := 84) F 6 dX7_leastOpen_84 (by decide) ?_
    exact pw_mask [true, true, true, true, true, true, true, false] (ls' := [some (vr p0), none, some (vi p2), some (vi p3), some (vi p4), some (vi p5), some (vi (w32 (p6 + 1))), none]) rfl (ih6 p5 (w32 (p6 + 1)) H h)
  · have h := iteF hc h
    refine pw_aload_n (pc := 22) F dX7_leastOpen_22 rfl ?_
    refine pw_iload (pc := 23) F dX7_leastOpen_23 rfl ?_
    refine pw_iload (pc := 25) F dX7_leastOpen_25 rfl ?_
    obtain ⟨z1, ez1, h⟩ := bnd h
    refine pw_callV (pc := 27) (as := [vi p6, vi p7]) (st := []) (r := (some (vi z1.1))) F 85 7 (by decide) rfl (fun l => m_X7_isHeld l p0 p6 p7 H z1.1 z1.2 ez1) g_209c21ef8e g_8e7660debb g_2bb44259a2 g_030a77a6da g_24b12a3bb9 hd_X7_isHeld (rm_ok hf hl (by decide) (by decide)) rfl (vm_spec ez1).1 dX7_leastOpen_27 rfl (stk' := [vi z1.1]) rfl ?_
    refine pw_if_eq (pc := 30) F 36 dX7_leastOpen_30 (by decide) (fun hc => ?_) (fun hc => ?_)
    · have h := iteT hc h
      refine pw_iload (pc := 36) F dX7_leastOpen_36 rfl ?_
      refine pw_iconst (pc := 38) F (-1) dX7_leastOpen_38 (by decide) ?_
      refine pw_icmp_eq (pc := 39) F 65 dX7_leastOpen_39 (by decide) (fun hc => ?_) (fun hc => ?_)
      · have h := iteT hc h
        exact pw_mask [true, true, true, true, true, false, true, true] (ls' := [some (vr p0), none, some (vi p2), some (vi p3), some (vi p4), none, some (vi p6), some (vi p7)]) rfl (jX7_leastOpen_65_ok F q hn hf hl self6 self15 p0 p2 p3 p4 p6 p7 z1.2 ih6 ih15 h)
      · have h := iteF hc h
        refine pw_aload_n (pc := 42) F dX7_leastOpen_42 rfl ?_
        obtain ⟨x2, ex2, h⟩ := bnd h
        refine pw_get (pc := 43) F 7 3 9 (by decide) (by decide) g_b6ed047181 inl_7 2 rfl dX7_leastOpen_43 ex2 ?_
        refine pw_aload_n (pc := 46) F dX7_leastOpen_46 rfl ?_
        refine pw_iload (pc := 47) F dX7_leastOpen_47 rfl ?_
        refine pw_iload (pc := 49) F dX7_leastOpen_49 rfl ?_
        obtain ⟨z3, ez3, h⟩ := bnd h
        refine pw_callV (pc := 51) (as := [vi p6, vi p7]) (st := [vr x2]) (r := (some (vi z3.1))) F 55 7 (by decide) rfl (fun l => m_X7_at l p0 p6 p7 z1.2 z3.1 z3.2 ez3) g_fcdeebc82f g_e482649742 g_bf833bcebb g_030a77a6da g_4843a546b7 hd_X7_at (rm_ok hf hl (by decide) (by decide)) rfl (vm_spec ez3).1 dX7_leastOpen_51 rfl (stk' := [vi z3.1, vr x2]) rfl ?_
        obtain ⟨x4, ex4, h⟩ := bnd h
        refine pw_iald (pc := 54) F dX7_leastOpen_54 ex4 ?_
        refine pw_aload_n (pc := 55) F dX7_leastOpen_55 rfl ?_
        obtain ⟨x5, ex5, h⟩ := bnd h
        refine pw_get (pc := 56) F 7 3 9 (by decide) (by decide) g_b6ed047181 inl_7 2 rfl dX7_leastOpen_56 ex5 ?_
        refine pw_iload (pc := 59) F dX7_leastOpen_59 rfl ?_
        obtain ⟨x6, ex6, h⟩ := bnd h
        refine pw_iald (pc := 61) F dX7_leastOpen_61 ex6 ?_
        refine pw_icmp_ge (pc := 62) F 75 dX7_leastOpen_62 (by decide) (fun hc => ?_) (fun hc => ?_)
        · have h := iteT hc h
          exact pw_mask [true, true, true, true, true, true, true, true] (ls' := [some (vr p0), none, some (vi p2), some (vi p3), some (vi p4), some (vi p5), some (vi p6), some (vi p7)]) rfl (jX7_leastOpen_75_ok F q hn hf hl self6 self15 p0 p2 p3 p4 p5 p6 p7 z3.2 ih6 ih15 h)
        · have h := iteF hc h
          exact pw_mask [true, true, true, true, true, false, true, true] (ls' := [some (vr p0), none, some (vi p2), some (vi p3), some (vi p4), none, some (vi p6), some (vi p7)]) rfl (jX7_leastOpen_65_ok F q hn hf hl self6 self15 p0 p2 p3 p4 p6 p7 z3.2 ih6 ih15 h)
    · have h := iteF hc h
      refine pw_goto (pc := 33) F 75 dX7_leastOpen_33 (by decide) ?_
      exact pw_mask [true, true, true, true, true, true, true, true] (ls' := [some (vr p0), none, some (vi p2), some (vi p3), some (vi p4), some (vi p5), some (vi p6), some (vi p7)]) rfl (jX7_leastOpen_75_ok F q hn hf hl self6 self15 p0 p2 p3 p4 p5 p6 p7 z1.2 ih6 ih15 h)
def lX7_leastOpen_6 (p0 p2 p3 p4 : Int) (self6 : Int → Int → PH → RO) (p5 p6 : Int) (H : PH) : RO :=
  (if p6 ≥ p2 then some (p5, H)
  else lq2 (lX7_leastOpen_15 self6 p0 p2 p3 p4 p6) 6000 p5 p3 H)
set_option maxHeartbeats 4000000 in
theorem lX7_leastOpen_6_ok {E : PE} {rr : Int} {HH : PH} (F : FX E cX7_leastOpen RX7) (q : QE E (some (vi rr)) HH (some .int)) (hn : nLof E = 8) (hf : (roomOf E).frames = 1) (hl : (roomOf E).locals = 22) (p0 p2 p3 p4 : Int) : ∀ (n : Nat) (p5 p6 : Int) (H : PH), lq2 (lX7_leastOpen_6 p0 p2 p3 p4) n p5 p6 H = some (rr, HH) → PW E 6 [some (vr p0), none, some (vi p2), some (vi p3), some (vi p4), some (vi p5), some (vi p6), none] [] H := by
  refine lq2_ind (P := fun p5 p6 H => PW E 6 [some (vr p0), none, some (vi p2), some (vi p3), some (vi p4), some (vi p5), some (vi p6), none] [] H) ?_
  intro self6 ih6 p5 p6 H h
  unfold lX7_leastOpen_6 at h
  refine pw_iload (pc := 6) F dX7_leastOpen_6 rfl ?_
  refine pw_iload_n (pc := 8) F dX7_leastOpen_8 rfl ?_
  refine pw_icmp_ge (pc := 9) F 87 dX7_leastOpen_9 (by decide) (fun hc => ?_) (fun hc => ?_)
  · have h := iteT hc h
    refine pw_iload (pc := 87) F dX7_leastOpen_87 rfl ?_
    cases h
    exact pw_iret (pc := 89) F q dX7_leastOpen_89
  · have h := iteF hc h
    refine pw_iload_n (pc := 12) F dX7_leastOpen_12 rfl ?_
    refine pw_istore (pc := 13) F dX7_leastOpen_13 (lt_nl hn (by decide)) [some (vr p0), none, some (vi p2), some (vi p3), some (vi p4), some (vi p5), some (vi p6), some (vi p3)] rfl ?_
    exact pw_mask [true, true, true, true, true, true, true, true] (ls' := [some (vr p0), none, some (vi p2), some (vi p3), some (vi p4), some (vi p5), some (vi p6), some (vi p3)]) rfl (lX7_leastOpen_15_ok F q hn hf hl self6 p0 p2 p3 p4 p6 ih6  6000 p5 p3 H h)
def f_X7_leastOpen (a0 a1 a2 a3 a4 : Int) (H : PH) : RO := vm 7 a0 H <|
  lq2 (lX7_leastOpen_6 a0 a2 a3 a4) 6000 (-1) a1 H
set_option maxHeartbeats 4000000 in
theorem m_X7_leastOpen (l : Launch) (a0 a1 a2 a3 a4 : Int) (H : PH) (rr : Int) (HH : PH) (h : f_X7_leastOpen a0 a1 a2 a3 a4 H = some (rr, HH)) : CT l yX7_leastOpen cX7_leastOpen 8 (some .int) 1 22 [vr a0, vi a1, vi a2, vi a3, vi a4] H (some (vi rr)) HH := by
  refine CT.of RX7 (by decide) rfl [some (vr a0), some (vi a1), some (vi a2), some (vi a3), some (vi a4), none, none, none] rfl rfl ?_
  intro E F q hn hf hl hm
  unfold f_X7_leastOpen at h
  obtain ⟨hv, h⟩ := vm_spec h
  refine pw_iconst (pc := 0) F (-1) dX7_leastOpen_0 (by decide) ?_
  refine pw_istore (pc := 1) F dX7_leastOpen_1 (lt_nl hn (by decide)) [some (vr a0), some (vi a1), some (vi a2), some (vi a3), some (vi a4), some (vi (-1)), none, none] rfl ?_
  refine pw_iload_n (pc := 3) F dX7_leastOpen_3 rfl ?_
  refine pw_istore (pc := 4) F dX7_leastOpen_4 (lt_nl hn (by decide)) [some (vr a0), some (vi a1), some (vi a2), some (vi a3), some (vi a4), some (vi (-1)), some (vi a1), none] rfl ?_
  exact pw_mask [true, false, true, true, true, true, true, true] (ls' := [some (vr a0), none, some (vi a2), some (vi a3), some (vi a4), some (vi (-1)), some (vi a1), none]) rfl (lX7_leastOpen_6_ok F q hn hf hl a0 a2 a3 a4  6000 (-1) a1 H h)
/-! HouseholdVault$Table.coverFor(II)I -/
theorem dX7_coverFor_0 : decode cX7_coverFor 0 = .ok (.aload_n 0, 1) := by decide +kernel
theorem dX7_coverFor_1 : decode cX7_coverFor 1 = .ok (.iload_n 1, 1) := by decide +kernel
theorem dX7_coverFor_2 : decode cX7_coverFor 2 = .ok (.iload_n 1, 1) := by decide +kernel
theorem dX7_coverFor_3 : decode cX7_coverFor 3 = .ok (.iconst 1, 1) := by decide +kernel
theorem dX7_coverFor_4 : decode cX7_coverFor 4 = .ok (.iadd, 1) := by decide +kernel
theorem dX7_coverFor_5 : decode cX7_coverFor 5 = .ok (.iconst 0, 1) := by decide +kernel
theorem dX7_coverFor_6 : decode cX7_coverFor 6 = .ok (.aload_n 0, 1) := by decide +kernel
theorem dX7_coverFor_7 : decode cX7_coverFor 7 = .ok (.getfield 32, 3) := by decide +kernel
theorem dX7_coverFor_10 : decode cX7_coverFor 10 = .ok (.invokevirtual 81, 3) := by decide +kernel
theorem dX7_coverFor_13 : decode cX7_coverFor 13 = .ok (.istore_n 3, 1) := by decide +kernel
theorem dX7_coverFor_14 : decode cX7_coverFor 14 = .ok (.iload_n 3, 1) := by decide +kernel
theorem dX7_coverFor_15 : decode cX7_coverFor 15 = .ok (.iconst (-1), 1) := by decide +kernel
theorem dX7_coverFor_16 : decode cX7_coverFor 16 = .ok (.if_icmp .ne 17, 3) := by decide +kernel
theorem dX7_coverFor_19 : decode cX7_coverFor 19 = .ok (.aload_n 0, 1) := by decide +kernel
theorem dX7_coverFor_20 : decode cX7_coverFor 20 = .ok (.iconst 0, 1) := by decide +kernel
theorem dX7_coverFor_21 : decode cX7_coverFor 21 = .ok (.aload_n 0, 1) := by decide +kernel
theorem dX7_coverFor_22 : decode cX7_coverFor 22 = .ok (.getfield 28, 3) := by decide +kernel
theorem dX7_coverFor_25 : decode cX7_coverFor 25 = .ok (.iload_n 2, 1) := by decide +kernel
theorem dX7_coverFor_26 : decode cX7_coverFor 26 = .ok (.iload_n 2, 1) := by decide +kernel
theorem dX7_coverFor_27 : decode cX7_coverFor 27 = .ok (.iconst 1, 1) := by decide +kernel
theorem dX7_coverFor_28 : decode cX7_coverFor 28 = .ok (.iadd, 1) := by decide +kernel
theorem dX7_coverFor_29 : decode cX7_coverFor 29 = .ok (.invokevirtual 81, 3) := by decide +kernel
theorem dX7_coverFor_32 : decode cX7_coverFor 32 = .ok (.istore_n 3, 1) := by decide +kernel
theorem dX7_coverFor_33 : decode cX7_coverFor 33 = .ok (.iload_n 3, 1) := by decide +kernel
theorem dX7_coverFor_34 : decode cX7_coverFor 34 = .ok (.iconst (-1), 1) := by decide +kernel
theorem dX7_coverFor_35 : decode cX7_coverFor 35 = .ok (.if_icmp .ne 18, 3) := by decide +kernel
theorem dX7_coverFor_38 : decode cX7_coverFor 38 = .ok (.aload_n 0, 1) := by decide +kernel
theorem dX7_coverFor_39 : decode cX7_coverFor 39 = .ok (.iconst 0, 1) := by decide +kernel
theorem dX7_coverFor_40 : decode cX7_coverFor 40 = .ok (.aload_n 0, 1) := by decide +kernel
theorem dX7_coverFor_41 : decode cX7_coverFor 41 = .ok (.getfield 28, 3) := by decide +kernel
theorem dX7_coverFor_44 : decode cX7_coverFor 44 = .ok (.iconst 0, 1) := by decide +kernel
theorem dX7_coverFor_45 : decode cX7_coverFor 45 = .ok (.aload_n 0, 1) := by decide +kernel
theorem dX7_coverFor_46 : decode cX7_coverFor 46 = .ok (.getfield 32, 3) := by decide +kernel
theorem dX7_coverFor_49 : decode cX7_coverFor 49 = .ok (.invokevirtual 81, 3) := by decide +kernel
theorem dX7_coverFor_52 : decode cX7_coverFor 52 = .ok (.istore_n 3, 1) := by decide +kernel
theorem dX7_coverFor_53 : decode cX7_coverFor 53 = .ok (.iload_n 3, 1) := by decide +kernel
theorem dX7_coverFor_54 : decode cX7_coverFor 54 = .ok (.ireturn, 1) := by decide +kernel
def jX7_coverFor_33 (p0 p3 : Int) (H : PH) : RO :=
  (if p3 ≠ (-1) then some (p3, H)
  else (ld 23 H p0 0).bind fun x1 => (ld 23 H p0 1).bind fun x2 => (f_X7_leastOpen p0 0 x1 0 x2 H).bind fun z3 => some (z3.1, z3.2))
set_option maxHeartbeats 4000000 in
theorem jX7_coverFor_33_ok {E : PE} {rr : Int} {HH : PH} (F : FX E cX7_coverFor RX7) (q : QE E (some (vi rr)) HH (some .int)) (hn : nLof E = 4) (hf : (roomOf E).frames = 2) (hl : (roomOf E).locals = 49) (p0 p3 : Int) (H : PH) (h : jX7_coverFor_33 p0 p3 H = some (rr, HH)) : PW E 33 [some (vr p0), none, none, some (vi p3)] [] H := by
  unfold jX7_coverFor_33 at h
  refine pw_iload_n (pc := 33) F dX7_coverFor_33 rfl ?_
  refine pw_iconst (pc := 34) F (-1) dX7_coverFor_34 (by decide) ?_
  refine pw_icmp_ne (pc := 35) F 53 dX7_coverFor_35 (by decide) (fun hc => ?_) (fun hc => ?_)
  · have h := iteT hc h
    refine pw_iload_n (pc := 53) F dX7_coverFor_53 rfl ?_
    cases h
    exact pw_iret (pc := 54) F q dX7_coverFor_54
  · have h := iteF hc h
    refine pw_aload_n (pc := 38) F dX7_coverFor_38 rfl ?_
    refine pw_iconst (pc := 39) F 0 dX7_coverFor_39 (by decide) ?_
    refine pw_aload_n (pc := 40) F dX7_coverFor_40 rfl ?_
    obtain ⟨x1, ex1, h⟩ := bnd h
    refine pw_get (pc := 41) F 7 0 28 (by decide) (by decide) g_7af97f1e3d inl_7 0 rfl dX7_coverFor_41 ex1 ?_
    refine pw_iconst (pc := 44) F 0 dX7_coverFor_44 (by decide) ?_
    refine pw_aload_n (pc := 45) F dX7_coverFor_45 rfl ?_
    obtain ⟨x2, ex2, h⟩ := bnd h
    refine pw_get (pc := 46) F 7 1 32 (by decide) (by decide) g_d0dccf0994 inl_7 0 rfl dX7_coverFor_46 ex2 ?_
    obtain ⟨z3, ez3, h⟩ := bnd h
    refine pw_callV (pc := 49) (as := [vi 0, vi x1, vi 0, vi x2]) (st := []) (r := (some (vi z3.1))) F 81 7 (by decide) rfl (fun l => m_X7_leastOpen l p0 0 x1 0 x2 H z3.1 z3.2 ez3) g_cf1bee7d8f g_0a1e53129a g_bf317880e6 g_030a77a6da g_8cded42e92 hd_X7_leastOpen (rm_ok hf hl (by decide) (by decide)) rfl (vm_spec ez3).1 dX7_coverFor_49 rfl (stk' := [vi z3.1]) rfl ?_
    refine pw_istore_n (pc := 52) F dX7_coverFor_52 (lt_nl hn (by decide)) [some (vr p0), none, none, some (vi z3.1)] rfl ?_
    refine pw_iload_n (pc := 53) F dX7_coverFor_53 rfl ?_
    cases h
    exact pw_iret (pc := 54) F q dX7_coverFor_54
def f_X7_coverFor (a0 a1 a2 : Int) (H : PH) : RO := vm 7 a0 H <|
  (ld 23 H a0 1).bind fun x1 => (f_X7_leastOpen a0 a1 (w32 (a1 + 1)) 0 x1 H).bind fun z2 => (if z2.1 ≠ (-1) then jX7_coverFor_33 a0 z2.1 z2.2
  else (ld 23 z2.2 a0 0).bind fun x3 => (f_X7_leastOpen a0 0 x3 a2 (w32 (a2 + 1)) z2.2).bind fun z4 => jX7_coverFor_33 a0 z4.1 z4.2)
set_option maxHeartbeats 4000000 in
theorem m_X7_coverFor (l : Launch) (a0 a1 a2 : Int) (H : PH) (rr : Int) (HH : PH) (h : f_X7_coverFor a0 a1 a2 H = some (rr, HH)) : CT l yX7_coverFor cX7_coverFor 4 (some .int) 2 49 [vr a0, vi a1, vi a2] H (some (vi rr)) HH := by
  refine CT.of RX7 (by decide) rfl [some (vr a0), some (vi a1), some (vi a2), none] rfl rfl ?_
  intro E F q hn hf hl hm
  unfold f_X7_coverFor at h
  obtain ⟨hv, h⟩ := vm_spec h
  refine pw_aload_n (pc := 0) F dX7_coverFor_0 rfl ?_
  refine pw_iload_n (pc := 1) F dX7_coverFor_1 rfl ?_
  refine pw_iload_n (pc := 2) F dX7_coverFor_2 rfl ?_
  refine pw_iconst (pc := 3) F 1 dX7_coverFor_3 (by decide) ?_
  refine pw_iadd (pc := 4) F dX7_coverFor_4 ?_
  refine pw_iconst (pc := 5) F 0 dX7_coverFor_5 (by decide) ?_
  refine pw_aload_n (pc := 6) F dX7_coverFor_6 rfl ?_
  obtain ⟨x1, ex1, h⟩ := bnd h
  refine pw_get (pc := 7) F 7 1 32 (by decide) (by decide) g_d0dccf0994 inl_7 0 rfl dX7_coverFor_7 ex1 ?_
  obtain ⟨z2, ez2, h⟩ := bnd h
  refine pw_callV (pc := 10) (as := [vi a1, vi (w32 (a1 + 1)), vi 0, vi x1]) (st := []) (r := (some (vi z2.1))) F 81 7 (by decide) rfl (fun l => m_X7_leastOpen l a0 a1 (w32 (a1 + 1)) 0 x1 H z2.1 z2.2 ez2) g_cf1bee7d8f g_0a1e53129a g_bf317880e6 g_030a77a6da g_8cded42e92 hd_X7_leastOpen (rm_ok hf hl (by decide) (by decide)) rfl (vm_spec ez2).1 dX7_coverFor_10 rfl (stk' := [vi z2.1]) rfl ?_
  refine pw_istore_n (pc := 13) F dX7_coverFor_13 (lt_nl hn (by decide)) [some (vr a0), some (vi a1), some (vi a2), some (vi z2.1)] rfl ?_
  refine pw_iload_n (pc := 14) F dX7_coverFor_14 rfl ?_
  refine pw_iconst (pc := 15) F (-1) dX7_coverFor_15 (by decide) ?_
  refine pw_icmp_ne (pc := 16) F 33 dX7_coverFor_16 (by decide) (fun hc => ?_) (fun hc => ?_)
  · have h := iteT hc h
    exact pw_mask [true, false, false, true] (ls' := [some (vr a0), none, none, some (vi z2.1)]) rfl (jX7_coverFor_33_ok F q hn hf hl a0 z2.1 z2.2 h)
  · have h := iteF hc h
    refine pw_aload_n (pc := 19) F dX7_coverFor_19 rfl ?_
    refine pw_iconst (pc := 20) F 0 dX7_coverFor_20 (by decide) ?_
    refine pw_aload_n (pc := 21) F dX7_coverFor_21 rfl ?_
    obtain ⟨x3, ex3, h⟩ := bnd h
    refine pw_get (pc := 22) F 7 0 28 (by decide) (by decide) g_7af97f1e3d inl_7 0 rfl dX7_coverFor_22 ex3 ?_
    refine pw_iload_n (pc := 25) F dX7_coverFor_25 rfl ?_
    refine pw_iload_n (pc := 26) F dX7_coverFor_26 rfl ?_
    refine pw_iconst (pc := 27) F 1 dX7_coverFor_27 (by decide) ?_
    refine pw_iadd (pc := 28) F dX7_coverFor_28 ?_
    obtain ⟨z4, ez4, h⟩ := bnd h
    refine pw_callV (pc := 29) (as := [vi 0, vi x3, vi a2, vi (w32 (a2 + 1))]) (st := []) (r := (some (vi z4.1))) F 81 7 (by decide) rfl (fun l => m_X7_leastOpen l a0 0 x3 a2 (w32 (a2 + 1)) z2.2 z4.1 z4.2 ez4) g_cf1bee7d8f g_0a1e53129a g_bf317880e6 g_030a77a6da g_8cded42e92 hd_X7_leastOpen (rm_ok hf hl (by decide) (by decide)) rfl (vm_spec ez4).1 dX7_coverFor_29 rfl (stk' := [vi z4.1]) rfl ?_
    refine pw_istore_n (pc := 32) F dX7_coverFor_32 (lt_nl hn (by decide)) [some (vr a0), some (vi a1), some (vi a2), some (vi z4.1)] rfl ?_
    exact pw_mask [true, false, false, true] (ls' := [some (vr a0), none, none, some (vi z4.1)]) rfl (jX7_coverFor_33_ok F q hn hf hl a0 z4.1 z4.2 h)
/-! HouseholdVault$Table.holdUntilNoneFollows()V -/
theorem dX7_holdUntilNoneFollows_0 : decode cX7_holdUntilNoneFollows 0 = .ok (.iconst 0, 1) := by decide +kernel
theorem dX7_holdUntilNoneFollows_1 : decode cX7_holdUntilNoneFollows 1 = .ok (.istore_n 1, 1) := by decide +kernel
theorem dX7_holdUntilNoneFollows_2 : decode cX7_holdUntilNoneFollows 2 = .ok (.iload_n 1, 1) := by decide +kernel
theorem dX7_holdUntilNoneFollows_3 : decode cX7_holdUntilNoneFollows 3 = .ok (.bipush 81, 2) := by decide +kernel
theorem dX7_holdUntilNoneFollows_5 : decode cX7_holdUntilNoneFollows 5 = .ok (.if_icmp .ge 66, 3) := by decide +kernel
theorem dX7_holdUntilNoneFollows_8 : decode cX7_holdUntilNoneFollows 8 = .ok (.aload_n 0, 1) := by decide +kernel
theorem dX7_holdUntilNoneFollows_9 : decode cX7_holdUntilNoneFollows 9 = .ok (.invokevirtual 75, 3) := by decide +kernel
theorem dX7_holdUntilNoneFollows_12 : decode cX7_holdUntilNoneFollows 12 = .ok (.istore_n 2, 1) := by decide +kernel
theorem dX7_holdUntilNoneFollows_13 : decode cX7_holdUntilNoneFollows 13 = .ok (.iload_n 2, 1) := by decide +kernel
theorem dX7_holdUntilNoneFollows_14 : decode cX7_holdUntilNoneFollows 14 = .ok (.iconst (-1), 1) := by decide +kernel
theorem dX7_holdUntilNoneFollows_15 : decode cX7_holdUntilNoneFollows 15 = .ok (.if_icmp .eq 10, 3) := by decide +kernel
theorem dX7_holdUntilNoneFollows_18 : decode cX7_holdUntilNoneFollows 18 = .ok (.aload_n 0, 1) := by decide +kernel
theorem dX7_holdUntilNoneFollows_19 : decode cX7_holdUntilNoneFollows 19 = .ok (.getfield 32, 3) := by decide +kernel
theorem dX7_holdUntilNoneFollows_22 : decode cX7_holdUntilNoneFollows 22 = .ok (.ifCond .ne 4, 3) := by decide +kernel
theorem dX7_holdUntilNoneFollows_25 : decode cX7_holdUntilNoneFollows 25 = .ok (.return_, 1) := by decide +kernel
theorem dX7_holdUntilNoneFollows_26 : decode cX7_holdUntilNoneFollows 26 = .ok (.aload_n 0, 1) := by decide +kernel
theorem dX7_holdUntilNoneFollows_27 : decode cX7_holdUntilNoneFollows 27 = .ok (.iload_n 2, 1) := by decide +kernel
theorem dX7_holdUntilNoneFollows_28 : decode cX7_holdUntilNoneFollows 28 = .ok (.aload_n 0, 1) := by decide +kernel
theorem dX7_holdUntilNoneFollows_29 : decode cX7_holdUntilNoneFollows 29 = .ok (.getfield 32, 3) := by decide +kernel
theorem dX7_holdUntilNoneFollows_32 : decode cX7_holdUntilNoneFollows 32 = .ok (.idiv, 1) := by decide +kernel
theorem dX7_holdUntilNoneFollows_33 : decode cX7_holdUntilNoneFollows 33 = .ok (.iload_n 2, 1) := by decide +kernel
theorem dX7_holdUntilNoneFollows_34 : decode cX7_holdUntilNoneFollows 34 = .ok (.aload_n 0, 1) := by decide +kernel
theorem dX7_holdUntilNoneFollows_35 : decode cX7_holdUntilNoneFollows 35 = .ok (.getfield 32, 3) := by decide +kernel
theorem dX7_holdUntilNoneFollows_38 : decode cX7_holdUntilNoneFollows 38 = .ok (.irem, 1) := by decide +kernel
theorem dX7_holdUntilNoneFollows_39 : decode cX7_holdUntilNoneFollows 39 = .ok (.invokevirtual 78, 3) := by decide +kernel
theorem dX7_holdUntilNoneFollows_42 : decode cX7_holdUntilNoneFollows 42 = .ok (.istore_n 3, 1) := by decide +kernel
theorem dX7_holdUntilNoneFollows_43 : decode cX7_holdUntilNoneFollows 43 = .ok (.iload_n 3, 1) := by decide +kernel
theorem dX7_holdUntilNoneFollows_44 : decode cX7_holdUntilNoneFollows 44 = .ok (.iconst (-1), 1) := by decide +kernel
theorem dX7_holdUntilNoneFollows_45 : decode cX7_holdUntilNoneFollows 45 = .ok (.if_icmp .ne 4, 3) := by decide +kernel
theorem dX7_holdUntilNoneFollows_48 : decode cX7_holdUntilNoneFollows 48 = .ok (.return_, 1) := by decide +kernel
theorem dX7_holdUntilNoneFollows_49 : decode cX7_holdUntilNoneFollows 49 = .ok (.aload_n 0, 1) := by decide +kernel
theorem dX7_holdUntilNoneFollows_50 : decode cX7_holdUntilNoneFollows 50 = .ok (.iload_n 3, 1) := by decide +kernel
theorem dX7_holdUntilNoneFollows_51 : decode cX7_holdUntilNoneFollows 51 = .ok (.aload_n 0, 1) := by decide +kernel
theorem dX7_holdUntilNoneFollows_52 : decode cX7_holdUntilNoneFollows 52 = .ok (.getfield 32, 3) := by decide +kernel
theorem dX7_holdUntilNoneFollows_55 : decode cX7_holdUntilNoneFollows 55 = .ok (.idiv, 1) := by decide +kernel
theorem dX7_holdUntilNoneFollows_56 : decode cX7_holdUntilNoneFollows 56 = .ok (.iload_n 3, 1) := by decide +kernel
theorem dX7_holdUntilNoneFollows_57 : decode cX7_holdUntilNoneFollows 57 = .ok (.aload_n 0, 1) := by decide +kernel
theorem dX7_holdUntilNoneFollows_58 : decode cX7_holdUntilNoneFollows 58 = .ok (.getfield 32, 3) := by decide +kernel
theorem dX7_holdUntilNoneFollows_61 : decode cX7_holdUntilNoneFollows 61 = .ok (.irem, 1) := by decide +kernel
theorem dX7_holdUntilNoneFollows_62 : decode cX7_holdUntilNoneFollows 62 = .ok (.invokevirtual 71, 3) := by decide +kernel
theorem dX7_holdUntilNoneFollows_65 : decode cX7_holdUntilNoneFollows 65 = .ok (.iinc 1 1, 3) := by decide +kernel
theorem dX7_holdUntilNoneFollows_68 : decode cX7_holdUntilNoneFollows 68 = .ok (.goto (-66), 3) := by decide +kernel
theorem dX7_holdUntilNoneFollows_71 : decode cX7_holdUntilNoneFollows 71 = .ok (.return_, 1) := by decide +kernel
def lX7_holdUntilNoneFollows_2 (p0 : Int) (self2 : Int → PH → RO) (p1 : Int) (H : PH) : RO :=
  (if p1 ≥ 81 then some (0, H)
  else (f_X7_firstFollowing p0 H).bind fun z1 => (if z1.1 = (-1) then some (0, z1.2)
  else (ld 23 z1.2 p0 1).bind fun x2 => (if x2 ≠ 0 then (ld 23 z1.2 p0 1).bind fun x3 => (if x3 = 0 then none else (ld 23 z1.2 p0 1).bind fun x4 => (if x4 = 0 then none else (f_X7_coverFor p0 (w32 (Int.tdiv z1.1 x3)) (Int.tmod z1.1 x4) z1.2).bind fun z5 => (if z5.1 ≠ (-1) then (ld 23 z5.2 p0 1).bind fun x6 => (if x6 = 0 then none else (ld 23 z5.2 p0 1).bind fun x7 => (if x7 = 0 then none else (f_X7_hold p0 (w32 (Int.tdiv z5.1 x6)) (Int.tmod z5.1 x7) z5.2).bind fun z8 => self2 (w32 (p1 + 1)) z8.2))
  else some (0, z5.2))))
  else some (0, z1.2))))
set_option maxHeartbeats 4000000 in
theorem lX7_holdUntilNoneFollows_2_ok {E : PE} {rr : Int} {HH : PH} (F : FX E cX7_holdUntilNoneFollows RX7) (q : QE E none HH none) (hn : nLof E = 4) (hf : (roomOf E).frames = 3) (hl : (roomOf E).locals = 72) (p0 : Int) : ∀ (n : Nat) (p1 : Int) (H : PH), lq1 (lX7_holdUntilNoneFollows_2 p0) n p1 H = some (rr, HH) → PW E 2 [some (vr p0), some (vi p1), none, none] [] H := by
  refine lq1_ind (P := fun p1 H => PW E 2 [some (vr p0), some (vi p1), none, none] [] H) ?_
  intro self2 ih2 p1 H h
  unfold lX7_holdUntilNoneFollows_2 at h
  refine pw_iload_n (pc := 2) F dX7_holdUntilNoneFollows_2 rfl ?_
  refine pw_bipush (pc := 3) F 81 dX7_holdUntilNoneFollows_3 (by decide) ?_
  refine pw_icmp_ge (pc := 5) F 71 dX7_holdUntilNoneFollows_5 (by decide) (fun hc => ?_) (fun hc => ?_)
  · have h := iteT hc h
    cases h
    exact pw_vret (pc := 71) F q dX7_holdUntilNoneFollows_71
  · have h := iteF hc h
    refine pw_aload_n (pc := 8) F dX7_holdUntilNoneFollows_8 rfl ?_
    obtain ⟨z1, ez1, h⟩ := bnd h
    refine pw_callV (pc := 9) (as := []) (st := []) (r := (some (vi z1.1))) F 75 7 (by decide) rfl (fun l => m_X7_firstFollowing l p0 H z1.1 z1.2 ez1) g_91eb32ac8e g_fa48a5b1ca g_db304d50ea g_030a77a6da g_cc8cc63070 hd_X7_firstFollowing (rm_ok hf hl (by decide) (by decide)) rfl (vm_spec ez1).1 dX7_holdUntilNoneFollows_9 rfl (stk' := [vi z1.1]) rfl ?_
    refine pw_istore_n (pc := 12) F dX7_holdUntilNoneFollows_12 (lt_nl hn (by decide)) [some (vr p0), some (vi p1), some (vi z1.1), none] rfl ?_
    refine pw_iload_n (pc := 13) F dX7_holdUntilNoneFollows_13 rfl ?_
    refine pw_iconst (pc := 14) F (-1) dX7_holdUntilNoneFollows_14 (by decide) ?_
    refine pw_icmp_eq (pc := 15) F 25 dX7_holdUntilNoneFollows_15 (by decide) (fun hc => ?_) (fun hc => ?_)
    · have h := iteT hc h
      cases h
      exact pw_vret (pc := 25) F q dX7_holdUntilNoneFollows_25
    · have h := iteF hc h
      refine pw_aload_n (pc := 18) F dX7_holdUntilNoneFollows_18 rfl ?_
      obtain ⟨x2, ex2, h⟩ := bnd h
      refine pw_get (pc := 19) F 7 1 32 (by decide) (by decide) g_d0dccf0994 inl_7 0 rfl dX7_holdUntilNoneFollows_19 ex2 ?_
      refine pw_if_ne (pc := 22) F 26 dX7_holdUntilNoneFollows_22 (by decide) (fun hc => ?_) (fun hc => ?_)
      · have h := iteT hc h
        refine pw_aload_n (pc := 26) F dX7_holdUntilNoneFollows_26 rfl ?_
        refine pw_iload_n (pc := 27) F dX7_holdUntilNoneFollows_27 rfl ?_
        refine pw_aload_n (pc := 28) F dX7_holdUntilNoneFollows_28 rfl ?_
        obtain ⟨x3, ex3, h⟩ := bnd h
        refine pw_get (pc := 29) F 7 1 32 (by decide) (by decide) g_d0dccf0994 inl_7 0 rfl dX7_holdUntilNoneFollows_29 ex3 ?_
        by_cases hz32 : x3 = 0
        · rw [if_pos hz32] at h; cases h
        have h := iteF hz32 h
        refine pw_idiv (pc := 32) F dX7_holdUntilNoneFollows_32 hz32 ?_
        refine pw_iload_n (pc := 33) F dX7_holdUntilNoneFollows_33 rfl ?_
        refine pw_aload_n (pc := 34) F dX7_holdUntilNoneFollows_34 rfl ?_
        obtain ⟨x4, ex4, h⟩ := bnd h
        refine pw_get (pc := 35) F 7 1 32 (by decide) (by decide) g_d0dccf0994 inl_7 0 rfl dX7_holdUntilNoneFollows_35 ex4 ?_
        by_cases hz38 : x4 = 0
        · rw [if_pos hz38] at h; cases h
        have h := iteF hz38 h
        refine pw_irem (pc := 38) F dX7_holdUntilNoneFollows_38 hz38 ?_
        obtain ⟨z5, ez5, h⟩ := bnd h
        refine pw_callV (pc := 39) (as := [vi (w32 (Int.tdiv z1.1 x3)), vi (Int.tmod z1.1 x4)]) (st := []) (r := (some (vi z5.1))) F 78 7 (by decide) rfl (fun l => m_X7_coverFor l p0 (w32 (Int.tdiv z1.1 x3)) (Int.tmod z1.1 x4) z1.2 z5.1 z5.2 ez5) g_2ee5e9bb0e g_ae39a11e3d g_d9b23fb058 g_030a77a6da g_21786c74fc hd_X7_coverFor (rm_ok hf hl (by decide) (by decide)) rfl (vm_spec ez5).1 dX7_holdUntilNoneFollows_39 rfl (stk' := [vi z5.1]) rfl ?_
        refine pw_istore_n (pc := 42) F dX7_holdUntilNoneFollows_42 (lt_nl hn (by decide)) [some (vr p0), some (vi p1), some (vi z1.1), some (vi z5.1)] rfl ?_
        refine pw_iload_n (pc := 43) F dX7_holdUntilNoneFollows_43 rfl ?_
        refine pw_iconst (pc := 44) F (-1) dX7_holdUntilNoneFollows_44 (by decide) ?_
        refine pw_icmp_ne (pc := 45) F 49 dX7_holdUntilNoneFollows_45 (by decide) (fun hc => ?_) (fun hc => ?_)
        · have h := iteT hc h
          refine pw_aload_n (pc := 49) F dX7_holdUntilNoneFollows_49 rfl ?_
          refine pw_iload_n (pc := 50) F dX7_holdUntilNoneFollows_50 rfl ?_
          refine pw_aload_n (pc := 51) F dX7_holdUntilNoneFollows_51 rfl ?_
          obtain ⟨x6, ex6, h⟩ := bnd h
          refine pw_get (pc := 52) F 7 1 32 (by decide) (by decide) g_d0dccf0994 inl_7 0 rfl dX7_holdUntilNoneFollows_52 ex6 ?_
          by_cases hz55 : x6 = 0
          · rw [if_pos hz55] at h; cases h
          have h := iteF hz55 h
          refine pw_idiv (pc := 55) F dX7_holdUntilNoneFollows_55 hz55 ?_
          refine pw_iload_n (pc := 56) F dX7_holdUntilNoneFollows_56 rfl ?_
          refine pw_aload_n (pc := 57) F dX7_holdUntilNoneFollows_57 rfl ?_
          obtain ⟨x7, ex7, h⟩ := bnd h
          refine pw_get (pc := 58) F 7 1 32 (by decide) (by decide) g_d0dccf0994 inl_7 0 rfl dX7_holdUntilNoneFollows_58 ex7 ?_
          by_cases hz61 : x7 = 0
          · rw [if_pos hz61] at h; cases h
          have h := iteF hz61 h
          refine pw_irem (pc := 61) F dX7_holdUntilNoneFollows_61 hz61 ?_
          obtain ⟨z8, ez8, h⟩ := bnd h
          refine pw_callV (pc := 62) (as := [vi (w32 (Int.tdiv z5.1 x6)), vi (Int.tmod z5.1 x7)]) (st := []) (r := none) F 71 7 (by decide) rfl (fun l => m_X7_hold l p0 (w32 (Int.tdiv z5.1 x6)) (Int.tmod z5.1 x7) z5.2 z8.1 z8.2 ez8) g_c8bf8baadb g_aae1ed0d35 g_8ad7ddce2c g_030a77a6da g_0827f3684b hd_X7_hold (rm_ok hf hl (by decide) (by decide)) rfl (vm_spec ez8).1 dX7_holdUntilNoneFollows_62 rfl (stk' := []) rfl ?_
          refine pw_iinc (pc := 65) F dX7_holdUntilNoneFollows_65 rfl (lt_nl hn (by decide)) [some (vr p0), some (vi (w32 (p1 + 1))), some (vi z1.1), some (vi z5.1)] rfl (by decide) ?_
          refine pw_goto (pc := 68) F 2 dX7_holdUntilNoneFollows_68 (by decide) ?_
          exact pw_mask [true, true, false, false] (ls' := [some (vr p0), some (vi (w32 (p1 + 1))), none, none]) rfl (ih2 (w32 (p1 + 1)) z8.2 h)
        · have h := iteF hc h
          cases h
          exact pw_vret (pc := 48) F q dX7_holdUntilNoneFollows_48
      · have h := iteF hc h
        cases h
        exact pw_vret (pc := 25) F q dX7_holdUntilNoneFollows_25
def f_X7_holdUntilNoneFollows (a0 : Int) (H : PH) : RO := vm 7 a0 H <|
  lq1 (lX7_holdUntilNoneFollows_2 a0) 6000 0 H
set_option maxHeartbeats 4000000 in
theorem m_X7_holdUntilNoneFollows (l : Launch) (a0 : Int) (H : PH) (rr : Int) (HH : PH) (h : f_X7_holdUntilNoneFollows a0 H = some (rr, HH)) : CT l yX7_holdUntilNoneFollows cX7_holdUntilNoneFollows 4 none 3 72 [vr a0] H none HH := by
  refine CT.of RX7 (by decide) rfl [some (vr a0), none, none, none] rfl rfl ?_
  intro E F q hn hf hl hm
  unfold f_X7_holdUntilNoneFollows at h
  obtain ⟨hv, h⟩ := vm_spec h
  refine pw_iconst (pc := 0) F 0 dX7_holdUntilNoneFollows_0 (by decide) ?_
  refine pw_istore_n (pc := 1) F dX7_holdUntilNoneFollows_1 (lt_nl hn (by decide)) [some (vr a0), some (vi 0), none, none] rfl ?_
  exact pw_mask [true, true, true, true] (ls' := [some (vr a0), some (vi 0), none, none]) rfl (lX7_holdUntilNoneFollows_2_ok F q hn hf hl a0  6000 0 H h)
/-! HouseholdVault.<init>()V -/
theorem dX8_init_0 : decode cX8_init 0 = .ok (.aload_n 0, 1) := by decide +kernel
theorem dX8_init_1 : decode cX8_init 1 = .ok (.invokespecial 3, 3) := by decide +kernel
theorem dX8_init_4 : decode cX8_init 4 = .ok (.aload_n 0, 1) := by decide +kernel
theorem dX8_init_5 : decode cX8_init 5 = .ok (.new 9, 3) := by decide +kernel
theorem dX8_init_8 : decode cX8_init 8 = .ok (.dup, 1) := by decide +kernel
theorem dX8_init_9 : decode cX8_init 9 = .ok (.invokespecial 11, 3) := by decide +kernel
theorem dX8_init_12 : decode cX8_init 12 = .ok (.putfield 12, 3) := by decide +kernel
theorem dX8_init_15 : decode cX8_init 15 = .ok (.aload_n 0, 1) := by decide +kernel
theorem dX8_init_16 : decode cX8_init 16 = .ok (.bipush 40, 2) := by decide +kernel
theorem dX8_init_18 : decode cX8_init 18 = .ok (.anewarray 16, 3) := by decide +kernel
theorem dX8_init_21 : decode cX8_init 21 = .ok (.putfield 18, 3) := by decide +kernel
theorem dX8_init_24 : decode cX8_init 24 = .ok (.aload_n 0, 1) := by decide +kernel
theorem dX8_init_25 : decode cX8_init 25 = .ok (.bipush 6, 2) := by decide +kernel
theorem dX8_init_27 : decode cX8_init 27 = .ok (.anewarray 22, 3) := by decide +kernel
theorem dX8_init_30 : decode cX8_init 30 = .ok (.putfield 24, 3) := by decide +kernel
theorem dX8_init_33 : decode cX8_init 33 = .ok (.aload_n 0, 1) := by decide +kernel
theorem dX8_init_34 : decode cX8_init 34 = .ok (.new 28, 3) := by decide +kernel
theorem dX8_init_37 : decode cX8_init 37 = .ok (.dup, 1) := by decide +kernel
theorem dX8_init_38 : decode cX8_init 38 = .ok (.invokespecial 30, 3) := by decide +kernel
theorem dX8_init_41 : decode cX8_init 41 = .ok (.putfield 31, 3) := by decide +kernel
theorem dX8_init_44 : decode cX8_init 44 = .ok (.aload_n 0, 1) := by decide +kernel
theorem dX8_init_45 : decode cX8_init 45 = .ok (.new 35, 3) := by decide +kernel
theorem dX8_init_48 : decode cX8_init 48 = .ok (.dup, 1) := by decide +kernel
theorem dX8_init_49 : decode cX8_init 49 = .ok (.invokespecial 37, 3) := by decide +kernel
theorem dX8_init_52 : decode cX8_init 52 = .ok (.putfield 38, 3) := by decide +kernel
theorem dX8_init_55 : decode cX8_init 55 = .ok (.aload_n 0, 1) := by decide +kernel
theorem dX8_init_56 : decode cX8_init 56 = .ok (.bipush 40, 2) := by decide +kernel
theorem dX8_init_58 : decode cX8_init 58 = .ok (.newarray .int, 2) := by decide +kernel
theorem dX8_init_60 : decode cX8_init 60 = .ok (.putfield 42, 3) := by decide +kernel
theorem dX8_init_63 : decode cX8_init 63 = .ok (.return_, 1) := by decide +kernel
def f_X8_init (a0 : Int) (H : PH) : RO := vm 8 a0 H <|
  (newo 3 H).bind fun z1 => (f_X3_init z1.1 z1.2).bind fun z2 => (stv 24 z2.2 a0 0 z1.1).bind fun H3 => (newa 5 40 H3).bind fun z4 => (stv 24 z4.2 a0 1 z4.1).bind fun H5 => (newa 4 6 H5).bind fun z6 => (stv 24 z6.2 a0 3 z6.1).bind fun H7 => (newo 7 H7).bind fun z8 => (f_X7_init z8.1 z8.2).bind fun z9 => (stv 24 z9.2 a0 5 z8.1).bind fun H10 => (newo 2 H10).bind fun z11 => (f_X2_init z11.1 z11.2).bind fun z12 => (stv 24 z12.2 a0 6 z11.1).bind fun H13 => (newa 0 40 H13).bind fun z14 => (stv 24 z14.2 a0 7 z14.1).bind fun H15 => some (0, H15)
set_option maxHeartbeats 4000000 in
theorem m_X8_init (l : Launch) (a0 : Int) (H : PH) (rr : Int) (HH : PH) (h : f_X8_init a0 H = some (rr, HH)) : CT l yX8_init cX8_init 1 none 2 32 [vr a0] H none HH := by
  refine CT.of RX8 (by decide) rfl [some (vr a0)] rfl rfl ?_
  intro E F q hn hf hl hm
  unfold f_X8_init at h
  obtain ⟨hv, h⟩ := vm_spec h
  refine pw_aload_n (pc := 0) F dX8_init_0 rfl ?_
  refine pw_objInit (pc := 1) F 3 g_af9a7f9533 g_93fb852fc9 g_ecc6a87410 (rm_ok hf hl (by decide) (by decide)) dX8_init_1 (vm_nn hv) ?_
  refine pw_aload_n (pc := 4) F dX8_init_4 rfl ?_
  obtain ⟨z1, ez1, h⟩ := bnd h
  refine pw_new (pc := 5) F 3 9 (by decide) g_fecb561ddc g_53ced633f8 g_109c1f2a9c inl_3 dX8_init_5 ez1 ?_
  refine pw_dup (pc := 8) F dX8_init_8 (pvne rfl) ?_
  obtain ⟨z2, ez2, h⟩ := bnd h
  refine pw_callI (pc := 9) (as := []) (st := [vr z1.1, vr a0]) F 11 (vm_nn (vm_spec ez2).1) (fun l => m_X3_init l z1.1 z1.2 z2.1 z2.2 ez2) rfl g_aa020a06a4 g_44227f2d6e g_106b72596f g_378d4b7cac hd_X3_init (rm_ok hf hl (by decide) (by decide)) rfl dX8_init_9 rfl ?_
  obtain ⟨H3, eH3, h⟩ := bnd h
  refine pw_putF (pc := 12) F 8 0 12 (by decide) (by decide) g_955d9610dc inl_8 rfl hm rfl 2 rfl dX8_init_12 trivial eH3 ?_
  refine pw_aload_n (pc := 15) F dX8_init_15 rfl ?_
  refine pw_bipush (pc := 16) F 40 dX8_init_16 (by decide) ?_
  obtain ⟨z4, ez4, h⟩ := bnd h
  refine pw_anew (pc := 18) F 5 16 (by decide) g_8a2d8fff9c dX8_init_18 ez4 ?_
  obtain ⟨H5, eH5, h⟩ := bnd h
  refine pw_putF (pc := 21) F 8 1 18 (by decide) (by decide) g_0efda17134 inl_8 rfl hm rfl 2 rfl dX8_init_21 trivial eH5 ?_
  refine pw_aload_n (pc := 24) F dX8_init_24 rfl ?_
  refine pw_bipush (pc := 25) F 6 dX8_init_25 (by decide) ?_
  obtain ⟨z6, ez6, h⟩ := bnd h
  refine pw_anew (pc := 27) F 4 22 (by decide) g_d3e76c4257 dX8_init_27 ez6 ?_
  obtain ⟨H7, eH7, h⟩ := bnd h
  refine pw_putF (pc := 30) F 8 3 24 (by decide) (by decide) g_09faac908b inl_8 rfl hm rfl 2 rfl dX8_init_30 trivial eH7 ?_
  refine pw_aload_n (pc := 33) F dX8_init_33 rfl ?_
  obtain ⟨z8, ez8, h⟩ := bnd h
  refine pw_new (pc := 34) F 7 28 (by decide) g_cd365d05f2 g_0a78190097 g_ea9ede6c1f inl_7 dX8_init_34 ez8 ?_
  refine pw_dup (pc := 37) F dX8_init_37 (pvne rfl) ?_
  obtain ⟨z9, ez9, h⟩ := bnd h
  refine pw_callI (pc := 38) (as := []) (st := [vr z8.1, vr a0]) F 30 (vm_nn (vm_spec ez9).1) (fun l => m_X7_init l z8.1 z8.2 z9.1 z9.2 ez9) rfl g_06b129e771 g_cd6d5b3695 g_030a77a6da g_183331861c hd_X7_init (rm_ok hf hl (by decide) (by decide)) rfl dX8_init_38 rfl ?_
  obtain ⟨H10, eH10, h⟩ := bnd h
  refine pw_putF (pc := 41) F 8 5 31 (by decide) (by decide) g_c78e80ff2c inl_8 rfl hm rfl 2 rfl dX8_init_41 trivial eH10 ?_
  refine pw_aload_n (pc := 44) F dX8_init_44 rfl ?_
  obtain ⟨z11, ez11, h⟩ := bnd h
  refine pw_new (pc := 45) F 2 35 (by decide) g_adf28a77e2 g_39798cf30a g_ab2a9d72c2 inl_2 dX8_init_45 ez11 ?_
  refine pw_dup (pc := 48) F dX8_init_48 (pvne rfl) ?_
  obtain ⟨z12, ez12, h⟩ := bnd h
  refine pw_callIN (pc := 49) (as := []) (st := [vr z11.1, vr a0]) F 37 RX8 (vm_nn (vm_spec ez12).1) (fun l => m_X2_init l z11.1 z11.2 z12.1 z12.2 ez12) rfl (fun _ _ _ h => h.2.2.2.1) g_b45a5f35a0 g_d27e9d3e51 g_8ede87a9ff hd_X2_init (rm_ok hf hl (by decide) (by decide)) rfl dX8_init_49 rfl ?_
  obtain ⟨H13, eH13, h⟩ := bnd h
  refine pw_putF (pc := 52) F 8 6 38 (by decide) (by decide) g_f8de3d2cc6 inl_8 rfl hm rfl 2 rfl dX8_init_52 trivial eH13 ?_
  refine pw_aload_n (pc := 55) F dX8_init_55 rfl ?_
  refine pw_bipush (pc := 56) F 40 dX8_init_56 (by decide) ?_
  obtain ⟨z14, ez14, h⟩ := bnd h
  refine pw_newa (pc := 58) F 0 (by decide) g_c17bb956eb dX8_init_58 ez14 ?_
  obtain ⟨H15, eH15, h⟩ := bnd h
  refine pw_putF (pc := 60) F 8 7 42 (by decide) (by decide) g_a5c01fe640 inl_8 rfl hm rfl 2 rfl dX8_init_60 trivial eH15 ?_
  cases h
  exact pw_vret (pc := 63) F q dX8_init_63
/-! HouseholdVault.emptyEverywhere(I)V -/
theorem dX8_emptyEverywhere_0 : decode cX8_emptyEverywhere 0 = .ok (.iconst 0, 1) := by decide +kernel
theorem dX8_emptyEverywhere_1 : decode cX8_emptyEverywhere 1 = .ok (.istore_n 2, 1) := by decide +kernel
theorem dX8_emptyEverywhere_2 : decode cX8_emptyEverywhere 2 = .ok (.iload_n 2, 1) := by decide +kernel
theorem dX8_emptyEverywhere_3 : decode cX8_emptyEverywhere 3 = .ok (.aload_n 0, 1) := by decide +kernel
theorem dX8_emptyEverywhere_4 : decode cX8_emptyEverywhere 4 = .ok (.getfield 98, 3) := by decide +kernel
theorem dX8_emptyEverywhere_7 : decode cX8_emptyEverywhere 7 = .ok (.if_icmp .ge 27, 3) := by decide +kernel
theorem dX8_emptyEverywhere_10 : decode cX8_emptyEverywhere 10 = .ok (.aload_n 0, 1) := by decide +kernel
theorem dX8_emptyEverywhere_11 : decode cX8_emptyEverywhere 11 = .ok (.getfield 18, 3) := by decide +kernel
theorem dX8_emptyEverywhere_14 : decode cX8_emptyEverywhere 14 = .ok (.iload_n 2, 1) := by decide +kernel
theorem dX8_emptyEverywhere_15 : decode cX8_emptyEverywhere 15 = .ok (.aaload, 1) := by decide +kernel
theorem dX8_emptyEverywhere_16 : decode cX8_emptyEverywhere 16 = .ok (.getfield 126, 3) := by decide +kernel
theorem dX8_emptyEverywhere_19 : decode cX8_emptyEverywhere 19 = .ok (.iload_n 1, 1) := by decide +kernel
theorem dX8_emptyEverywhere_20 : decode cX8_emptyEverywhere 20 = .ok (.iconst (-1), 1) := by decide +kernel
theorem dX8_emptyEverywhere_21 : decode cX8_emptyEverywhere 21 = .ok (.invokestatic 130, 3) := by decide +kernel
theorem dX8_emptyEverywhere_24 : decode cX8_emptyEverywhere 24 = .ok (.lconst 0, 1) := by decide +kernel
theorem dX8_emptyEverywhere_25 : decode cX8_emptyEverywhere 25 = .ok (.invokevirtual 134, 3) := by decide +kernel
theorem dX8_emptyEverywhere_28 : decode cX8_emptyEverywhere 28 = .ok (.iinc 2 1, 3) := by decide +kernel
theorem dX8_emptyEverywhere_31 : decode cX8_emptyEverywhere 31 = .ok (.goto (-29), 3) := by decide +kernel
theorem dX8_emptyEverywhere_34 : decode cX8_emptyEverywhere 34 = .ok (.return_, 1) := by decide +kernel
def lX8_emptyEverywhere_2 (p0 p1 : Int) (self2 : Int → PH → RO) (p2 : Int) (H : PH) : RO :=
  (ld 24 H p0 2).bind fun x1 => (if p2 ≥ x1 then some (0, H)
  else (ld 24 H p0 1).bind fun x2 => (ld 5 H x2 p2).bind fun x3 => (ld 20 H x3 0).bind fun x4 => (f_X8_spot p1 (-1) H).bind fun z5 => (f_X6_put x4 z5.1 0 z5.2).bind fun z6 => self2 (w32 (p2 + 1)) z6.2)
set_option maxHeartbeats 4000000 in
theorem lX8_emptyEverywhere_2_ok {E : PE} {rr : Int} {HH : PH} (F : FX E cX8_emptyEverywhere RX8) (q : QE E none HH none) (hn : nLof E = 3) (hf : (roomOf E).frames = 1) (hl : (roomOf E).locals = 23) (p0 p1 : Int) : ∀ (n : Nat) (p2 : Int) (H : PH), lq1 (lX8_emptyEverywhere_2 p0 p1) n p2 H = some (rr, HH) → PW E 2 [some (vr p0), some (vi p1), some (vi p2)] [] H := by
  refine lq1_ind (P := fun p2 H => PW E 2 [some (vr p0), some (vi p1), some (vi p2)] [] H) ?_
  intro self2 ih2 p2 H h
  unfold lX8_emptyEverywhere_2 at h
  refine pw_iload_n (pc := 2) F dX8_emptyEverywhere_2 rfl ?_
  refine pw_aload_n (pc := 3) F dX8_emptyEverywhere_3 rfl ?_
  obtain ⟨x1, ex1, h⟩ := bnd h
  refine pw_get (pc := 4) F 8 2 98 (by decide) (by decide) g_51d983fb79 inl_8 0 rfl dX8_emptyEverywhere_4 ex1 ?_
  refine pw_icmp_ge (pc := 7) F 34 dX8_emptyEverywhere_7 (by decide) (fun hc => ?_) (fun hc => ?_)
  · have h := iteT hc h
    cases h
    exact pw_vret (pc := 34) F q dX8_emptyEverywhere_34
  · have h := iteF hc h
    refine pw_aload_n (pc := 10) F dX8_emptyEverywhere_10 rfl ?_
    obtain ⟨x2, ex2, h⟩ := bnd h
    refine pw_get (pc := 11) F 8 1 18 (by decide) (by decide) g_0efda17134 inl_8 2 rfl dX8_emptyEverywhere_11 ex2 ?_
    refine pw_iload_n (pc := 14) F dX8_emptyEverywhere_14 rfl ?_
    obtain ⟨x3, ex3, h⟩ := bnd h
    refine pw_aald (pc := 15) F 5 (by decide) dX8_emptyEverywhere_15 ex3 ?_
    obtain ⟨x4, ex4, h⟩ := bnd h
    refine pw_get (pc := 16) F 4 0 126 (by decide) (by decide) g_8ec333b1d7 inl_4 2 rfl dX8_emptyEverywhere_16 ex4 ?_
    refine pw_iload_n (pc := 19) F dX8_emptyEverywhere_19 rfl ?_
    refine pw_iconst (pc := 20) F (-1) dX8_emptyEverywhere_20 (by decide) ?_
    obtain ⟨z5, ez5, h⟩ := bnd h
    refine pw_callS (pc := 21) (as := [vi p1, vi (-1)]) (st := [vr x4]) (r := (some (vi z5.1))) F 130 (fun l => m_X8_spot l p1 (-1) H z5.1 z5.2 ez5) g_3d0f1a9b86 g_aa0997f699 g_99e03e18e2 g_0d0469f624 hd_X8_spot (rm_ok hf hl (by decide) (by decide)) rfl dX8_emptyEverywhere_21 rfl (stk' := [vi z5.1, vr x4]) rfl ?_
    refine pw_lconst (pc := 24) F 0 dX8_emptyEverywhere_24 (by decide) ?_
    obtain ⟨z6, ez6, h⟩ := bnd h
    refine pw_callV (pc := 25) (as := [vi z5.1, vl 0]) (st := []) (r := none) F 134 6 (by decide) rfl (fun l => m_X6_put l x4 z5.1 0 z5.2 z6.1 z6.2 ez6) g_3522351f4b g_a4f482ed8e g_a6da26925e g_6d91b6d2eb g_5239673ccb hd_X6_put (rm_ok hf hl (by decide) (by decide)) rfl (vm_spec ez6).1 dX8_emptyEverywhere_25 rfl (stk' := []) rfl ?_
    refine pw_iinc (pc := 28) F dX8_emptyEverywhere_28 rfl (lt_nl hn (by decide)) [some (vr p0), some (vi p1), some (vi (w32 (p2 + 1)))] rfl (by decide) ?_
    refine pw_goto (pc := 31) F 2 dX8_emptyEverywhere_31 (by decide) ?_
    exact pw_mask [true, true, true] (ls' := [some (vr p0), some (vi p1), some (vi (w32 (p2 + 1)))]) rfl (ih2 (w32 (p2 + 1)) z6.2 h)
def f_X8_emptyEverywhere (a0 a1 : Int) (H : PH) : RO := vm 8 a0 H <|
  lq1 (lX8_emptyEverywhere_2 a0 a1) 6000 0 H
set_option maxHeartbeats 4000000 in
theorem m_X8_emptyEverywhere (l : Launch) (a0 a1 : Int) (H : PH) (rr : Int) (HH : PH) (h : f_X8_emptyEverywhere a0 a1 H = some (rr, HH)) : CT l yX8_emptyEverywhere cX8_emptyEverywhere 3 none 1 23 [vr a0, vi a1] H none HH := by
  refine CT.of RX8 (by decide) rfl [some (vr a0), some (vi a1), none] rfl rfl ?_
  intro E F q hn hf hl hm
  unfold f_X8_emptyEverywhere at h
  obtain ⟨hv, h⟩ := vm_spec h
  refine pw_iconst (pc := 0) F 0 dX8_emptyEverywhere_0 (by decide) ?_
  refine pw_istore_n (pc := 1) F dX8_emptyEverywhere_1 (lt_nl hn (by decide)) [some (vr a0), some (vi a1), some (vi 0)] rfl ?_
  exact pw_mask [true, true, true] (ls' := [some (vr a0), some (vi a1), some (vi 0)]) rfl (lX8_emptyEverywhere_2_ok F q hn hf hl a0 a1  6000 0 H h)
/-! HouseholdVault.question(II)I -/
theorem dX8_question_0 : decode cX8_question 0 = .ok (.iload_n 1, 1) := by decide +kernel
theorem dX8_question_1 : decode cX8_question 1 = .ok (.ifCond .lt 8, 3) := by decide +kernel
theorem dX8_question_4 : decode cX8_question 4 = .ok (.iload_n 1, 1) := by decide +kernel
theorem dX8_question_5 : decode cX8_question 5 = .ok (.iconst 5, 1) := by decide +kernel
theorem dX8_question_6 : decode cX8_question 6 = .ok (.if_icmp .le 5, 3) := by decide +kernel
theorem dX8_question_9 : decode cX8_question 9 = .ok (.iconst (-1), 1) := by decide +kernel
theorem dX8_question_10 : decode cX8_question 10 = .ok (.ireturn, 1) := by decide +kernel
theorem dX8_question_11 : decode cX8_question 11 = .ok (.iload_n 2, 1) := by decide +kernel
theorem dX8_question_12 : decode cX8_question 12 = .ok (.iconst (-1), 1) := by decide +kernel
theorem dX8_question_13 : decode cX8_question 13 = .ok (.if_icmp .eq 34, 3) := by decide +kernel
theorem dX8_question_16 : decode cX8_question 16 = .ok (.aload_n 0, 1) := by decide +kernel
theorem dX8_question_17 : decode cX8_question 17 = .ok (.getfield 12, 3) := by decide +kernel
theorem dX8_question_20 : decode cX8_question 20 = .ok (.iload_n 2, 1) := by decide +kernel
theorem dX8_question_21 : decode cX8_question 21 = .ok (.invokevirtual 46, 3) := by decide +kernel
theorem dX8_question_24 : decode cX8_question 24 = .ok (.astore_n 3, 1) := by decide +kernel
theorem dX8_question_25 : decode cX8_question 25 = .ok (.aload_n 3, 1) := by decide +kernel
theorem dX8_question_26 : decode cX8_question 26 = .ok (.ifnonnull 5, 3) := by decide +kernel
theorem dX8_question_29 : decode cX8_question 29 = .ok (.iconst (-1), 1) := by decide +kernel
theorem dX8_question_30 : decode cX8_question 30 = .ok (.ireturn, 1) := by decide +kernel
theorem dX8_question_31 : decode cX8_question 31 = .ok (.aload_n 3, 1) := by decide +kernel
theorem dX8_question_32 : decode cX8_question 32 = .ok (.getfield 50, 3) := by decide +kernel
theorem dX8_question_35 : decode cX8_question 35 = .ok (.iconst 5, 1) := by decide +kernel
theorem dX8_question_36 : decode cX8_question 36 = .ok (.if_icmp .ne 8, 3) := by decide +kernel
theorem dX8_question_39 : decode cX8_question 39 = .ok (.iload_n 1, 1) := by decide +kernel
theorem dX8_question_40 : decode cX8_question 40 = .ok (.iconst 5, 1) := by decide +kernel
theorem dX8_question_41 : decode cX8_question 41 = .ok (.if_icmp .ne 6, 3) := by decide +kernel
theorem dX8_question_44 : decode cX8_question 44 = .ok (.bipush (-2), 2) := by decide +kernel
theorem dX8_question_46 : decode cX8_question 46 = .ok (.ireturn, 1) := by decide +kernel
theorem dX8_question_47 : decode cX8_question 47 = .ok (.aload_n 0, 1) := by decide +kernel
theorem dX8_question_48 : decode cX8_question 48 = .ok (.getfield 12, 3) := by decide +kernel
theorem dX8_question_51 : decode cX8_question 51 = .ok (.invokevirtual 56, 3) := by decide +kernel
theorem dX8_question_54 : decode cX8_question 54 = .ok (.ifCond .eq 6, 3) := by decide +kernel
theorem dX8_question_57 : decode cX8_question 57 = .ok (.bipush (-4), 2) := by decide +kernel
theorem dX8_question_59 : decode cX8_question 59 = .ok (.ireturn, 1) := by decide +kernel
theorem dX8_question_60 : decode cX8_question 60 = .ok (.aload_n 0, 1) := by decide +kernel
theorem dX8_question_61 : decode cX8_question 61 = .ok (.getfield 12, 3) := by decide +kernel
theorem dX8_question_64 : decode cX8_question 64 = .ok (.new 51, 3) := by decide +kernel
theorem dX8_question_67 : decode cX8_question 67 = .ok (.dup, 1) := by decide +kernel
theorem dX8_question_68 : decode cX8_question 68 = .ok (.iload_n 1, 1) := by decide +kernel
theorem dX8_question_69 : decode cX8_question 69 = .ok (.iload_n 2, 1) := by decide +kernel
theorem dX8_question_70 : decode cX8_question 70 = .ok (.iconst 0, 1) := by decide +kernel
theorem dX8_question_71 : decode cX8_question 71 = .ok (.iconst (-1), 1) := by decide +kernel
theorem dX8_question_72 : decode cX8_question 72 = .ok (.invokespecial 60, 3) := by decide +kernel
theorem dX8_question_75 : decode cX8_question 75 = .ok (.invokevirtual 63, 3) := by decide +kernel
theorem dX8_question_78 : decode cX8_question 78 = .ok (.istore_n 3, 1) := by decide +kernel
theorem dX8_question_79 : decode cX8_question 79 = .ok (.iload_n 1, 1) := by decide +kernel
theorem dX8_question_80 : decode cX8_question 80 = .ok (.iconst 5, 1) := by decide +kernel
theorem dX8_question_81 : decode cX8_question 81 = .ok (.if_icmp .ne 8, 3) := by decide +kernel
theorem dX8_question_84 : decode cX8_question 84 = .ok (.aload_n 0, 1) := by decide +kernel
theorem dX8_question_85 : decode cX8_question 85 = .ok (.iload_n 3, 1) := by decide +kernel
theorem dX8_question_86 : decode cX8_question 86 = .ok (.invokevirtual 67, 3) := by decide +kernel
theorem dX8_question_89 : decode cX8_question 89 = .ok (.iload_n 3, 1) := by decide +kernel
theorem dX8_question_90 : decode cX8_question 90 = .ok (.ireturn, 1) := by decide +kernel
def jX8_question_47 (p0 p1 p2 : Int) (H : PH) : RO :=
  (ld 24 H p0 0).bind fun x1 => (f_X3_questionsAreFull x1 H).bind fun z2 => (if z2.1 = 0 then (ld 24 z2.2 p0 0).bind fun x3 => (newo 5 z2.2).bind fun z4 => (f_X5_init z4.1 p1 p2 0 (-1) z4.2).bind fun z5 => (f_X3_addQuestion x3 z4.1 z5.2).bind fun z6 => (if p1 ≠ 5 then some (z6.1, z6.2)
  else (f_X8_emptyEverywhere p0 z6.1 z6.2).bind fun z7 => some (z6.1, z7.2))
  else some ((-4), z2.2))
set_option maxHeartbeats 4000000 in
theorem jX8_question_47_ok {E : PE} {rr : Int} {HH : PH} (F : FX E cX8_question RX8) (q : QE E (some (vi rr)) HH (some .int)) (hn : nLof E = 4) (hf : (roomOf E).frames = 2) (hl : (roomOf E).locals = 45) (p0 p1 p2 : Int) (H : PH) (h : jX8_question_47 p0 p1 p2 H = some (rr, HH)) : PW E 47 [some (vr p0), some (vi p1), some (vi p2), none] [] H := by
  unfold jX8_question_47 at h
  refine pw_aload_n (pc := 47) F dX8_question_47 rfl ?_
  obtain ⟨x1, ex1, h⟩ := bnd h
  refine pw_get (pc := 48) F 8 0 12 (by decide) (by decide) g_955d9610dc inl_8 2 rfl dX8_question_48 ex1 ?_
  obtain ⟨z2, ez2, h⟩ := bnd h
  refine pw_callV (pc := 51) (as := []) (st := []) (r := (some (vi z2.1))) F 56 3 (by decide) rfl (fun l => m_X3_questionsAreFull l x1 H z2.1 z2.2 ez2) g_c1adf85407 g_ce784a9137 g_0604d5dbe4 g_106b72596f g_78e42c8fc4 hd_X3_questionsAreFull (rm_ok hf hl (by decide) (by decide)) rfl (vm_spec ez2).1 dX8_question_51 rfl (stk' := [vi z2.1]) rfl ?_
  refine pw_if_eq (pc := 54) F 60 dX8_question_54 (by decide) (fun hc => ?_) (fun hc => ?_)
  · have h := iteT hc h
    refine pw_aload_n (pc := 60) F dX8_question_60 rfl ?_
    obtain ⟨x3, ex3, h⟩ := bnd h
    refine pw_get (pc := 61) F 8 0 12 (by decide) (by decide) g_955d9610dc inl_8 2 rfl dX8_question_61 ex3 ?_
    obtain ⟨z4, ez4, h⟩ := bnd h
    refine pw_new (pc := 64) F 5 51 (by decide) g_011bfacd25 g_67734e73bb g_4c9cf21b63 inl_5 dX8_question_64 ez4 ?_
    refine pw_dup (pc := 67) F dX8_question_67 (pvne rfl) ?_
    refine pw_iload_n (pc := 68) F dX8_question_68 rfl ?_
    refine pw_iload_n (pc := 69) F dX8_question_69 rfl ?_
    refine pw_iconst (pc := 70) F 0 dX8_question_70 (by decide) ?_
    refine pw_iconst (pc := 71) F (-1) dX8_question_71 (by decide) ?_
    obtain ⟨z5, ez5, h⟩ := bnd h
    refine pw_callI (pc := 72) (as := [vi p1, vi p2, vi 0, vi (-1)]) (st := [vr z4.1, vr x3]) F 60 (vm_nn (vm_spec ez5).1) (fun l => m_X5_init l z4.1 p1 p2 0 (-1) z4.2 z5.1 z5.2 ez5) rfl g_943deb2f8c g_055bdb828c g_5f14f7581a g_c34f2ef9c5 hd_X5_init (rm_ok hf hl (by decide) (by decide)) rfl dX8_question_72 rfl ?_
    obtain ⟨z6, ez6, h⟩ := bnd h
    refine pw_callV (pc := 75) (as := [vr z4.1]) (st := []) (r := (some (vi z6.1))) F 63 3 (by decide) rfl (fun l => m_X3_addQuestion l x3 z4.1 z5.2 z6.1 z6.2 ez6) g_2f6f4a7b3d g_3ac20f9694 g_a19cc73e1c g_106b72596f g_70a600b6d9 hd_X3_addQuestion (rm_ok hf hl (by decide) (by decide)) rfl (vm_spec ez6).1 dX8_question_75 rfl (stk' := [vi z6.1]) rfl ?_
    refine pw_istore_n (pc := 78) F dX8_question_78 (lt_nl hn (by decide)) [some (vr p0), some (vi p1), some (vi p2), some (vi z6.1)] rfl ?_
    refine pw_iload_n (pc := 79) F dX8_question_79 rfl ?_
    refine pw_iconst (pc := 80) F 5 dX8_question_80 (by decide) ?_
    refine pw_icmp_ne (pc := 81) F 89 dX8_question_81 (by decide) (fun hc => ?_) (fun hc => ?_)
    · have h := iteT hc h
      refine pw_iload_n (pc := 89) F dX8_question_89 rfl ?_
      cases h
      exact pw_iret (pc := 90) F q dX8_question_90
    · have h := iteF hc h
      refine pw_aload_n (pc := 84) F dX8_question_84 rfl ?_
      refine pw_iload_n (pc := 85) F dX8_question_85 rfl ?_
      obtain ⟨z7, ez7, h⟩ := bnd h
      refine pw_callV (pc := 86) (as := [vi z6.1]) (st := []) (r := none) F 67 8 (by decide) rfl (fun l => m_X8_emptyEverywhere l p0 z6.1 z6.2 z7.1 z7.2 ez7) g_59e4c766cb g_bcb4a1f684 g_41c7d38eaa g_99e03e18e2 g_36f7898fe9 hd_X8_emptyEverywhere (rm_ok hf hl (by decide) (by decide)) rfl (vm_spec ez7).1 dX8_question_86 rfl (stk' := []) rfl ?_
      refine pw_iload_n (pc := 89) F dX8_question_89 rfl ?_
      cases h
      exact pw_iret (pc := 90) F q dX8_question_90
  · have h := iteF hc h
    refine pw_bipush (pc := 57) F (-4) dX8_question_57 (by decide) ?_
    cases h
    exact pw_iret (pc := 59) F q dX8_question_59
def f_X8_question (a0 a1 a2 : Int) (H : PH) : RO := vm 8 a0 H <|
  (if a1 < 0 then some ((-1), H)
  else (if a1 ≤ 5 then (if a2 = (-1) then jX8_question_47 a0 a1 a2 H
  else (ld 24 H a0 0).bind fun x1 => (f_X3_questionOf x1 a2 H).bind fun z2 => (if z2.1 ≠ -1 then (ld 21 z2.2 z2.1 0).bind fun x3 => (if x3 ≠ 5 then some ((-2), z2.2)
  else (if a1 ≠ 5 then jX8_question_47 a0 a1 a2 z2.2
  else some ((-2), z2.2)))
  else some ((-1), z2.2)))
  else some ((-1), H)))
set_option maxHeartbeats 4000000 in
theorem m_X8_question (l : Launch) (a0 a1 a2 : Int) (H : PH) (rr : Int) (HH : PH) (h : f_X8_question a0 a1 a2 H = some (rr, HH)) : CT l yX8_question cX8_question 4 (some .int) 2 45 [vr a0, vi a1, vi a2] H (some (vi rr)) HH := by
  refine CT.of RX8 (by decide) rfl [some (vr a0), some (vi a1), some (vi a2), none] rfl rfl ?_
  intro E F q hn hf hl hm
  unfold f_X8_question at h
  obtain ⟨hv, h⟩ := vm_spec h
  refine pw_iload_n (pc := 0) F dX8_question_0 rfl ?_
  refine pw_if_lt (pc := 1) F 9 dX8_question_1 (by decide) (fun hc => ?_) (fun hc => ?_)
  · have h := iteT hc h
    refine pw_iconst (pc := 9) F (-1) dX8_question_9 (by decide) ?_
    cases h
    exact pw_iret (pc := 10) F q dX8_question_10
  · have h := iteF hc h
    refine pw_iload_n (pc := 4) F dX8_question_4 rfl ?_
    refine pw_iconst (pc := 5) F 5 dX8_question_5 (by decide) ?_
    refine pw_icmp_le (pc := 6) F 11 dX8_question_6 (by decide) (fun hc => ?_) (fun hc => ?_)
    · have h := iteT hc h
      refine pw_iload_n (pc := 11) F dX8_question_11 rfl ?_
      refine pw_iconst (pc := 12) F (-1) dX8_question_12 (by decide) ?_
      refine pw_icmp_eq (pc := 13) F 47 dX8_question_13 (by decide) (fun hc => ?_) (fun hc => ?_)
      · have h := iteT hc h
        exact pw_mask [true, true, true, true] (ls' := [some (vr a0), some (vi a1), some (vi a2), none]) rfl (jX8_question_47_ok F q hn hf hl a0 a1 a2 H h)
      · have h := iteF hc h
        refine pw_aload_n (pc := 16) F dX8_question_16 rfl ?_
        obtain ⟨x1, ex1, h⟩ := bnd h
        refine pw_get (pc := 17) F 8 0 12 (by decide) (by decide) g_955d9610dc inl_8 2 rfl dX8_question_17 ex1 ?_
        refine pw_iload_n (pc := 20) F dX8_question_20 rfl ?_
        obtain ⟨z2, ez2, h⟩ := bnd h
        refine pw_callV (pc := 21) (as := [vi a2]) (st := []) (r := (some (vr z2.1))) F 46 3 (by decide) rfl (fun l => m_X3_questionOf l x1 a2 H z2.1 z2.2 ez2) g_babc17a83a g_e6ef547307 g_4b42450d0b g_106b72596f g_1cf8e31489 hd_X3_questionOf (rm_ok hf hl (by decide) (by decide)) rfl (vm_spec ez2).1 dX8_question_21 rfl (stk' := [vr z2.1]) rfl ?_
        refine pw_astore_n (pc := 24) F dX8_question_24 (lt_nl hn (by decide)) [some (vr a0), some (vi a1), some (vi a2), some (vr z2.1)] rfl ?_
        refine pw_aload_n (pc := 25) F dX8_question_25 rfl ?_
        refine pw_ifnonnull (pc := 26) F 31 dX8_question_26 (by decide) (fun hc => ?_) (fun hc => ?_)
        · have h := iteT hc h
          refine pw_aload_n (pc := 31) F dX8_question_31 rfl ?_
          obtain ⟨x3, ex3, h⟩ := bnd h
          refine pw_get (pc := 32) F 5 0 50 (by decide) (by decide) g_89512a4092 inl_5 0 rfl dX8_question_32 ex3 ?_
          refine pw_iconst (pc := 35) F 5 dX8_question_35 (by decide) ?_
          refine pw_icmp_ne (pc := 36) F 44 dX8_question_36 (by decide) (fun hc => ?_) (fun hc => ?_)
          · have h := iteT hc h
            refine pw_bipush (pc := 44) F (-2) dX8_question_44 (by decide) ?_
            cases h
            exact pw_iret (pc := 46) F q dX8_question_46
          · have h := iteF hc h
            refine pw_iload_n (pc := 39) F dX8_question_39 rfl ?_
            refine pw_iconst (pc := 40) F 5 dX8_question_40 (by decide) ?_
            refine pw_icmp_ne (pc := 41) F 47 dX8_question_41 (by decide) (fun hc => ?_) (fun hc => ?_)
            · have h := iteT hc h
              exact pw_mask [true, true, true, false] (ls' := [some (vr a0), some (vi a1), some (vi a2), none]) rfl (jX8_question_47_ok F q hn hf hl a0 a1 a2 z2.2 h)
            · have h := iteF hc h
              refine pw_bipush (pc := 44) F (-2) dX8_question_44 (by decide) ?_
              cases h
              exact pw_iret (pc := 46) F q dX8_question_46
        · have h := iteF hc h
          refine pw_iconst (pc := 29) F (-1) dX8_question_29 (by decide) ?_
          cases h
          exact pw_iret (pc := 30) F q dX8_question_30
    · have h := iteF hc h
      refine pw_iconst (pc := 9) F (-1) dX8_question_9 (by decide) ?_
      cases h
      exact pw_iret (pc := 10) F q dX8_question_10
/-! HouseholdVault.isCode(I)Z -/
theorem dX8_isCode_0 : decode cX8_isCode 0 = .ok (.iload_n 0, 1) := by decide +kernel
theorem dX8_isCode_1 : decode cX8_isCode 1 = .ok (.bipush (-128), 2) := by decide +kernel
theorem dX8_isCode_3 : decode cX8_isCode 3 = .ok (.if_icmp .lt 13, 3) := by decide +kernel
theorem dX8_isCode_6 : decode cX8_isCode 6 = .ok (.iload_n 0, 1) := by decide +kernel
theorem dX8_isCode_7 : decode cX8_isCode 7 = .ok (.bipush 127, 2) := by decide +kernel
theorem dX8_isCode_9 : decode cX8_isCode 9 = .ok (.if_icmp .gt 7, 3) := by decide +kernel
theorem dX8_isCode_12 : decode cX8_isCode 12 = .ok (.iconst 1, 1) := by decide +kernel
theorem dX8_isCode_13 : decode cX8_isCode 13 = .ok (.goto 4, 3) := by decide +kernel
theorem dX8_isCode_16 : decode cX8_isCode 16 = .ok (.iconst 0, 1) := by decide +kernel
theorem dX8_isCode_17 : decode cX8_isCode 17 = .ok (.ireturn, 1) := by decide +kernel
def f_X8_isCode (a0 : Int) (H : PH) : RO :=
  (if a0 < (-128) then some (0, H)
  else (if a0 > 127 then some (0, H)
  else some (1, H)))
set_option maxHeartbeats 4000000 in
theorem m_X8_isCode (l : Launch) (a0 : Int) (H : PH) (rr : Int) (HH : PH) (h : f_X8_isCode a0 H = some (rr, HH)) : CT l yX8_isCode cX8_isCode 1 (some .boolean) 0 0 [vi a0] H (some (vi rr)) HH := by
  refine CT.of RX8 (by decide) rfl [some (vi a0)] rfl rfl ?_
  intro E F q hn hf hl hm
  unfold f_X8_isCode at h
  refine pw_iload_n (pc := 0) F dX8_isCode_0 rfl ?_
  refine pw_bipush (pc := 1) F (-128) dX8_isCode_1 (by decide) ?_
  refine pw_icmp_lt (pc := 3) F 16 dX8_isCode_3 (by decide) (fun hc => ?_) (fun hc => ?_)
  · have h := iteT hc h
    refine pw_iconst (pc := 16) F 0 dX8_isCode_16 (by decide) ?_
    cases h
    exact pw_zret (pc := 17) F q (by decide) dX8_isCode_17
  · have h := iteF hc h
    refine pw_iload_n (pc := 6) F dX8_isCode_6 rfl ?_
    refine pw_bipush (pc := 7) F 127 dX8_isCode_7 (by decide) ?_
    refine pw_icmp_gt (pc := 9) F 16 dX8_isCode_9 (by decide) (fun hc => ?_) (fun hc => ?_)
    · have h := iteT hc h
      refine pw_iconst (pc := 16) F 0 dX8_isCode_16 (by decide) ?_
      cases h
      exact pw_zret (pc := 17) F q (by decide) dX8_isCode_17
    · have h := iteF hc h
      refine pw_iconst (pc := 12) F 1 dX8_isCode_12 (by decide) ?_
      refine pw_goto (pc := 13) F 17 dX8_isCode_13 (by decide) ?_
      cases h
      exact pw_zret (pc := 17) F q (by decide) dX8_isCode_17
/-! HouseholdVault.code(II)I -/
theorem dX8_code_0 : decode cX8_code 0 = .ok (.aload_n 0, 1) := by decide +kernel
theorem dX8_code_1 : decode cX8_code 1 = .ok (.getfield 12, 3) := by decide +kernel
theorem dX8_code_4 : decode cX8_code 4 = .ok (.iload_n 1, 1) := by decide +kernel
theorem dX8_code_5 : decode cX8_code 5 = .ok (.invokevirtual 46, 3) := by decide +kernel
theorem dX8_code_8 : decode cX8_code 8 = .ok (.astore_n 3, 1) := by decide +kernel
theorem dX8_code_9 : decode cX8_code 9 = .ok (.aload_n 3, 1) := by decide +kernel
theorem dX8_code_10 : decode cX8_code 10 = .ok (.ifnull 10, 3) := by decide +kernel
theorem dX8_code_13 : decode cX8_code 13 = .ok (.iload_n 2, 1) := by decide +kernel
theorem dX8_code_14 : decode cX8_code 14 = .ok (.invokestatic 71, 3) := by decide +kernel
theorem dX8_code_17 : decode cX8_code 17 = .ok (.ifCond .ne 5, 3) := by decide +kernel
theorem dX8_code_20 : decode cX8_code 20 = .ok (.iconst (-1), 1) := by decide +kernel
theorem dX8_code_21 : decode cX8_code 21 = .ok (.ireturn, 1) := by decide +kernel
theorem dX8_code_22 : decode cX8_code 22 = .ok (.aload_n 3, 1) := by decide +kernel
theorem dX8_code_23 : decode cX8_code 23 = .ok (.getfield 50, 3) := by decide +kernel
theorem dX8_code_26 : decode cX8_code 26 = .ok (.iconst 1, 1) := by decide +kernel
theorem dX8_code_27 : decode cX8_code 27 = .ok (.if_icmp .gt 10, 3) := by decide +kernel
theorem dX8_code_30 : decode cX8_code 30 = .ok (.aload_n 3, 1) := by decide +kernel
theorem dX8_code_31 : decode cX8_code 31 = .ok (.getfield 75, 3) := by decide +kernel
theorem dX8_code_34 : decode cX8_code 34 = .ok (.ifCond .eq 6, 3) := by decide +kernel
theorem dX8_code_37 : decode cX8_code 37 = .ok (.bipush (-2), 2) := by decide +kernel
theorem dX8_code_39 : decode cX8_code 39 = .ok (.ireturn, 1) := by decide +kernel
theorem dX8_code_40 : decode cX8_code 40 = .ok (.aload_n 3, 1) := by decide +kernel
theorem dX8_code_41 : decode cX8_code 41 = .ok (.iload_n 2, 1) := by decide +kernel
theorem dX8_code_42 : decode cX8_code 42 = .ok (.i2l, 1) := by decide +kernel
theorem dX8_code_43 : decode cX8_code 43 = .ok (.invokevirtual 78, 3) := by decide +kernel
theorem dX8_code_46 : decode cX8_code 46 = .ok (.iconst (-1), 1) := by decide +kernel
theorem dX8_code_47 : decode cX8_code 47 = .ok (.if_icmp .eq 6, 3) := by decide +kernel
theorem dX8_code_50 : decode cX8_code 50 = .ok (.bipush (-3), 2) := by decide +kernel
theorem dX8_code_52 : decode cX8_code 52 = .ok (.ireturn, 1) := by decide +kernel
theorem dX8_code_53 : decode cX8_code 53 = .ok (.aload_n 3, 1) := by decide +kernel
theorem dX8_code_54 : decode cX8_code 54 = .ok (.getfield 82, 3) := by decide +kernel
theorem dX8_code_57 : decode cX8_code 57 = .ok (.bipush 8, 2) := by decide +kernel
theorem dX8_code_59 : decode cX8_code 59 = .ok (.if_icmp .lt 6, 3) := by decide +kernel
theorem dX8_code_62 : decode cX8_code 62 = .ok (.bipush (-4), 2) := by decide +kernel
theorem dX8_code_64 : decode cX8_code 64 = .ok (.ireturn, 1) := by decide +kernel
theorem dX8_code_65 : decode cX8_code 65 = .ok (.aload_n 3, 1) := by decide +kernel
theorem dX8_code_66 : decode cX8_code 66 = .ok (.iload_n 2, 1) := by decide +kernel
theorem dX8_code_67 : decode cX8_code 67 = .ok (.invokevirtual 85, 3) := by decide +kernel
theorem dX8_code_70 : decode cX8_code 70 = .ok (.aload_n 3, 1) := by decide +kernel
theorem dX8_code_71 : decode cX8_code 71 = .ok (.getfield 82, 3) := by decide +kernel
theorem dX8_code_74 : decode cX8_code 74 = .ok (.ireturn, 1) := by decide +kernel
def f_X8_code (a0 a1 a2 : Int) (H : PH) : RO := vm 8 a0 H <|
  (ld 24 H a0 0).bind fun x1 => (f_X3_questionOf x1 a1 H).bind fun z2 => (if z2.1 = -1 then some ((-1), z2.2)
  else (f_X8_isCode a2 z2.2).bind fun z3 => (if z3.1 ≠ 0 then (ld 21 z3.2 z2.1 0).bind fun x4 => (if x4 > 1 then some ((-2), z3.2)
  else (ld 21 z3.2 z2.1 2).bind fun x5 => (if x5 = 0 then (f_X5_codeIndex z2.1 a2 z3.2).bind fun z6 => (if z6.1 = (-1) then (ld 21 z6.2 z2.1 5).bind fun x7 => (if x7 < 8 then (f_X5_addCode z2.1 a2 z6.2).bind fun z8 => (ld 21 z8.2 z2.1 5).bind fun x9 => some (x9, z8.2)
  else some ((-4), z6.2))
  else some ((-3), z6.2))
  else some ((-2), z3.2)))
  else some ((-1), z3.2)))
set_option maxHeartbeats 4000000 in
theorem m_X8_code (l : Launch) (a0 a1 a2 : Int) (H : PH) (rr : Int) (HH : PH) (h : f_X8_code a0 a1 a2 H = some (rr, HH)) : CT l yX8_code cX8_code 4 (some .int) 1 23 [vr a0, vi a1, vi a2] H (some (vi rr)) HH := by
  refine CT.of RX8 (by decide) rfl [some (vr a0), some (vi a1), some (vi a2), none] rfl rfl ?_
  intro E F q hn hf hl hm
  unfold f_X8_code at h
  obtain ⟨hv, h⟩ := vm_spec h
  refine pw_aload_n (pc := 0) F dX8_code_0 rfl ?_
  obtain ⟨x1, ex1, h⟩ := bnd h
  refine pw_get (pc := 1) F 8 0 12 (by decide) (by decide) g_955d9610dc inl_8 2 rfl dX8_code_1 ex1 ?_
  refine pw_iload_n (pc := 4) F dX8_code_4 rfl ?_
  obtain ⟨z2, ez2, h⟩ := bnd h
  refine pw_callV (pc := 5) (as := [vi a1]) (st := []) (r := (some (vr z2.1))) F 46 3 (by decide) rfl (fun l => m_X3_questionOf l x1 a1 H z2.1 z2.2 ez2) g_babc17a83a g_e6ef547307 g_4b42450d0b g_106b72596f g_1cf8e31489 hd_X3_questionOf (rm_ok hf hl (by decide) (by decide)) rfl (vm_spec ez2).1 dX8_code_5 rfl (stk' := [vr z2.1]) rfl ?_
  refine pw_astore_n (pc := 8) F dX8_code_8 (lt_nl hn (by decide)) [some (vr a0), some (vi a1), some (vi a2), some (vr z2.1)] rfl ?_
  refine pw_aload_n (pc := 9) F dX8_code_9 rfl ?_
  refine pw_ifnull (pc := 10) F 20 dX8_code_10 (by decide) (fun hc => ?_) (fun hc => ?_)
  · have h := iteT hc h
    refine pw_iconst (pc := 20) F (-1) dX8_code_20 (by decide) ?_
    cases h
    exact pw_iret (pc := 21) F q dX8_code_21
  · have h := iteF hc h
    refine pw_iload_n (pc := 13) F dX8_code_13 rfl ?_
    obtain ⟨z3, ez3, h⟩ := bnd h
    refine pw_callS (pc := 14) (as := [vi a2]) (st := []) (r := (some (vi z3.1))) F 71 (fun l => m_X8_isCode l a2 z2.2 z3.1 z3.2 ez3) g_36d17fe2e4 g_25b5f5ffb4 g_99e03e18e2 g_bb8df22d4a hd_X8_isCode (rm_ok hf hl (by decide) (by decide)) rfl dX8_code_14 rfl (stk' := [vi z3.1]) rfl ?_
    refine pw_if_ne (pc := 17) F 22 dX8_code_17 (by decide) (fun hc => ?_) (fun hc => ?_)
    · have h := iteT hc h
      refine pw_aload_n (pc := 22) F dX8_code_22 rfl ?_
      obtain ⟨x4, ex4, h⟩ := bnd h
      refine pw_get (pc := 23) F 5 0 50 (by decide) (by decide) g_89512a4092 inl_5 0 rfl dX8_code_23 ex4 ?_
      refine pw_iconst (pc := 26) F 1 dX8_code_26 (by decide) ?_
      refine pw_icmp_gt (pc := 27) F 37 dX8_code_27 (by decide) (fun hc => ?_) (fun hc => ?_)
      · have h := iteT hc h
        refine pw_bipush (pc := 37) F (-2) dX8_code_37 (by decide) ?_
        cases h
        exact pw_iret (pc := 39) F q dX8_code_39
      · have h := iteF hc h
        refine pw_aload_n (pc := 30) F dX8_code_30 rfl ?_
        obtain ⟨x5, ex5, h⟩ := bnd h
        refine pw_get (pc := 31) F 5 2 75 (by decide) (by decide) g_3884a6eb9d inl_5 0 rfl dX8_code_31 ex5 ?_
        refine pw_if_eq (pc := 34) F 40 dX8_code_34 (by decide) (fun hc => ?_) (fun hc => ?_)
        · have h := iteT hc h
          refine pw_aload_n (pc := 40) F dX8_code_40 rfl ?_
          refine pw_iload_n (pc := 41) F dX8_code_41 rfl ?_
          refine pw_i2l (pc := 42) F dX8_code_42 ?_
          obtain ⟨z6, ez6, h⟩ := bnd h
          refine pw_callV (pc := 43) (as := [vl a2]) (st := []) (r := (some (vi z6.1))) F 78 5 (by decide) rfl (fun l => m_X5_codeIndex l z2.1 a2 z3.2 z6.1 z6.2 ez6) g_8b2c3e563a g_badf7ddd51 g_77ec39cdaf g_5f14f7581a g_dacd68e1e9 hd_X5_codeIndex (rm_ok hf hl (by decide) (by decide)) rfl (vm_spec ez6).1 dX8_code_43 rfl (stk' := [vi z6.1]) rfl ?_
          refine pw_iconst (pc := 46) F (-1) dX8_code_46 (by decide) ?_
          refine pw_icmp_eq (pc := 47) F 53 dX8_code_47 (by decide) (fun hc => ?_) (fun hc => ?_)
          · have h := iteT hc h
            refine pw_aload_n (pc := 53) F dX8_code_53 rfl ?_
            obtain ⟨x7, ex7, h⟩ := bnd h
            refine pw_get (pc := 54) F 5 5 82 (by decide) (by decide) g_64ca63fe2f inl_5 0 rfl dX8_code_54 ex7 ?_
            refine pw_bipush (pc := 57) F 8 dX8_code_57 (by decide) ?_
            refine pw_icmp_lt (pc := 59) F 65 dX8_code_59 (by decide) (fun hc => ?_) (fun hc => ?_)
            · have h := iteT hc h
              refine pw_aload_n (pc := 65) F dX8_code_65 rfl ?_
              refine pw_iload_n (pc := 66) F dX8_code_66 rfl ?_
              obtain ⟨z8, ez8, h⟩ := bnd h
              refine pw_callV (pc := 67) (as := [vi a2]) (st := []) (r := none) F 85 5 (by decide) rfl (fun l => m_X5_addCode l z2.1 a2 z6.2 z8.1 z8.2 ez8) g_6e97f19155 g_a0597c9762 g_f7c8001723 g_5f14f7581a g_c839b202be hd_X5_addCode (rm_ok hf hl (by decide) (by decide)) rfl (vm_spec ez8).1 dX8_code_67 rfl (stk' := []) rfl ?_
              refine pw_aload_n (pc := 70) F dX8_code_70 rfl ?_
              obtain ⟨x9, ex9, h⟩ := bnd h
              refine pw_get (pc := 71) F 5 5 82 (by decide) (by decide) g_64ca63fe2f inl_5 0 rfl dX8_code_71 ex9 ?_
              cases h
              exact pw_iret (pc := 74) F q dX8_code_74
            · have h := iteF hc h
              refine pw_bipush (pc := 62) F (-4) dX8_code_62 (by decide) ?_
              cases h
              exact pw_iret (pc := 64) F q dX8_code_64
          · have h := iteF hc h
            refine pw_bipush (pc := 50) F (-3) dX8_code_50 (by decide) ?_
            cases h
            exact pw_iret (pc := 52) F q dX8_code_52
        · have h := iteF hc h
          refine pw_bipush (pc := 37) F (-2) dX8_code_37 (by decide) ?_
          cases h
          exact pw_iret (pc := 39) F q dX8_code_39
    · have h := iteF hc h
      refine pw_iconst (pc := 20) F (-1) dX8_code_20 (by decide) ?_
      cases h
      exact pw_iret (pc := 21) F q dX8_code_21
/-! HouseholdVault.map(I)I -/
theorem dX8_map_0 : decode cX8_map 0 = .ok (.aload_n 0, 1) := by decide +kernel
theorem dX8_map_1 : decode cX8_map 1 = .ok (.getfield 12, 3) := by decide +kernel
theorem dX8_map_4 : decode cX8_map 4 = .ok (.iload_n 1, 1) := by decide +kernel
theorem dX8_map_5 : decode cX8_map 5 = .ok (.invokevirtual 46, 3) := by decide +kernel
theorem dX8_map_8 : decode cX8_map 8 = .ok (.astore_n 2, 1) := by decide +kernel
theorem dX8_map_9 : decode cX8_map 9 = .ok (.aload_n 2, 1) := by decide +kernel
theorem dX8_map_10 : decode cX8_map 10 = .ok (.ifnonnull 5, 3) := by decide +kernel
theorem dX8_map_13 : decode cX8_map 13 = .ok (.iconst (-1), 1) := by decide +kernel
theorem dX8_map_14 : decode cX8_map 14 = .ok (.ireturn, 1) := by decide +kernel
theorem dX8_map_15 : decode cX8_map 15 = .ok (.aload_n 2, 1) := by decide +kernel
theorem dX8_map_16 : decode cX8_map 16 = .ok (.getfield 50, 3) := by decide +kernel
theorem dX8_map_19 : decode cX8_map 19 = .ok (.iconst 1, 1) := by decide +kernel
theorem dX8_map_20 : decode cX8_map 20 = .ok (.if_icmp .eq 11, 3) := by decide +kernel
theorem dX8_map_23 : decode cX8_map 23 = .ok (.aload_n 2, 1) := by decide +kernel
theorem dX8_map_24 : decode cX8_map 24 = .ok (.getfield 50, 3) := by decide +kernel
theorem dX8_map_27 : decode cX8_map 27 = .ok (.iconst 5, 1) := by decide +kernel
theorem dX8_map_28 : decode cX8_map 28 = .ok (.if_icmp .ne 6, 3) := by decide +kernel
theorem dX8_map_31 : decode cX8_map 31 = .ok (.bipush (-2), 2) := by decide +kernel
theorem dX8_map_33 : decode cX8_map 33 = .ok (.ireturn, 1) := by decide +kernel
theorem dX8_map_34 : decode cX8_map 34 = .ok (.aload_n 0, 1) := by decide +kernel
theorem dX8_map_35 : decode cX8_map 35 = .ok (.getfield 12, 3) := by decide +kernel
theorem dX8_map_38 : decode cX8_map 38 = .ok (.invokevirtual 56, 3) := by decide +kernel
theorem dX8_map_41 : decode cX8_map 41 = .ok (.ifCond .eq 6, 3) := by decide +kernel
theorem dX8_map_44 : decode cX8_map 44 = .ok (.bipush (-4), 2) := by decide +kernel
theorem dX8_map_46 : decode cX8_map 46 = .ok (.ireturn, 1) := by decide +kernel
theorem dX8_map_47 : decode cX8_map 47 = .ok (.aload_n 0, 1) := by decide +kernel
theorem dX8_map_48 : decode cX8_map 48 = .ok (.getfield 12, 3) := by decide +kernel
theorem dX8_map_51 : decode cX8_map 51 = .ok (.new 51, 3) := by decide +kernel
theorem dX8_map_54 : decode cX8_map 54 = .ok (.dup, 1) := by decide +kernel
theorem dX8_map_55 : decode cX8_map 55 = .ok (.iconst 0, 1) := by decide +kernel
theorem dX8_map_56 : decode cX8_map 56 = .ok (.aload_n 2, 1) := by decide +kernel
theorem dX8_map_57 : decode cX8_map 57 = .ok (.getfield 88, 3) := by decide +kernel
theorem dX8_map_60 : decode cX8_map 60 = .ok (.iconst 1, 1) := by decide +kernel
theorem dX8_map_61 : decode cX8_map 61 = .ok (.iload_n 1, 1) := by decide +kernel
theorem dX8_map_62 : decode cX8_map 62 = .ok (.invokespecial 60, 3) := by decide +kernel
theorem dX8_map_65 : decode cX8_map 65 = .ok (.invokevirtual 63, 3) := by decide +kernel
theorem dX8_map_68 : decode cX8_map 68 = .ok (.ireturn, 1) := by decide +kernel
def f_X8_map (a0 a1 : Int) (H : PH) : RO := vm 8 a0 H <|
  (ld 24 H a0 0).bind fun x1 => (f_X3_questionOf x1 a1 H).bind fun z2 => (if z2.1 ≠ -1 then (ld 21 z2.2 z2.1 0).bind fun x3 => (if x3 = 1 then some ((-2), z2.2)
  else (ld 21 z2.2 z2.1 0).bind fun x4 => (if x4 ≠ 5 then (ld 24 z2.2 a0 0).bind fun x5 => (f_X3_questionsAreFull x5 z2.2).bind fun z6 => (if z6.1 = 0 then (ld 24 z6.2 a0 0).bind fun x7 => (newo 5 z6.2).bind fun z8 => (ld 21 z8.2 z2.1 1).bind fun x9 => (f_X5_init z8.1 0 x9 1 a1 z8.2).bind fun z10 => (f_X3_addQuestion x7 z8.1 z10.2).bind fun z11 => some (z11.1, z11.2)
  else some ((-4), z6.2))
  else some ((-2), z2.2)))
  else some ((-1), z2.2))
set_option maxHeartbeats 4000000 in
theorem m_X8_map (l : Launch) (a0 a1 : Int) (H : PH) (rr : Int) (HH : PH) (h : f_X8_map a0 a1 H = some (rr, HH)) : CT l yX8_map cX8_map 3 (some .int) 2 42 [vr a0, vi a1] H (some (vi rr)) HH := by
  refine CT.of RX8 (by decide) rfl [some (vr a0), some (vi a1), none] rfl rfl ?_
  intro E F q hn hf hl hm
  unfold f_X8_map at h
  obtain ⟨hv, h⟩ := vm_spec h
  refine pw_aload_n (pc := 0) F dX8_map_0 rfl ?_
  obtain ⟨x1, ex1, h⟩ := bnd h
  refine pw_get (pc := 1) F 8 0 12 (by decide) (by decide) g_955d9610dc inl_8 2 rfl dX8_map_1 ex1 ?_
  refine pw_iload_n (pc := 4) F dX8_map_4 rfl ?_
  obtain ⟨z2, ez2, h⟩ := bnd h
  refine pw_callV (pc := 5) (as := [vi a1]) (st := []) (r := (some (vr z2.1))) F 46 3 (by decide) rfl (fun l => m_X3_questionOf l x1 a1 H z2.1 z2.2 ez2) g_babc17a83a g_e6ef547307 g_4b42450d0b g_106b72596f g_1cf8e31489 hd_X3_questionOf (rm_ok hf hl (by decide) (by decide)) rfl (vm_spec ez2).1 dX8_map_5 rfl (stk' := [vr z2.1]) rfl ?_
  refine pw_astore_n (pc := 8) F dX8_map_8 (lt_nl hn (by decide)) [some (vr a0), some (vi a1), some (vr z2.1)] rfl ?_
  refine pw_aload_n (pc := 9) F dX8_map_9 rfl ?_
  refine pw_ifnonnull (pc := 10) F 15 dX8_map_10 (by decide) (fun hc => ?_) (fun hc => ?_)
  · have h := iteT hc h
    refine pw_aload_n (pc := 15) F dX8_map_15 rfl ?_
    obtain ⟨x3, ex3, h⟩ := bnd h
    refine pw_get (pc := 16) F 5 0 50 (by decide) (by decide) g_89512a4092 inl_5 0 rfl dX8_map_16 ex3 ?_
    refine pw_iconst (pc := 19) F 1 dX8_map_19 (by decide) ?_
    refine pw_icmp_eq (pc := 20) F 31 dX8_map_20 (by decide) (fun hc => ?_) (fun hc => ?_)
    · have h := iteT hc h
      refine pw_bipush (pc := 31) F (-2) dX8_map_31 (by decide) ?_
      cases h
      exact pw_iret (pc := 33) F q dX8_map_33
    · have h := iteF hc h
      refine pw_aload_n (pc := 23) F dX8_map_23 rfl ?_
      obtain ⟨x4, ex4, h⟩ := bnd h
      refine pw_get (pc := 24) F 5 0 50 (by decide) (by decide) g_89512a4092 inl_5 0 rfl dX8_map_24 ex4 ?_
      refine pw_iconst (pc := 27) F 5 dX8_map_27 (by decide) ?_
      refine pw_icmp_ne (pc := 28) F 34 dX8_map_28 (by decide) (fun hc => ?_) (fun hc => ?_)
      · have h := iteT hc h
        refine pw_aload_n (pc := 34) F dX8_map_34 rfl ?_
        obtain ⟨x5, ex5, h⟩ := bnd h
        refine pw_get (pc := 35) F 8 0 12 (by decide) (by decide) g_955d9610dc inl_8 2 rfl dX8_map_35 ex5 ?_
        obtain ⟨z6, ez6, h⟩ := bnd h
        refine pw_callV (pc := 38) (as := []) (st := []) (r := (some (vi z6.1))) F 56 3 (by decide) rfl (fun l => m_X3_questionsAreFull l x5 z2.2 z6.1 z6.2 ez6) g_c1adf85407 g_ce784a9137 g_0604d5dbe4 g_106b72596f g_78e42c8fc4 hd_X3_questionsAreFull (rm_ok hf hl (by decide) (by decide)) rfl (vm_spec ez6).1 dX8_map_38 rfl (stk' := [vi z6.1]) rfl ?_
        refine pw_if_eq (pc := 41) F 47 dX8_map_41 (by decide) (fun hc => ?_) (fun hc => ?_)
        · have h := iteT hc h
          refine pw_aload_n (pc := 47) F dX8_map_47 rfl ?_
          obtain ⟨x7, ex7, h⟩ := bnd h
          refine pw_get (pc := 48) F 8 0 12 (by decide) (by decide) g_955d9610dc inl_8 2 rfl dX8_map_48 ex7 ?_
          obtain ⟨z8, ez8, h⟩ := bnd h
          refine pw_new (pc := 51) F 5 51 (by decide) g_011bfacd25 g_67734e73bb g_4c9cf21b63 inl_5 dX8_map_51 ez8 ?_
          refine pw_dup (pc := 54) F dX8_map_54 (pvne rfl) ?_
          refine pw_iconst (pc := 55) F 0 dX8_map_55 (by decide) ?_
          refine pw_aload_n (pc := 56) F dX8_map_56 rfl ?_
          obtain ⟨x9, ex9, h⟩ := bnd h
          refine pw_get (pc := 57) F 5 1 88 (by decide) (by decide) g_3644918d03 inl_5 0 rfl dX8_map_57 ex9 ?_
          refine pw_iconst (pc := 60) F 1 dX8_map_60 (by decide) ?_
          refine pw_iload_n (pc := 61) F dX8_map_61 rfl ?_
          obtain ⟨z10, ez10, h⟩ := bnd h
          refine pw_callI (pc := 62) (as := [vi 0, vi x9, vi 1, vi a1]) (st := [vr z8.1, vr x7]) F 60 (vm_nn (vm_spec ez10).1) (fun l => m_X5_init l z8.1 0 x9 1 a1 z8.2 z10.1 z10.2 ez10) rfl g_943deb2f8c g_055bdb828c g_5f14f7581a g_c34f2ef9c5 hd_X5_init (rm_ok hf hl (by decide) (by decide)) rfl dX8_map_62 rfl ?_
          obtain ⟨z11, ez11, h⟩ := bnd h
          refine pw_callV (pc := 65) (as := [vr z8.1]) (st := []) (r := (some (vi z11.1))) F 63 3 (by decide) rfl (fun l => m_X3_addQuestion l x7 z8.1 z10.2 z11.1 z11.2 ez11) g_2f6f4a7b3d g_3ac20f9694 g_a19cc73e1c g_106b72596f g_70a600b6d9 hd_X3_addQuestion (rm_ok hf hl (by decide) (by decide)) rfl (vm_spec ez11).1 dX8_map_65 rfl (stk' := [vi z11.1]) rfl ?_
          cases h
          exact pw_iret (pc := 68) F q dX8_map_68
        · have h := iteF hc h
          refine pw_bipush (pc := 44) F (-4) dX8_map_44 (by decide) ?_
          cases h
          exact pw_iret (pc := 46) F q dX8_map_46
      · have h := iteF hc h
        refine pw_bipush (pc := 31) F (-2) dX8_map_31 (by decide) ?_
        cases h
        exact pw_iret (pc := 33) F q dX8_map_33
  · have h := iteF hc h
    refine pw_iconst (pc := 13) F (-1) dX8_map_13 (by decide) ?_
    cases h
    exact pw_iret (pc := 14) F q dX8_map_14
