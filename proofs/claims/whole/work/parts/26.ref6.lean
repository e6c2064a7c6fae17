/-! HouseholdVaultModel.isEdition(I)Z -/
theorem dX9_isEdition_0 : decode cX9_isEdition 0 = .ok (.iload_n 1, 1) := by decide +kernel
theorem dX9_isEdition_1 : decode cX9_isEdition 1 = .ok (.i2l, 1) := by decide +kernel
theorem dX9_isEdition_2 : decode cX9_isEdition 2 = .ok (.lconst 0, 1) := by decide +kernel
theorem dX9_isEdition_3 : decode cX9_isEdition 3 = .ok (.aload_n 0, 1) := by decide +kernel
theorem dX9_isEdition_4 : decode cX9_isEdition 4 = .ok (.getfield 316, 3) := by decide +kernel
theorem dX9_isEdition_7 : decode cX9_isEdition 7 = .ok (.iconst 1, 1) := by decide +kernel
theorem dX9_isEdition_8 : decode cX9_isEdition 8 = .ok (.isub, 1) := by decide +kernel
theorem dX9_isEdition_9 : decode cX9_isEdition 9 = .ok (.i2l, 1) := by decide +kernel
theorem dX9_isEdition_10 : decode cX9_isEdition 10 = .ok (.invokestatic 140, 3) := by decide +kernel
theorem dX9_isEdition_13 : decode cX9_isEdition 13 = .ok (.ireturn, 1) := by decide +kernel
def f_X9_isEdition (a0 a1 : Int) (H : PH) : RO := vm 9 a0 H <|
  (ld 25 H a0 30).bind fun x1 => (f_X9_in a1 0 (w32 (x1 - 1)) H).bind fun z2 => zr z2.1 z2.2
set_option maxHeartbeats 4000000 in
theorem m_X9_isEdition (l : Launch) (a0 a1 : Int) (H : PH) (rr : Int) (HH : PH) (h : f_X9_isEdition a0 a1 H = some (rr, HH)) : CT l yX9_isEdition cX9_isEdition 2 (some .boolean) 1 25 [vr a0, vi a1] H (some (vi rr)) HH := by
  refine CT.of RX9 (by decide) rfl [some (vr a0), some (vi a1)] rfl rfl ?_
  intro E F q hn hf hl hm
  unfold f_X9_isEdition at h
  obtain ⟨hv, h⟩ := vm_spec h
  refine pw_iload_n (pc := 0) F dX9_isEdition_0 rfl ?_
  refine pw_i2l (pc := 1) F dX9_isEdition_1 ?_
  refine pw_lconst (pc := 2) F 0 dX9_isEdition_2 (by decide) ?_
  refine pw_aload_n (pc := 3) F dX9_isEdition_3 rfl ?_
  obtain ⟨x1, ex1, h⟩ := bnd h
  refine pw_get (pc := 4) F 9 30 316 (by decide) (by decide) g_3bdbf5cb09 inl_9 0 rfl dX9_isEdition_4 ex1 ?_
  refine pw_iconst (pc := 7) F 1 dX9_isEdition_7 (by decide) ?_
  refine pw_isub (pc := 8) F dX9_isEdition_8 ?_
  refine pw_i2l (pc := 9) F dX9_isEdition_9 ?_
  obtain ⟨z2, ez2, h⟩ := bnd h
  refine pw_callS (pc := 10) (as := [vl a1, vl 0, vl (w32 (x1 - 1))]) (st := []) (r := (some (vi z2.1))) F 140 (fun l => m_X9_in l a1 0 (w32 (x1 - 1)) H z2.1 z2.2 ez2) g_0174c906e2 g_3fadeb3198 g_2759d91faa g_c0c30bc7de hd_X9_in (rm_ok hf hl (by decide) (by decide)) rfl dX9_isEdition_10 rfl (stk' := [vi z2.1]) rfl ?_
  obtain ⟨hz, h⟩ := zr_spec h
  cases h
  exact pw_zret (pc := 13) F q hz dX9_isEdition_13
/-! HouseholdVaultModel.personsThen(III)I -/
theorem dX9_personsThen_0 : decode cX9_personsThen 0 = .ok (.aload_n 0, 1) := by decide +kernel
theorem dX9_personsThen_1 : decode cX9_personsThen 1 = .ok (.getfield 97, 3) := by decide +kernel
theorem dX9_personsThen_4 : decode cX9_personsThen 4 = .ok (.sipush 5760, 3) := by decide +kernel
theorem dX9_personsThen_7 : decode cX9_personsThen 7 = .ok (.iload_n 1, 1) := by decide +kernel
theorem dX9_personsThen_8 : decode cX9_personsThen 8 = .ok (.imul, 1) := by decide +kernel
theorem dX9_personsThen_9 : decode cX9_personsThen 9 = .ok (.iload_n 2, 1) := by decide +kernel
theorem dX9_personsThen_10 : decode cX9_personsThen 10 = .ok (.iload_n 3, 1) := by decide +kernel
theorem dX9_personsThen_11 : decode cX9_personsThen 11 = .ok (.iconst 0, 1) := by decide +kernel
theorem dX9_personsThen_12 : decode cX9_personsThen 12 = .ok (.invokestatic 150, 3) := by decide +kernel
theorem dX9_personsThen_15 : decode cX9_personsThen 15 = .ok (.iadd, 1) := by decide +kernel
theorem dX9_personsThen_16 : decode cX9_personsThen 16 = .ok (.laload, 1) := by decide +kernel
theorem dX9_personsThen_17 : decode cX9_personsThen 17 = .ok (.l2i, 1) := by decide +kernel
theorem dX9_personsThen_18 : decode cX9_personsThen 18 = .ok (.ireturn, 1) := by decide +kernel
def f_X9_personsThen (a0 a1 a2 a3 : Int) (H : PH) : RO := vm 9 a0 H <|
  (ld 25 H a0 33).bind fun x1 => (f_X9_place a2 a3 0 H).bind fun z2 => (ld 1 z2.2 x1 (w32 ((w32 (5760 * a1)) + z2.1))).bind fun x3 => some ((w32 x3), z2.2)
set_option maxHeartbeats 4000000 in
theorem m_X9_personsThen (l : Launch) (a0 a1 a2 a3 : Int) (H : PH) (rr : Int) (HH : PH) (h : f_X9_personsThen a0 a1 a2 a3 H = some (rr, HH)) : CT l yX9_personsThen cX9_personsThen 4 (some .int) 1 22 [vr a0, vi a1, vi a2, vi a3] H (some (vi rr)) HH := by
  refine CT.of RX9 (by decide) rfl [some (vr a0), some (vi a1), some (vi a2), some (vi a3)] rfl rfl ?_
  intro E F q hn hf hl hm
  unfold f_X9_personsThen at h
  obtain ⟨hv, h⟩ := vm_spec h
  refine pw_aload_n (pc := 0) F dX9_personsThen_0 rfl ?_
  obtain ⟨x1, ex1, h⟩ := bnd h
  refine pw_get (pc := 1) F 9 33 97 (by decide) (by decide) g_e5d5e6041e inl_9 2 rfl dX9_personsThen_1 ex1 ?_
  refine pw_sipush (pc := 4) F 5760 dX9_personsThen_4 (by decide) ?_
  refine pw_iload_n (pc := 7) F dX9_personsThen_7 rfl ?_
  refine pw_imul (pc := 8) F dX9_personsThen_8 ?_
  refine pw_iload_n (pc := 9) F dX9_personsThen_9 rfl ?_
  refine pw_iload_n (pc := 10) F dX9_personsThen_10 rfl ?_
  refine pw_iconst (pc := 11) F 0 dX9_personsThen_11 (by decide) ?_
  obtain ⟨z2, ez2, h⟩ := bnd h
  refine pw_callS (pc := 12) (as := [vi a2, vi a3, vi 0]) (st := [vi (w32 (5760 * a1)), vr x1]) (r := (some (vi z2.1))) F 150 (fun l => m_X9_place l a2 a3 0 H z2.1 z2.2 ez2) g_ace1a9f84c g_ec0534314d g_2759d91faa g_205510d507 hd_X9_place (rm_ok hf hl (by decide) (by decide)) rfl dX9_personsThen_12 rfl (stk' := [vi z2.1, vi (w32 (5760 * a1)), vr x1]) rfl ?_
  refine pw_iadd (pc := 15) F dX9_personsThen_15 ?_
  obtain ⟨x3, ex3, h⟩ := bnd h
  refine pw_lald (pc := 16) F dX9_personsThen_16 ex3 ?_
  refine pw_l2i (pc := 17) F dX9_personsThen_17 ?_
  cases h
  exact pw_iret (pc := 18) F q dX9_personsThen_18
/-! HouseholdVaultModel.isFrozen(IIII)Z -/
theorem dX9_isFrozen_0 : decode cX9_isFrozen 0 = .ok (.aload_n 0, 1) := by decide +kernel
theorem dX9_isFrozen_1 : decode cX9_isFrozen 1 = .ok (.iload_n 1, 1) := by decide +kernel
theorem dX9_isFrozen_2 : decode cX9_isFrozen 2 = .ok (.invokevirtual 319, 3) := by decide +kernel
theorem dX9_isFrozen_5 : decode cX9_isFrozen 5 = .ok (.ifCond .eq 48, 3) := by decide +kernel
theorem dX9_isFrozen_8 : decode cX9_isFrozen 8 = .ok (.iload_n 2, 1) := by decide +kernel
theorem dX9_isFrozen_9 : decode cX9_isFrozen 9 = .ok (.i2l, 1) := by decide +kernel
theorem dX9_isFrozen_10 : decode cX9_isFrozen 10 = .ok (.lconst 0, 1) := by decide +kernel
theorem dX9_isFrozen_11 : decode cX9_isFrozen 11 = .ok (.aload_n 0, 1) := by decide +kernel
theorem dX9_isFrozen_12 : decode cX9_isFrozen 12 = .ok (.getfield 90, 3) := by decide +kernel
theorem dX9_isFrozen_15 : decode cX9_isFrozen 15 = .ok (.iload_n 1, 1) := by decide +kernel
theorem dX9_isFrozen_16 : decode cX9_isFrozen 16 = .ok (.iaload, 1) := by decide +kernel
theorem dX9_isFrozen_17 : decode cX9_isFrozen 17 = .ok (.iconst 1, 1) := by decide +kernel
theorem dX9_isFrozen_18 : decode cX9_isFrozen 18 = .ok (.isub, 1) := by decide +kernel
theorem dX9_isFrozen_19 : decode cX9_isFrozen 19 = .ok (.i2l, 1) := by decide +kernel
theorem dX9_isFrozen_20 : decode cX9_isFrozen 20 = .ok (.invokestatic 140, 3) := by decide +kernel
theorem dX9_isFrozen_23 : decode cX9_isFrozen 23 = .ok (.ifCond .eq 30, 3) := by decide +kernel
theorem dX9_isFrozen_26 : decode cX9_isFrozen 26 = .ok (.iload_n 3, 1) := by decide +kernel
theorem dX9_isFrozen_27 : decode cX9_isFrozen 27 = .ok (.i2l, 1) := by decide +kernel
theorem dX9_isFrozen_28 : decode cX9_isFrozen 28 = .ok (.lconst 0, 1) := by decide +kernel
theorem dX9_isFrozen_29 : decode cX9_isFrozen 29 = .ok (.aload_n 0, 1) := by decide +kernel
theorem dX9_isFrozen_30 : decode cX9_isFrozen 30 = .ok (.getfield 93, 3) := by decide +kernel
theorem dX9_isFrozen_33 : decode cX9_isFrozen 33 = .ok (.iload_n 1, 1) := by decide +kernel
theorem dX9_isFrozen_34 : decode cX9_isFrozen 34 = .ok (.iaload, 1) := by decide +kernel
theorem dX9_isFrozen_35 : decode cX9_isFrozen 35 = .ok (.iconst 1, 1) := by decide +kernel
theorem dX9_isFrozen_36 : decode cX9_isFrozen 36 = .ok (.isub, 1) := by decide +kernel
theorem dX9_isFrozen_37 : decode cX9_isFrozen 37 = .ok (.i2l, 1) := by decide +kernel
theorem dX9_isFrozen_38 : decode cX9_isFrozen 38 = .ok (.invokestatic 140, 3) := by decide +kernel
theorem dX9_isFrozen_41 : decode cX9_isFrozen 41 = .ok (.ifCond .eq 12, 3) := by decide +kernel
theorem dX9_isFrozen_44 : decode cX9_isFrozen 44 = .ok (.aload_n 0, 1) := by decide +kernel
theorem dX9_isFrozen_45 : decode cX9_isFrozen 45 = .ok (.getfield 16, 3) := by decide +kernel
theorem dX9_isFrozen_48 : decode cX9_isFrozen 48 = .ok (.iload_n 3, 1) := by decide +kernel
theorem dX9_isFrozen_49 : decode cX9_isFrozen 49 = .ok (.iaload, 1) := by decide +kernel
theorem dX9_isFrozen_50 : decode cX9_isFrozen 50 = .ok (.ifCond .le 5, 3) := by decide +kernel
theorem dX9_isFrozen_53 : decode cX9_isFrozen 53 = .ok (.iconst 0, 1) := by decide +kernel
theorem dX9_isFrozen_54 : decode cX9_isFrozen 54 = .ok (.ireturn, 1) := by decide +kernel
theorem dX9_isFrozen_55 : decode cX9_isFrozen 55 = .ok (.aload_n 0, 1) := by decide +kernel
theorem dX9_isFrozen_56 : decode cX9_isFrozen 56 = .ok (.getfield 13, 3) := by decide +kernel
theorem dX9_isFrozen_59 : decode cX9_isFrozen 59 = .ok (.iload_n 3, 1) := by decide +kernel
theorem dX9_isFrozen_60 : decode cX9_isFrozen 60 = .ok (.iaload, 1) := by decide +kernel
theorem dX9_isFrozen_61 : decode cX9_isFrozen 61 = .ok (.ifCond .ge 17, 3) := by decide +kernel
theorem dX9_isFrozen_64 : decode cX9_isFrozen 64 = .ok (.iload 4, 2) := by decide +kernel
theorem dX9_isFrozen_66 : decode cX9_isFrozen 66 = .ok (.iconst (-1), 1) := by decide +kernel
theorem dX9_isFrozen_67 : decode cX9_isFrozen 67 = .ok (.if_icmp .ne 7, 3) := by decide +kernel
theorem dX9_isFrozen_70 : decode cX9_isFrozen 70 = .ok (.iconst 1, 1) := by decide +kernel
theorem dX9_isFrozen_71 : decode cX9_isFrozen 71 = .ok (.goto 29, 3) := by decide +kernel
theorem dX9_isFrozen_74 : decode cX9_isFrozen 74 = .ok (.iconst 0, 1) := by decide +kernel
theorem dX9_isFrozen_75 : decode cX9_isFrozen 75 = .ok (.goto 25, 3) := by decide +kernel
theorem dX9_isFrozen_78 : decode cX9_isFrozen 78 = .ok (.iload 4, 2) := by decide +kernel
theorem dX9_isFrozen_80 : decode cX9_isFrozen 80 = .ok (.i2l, 1) := by decide +kernel
theorem dX9_isFrozen_81 : decode cX9_isFrozen 81 = .ok (.lconst 0, 1) := by decide +kernel
theorem dX9_isFrozen_82 : decode cX9_isFrozen 82 = .ok (.aload_n 0, 1) := by decide +kernel
theorem dX9_isFrozen_83 : decode cX9_isFrozen 83 = .ok (.iload_n 1, 1) := by decide +kernel
theorem dX9_isFrozen_84 : decode cX9_isFrozen 84 = .ok (.iload_n 2, 1) := by decide +kernel
theorem dX9_isFrozen_85 : decode cX9_isFrozen 85 = .ok (.aload_n 0, 1) := by decide +kernel
theorem dX9_isFrozen_86 : decode cX9_isFrozen 86 = .ok (.getfield 13, 3) := by decide +kernel
theorem dX9_isFrozen_89 : decode cX9_isFrozen 89 = .ok (.iload_n 3, 1) := by decide +kernel
theorem dX9_isFrozen_90 : decode cX9_isFrozen 90 = .ok (.iaload, 1) := by decide +kernel
theorem dX9_isFrozen_91 : decode cX9_isFrozen 91 = .ok (.invokevirtual 322, 3) := by decide +kernel
theorem dX9_isFrozen_94 : decode cX9_isFrozen 94 = .ok (.iconst 1, 1) := by decide +kernel
theorem dX9_isFrozen_95 : decode cX9_isFrozen 95 = .ok (.isub, 1) := by decide +kernel
theorem dX9_isFrozen_96 : decode cX9_isFrozen 96 = .ok (.i2l, 1) := by decide +kernel
theorem dX9_isFrozen_97 : decode cX9_isFrozen 97 = .ok (.invokestatic 140, 3) := by decide +kernel
theorem dX9_isFrozen_100 : decode cX9_isFrozen 100 = .ok (.ireturn, 1) := by decide +kernel
def f_X9_isFrozen (a0 a1 a2 a3 a4 : Int) (H : PH) : RO := vm 9 a0 H <|
  (f_X9_isEdition a0 a1 H).bind fun z1 => (if z1.1 = 0 then some (0, z1.2)
  else (ld 25 z1.2 a0 31).bind fun x2 => (ld 0 z1.2 x2 a1).bind fun x3 => (f_X9_in a2 0 (w32 (x3 - 1)) z1.2).bind fun z4 => (if z4.1 = 0 then some (0, z4.2)
  else (ld 25 z4.2 a0 32).bind fun x5 => (ld 0 z4.2 x5 a1).bind fun x6 => (f_X9_in a3 0 (w32 (x6 - 1)) z4.2).bind fun z7 => (if z7.1 = 0 then some (0, z7.2)
  else (ld 25 z7.2 a0 3).bind fun x8 => (ld 0 z7.2 x8 a3).bind fun x9 => (if x9 ≤ 0 then (ld 25 z7.2 a0 2).bind fun x10 => (ld 0 z7.2 x10 a3).bind fun x11 => (if x11 ≥ 0 then (ld 25 z7.2 a0 2).bind fun x12 => (ld 0 z7.2 x12 a3).bind fun x13 => (f_X9_personsThen a0 a1 a2 x13 z7.2).bind fun z14 => (f_X9_in a4 0 (w32 (z14.1 - 1)) z14.2).bind fun z15 => zr z15.1 z15.2
  else (if a4 ≠ (-1) then some (0, z7.2)
  else some (1, z7.2)))
  else some (0, z7.2)))))
set_option maxHeartbeats 4000000 in
theorem m_X9_isFrozen (l : Launch) (a0 a1 a2 a3 a4 : Int) (H : PH) (rr : Int) (HH : PH) (h : f_X9_isFrozen a0 a1 a2 a3 a4 H = some (rr, HH)) : CT l yX9_isFrozen cX9_isFrozen 5 (some .boolean) 2 46 [vr a0, vi a1, vi a2, vi a3, vi a4] H (some (vi rr)) HH := by
  refine CT.of RX9 (by decide) rfl [some (vr a0), some (vi a1), some (vi a2), some (vi a3), some (vi a4)] rfl rfl ?_
  intro E F q hn hf hl hm
  unfold f_X9_isFrozen at h
  obtain ⟨hv, h⟩ := vm_spec h
  refine pw_aload_n (pc := 0) F dX9_isFrozen_0 rfl ?_
  refine pw_iload_n (pc := 1) F dX9_isFrozen_1 rfl ?_
  obtain ⟨z1, ez1, h⟩ := bnd h
  refine pw_callV (pc := 2) (as := [vi a1]) (st := []) (r := (some (vi z1.1))) F 319 9 (by decide) rfl (fun l => m_X9_isEdition l a0 a1 H z1.1 z1.2 ez1) g_dd0beb76bd g_1109160d54 g_f5f25b7a85 g_2759d91faa g_3abcb6d5e1 hd_X9_isEdition (rm_ok hf hl (by decide) (by decide)) rfl (vm_spec ez1).1 dX9_isFrozen_2 rfl (stk' := [vi z1.1]) rfl ?_
  refine pw_if_eq (pc := 5) F 53 dX9_isFrozen_5 (by decide) (fun hc => ?_) (fun hc => ?_)
  · have h := iteT hc h
    refine pw_iconst (pc := 53) F 0 dX9_isFrozen_53 (by decide) ?_
    cases h
    exact pw_zret (pc := 54) F q (by decide) dX9_isFrozen_54
  · have h := iteF hc h
    refine pw_iload_n (pc := 8) F dX9_isFrozen_8 rfl ?_
    refine pw_i2l (pc := 9) F dX9_isFrozen_9 ?_
    refine pw_lconst (pc := 10) F 0 dX9_isFrozen_10 (by decide) ?_
    refine pw_aload_n (pc := 11) F dX9_isFrozen_11 rfl ?_
    obtain ⟨x2, ex2, h⟩ := bnd h
    refine pw_get (pc := 12) F 9 31 90 (by decide) (by decide) g_b2cdc3fd82 inl_9 2 rfl dX9_isFrozen_12 ex2 ?_
    refine pw_iload_n (pc := 15) F dX9_isFrozen_15 rfl ?_
    obtain ⟨x3, ex3, h⟩ := bnd h
    refine pw_iald (pc := 16) F dX9_isFrozen_16 ex3 ?_
    refine pw_iconst (pc := 17) F 1 dX9_isFrozen_17 (by decide) ?_
    refine pw_isub (pc := 18) F dX9_isFrozen_18 ?_
    refine pw_i2l (pc := 19) F dX9_isFrozen_19 ?_
    obtain ⟨z4, ez4, h⟩ := bnd h
    refine pw_callS (pc := 20) (as := [vl a2, vl 0, vl (w32 (x3 - 1))]) (st := []) (r := (some (vi z4.1))) F 140 (fun l => m_X9_in l a2 0 (w32 (x3 - 1)) z1.2 z4.1 z4.2 ez4) g_0174c906e2 g_3fadeb3198 g_2759d91faa g_c0c30bc7de hd_X9_in (rm_ok hf hl (by decide) (by decide)) rfl dX9_isFrozen_20 rfl (stk' := [vi z4.1]) rfl ?_
    refine pw_if_eq (pc := 23) F 53 dX9_isFrozen_23 (by decide) (fun hc => ?_) (fun hc => ?_)
    · have h := iteT hc h
      refine pw_iconst (pc := 53) F 0 dX9_isFrozen_53 (by decide) ?_
      cases h
      exact pw_zret (pc := 54) F q (by decide) dX9_isFrozen_54
    · have h := iteF hc h
      refine pw_iload_n (pc := 26) F dX9_isFrozen_26 rfl ?_
      refine pw_i2l (pc := 27) F dX9_isFrozen_27 ?_
      refine pw_lconst (pc := 28) F 0 dX9_isFrozen_28 (by decide) ?_
      refine pw_aload_n (pc := 29) F dX9_isFrozen_29 rfl ?_
      obtain ⟨x5, ex5, h⟩ := bnd h
      refine pw_get (pc := 30) F 9 32 93 (by decide) (by decide) g_f2c3c3bf67 inl_9 2 rfl dX9_isFrozen_30 ex5 ?_
      refine pw_iload_n (pc := 33) F dX9_isFrozen_33 rfl ?_
      obtain ⟨x6, ex6, h⟩ := bnd h
      refine pw_iald (pc := 34) F dX9_isFrozen_34 ex6 ?_
      refine pw_iconst (pc := 35) F 1 dX9_isFrozen_35 (by decide) ?_
      refine pw_isub (pc := 36) F dX9_isFrozen_36 ?_
      refine pw_i2l (pc := 37) F dX9_isFrozen_37 ?_
      obtain ⟨z7, ez7, h⟩ := bnd h
      refine pw_callS (pc := 38) (as := [vl a3, vl 0, vl (w32 (x6 - 1))]) (st := []) (r := (some (vi z7.1))) F 140 (fun l => m_X9_in l a3 0 (w32 (x6 - 1)) z4.2 z7.1 z7.2 ez7) g_0174c906e2 g_3fadeb3198 g_2759d91faa g_c0c30bc7de hd_X9_in (rm_ok hf hl (by decide) (by decide)) rfl dX9_isFrozen_38 rfl (stk' := [vi z7.1]) rfl ?_
      refine pw_if_eq (pc := 41) F 53 dX9_isFrozen_41 (by decide) (fun hc => ?_) (fun hc => ?_)
      · have h := iteT hc h
        refine pw_iconst (pc := 53) F 0 dX9_isFrozen_53 (by decide) ?_
        cases h
        exact pw_zret (pc := 54) F q (by decide) dX9_isFrozen_54
      · have h := iteF hc h
        refine pw_aload_n (pc := 44) F dX9_isFrozen_44 rfl ?_
        obtain ⟨x8, ex8, h⟩ := bnd h
        refine pw_get (pc := 45) F 9 3 16 (by decide) (by decide) g_bd19d270ba inl_9 2 rfl dX9_isFrozen_45 ex8 ?_
        refine pw_iload_n (pc := 48) F dX9_isFrozen_48 rfl ?_
        obtain ⟨x9, ex9, h⟩ := bnd h
        refine pw_iald (pc := 49) F dX9_isFrozen_49 ex9 ?_
        refine pw_if_le (pc := 50) F 55 dX9_isFrozen_50 (by decide) (fun hc => ?_) (fun hc => ?_)
        · have h := iteT hc h
          refine pw_aload_n (pc := 55) F dX9_isFrozen_55 rfl ?_
          obtain ⟨x10, ex10, h⟩ := bnd h
          refine pw_get (pc := 56) F 9 2 13 (by decide) (by decide) g_0c2899f53f inl_9 2 rfl dX9_isFrozen_56 ex10 ?_
          refine pw_iload_n (pc := 59) F dX9_isFrozen_59 rfl ?_
          obtain ⟨x11, ex11, h⟩ := bnd h
          refine pw_iald (pc := 60) F dX9_isFrozen_60 ex11 ?_
          refine pw_if_ge (pc := 61) F 78 dX9_isFrozen_61 (by decide) (fun hc => ?_) (fun hc => ?_)
          · have h := iteT hc h
            refine pw_iload (pc := 78) F dX9_isFrozen_78 rfl ?_
            refine pw_i2l (pc := 80) F dX9_isFrozen_80 ?_
            refine pw_lconst (pc := 81) F 0 dX9_isFrozen_81 (by decide) ?_
            refine pw_aload_n (pc := 82) F dX9_isFrozen_82 rfl ?_
            refine pw_iload_n (pc := 83) F dX9_isFrozen_83 rfl ?_
            refine pw_iload_n (pc := 84) F dX9_isFrozen_84 rfl ?_
            refine pw_aload_n (pc := 85) F dX9_isFrozen_85 rfl ?_
            obtain ⟨x12, ex12, h⟩ := bnd h
            refine pw_get (pc := 86) F 9 2 13 (by decide) (by decide) g_0c2899f53f inl_9 2 rfl dX9_isFrozen_86 ex12 ?_
            refine pw_iload_n (pc := 89) F dX9_isFrozen_89 rfl ?_
            obtain ⟨x13, ex13, h⟩ := bnd h
            refine pw_iald (pc := 90) F dX9_isFrozen_90 ex13 ?_
            obtain ⟨z14, ez14, h⟩ := bnd h
            refine pw_callV (pc := 91) (as := [vi a1, vi a2, vi x13]) (st := [vl 0, vl a4]) (r := (some (vi z14.1))) F 322 9 (by decide) rfl (fun l => m_X9_personsThen l a0 a1 a2 x13 z7.2 z14.1 z14.2 ez14) g_7240af1532 g_bbe3792e2d g_9a0cc18cc9 g_2759d91faa g_73f398285b hd_X9_personsThen (rm_ok hf hl (by decide) (by decide)) rfl (vm_spec ez14).1 dX9_isFrozen_91 rfl (stk' := [vi z14.1, vl 0, vl a4]) rfl ?_
            refine pw_iconst (pc := 94) F 1 dX9_isFrozen_94 (by decide) ?_
            refine pw_isub (pc := 95) F dX9_isFrozen_95 ?_
            refine pw_i2l (pc := 96) F dX9_isFrozen_96 ?_
            obtain ⟨z15, ez15, h⟩ := bnd h
            refine pw_callS (pc := 97) (as := [vl a4, vl 0, vl (w32 (z14.1 - 1))]) (st := []) (r := (some (vi z15.1))) F 140 (fun l => m_X9_in l a4 0 (w32 (z14.1 - 1)) z14.2 z15.1 z15.2 ez15) g_0174c906e2 g_3fadeb3198 g_2759d91faa g_c0c30bc7de hd_X9_in (rm_ok hf hl (by decide) (by decide)) rfl dX9_isFrozen_97 rfl (stk' := [vi z15.1]) rfl ?_
            obtain ⟨hz, h⟩ := zr_spec h
            cases h
            exact pw_zret (pc := 100) F q hz dX9_isFrozen_100
          · have h := iteF hc h
            refine pw_iload (pc := 64) F dX9_isFrozen_64 rfl ?_
            refine pw_iconst (pc := 66) F (-1) dX9_isFrozen_66 (by decide) ?_
            refine pw_icmp_ne (pc := 67) F 74 dX9_isFrozen_67 (by decide) (fun hc => ?_) (fun hc => ?_)
            · have h := iteT hc h
              refine pw_iconst (pc := 74) F 0 dX9_isFrozen_74 (by decide) ?_
              refine pw_goto (pc := 75) F 100 dX9_isFrozen_75 (by decide) ?_
              cases h
              exact pw_zret (pc := 100) F q (by decide) dX9_isFrozen_100
            · have h := iteF hc h
              refine pw_iconst (pc := 70) F 1 dX9_isFrozen_70 (by decide) ?_
              refine pw_goto (pc := 71) F 100 dX9_isFrozen_71 (by decide) ?_
              cases h
              exact pw_zret (pc := 100) F q (by decide) dX9_isFrozen_100
        · have h := iteF hc h
          refine pw_iconst (pc := 53) F 0 dX9_isFrozen_53 (by decide) ?_
          cases h
          exact pw_zret (pc := 54) F q (by decide) dX9_isFrozen_54
/-! HouseholdVaultModel.frozen(IIII)J -/
theorem dX9_frozen_0 : decode cX9_frozen 0 = .ok (.aload_n 0, 1) := by decide +kernel
theorem dX9_frozen_1 : decode cX9_frozen 1 = .ok (.iload_n 1, 1) := by decide +kernel
theorem dX9_frozen_2 : decode cX9_frozen 2 = .ok (.iload_n 2, 1) := by decide +kernel
theorem dX9_frozen_3 : decode cX9_frozen 3 = .ok (.iload_n 3, 1) := by decide +kernel
theorem dX9_frozen_4 : decode cX9_frozen 4 = .ok (.iload 4, 2) := by decide +kernel
theorem dX9_frozen_6 : decode cX9_frozen 6 = .ok (.invokevirtual 325, 3) := by decide +kernel
theorem dX9_frozen_9 : decode cX9_frozen 9 = .ok (.ifCond .ne 5, 3) := by decide +kernel
theorem dX9_frozen_12 : decode cX9_frozen 12 = .ok (.lconst 0, 1) := by decide +kernel
theorem dX9_frozen_13 : decode cX9_frozen 13 = .ok (.lreturn, 1) := by decide +kernel
theorem dX9_frozen_14 : decode cX9_frozen 14 = .ok (.sipush 5760, 3) := by decide +kernel
theorem dX9_frozen_17 : decode cX9_frozen 17 = .ok (.iload_n 1, 1) := by decide +kernel
theorem dX9_frozen_18 : decode cX9_frozen 18 = .ok (.imul, 1) := by decide +kernel
theorem dX9_frozen_19 : decode cX9_frozen 19 = .ok (.iload_n 2, 1) := by decide +kernel
theorem dX9_frozen_20 : decode cX9_frozen 20 = .ok (.iload_n 3, 1) := by decide +kernel
theorem dX9_frozen_21 : decode cX9_frozen 21 = .ok (.iload 4, 2) := by decide +kernel
theorem dX9_frozen_23 : decode cX9_frozen 23 = .ok (.iconst 1, 1) := by decide +kernel
theorem dX9_frozen_24 : decode cX9_frozen 24 = .ok (.iadd, 1) := by decide +kernel
theorem dX9_frozen_25 : decode cX9_frozen 25 = .ok (.invokestatic 150, 3) := by decide +kernel
theorem dX9_frozen_28 : decode cX9_frozen 28 = .ok (.iadd, 1) := by decide +kernel
theorem dX9_frozen_29 : decode cX9_frozen 29 = .ok (.istore 5, 2) := by decide +kernel
theorem dX9_frozen_31 : decode cX9_frozen 31 = .ok (.aload_n 0, 1) := by decide +kernel
theorem dX9_frozen_32 : decode cX9_frozen 32 = .ok (.getfield 100, 3) := by decide +kernel
theorem dX9_frozen_35 : decode cX9_frozen 35 = .ok (.iload 5, 2) := by decide +kernel
theorem dX9_frozen_37 : decode cX9_frozen 37 = .ok (.iaload, 1) := by decide +kernel
theorem dX9_frozen_38 : decode cX9_frozen 38 = .ok (.ifCond .le 7, 3) := by decide +kernel
theorem dX9_frozen_41 : decode cX9_frozen 41 = .ok (.lconst 0, 1) := by decide +kernel
theorem dX9_frozen_42 : decode cX9_frozen 42 = .ok (.goto 10, 3) := by decide +kernel
theorem dX9_frozen_45 : decode cX9_frozen 45 = .ok (.aload_n 0, 1) := by decide +kernel
theorem dX9_frozen_46 : decode cX9_frozen 46 = .ok (.getfield 97, 3) := by decide +kernel
theorem dX9_frozen_49 : decode cX9_frozen 49 = .ok (.iload 5, 2) := by decide +kernel
theorem dX9_frozen_51 : decode cX9_frozen 51 = .ok (.laload, 1) := by decide +kernel
theorem dX9_frozen_52 : decode cX9_frozen 52 = .ok (.lreturn, 1) := by decide +kernel
def f_X9_frozen (a0 a1 a2 a3 a4 : Int) (H : PH) : RO := vm 9 a0 H <|
  (f_X9_isFrozen a0 a1 a2 a3 a4 H).bind fun z1 => (if z1.1 ≠ 0 then (f_X9_place a2 a3 (w32 (a4 + 1)) z1.2).bind fun z2 => (ld 25 z2.2 a0 34).bind fun x3 => (ld 0 z2.2 x3 (w32 ((w32 (5760 * a1)) + z2.1))).bind fun x4 => (if x4 ≤ 0 then (ld 25 z2.2 a0 33).bind fun x5 => (ld 1 z2.2 x5 (w32 ((w32 (5760 * a1)) + z2.1))).bind fun x6 => some (x6, z2.2)
  else some (0, z2.2))
  else some (0, z1.2))
set_option maxHeartbeats 4000000 in
theorem m_X9_frozen (l : Launch) (a0 a1 a2 a3 a4 : Int) (H : PH) (rr : Int) (HH : PH) (h : f_X9_frozen a0 a1 a2 a3 a4 H = some (rr, HH)) : CT l yX9_frozen cX9_frozen 6 (some .long) 3 70 [vr a0, vi a1, vi a2, vi a3, vi a4] H (some (vl rr)) HH := by
  refine CT.of RX9 (by decide) rfl [some (vr a0), some (vi a1), some (vi a2), some (vi a3), some (vi a4), none] rfl rfl ?_
  intro E F q hn hf hl hm
  unfold f_X9_frozen at h
  obtain ⟨hv, h⟩ := vm_spec h
  refine pw_aload_n (pc := 0) F dX9_frozen_0 rfl ?_
  refine pw_iload_n (pc := 1) F dX9_frozen_1 rfl ?_
  refine pw_iload_n (pc := 2) F dX9_frozen_2 rfl ?_
  refine pw_iload_n (pc := 3) F dX9_frozen_3 rfl ?_
  refine pw_iload (pc := 4) F dX9_frozen_4 rfl ?_
  obtain ⟨z1, ez1, h⟩ := bnd h
  refine pw_callV (pc := 6) (as := [vi a1, vi a2, vi a3, vi a4]) (st := []) (r := (some (vi z1.1))) F 325 9 (by decide) rfl (fun l => m_X9_isFrozen l a0 a1 a2 a3 a4 H z1.1 z1.2 ez1) g_a39b35af7a g_e156651744 g_3b262d185a g_2759d91faa g_db4a19a0a3 hd_X9_isFrozen (rm_ok hf hl (by decide) (by decide)) rfl (vm_spec ez1).1 dX9_frozen_6 rfl (stk' := [vi z1.1]) rfl ?_
  refine pw_if_ne (pc := 9) F 14 dX9_frozen_9 (by decide) (fun hc => ?_) (fun hc => ?_)
  · have h := iteT hc h
    refine pw_sipush (pc := 14) F 5760 dX9_frozen_14 (by decide) ?_
    refine pw_iload_n (pc := 17) F dX9_frozen_17 rfl ?_
    refine pw_imul (pc := 18) F dX9_frozen_18 ?_
    refine pw_iload_n (pc := 19) F dX9_frozen_19 rfl ?_
    refine pw_iload_n (pc := 20) F dX9_frozen_20 rfl ?_
    refine pw_iload (pc := 21) F dX9_frozen_21 rfl ?_
    refine pw_iconst (pc := 23) F 1 dX9_frozen_23 (by decide) ?_
    refine pw_iadd (pc := 24) F dX9_frozen_24 ?_
    obtain ⟨z2, ez2, h⟩ := bnd h
    refine pw_callS (pc := 25) (as := [vi a2, vi a3, vi (w32 (a4 + 1))]) (st := [vi (w32 (5760 * a1))]) (r := (some (vi z2.1))) F 150 (fun l => m_X9_place l a2 a3 (w32 (a4 + 1)) z1.2 z2.1 z2.2 ez2) g_ace1a9f84c g_ec0534314d g_2759d91faa g_205510d507 hd_X9_place (rm_ok hf hl (by decide) (by decide)) rfl dX9_frozen_25 rfl (stk' := [vi z2.1, vi (w32 (5760 * a1))]) rfl ?_
    refine pw_iadd (pc := 28) F dX9_frozen_28 ?_
    refine pw_istore (pc := 29) F dX9_frozen_29 (lt_nl hn (by decide)) [some (vr a0), some (vi a1), some (vi a2), some (vi a3), some (vi a4), some (vi (w32 ((w32 (5760 * a1)) + z2.1)))] rfl ?_
    refine pw_aload_n (pc := 31) F dX9_frozen_31 rfl ?_
    obtain ⟨x3, ex3, h⟩ := bnd h
    refine pw_get (pc := 32) F 9 34 100 (by decide) (by decide) g_41a86a255d inl_9 2 rfl dX9_frozen_32 ex3 ?_
    refine pw_iload (pc := 35) F dX9_frozen_35 rfl ?_
    obtain ⟨x4, ex4, h⟩ := bnd h
    refine pw_iald (pc := 37) F dX9_frozen_37 ex4 ?_
    refine pw_if_le (pc := 38) F 45 dX9_frozen_38 (by decide) (fun hc => ?_) (fun hc => ?_)
    · have h := iteT hc h
      refine pw_aload_n (pc := 45) F dX9_frozen_45 rfl ?_
      obtain ⟨x5, ex5, h⟩ := bnd h
      refine pw_get (pc := 46) F 9 33 97 (by decide) (by decide) g_e5d5e6041e inl_9 2 rfl dX9_frozen_46 ex5 ?_
      refine pw_iload (pc := 49) F dX9_frozen_49 rfl ?_
      obtain ⟨x6, ex6, h⟩ := bnd h
      refine pw_lald (pc := 51) F dX9_frozen_51 ex6 ?_
      cases h
      exact pw_lret (pc := 52) F q dX9_frozen_52
    · have h := iteF hc h
      refine pw_lconst (pc := 41) F 0 dX9_frozen_41 (by decide) ?_
      refine pw_goto (pc := 42) F 52 dX9_frozen_42 (by decide) ?_
      cases h
      exact pw_lret (pc := 52) F q dX9_frozen_52
  · have h := iteF hc h
    refine pw_lconst (pc := 12) F 0 dX9_frozen_12 (by decide) ?_
    cases h
    exact pw_lret (pc := 13) F q dX9_frozen_13
/-! HouseholdVaultModel.frozenReason(IIII)I -/
theorem dX9_frozenReason_0 : decode cX9_frozenReason 0 = .ok (.aload_n 0, 1) := by decide +kernel
theorem dX9_frozenReason_1 : decode cX9_frozenReason 1 = .ok (.iload_n 1, 1) := by decide +kernel
theorem dX9_frozenReason_2 : decode cX9_frozenReason 2 = .ok (.iload_n 2, 1) := by decide +kernel
theorem dX9_frozenReason_3 : decode cX9_frozenReason 3 = .ok (.iload_n 3, 1) := by decide +kernel
theorem dX9_frozenReason_4 : decode cX9_frozenReason 4 = .ok (.iload 4, 2) := by decide +kernel
theorem dX9_frozenReason_6 : decode cX9_frozenReason 6 = .ok (.invokevirtual 325, 3) := by decide +kernel
theorem dX9_frozenReason_9 : decode cX9_frozenReason 9 = .ok (.ifCond .eq 26, 3) := by decide +kernel
theorem dX9_frozenReason_12 : decode cX9_frozenReason 12 = .ok (.aload_n 0, 1) := by decide +kernel
theorem dX9_frozenReason_13 : decode cX9_frozenReason 13 = .ok (.getfield 100, 3) := by decide +kernel
theorem dX9_frozenReason_16 : decode cX9_frozenReason 16 = .ok (.sipush 5760, 3) := by decide +kernel
theorem dX9_frozenReason_19 : decode cX9_frozenReason 19 = .ok (.iload_n 1, 1) := by decide +kernel
theorem dX9_frozenReason_20 : decode cX9_frozenReason 20 = .ok (.imul, 1) := by decide +kernel
theorem dX9_frozenReason_21 : decode cX9_frozenReason 21 = .ok (.iload_n 2, 1) := by decide +kernel
theorem dX9_frozenReason_22 : decode cX9_frozenReason 22 = .ok (.iload_n 3, 1) := by decide +kernel
theorem dX9_frozenReason_23 : decode cX9_frozenReason 23 = .ok (.iload 4, 2) := by decide +kernel
theorem dX9_frozenReason_25 : decode cX9_frozenReason 25 = .ok (.iconst 1, 1) := by decide +kernel
theorem dX9_frozenReason_26 : decode cX9_frozenReason 26 = .ok (.iadd, 1) := by decide +kernel
theorem dX9_frozenReason_27 : decode cX9_frozenReason 27 = .ok (.invokestatic 150, 3) := by decide +kernel
theorem dX9_frozenReason_30 : decode cX9_frozenReason 30 = .ok (.iadd, 1) := by decide +kernel
theorem dX9_frozenReason_31 : decode cX9_frozenReason 31 = .ok (.iaload, 1) := by decide +kernel
theorem dX9_frozenReason_32 : decode cX9_frozenReason 32 = .ok (.goto 4, 3) := by decide +kernel
theorem dX9_frozenReason_35 : decode cX9_frozenReason 35 = .ok (.iconst (-1), 1) := by decide +kernel
theorem dX9_frozenReason_36 : decode cX9_frozenReason 36 = .ok (.ireturn, 1) := by decide +kernel
def f_X9_frozenReason (a0 a1 a2 a3 a4 : Int) (H : PH) : RO := vm 9 a0 H <|
  (f_X9_isFrozen a0 a1 a2 a3 a4 H).bind fun z1 => (if z1.1 = 0 then some ((-1), z1.2)
  else (ld 25 z1.2 a0 34).bind fun x2 => (f_X9_place a2 a3 (w32 (a4 + 1)) z1.2).bind fun z3 => (ld 0 z3.2 x2 (w32 ((w32 (5760 * a1)) + z3.1))).bind fun x4 => some (x4, z3.2))
set_option maxHeartbeats 4000000 in
theorem m_X9_frozenReason (l : Launch) (a0 a1 a2 a3 a4 : Int) (H : PH) (rr : Int) (HH : PH) (h : f_X9_frozenReason a0 a1 a2 a3 a4 H = some (rr, HH)) : CT l yX9_frozenReason cX9_frozenReason 5 (some .int) 3 70 [vr a0, vi a1, vi a2, vi a3, vi a4] H (some (vi rr)) HH := by
  refine CT.of RX9 (by decide) rfl [some (vr a0), some (vi a1), some (vi a2), some (vi a3), some (vi a4)] rfl rfl ?_
  intro E F q hn hf hl hm
  unfold f_X9_frozenReason at h
  obtain ⟨hv, h⟩ := vm_spec h
  refine pw_aload_n (pc := 0) F dX9_frozenReason_0 rfl ?_
  refine pw_iload_n (pc := 1) F dX9_frozenReason_1 rfl ?_
  refine pw_iload_n (pc := 2) F dX9_frozenReason_2 rfl ?_
  refine pw_iload_n (pc := 3) F dX9_frozenReason_3 rfl ?_
  refine pw_iload (pc := 4) F dX9_frozenReason_4 rfl ?_
  obtain ⟨z1, ez1, h⟩ := bnd h
  refine pw_callV (pc := 6) (as := [vi a1, vi a2, vi a3, vi a4]) (st := []) (r := (some (vi z1.1))) F 325 9 (by decide) rfl (fun l => m_X9_isFrozen l a0 a1 a2 a3 a4 H z1.1 z1.2 ez1) g_a39b35af7a g_e156651744 g_3b262d185a g_2759d91faa g_db4a19a0a3 hd_X9_isFrozen (rm_ok hf hl (by decide) (by decide)) rfl (vm_spec ez1).1 dX9_frozenReason_6 rfl (stk' := [vi z1.1]) rfl ?_
  refine pw_if_eq (pc := 9) F 35 dX9_frozenReason_9 (by decide) (fun hc => ?_) (fun hc => ?_)
  · have h := iteT hc h
    refine pw_iconst (pc := 35) F (-1) dX9_frozenReason_35 (by decide) ?_
    cases h
    exact pw_iret (pc := 36) F q dX9_frozenReason_36
  · have h := iteF hc h
    refine pw_aload_n (pc := 12) F dX9_frozenReason_12 rfl ?_
    obtain ⟨x2, ex2, h⟩ := bnd h
    refine pw_get (pc := 13) F 9 34 100 (by decide) (by decide) g_41a86a255d inl_9 2 rfl dX9_frozenReason_13 ex2 ?_
    refine pw_sipush (pc := 16) F 5760 dX9_frozenReason_16 (by decide) ?_
    refine pw_iload_n (pc := 19) F dX9_frozenReason_19 rfl ?_
    refine pw_imul (pc := 20) F dX9_frozenReason_20 ?_
    refine pw_iload_n (pc := 21) F dX9_frozenReason_21 rfl ?_
    refine pw_iload_n (pc := 22) F dX9_frozenReason_22 rfl ?_
    refine pw_iload (pc := 23) F dX9_frozenReason_23 rfl ?_
    refine pw_iconst (pc := 25) F 1 dX9_frozenReason_25 (by decide) ?_
    refine pw_iadd (pc := 26) F dX9_frozenReason_26 ?_
    obtain ⟨z3, ez3, h⟩ := bnd h
    refine pw_callS (pc := 27) (as := [vi a2, vi a3, vi (w32 (a4 + 1))]) (st := [vi (w32 (5760 * a1)), vr x2]) (r := (some (vi z3.1))) F 150 (fun l => m_X9_place l a2 a3 (w32 (a4 + 1)) z1.2 z3.1 z3.2 ez3) g_ace1a9f84c g_ec0534314d g_2759d91faa g_205510d507 hd_X9_place (rm_ok hf hl (by decide) (by decide)) rfl dX9_frozenReason_27 rfl (stk' := [vi z3.1, vi (w32 (5760 * a1)), vr x2]) rfl ?_
    refine pw_iadd (pc := 30) F dX9_frozenReason_30 ?_
    obtain ⟨x4, ex4, h⟩ := bnd h
    refine pw_iald (pc := 31) F dX9_frozenReason_31 ex4 ?_
    refine pw_goto (pc := 32) F 36 dX9_frozenReason_32 (by decide) ?_
    cases h
    exact pw_iret (pc := 36) F q dX9_frozenReason_36
/-! HouseholdVaultModel.isChanged(IIIII)Z -/
theorem dX9_isChanged_0 : decode cX9_isChanged 0 = .ok (.iload 5, 2) := by decide +kernel
theorem dX9_isChanged_2 : decode cX9_isChanged 2 = .ok (.ifCond .le 49, 3) := by decide +kernel
theorem dX9_isChanged_5 : decode cX9_isChanged 5 = .ok (.aload_n 0, 1) := by decide +kernel
theorem dX9_isChanged_6 : decode cX9_isChanged 6 = .ok (.iload_n 1, 1) := by decide +kernel
theorem dX9_isChanged_7 : decode cX9_isChanged 7 = .ok (.iload_n 3, 1) := by decide +kernel
theorem dX9_isChanged_8 : decode cX9_isChanged 8 = .ok (.aload_n 0, 1) := by decide +kernel
theorem dX9_isChanged_9 : decode cX9_isChanged 9 = .ok (.getfield 13, 3) := by decide +kernel
theorem dX9_isChanged_12 : decode cX9_isChanged 12 = .ok (.iload 4, 2) := by decide +kernel
theorem dX9_isChanged_14 : decode cX9_isChanged 14 = .ok (.iaload, 1) := by decide +kernel
theorem dX9_isChanged_15 : decode cX9_isChanged 15 = .ok (.invokevirtual 322, 3) := by decide +kernel
theorem dX9_isChanged_18 : decode cX9_isChanged 18 = .ok (.istore 6, 2) := by decide +kernel
theorem dX9_isChanged_20 : decode cX9_isChanged 20 = .ok (.aload_n 0, 1) := by decide +kernel
theorem dX9_isChanged_21 : decode cX9_isChanged 21 = .ok (.iload_n 2, 1) := by decide +kernel
theorem dX9_isChanged_22 : decode cX9_isChanged 22 = .ok (.iload_n 3, 1) := by decide +kernel
theorem dX9_isChanged_23 : decode cX9_isChanged 23 = .ok (.aload_n 0, 1) := by decide +kernel
theorem dX9_isChanged_24 : decode cX9_isChanged 24 = .ok (.getfield 13, 3) := by decide +kernel
theorem dX9_isChanged_27 : decode cX9_isChanged 27 = .ok (.iload 4, 2) := by decide +kernel
theorem dX9_isChanged_29 : decode cX9_isChanged 29 = .ok (.iaload, 1) := by decide +kernel
theorem dX9_isChanged_30 : decode cX9_isChanged 30 = .ok (.invokevirtual 322, 3) := by decide +kernel
theorem dX9_isChanged_33 : decode cX9_isChanged 33 = .ok (.istore 7, 2) := by decide +kernel
theorem dX9_isChanged_35 : decode cX9_isChanged 35 = .ok (.iload 5, 2) := by decide +kernel
theorem dX9_isChanged_37 : decode cX9_isChanged 37 = .ok (.iload 6, 2) := by decide +kernel
theorem dX9_isChanged_39 : decode cX9_isChanged 39 = .ok (.if_icmp .gt 10, 3) := by decide +kernel
theorem dX9_isChanged_42 : decode cX9_isChanged 42 = .ok (.iload 5, 2) := by decide +kernel
theorem dX9_isChanged_44 : decode cX9_isChanged 44 = .ok (.iload 7, 2) := by decide +kernel
theorem dX9_isChanged_46 : decode cX9_isChanged 46 = .ok (.if_icmp .le 5, 3) := by decide +kernel
theorem dX9_isChanged_49 : decode cX9_isChanged 49 = .ok (.iconst 1, 1) := by decide +kernel
theorem dX9_isChanged_50 : decode cX9_isChanged 50 = .ok (.ireturn, 1) := by decide +kernel
theorem dX9_isChanged_51 : decode cX9_isChanged 51 = .ok (.sipush 5760, 3) := by decide +kernel
theorem dX9_isChanged_54 : decode cX9_isChanged 54 = .ok (.iload_n 1, 1) := by decide +kernel
theorem dX9_isChanged_55 : decode cX9_isChanged 55 = .ok (.imul, 1) := by decide +kernel
theorem dX9_isChanged_56 : decode cX9_isChanged 56 = .ok (.iload_n 3, 1) := by decide +kernel
theorem dX9_isChanged_57 : decode cX9_isChanged 57 = .ok (.iload 4, 2) := by decide +kernel
theorem dX9_isChanged_59 : decode cX9_isChanged 59 = .ok (.iload 5, 2) := by decide +kernel
theorem dX9_isChanged_61 : decode cX9_isChanged 61 = .ok (.invokestatic 150, 3) := by decide +kernel
theorem dX9_isChanged_64 : decode cX9_isChanged 64 = .ok (.iadd, 1) := by decide +kernel
theorem dX9_isChanged_65 : decode cX9_isChanged 65 = .ok (.istore 6, 2) := by decide +kernel
theorem dX9_isChanged_67 : decode cX9_isChanged 67 = .ok (.sipush 5760, 3) := by decide +kernel
theorem dX9_isChanged_70 : decode cX9_isChanged 70 = .ok (.iload_n 2, 1) := by decide +kernel
theorem dX9_isChanged_71 : decode cX9_isChanged 71 = .ok (.imul, 1) := by decide +kernel
theorem dX9_isChanged_72 : decode cX9_isChanged 72 = .ok (.iload_n 3, 1) := by decide +kernel
theorem dX9_isChanged_73 : decode cX9_isChanged 73 = .ok (.iload 4, 2) := by decide +kernel
theorem dX9_isChanged_75 : decode cX9_isChanged 75 = .ok (.iload 5, 2) := by decide +kernel
theorem dX9_isChanged_77 : decode cX9_isChanged 77 = .ok (.invokestatic 150, 3) := by decide +kernel
theorem dX9_isChanged_80 : decode cX9_isChanged 80 = .ok (.iadd, 1) := by decide +kernel
theorem dX9_isChanged_81 : decode cX9_isChanged 81 = .ok (.istore 7, 2) := by decide +kernel
theorem dX9_isChanged_83 : decode cX9_isChanged 83 = .ok (.aload_n 0, 1) := by decide +kernel
theorem dX9_isChanged_84 : decode cX9_isChanged 84 = .ok (.getfield 100, 3) := by decide +kernel
theorem dX9_isChanged_87 : decode cX9_isChanged 87 = .ok (.iload 6, 2) := by decide +kernel
theorem dX9_isChanged_89 : decode cX9_isChanged 89 = .ok (.iaload, 1) := by decide +kernel
theorem dX9_isChanged_90 : decode cX9_isChanged 90 = .ok (.aload_n 0, 1) := by decide +kernel
theorem dX9_isChanged_91 : decode cX9_isChanged 91 = .ok (.getfield 100, 3) := by decide +kernel
theorem dX9_isChanged_94 : decode cX9_isChanged 94 = .ok (.iload 7, 2) := by decide +kernel
theorem dX9_isChanged_96 : decode cX9_isChanged 96 = .ok (.iaload, 1) := by decide +kernel
theorem dX9_isChanged_97 : decode cX9_isChanged 97 = .ok (.if_icmp .ne 31, 3) := by decide +kernel
theorem dX9_isChanged_100 : decode cX9_isChanged 100 = .ok (.aload_n 0, 1) := by decide +kernel
theorem dX9_isChanged_101 : decode cX9_isChanged 101 = .ok (.getfield 100, 3) := by decide +kernel
theorem dX9_isChanged_104 : decode cX9_isChanged 104 = .ok (.iload 6, 2) := by decide +kernel
theorem dX9_isChanged_106 : decode cX9_isChanged 106 = .ok (.iaload, 1) := by decide +kernel
theorem dX9_isChanged_107 : decode cX9_isChanged 107 = .ok (.ifCond .ne 25, 3) := by decide +kernel
theorem dX9_isChanged_110 : decode cX9_isChanged 110 = .ok (.aload_n 0, 1) := by decide +kernel
theorem dX9_isChanged_111 : decode cX9_isChanged 111 = .ok (.getfield 97, 3) := by decide +kernel
theorem dX9_isChanged_114 : decode cX9_isChanged 114 = .ok (.iload 6, 2) := by decide +kernel
theorem dX9_isChanged_116 : decode cX9_isChanged 116 = .ok (.laload, 1) := by decide +kernel
theorem dX9_isChanged_117 : decode cX9_isChanged 117 = .ok (.aload_n 0, 1) := by decide +kernel
theorem dX9_isChanged_118 : decode cX9_isChanged 118 = .ok (.getfield 97, 3) := by decide +kernel
theorem dX9_isChanged_121 : decode cX9_isChanged 121 = .ok (.iload 7, 2) := by decide +kernel
theorem dX9_isChanged_123 : decode cX9_isChanged 123 = .ok (.laload, 1) := by decide +kernel
theorem dX9_isChanged_124 : decode cX9_isChanged 124 = .ok (.lcmp, 1) := by decide +kernel
theorem dX9_isChanged_125 : decode cX9_isChanged 125 = .ok (.ifCond .eq 7, 3) := by decide +kernel
theorem dX9_isChanged_128 : decode cX9_isChanged 128 = .ok (.iconst 1, 1) := by decide +kernel
theorem dX9_isChanged_129 : decode cX9_isChanged 129 = .ok (.goto 4, 3) := by decide +kernel
theorem dX9_isChanged_132 : decode cX9_isChanged 132 = .ok (.iconst 0, 1) := by decide +kernel
theorem dX9_isChanged_133 : decode cX9_isChanged 133 = .ok (.ireturn, 1) := by decide +kernel
def jX9_isChanged_128 (H : PH) : RO :=
  some (1, H)
set_option maxHeartbeats 4000000 in
theorem jX9_isChanged_128_ok {E : PE} {rr : Int} {HH : PH} (F : FX E cX9_isChanged RX9) (q : QE E (some (vi rr)) HH (some .boolean)) (hn : nLof E = 8) (hf : (roomOf E).frames = 2) (hl : (roomOf E).locals = 45) (H : PH) (h : jX9_isChanged_128  H = some (rr, HH)) : PW E 128 [none, none, none, none, none, none, none, none] [] H := by
  unfold jX9_isChanged_128 at h
  refine pw_iconst (pc := 128) F 1 dX9_isChanged_128 (by decide) ?_
  refine pw_goto (pc := 129) F 133 dX9_isChanged_129 (by decide) ?_
  cases h
  exact pw_zret (pc := 133) F q (by decide) dX9_isChanged_133
def jX9_isChanged_51 (p0 p1 p2 p3 p4 p5 : Int) (H : PH) : RO :=
  (f_X9_place p3 p4 p5 H).bind fun z1 => (f_X9_place p3 p4 p5 z1.2).bind fun z2 => (ld 25 z2.2 p0 34).bind fun x3 => (ld 0 z2.2 x3 (w32 ((w32 (5760 * p1)) + z1.1))).bind fun x4 => (ld 25 z2.2 p0 34).bind fun x5 => (ld 0 z2.2 x5 (w32 ((w32 (5760 * p2)) + z2.1))).bind fun x6 => (if x4 ≠ x6 then jX9_isChanged_128  z2.2
  else (ld 25 z2.2 p0 34).bind fun x7 => (ld 0 z2.2 x7 (w32 ((w32 (5760 * p1)) + z1.1))).bind fun x8 => (if x8 ≠ 0 then some (0, z2.2)
  else (ld 25 z2.2 p0 33).bind fun x9 => (ld 1 z2.2 x9 (w32 ((w32 (5760 * p1)) + z1.1))).bind fun x10 => (ld 25 z2.2 p0 33).bind fun x11 => (ld 1 z2.2 x11 (w32 ((w32 (5760 * p2)) + z2.1))).bind fun x12 => (if (lc x10 x12) = 0 then some (0, z2.2)
  else jX9_isChanged_128  z2.2)))
set_option maxHeartbeats 4000000 in
theorem jX9_isChanged_51_ok {E : PE} {rr : Int} {HH : PH} (F : FX E cX9_isChanged RX9) (q : QE E (some (vi rr)) HH (some .boolean)) (hn : nLof E = 8) (hf : (roomOf E).frames = 2) (hl : (roomOf E).locals = 45) (p0 p1 p2 p3 p4 p5 : Int) (H : PH) (h : jX9_isChanged_51 p0 p1 p2 p3 p4 p5 H = some (rr, HH)) : PW E 51 [some (vr p0), some (vi p1), some (vi p2), some (vi p3), some (vi p4), some (vi p5), none, none] [] H := by
  unfold jX9_isChanged_51 at h
  refine pw_sipush (pc := 51) F 5760 dX9_isChanged_51 (by decide) ?_
  refine pw_iload_n (pc := 54) F dX9_isChanged_54 rfl ?_
  refine pw_imul (pc := 55) F dX9_isChanged_55 ?_
  refine pw_iload_n (pc := 56) F dX9_isChanged_56 rfl ?_
  refine pw_iload (pc := 57) F dX9_isChanged_57 rfl ?_
  refine pw_iload (pc := 59) F dX9_isChanged_59 rfl ?_
  obtain ⟨z1, ez1, h⟩ := bnd h
  refine pw_callS (pc := 61) (as := [vi p3, vi p4, vi p5]) (st := [vi (w32 (5760 * p1))]) (r := (some (vi z1.1))) F 150 (fun l => m_X9_place l p3 p4 p5 H z1.1 z1.2 ez1) g_ace1a9f84c g_ec0534314d g_2759d91faa g_205510d507 hd_X9_place (rm_ok hf hl (by decide) (by decide)) rfl dX9_isChanged_61 rfl (stk' := [vi z1.1, vi (w32 (5760 * p1))]) rfl ?_
  refine pw_iadd (pc := 64) F dX9_isChanged_64 ?_
  refine pw_istore (pc := 65) F dX9_isChanged_65 (lt_nl hn (by decide)) [some (vr p0), some (vi p1), some (vi p2), some (vi p3), some (vi p4), some (vi p5), some (vi (w32 ((w32 (5760 * p1)) + z1.1))), none] rfl ?_
  refine pw_sipush (pc := 67) F 5760 dX9_isChanged_67 (by decide) ?_
  refine pw_iload_n (pc := 70) F dX9_isChanged_70 rfl ?_
  refine pw_imul (pc := 71) F dX9_isChanged_71 ?_
  refine pw_iload_n (pc := 72) F dX9_isChanged_72 rfl ?_
  refine pw_iload (pc := 73) F dX9_isChanged_73 rfl ?_
  refine pw_iload (pc := 75) F dX9_isChanged_75 rfl ?_
  obtain ⟨z2, ez2, h⟩ := bnd h
  refine pw_callS (pc := 77) (as := [vi p3, vi p4, vi p5]) (st := [vi (w32 (5760 * p2))]) (r := (some (vi z2.1))) F 150 (fun l => m_X9_place l p3 p4 p5 z1.2 z2.1 z2.2 ez2) g_ace1a9f84c g_ec0534314d g_2759d91faa g_205510d507 hd_X9_place (rm_ok hf hl (by decide) (by decide)) rfl dX9_isChanged_77 rfl (stk' := [vi z2.1, vi (w32 (5760 * p2))]) rfl ?_
  refine pw_iadd (pc := 80) F dX9_isChanged_80 ?_
  refine pw_istore (pc := 81) F dX9_isChanged_81 (lt_nl hn (by decide)) [some (vr p0), some (vi p1), some (vi p2), some (vi p3), some (vi p4), some (vi p5), some (vi (w32 ((w32 (5760 * p1)) + z1.1))), some (vi (w32 ((w32 (5760 * p2)) + z2.1)))] rfl ?_
  refine pw_aload_n (pc := 83) F dX9_isChanged_83 rfl ?_
  obtain ⟨x3, ex3, h⟩ := bnd h
  refine pw_get (pc := 84) F 9 34 100 (by decide) (by decide) g_41a86a255d inl_9 2 rfl dX9_isChanged_84 ex3 ?_
  refine pw_iload (pc := 87) F dX9_isChanged_87 rfl ?_
  obtain ⟨x4, ex4, h⟩ := bnd h
  refine pw_iald (pc := 89) F dX9_isChanged_89 ex4 ?_
  refine pw_aload_n (pc := 90) F dX9_isChanged_90 rfl ?_
  obtain ⟨x5, ex5, h⟩ := bnd h
  refine pw_get (pc := 91) F 9 34 100 (by decide) (by decide) g_41a86a255d inl_9 2 rfl dX9_isChanged_91 ex5 ?_
  refine pw_iload (pc := 94) F dX9_isChanged_94 rfl ?_
  obtain ⟨x6, ex6, h⟩ := bnd h
  refine pw_iald (pc := 96) F dX9_isChanged_96 ex6 ?_
  refine pw_icmp_ne (pc := 97) F 128 dX9_isChanged_97 (by decide) (fun hc => ?_) (fun hc => ?_)
  · have h := iteT hc h
    exact pw_mask [false, false, false, false, false, false, false, false] (ls' := [none, none, none, none, none, none, none, none]) rfl (jX9_isChanged_128_ok F q hn hf hl  z2.2 h)
  · have h := iteF hc h
    refine pw_aload_n (pc := 100) F dX9_isChanged_100 rfl ?_
    obtain ⟨x7, ex7, h⟩ := bnd h
    refine pw_get (pc := 101) F 9 34 100 (by decide) (by decide) g_41a86a255d inl_9 2 rfl dX9_isChanged_101 ex7 ?_
    refine pw_iload (pc := 104) F dX9_isChanged_104 rfl ?_
    obtain ⟨x8, ex8, h⟩ := bnd h
    refine pw_iald (pc := 106) F dX9_isChanged_106 ex8 ?_
    refine pw_if_ne (pc := 107) F 132 dX9_isChanged_107 (by decide) (fun hc => ?_) (fun hc => ?_)
    · have h := iteT hc h
      refine pw_iconst (pc := 132) F 0 dX9_isChanged_132 (by decide) ?_
      cases h
      exact pw_zret (pc := 133) F q (by decide) dX9_isChanged_133
    · have h := iteF hc h
      refine pw_aload_n (pc := 110) F dX9_isChanged_110 rfl ?_
      obtain ⟨x9, ex9, h⟩ := bnd h
      refine pw_get (pc := 111) F 9 33 97 (by decide) (by decide) g_e5d5e6041e inl_9 2 rfl dX9_isChanged_111 ex9 ?_
      refine pw_iload (pc := 114) F dX9_isChanged_114 rfl ?_
      obtain ⟨x10, ex10, h⟩ := bnd h
      refine pw_lald (pc := 116) F dX9_isChanged_116 ex10 ?_
      refine pw_aload_n (pc := 117) F dX9_isChanged_117 rfl ?_
      obtain ⟨x11, ex11, h⟩ := bnd h
      refine pw_get (pc := 118) F 9 33 97 (by decide) (by decide) g_e5d5e6041e inl_9 2 rfl dX9_isChanged_118 ex11 ?_
      refine pw_iload (pc := 121) F dX9_isChanged_121 rfl ?_
      obtain ⟨x12, ex12, h⟩ := bnd h
      refine pw_lald (pc := 123) F dX9_isChanged_123 ex12 ?_
      refine pw_lcmp (pc := 124) F dX9_isChanged_124 ?_
      refine pw_if_eq (pc := 125) F 132 dX9_isChanged_125 (by decide) (fun hc => ?_) (fun hc => ?_)
      · have h := iteT hc h
        refine pw_iconst (pc := 132) F 0 dX9_isChanged_132 (by decide) ?_
        cases h
        exact pw_zret (pc := 133) F q (by decide) dX9_isChanged_133
      · have h := iteF hc h
        exact pw_mask [false, false, false, false, false, false, false, false] (ls' := [none, none, none, none, none, none, none, none]) rfl (jX9_isChanged_128_ok F q hn hf hl  z2.2 h)
def f_X9_isChanged (a0 a1 a2 a3 a4 a5 : Int) (H : PH) : RO := vm 9 a0 H <|
  (if a5 ≤ 0 then jX9_isChanged_51 a0 a1 a2 a3 a4 a5 H
  else (ld 25 H a0 2).bind fun x1 => (ld 0 H x1 a4).bind fun x2 => (f_X9_personsThen a0 a1 a3 x2 H).bind fun z3 => (ld 25 z3.2 a0 2).bind fun x4 => (ld 0 z3.2 x4 a4).bind fun x5 => (f_X9_personsThen a0 a2 a3 x5 z3.2).bind fun z6 => (if a5 > z3.1 then some (1, z6.2)
  else (if a5 ≤ z6.1 then jX9_isChanged_51 a0 a1 a2 a3 a4 a5 z6.2
  else some (1, z6.2))))
set_option maxHeartbeats 4000000 in
theorem m_X9_isChanged (l : Launch) (a0 a1 a2 a3 a4 a5 : Int) (H : PH) (rr : Int) (HH : PH) (h : f_X9_isChanged a0 a1 a2 a3 a4 a5 H = some (rr, HH)) : CT l yX9_isChanged cX9_isChanged 8 (some .boolean) 2 45 [vr a0, vi a1, vi a2, vi a3, vi a4, vi a5] H (some (vi rr)) HH := by
  refine CT.of RX9 (by decide) rfl [some (vr a0), some (vi a1), some (vi a2), some (vi a3), some (vi a4), some (vi a5), none, none] rfl rfl ?_
  intro E F q hn hf hl hm
  unfold f_X9_isChanged at h
  obtain ⟨hv, h⟩ := vm_spec h
  refine pw_iload (pc := 0) F dX9_isChanged_0 rfl ?_
  refine pw_if_le (pc := 2) F 51 dX9_isChanged_2 (by decide) (fun hc => ?_) (fun hc => ?_)
  · have h := iteT hc h
    exact pw_mask [true, true, true, true, true, true, true, true] (ls' := [some (vr a0), some (vi a1), some (vi a2), some (vi a3), some (vi a4), some (vi a5), none, none]) rfl (jX9_isChanged_51_ok F q hn hf hl a0 a1 a2 a3 a4 a5 H h)
  · have h := iteF hc h
    refine pw_aload_n (pc := 5) F dX9_isChanged_5 rfl ?_
    refine pw_iload_n (pc := 6) F dX9_isChanged_6 rfl ?_
    refine pw_iload_n (pc := 7) F dX9_isChanged_7 rfl ?_
    refine pw_aload_n (pc := 8) F dX9_isChanged_8 rfl ?_
    obtain ⟨x1, ex1, h⟩ := bnd h
    refine pw_get (pc := 9) F 9 2 13 (by decide) (by decide) g_0c2899f53f inl_9 2 rfl dX9_isChanged_9 ex1 ?_
    refine pw_iload (pc := 12) F dX9_isChanged_12 rfl ?_
    obtain ⟨x2, ex2, h⟩ := bnd h
    refine pw_iald (pc := 14) F dX9_isChanged_14 ex2 ?_
    obtain ⟨z3, ez3, h⟩ := bnd h
    refine pw_callV (pc := 15) (as := [vi a1, vi a3, vi x2]) (st := []) (r := (some (vi z3.1))) F 322 9 (by decide) rfl (fun l => m_X9_personsThen l a0 a1 a3 x2 H z3.1 z3.2 ez3) g_7240af1532 g_bbe3792e2d g_9a0cc18cc9 g_2759d91faa g_73f398285b hd_X9_personsThen (rm_ok hf hl (by decide) (by decide)) rfl (vm_spec ez3).1 dX9_isChanged_15 rfl (stk' := [vi z3.1]) rfl ?_
    refine pw_istore (pc := 18) F dX9_isChanged_18 (lt_nl hn (by decide)) [some (vr a0), some (vi a1), some (vi a2), some (vi a3), some (vi a4), some (vi a5), some (vi z3.1), none] rfl ?_
    refine pw_aload_n (pc := 20) F dX9_isChanged_20 rfl ?_
    refine pw_iload_n (pc := 21) F dX9_isChanged_21 rfl ?_
    refine pw_iload_n (pc := 22) F dX9_isChanged_22 rfl ?_
    refine pw_aload_n (pc := 23) F dX9_isChanged_23 rfl ?_
    obtain ⟨x4, ex4, h⟩ := bnd h
    refine pw_get (pc := 24) F 9 2 13 (by decide) (by decide) g_0c2899f53f inl_9 2 rfl dX9_isChanged_24 ex4 ?_
    refine pw_iload (pc := 27) F dX9_isChanged_27 rfl ?_
    obtain ⟨x5, ex5, h⟩ := bnd h
    refine pw_iald (pc := 29) F dX9_isChanged_29 ex5 ?_
    obtain ⟨z6, ez6, h⟩ := bnd h
    refine pw_callV (pc := 30) (as := [vi a2, vi a3, vi x5]) (st := []) (r := (some (vi z6.1))) F 322 9 (by decide) rfl (fun l => m_X9_personsThen l a0 a2 a3 x5 z3.2 z6.1 z6.2 ez6) g_7240af1532 g_bbe3792e2d g_9a0cc18cc9 g_2759d91faa g_73f398285b hd_X9_personsThen (rm_ok hf hl (by decide) (by decide)) rfl (vm_spec ez6).1 dX9_isChanged_30 rfl (stk' := [vi z6.1]) rfl ?_
    refine pw_istore (pc := 33) F dX9_isChanged_33 (lt_nl hn (by decide)) [some (vr a0), some (vi a1), some (vi a2), some (vi a3), some (vi a4), some (vi a5), some (vi z3.1), some (vi z6.1)] rfl ?_
    refine pw_iload (pc := 35) F dX9_isChanged_35 rfl ?_
    refine pw_iload (pc := 37) F dX9_isChanged_37 rfl ?_
    refine pw_icmp_gt (pc := 39) F 49 dX9_isChanged_39 (by decide) (fun hc => ?_) (fun hc => ?_)
    · have h := iteT hc h
      refine pw_iconst (pc := 49) F 1 dX9_isChanged_49 (by decide) ?_
      cases h
      exact pw_zret (pc := 50) F q (by decide) dX9_isChanged_50
    · have h := iteF hc h
      refine pw_iload (pc := 42) F dX9_isChanged_42 rfl ?_
      refine pw_iload (pc := 44) F dX9_isChanged_44 rfl ?_
      refine pw_icmp_le (pc := 46) F 51 dX9_isChanged_46 (by decide) (fun hc => ?_) (fun hc => ?_)
      · have h := iteT hc h
        exact pw_mask [true, true, true, true, true, true, false, false] (ls' := [some (vr a0), some (vi a1), some (vi a2), some (vi a3), some (vi a4), some (vi a5), none, none]) rfl (jX9_isChanged_51_ok F q hn hf hl a0 a1 a2 a3 a4 a5 z6.2 h)
      · have h := iteF hc h
        refine pw_iconst (pc := 49) F 1 dX9_isChanged_49 (by decide) ?_
        cases h
        exact pw_zret (pc := 50) F q (by decide) dX9_isChanged_50
/-! HouseholdVaultModel.countChanges(III)I -/
theorem dX9_countChanges_0 : decode cX9_countChanges 0 = .ok (.iconst 0, 1) := by decide +kernel
theorem dX9_countChanges_1 : decode cX9_countChanges 1 = .ok (.istore 4, 2) := by decide +kernel
theorem dX9_countChanges_3 : decode cX9_countChanges 3 = .ok (.aload_n 0, 1) := by decide +kernel
theorem dX9_countChanges_4 : decode cX9_countChanges 4 = .ok (.getfield 90, 3) := by decide +kernel
theorem dX9_countChanges_7 : decode cX9_countChanges 7 = .ok (.iload_n 1, 1) := by decide +kernel
theorem dX9_countChanges_8 : decode cX9_countChanges 8 = .ok (.iaload, 1) := by decide +kernel
theorem dX9_countChanges_9 : decode cX9_countChanges 9 = .ok (.aload_n 0, 1) := by decide +kernel
theorem dX9_countChanges_10 : decode cX9_countChanges 10 = .ok (.getfield 90, 3) := by decide +kernel
theorem dX9_countChanges_13 : decode cX9_countChanges 13 = .ok (.iload_n 2, 1) := by decide +kernel
theorem dX9_countChanges_14 : decode cX9_countChanges 14 = .ok (.iaload, 1) := by decide +kernel
theorem dX9_countChanges_15 : decode cX9_countChanges 15 = .ok (.if_icmp .ge 12, 3) := by decide +kernel
theorem dX9_countChanges_18 : decode cX9_countChanges 18 = .ok (.aload_n 0, 1) := by decide +kernel
theorem dX9_countChanges_19 : decode cX9_countChanges 19 = .ok (.getfield 90, 3) := by decide +kernel
theorem dX9_countChanges_22 : decode cX9_countChanges 22 = .ok (.iload_n 1, 1) := by decide +kernel
theorem dX9_countChanges_23 : decode cX9_countChanges 23 = .ok (.iaload, 1) := by decide +kernel
theorem dX9_countChanges_24 : decode cX9_countChanges 24 = .ok (.goto 9, 3) := by decide +kernel
theorem dX9_countChanges_27 : decode cX9_countChanges 27 = .ok (.aload_n 0, 1) := by decide +kernel
theorem dX9_countChanges_28 : decode cX9_countChanges 28 = .ok (.getfield 90, 3) := by decide +kernel
theorem dX9_countChanges_31 : decode cX9_countChanges 31 = .ok (.iload_n 2, 1) := by decide +kernel
theorem dX9_countChanges_32 : decode cX9_countChanges 32 = .ok (.iaload, 1) := by decide +kernel
theorem dX9_countChanges_33 : decode cX9_countChanges 33 = .ok (.istore 5, 2) := by decide +kernel
theorem dX9_countChanges_35 : decode cX9_countChanges 35 = .ok (.aload_n 0, 1) := by decide +kernel
theorem dX9_countChanges_36 : decode cX9_countChanges 36 = .ok (.getfield 93, 3) := by decide +kernel
theorem dX9_countChanges_39 : decode cX9_countChanges 39 = .ok (.iload_n 1, 1) := by decide +kernel
theorem dX9_countChanges_40 : decode cX9_countChanges 40 = .ok (.iaload, 1) := by decide +kernel
theorem dX9_countChanges_41 : decode cX9_countChanges 41 = .ok (.aload_n 0, 1) := by decide +kernel
theorem dX9_countChanges_42 : decode cX9_countChanges 42 = .ok (.getfield 93, 3) := by decide +kernel
theorem dX9_countChanges_45 : decode cX9_countChanges 45 = .ok (.iload_n 2, 1) := by decide +kernel
theorem dX9_countChanges_46 : decode cX9_countChanges 46 = .ok (.iaload, 1) := by decide +kernel
theorem dX9_countChanges_47 : decode cX9_countChanges 47 = .ok (.if_icmp .ge 12, 3) := by decide +kernel
theorem dX9_countChanges_50 : decode cX9_countChanges 50 = .ok (.aload_n 0, 1) := by decide +kernel
theorem dX9_countChanges_51 : decode cX9_countChanges 51 = .ok (.getfield 93, 3) := by decide +kernel
theorem dX9_countChanges_54 : decode cX9_countChanges 54 = .ok (.iload_n 1, 1) := by decide +kernel
theorem dX9_countChanges_55 : decode cX9_countChanges 55 = .ok (.iaload, 1) := by decide +kernel
theorem dX9_countChanges_56 : decode cX9_countChanges 56 = .ok (.goto 9, 3) := by decide +kernel
theorem dX9_countChanges_59 : decode cX9_countChanges 59 = .ok (.aload_n 0, 1) := by decide +kernel
theorem dX9_countChanges_60 : decode cX9_countChanges 60 = .ok (.getfield 93, 3) := by decide +kernel
theorem dX9_countChanges_63 : decode cX9_countChanges 63 = .ok (.iload_n 2, 1) := by decide +kernel
theorem dX9_countChanges_64 : decode cX9_countChanges 64 = .ok (.iaload, 1) := by decide +kernel
theorem dX9_countChanges_65 : decode cX9_countChanges 65 = .ok (.istore 6, 2) := by decide +kernel
theorem dX9_countChanges_67 : decode cX9_countChanges 67 = .ok (.iconst 0, 1) := by decide +kernel
theorem dX9_countChanges_68 : decode cX9_countChanges 68 = .ok (.istore 7, 2) := by decide +kernel
theorem dX9_countChanges_70 : decode cX9_countChanges 70 = .ok (.iload 7, 2) := by decide +kernel
theorem dX9_countChanges_72 : decode cX9_countChanges 72 = .ok (.iload 5, 2) := by decide +kernel
theorem dX9_countChanges_74 : decode cX9_countChanges 74 = .ok (.if_icmp .ge 185, 3) := by decide +kernel
theorem dX9_countChanges_77 : decode cX9_countChanges 77 = .ok (.iconst 0, 1) := by decide +kernel
theorem dX9_countChanges_78 : decode cX9_countChanges 78 = .ok (.istore 8, 2) := by decide +kernel
theorem dX9_countChanges_80 : decode cX9_countChanges 80 = .ok (.iload 8, 2) := by decide +kernel
theorem dX9_countChanges_82 : decode cX9_countChanges 82 = .ok (.iload 6, 2) := by decide +kernel
theorem dX9_countChanges_84 : decode cX9_countChanges 84 = .ok (.if_icmp .ge 169, 3) := by decide +kernel
theorem dX9_countChanges_87 : decode cX9_countChanges 87 = .ok (.aload_n 0, 1) := by decide +kernel
theorem dX9_countChanges_88 : decode cX9_countChanges 88 = .ok (.getfield 13, 3) := by decide +kernel
theorem dX9_countChanges_91 : decode cX9_countChanges 91 = .ok (.iload 8, 2) := by decide +kernel
theorem dX9_countChanges_93 : decode cX9_countChanges 93 = .ok (.iaload, 1) := by decide +kernel
theorem dX9_countChanges_94 : decode cX9_countChanges 94 = .ok (.ifCond .ge 7, 3) := by decide +kernel
theorem dX9_countChanges_97 : decode cX9_countChanges 97 = .ok (.iconst 0, 1) := by decide +kernel
theorem dX9_countChanges_98 : decode cX9_countChanges 98 = .ok (.goto 17, 3) := by decide +kernel
theorem dX9_countChanges_101 : decode cX9_countChanges 101 = .ok (.aload_n 0, 1) := by decide +kernel
theorem dX9_countChanges_102 : decode cX9_countChanges 102 = .ok (.iload_n 1, 1) := by decide +kernel
theorem dX9_countChanges_103 : decode cX9_countChanges 103 = .ok (.iload 7, 2) := by decide +kernel
theorem dX9_countChanges_105 : decode cX9_countChanges 105 = .ok (.aload_n 0, 1) := by decide +kernel
theorem dX9_countChanges_106 : decode cX9_countChanges 106 = .ok (.getfield 13, 3) := by decide +kernel
theorem dX9_countChanges_109 : decode cX9_countChanges 109 = .ok (.iload 8, 2) := by decide +kernel
theorem dX9_countChanges_111 : decode cX9_countChanges 111 = .ok (.iaload, 1) := by decide +kernel
theorem dX9_countChanges_112 : decode cX9_countChanges 112 = .ok (.invokevirtual 322, 3) := by decide +kernel
theorem dX9_countChanges_115 : decode cX9_countChanges 115 = .ok (.istore 9, 2) := by decide +kernel
theorem dX9_countChanges_117 : decode cX9_countChanges 117 = .ok (.aload_n 0, 1) := by decide +kernel
theorem dX9_countChanges_118 : decode cX9_countChanges 118 = .ok (.getfield 13, 3) := by decide +kernel
theorem dX9_countChanges_121 : decode cX9_countChanges 121 = .ok (.iload 8, 2) := by decide +kernel
theorem dX9_countChanges_123 : decode cX9_countChanges 123 = .ok (.iaload, 1) := by decide +kernel
theorem dX9_countChanges_124 : decode cX9_countChanges 124 = .ok (.ifCond .ge 7, 3) := by decide +kernel
theorem dX9_countChanges_127 : decode cX9_countChanges 127 = .ok (.iconst 0, 1) := by decide +kernel
theorem dX9_countChanges_128 : decode cX9_countChanges 128 = .ok (.goto 17, 3) := by decide +kernel
theorem dX9_countChanges_131 : decode cX9_countChanges 131 = .ok (.aload_n 0, 1) := by decide +kernel
theorem dX9_countChanges_132 : decode cX9_countChanges 132 = .ok (.iload_n 2, 1) := by decide +kernel
theorem dX9_countChanges_133 : decode cX9_countChanges 133 = .ok (.iload 7, 2) := by decide +kernel
theorem dX9_countChanges_135 : decode cX9_countChanges 135 = .ok (.aload_n 0, 1) := by decide +kernel
theorem dX9_countChanges_136 : decode cX9_countChanges 136 = .ok (.getfield 13, 3) := by decide +kernel
theorem dX9_countChanges_139 : decode cX9_countChanges 139 = .ok (.iload 8, 2) := by decide +kernel
theorem dX9_countChanges_141 : decode cX9_countChanges 141 = .ok (.iaload, 1) := by decide +kernel
theorem dX9_countChanges_142 : decode cX9_countChanges 142 = .ok (.invokevirtual 322, 3) := by decide +kernel
theorem dX9_countChanges_145 : decode cX9_countChanges 145 = .ok (.istore 10, 2) := by decide +kernel
theorem dX9_countChanges_147 : decode cX9_countChanges 147 = .ok (.iload 9, 2) := by decide +kernel
theorem dX9_countChanges_149 : decode cX9_countChanges 149 = .ok (.iload 10, 2) := by decide +kernel
theorem dX9_countChanges_151 : decode cX9_countChanges 151 = .ok (.if_icmp .le 8, 3) := by decide +kernel
theorem dX9_countChanges_154 : decode cX9_countChanges 154 = .ok (.iload 9, 2) := by decide +kernel
theorem dX9_countChanges_156 : decode cX9_countChanges 156 = .ok (.goto 5, 3) := by decide +kernel
theorem dX9_countChanges_159 : decode cX9_countChanges 159 = .ok (.iload 10, 2) := by decide +kernel
theorem dX9_countChanges_161 : decode cX9_countChanges 161 = .ok (.istore 11, 2) := by decide +kernel
theorem dX9_countChanges_163 : decode cX9_countChanges 163 = .ok (.aload_n 0, 1) := by decide +kernel
theorem dX9_countChanges_164 : decode cX9_countChanges 164 = .ok (.getfield 13, 3) := by decide +kernel
theorem dX9_countChanges_167 : decode cX9_countChanges 167 = .ok (.iload 8, 2) := by decide +kernel
theorem dX9_countChanges_169 : decode cX9_countChanges 169 = .ok (.iaload, 1) := by decide +kernel
theorem dX9_countChanges_170 : decode cX9_countChanges 170 = .ok (.ifCond .ge 7, 3) := by decide +kernel
theorem dX9_countChanges_173 : decode cX9_countChanges 173 = .ok (.iconst 0, 1) := by decide +kernel
theorem dX9_countChanges_174 : decode cX9_countChanges 174 = .ok (.goto 4, 3) := by decide +kernel
theorem dX9_countChanges_177 : decode cX9_countChanges 177 = .ok (.iconst 1, 1) := by decide +kernel
theorem dX9_countChanges_178 : decode cX9_countChanges 178 = .ok (.istore 12, 2) := by decide +kernel
theorem dX9_countChanges_180 : decode cX9_countChanges 180 = .ok (.iload 12, 2) := by decide +kernel
theorem dX9_countChanges_182 : decode cX9_countChanges 182 = .ok (.iload 11, 2) := by decide +kernel
theorem dX9_countChanges_184 : decode cX9_countChanges 184 = .ok (.if_icmp .gt 63, 3) := by decide +kernel
theorem dX9_countChanges_187 : decode cX9_countChanges 187 = .ok (.aload_n 0, 1) := by decide +kernel
theorem dX9_countChanges_188 : decode cX9_countChanges 188 = .ok (.getfield 16, 3) := by decide +kernel
theorem dX9_countChanges_191 : decode cX9_countChanges 191 = .ok (.iload 8, 2) := by decide +kernel
theorem dX9_countChanges_193 : decode cX9_countChanges 193 = .ok (.iaload, 1) := by decide +kernel
theorem dX9_countChanges_194 : decode cX9_countChanges 194 = .ok (.ifCond .ne 53, 3) := by decide +kernel
theorem dX9_countChanges_197 : decode cX9_countChanges 197 = .ok (.aload_n 0, 1) := by decide +kernel
theorem dX9_countChanges_198 : decode cX9_countChanges 198 = .ok (.iload_n 1, 1) := by decide +kernel
theorem dX9_countChanges_199 : decode cX9_countChanges 199 = .ok (.iload_n 2, 1) := by decide +kernel
theorem dX9_countChanges_200 : decode cX9_countChanges 200 = .ok (.iload 7, 2) := by decide +kernel
theorem dX9_countChanges_202 : decode cX9_countChanges 202 = .ok (.iload 8, 2) := by decide +kernel
theorem dX9_countChanges_204 : decode cX9_countChanges 204 = .ok (.iload 12, 2) := by decide +kernel
theorem dX9_countChanges_206 : decode cX9_countChanges 206 = .ok (.invokevirtual 328, 3) := by decide +kernel
theorem dX9_countChanges_209 : decode cX9_countChanges 209 = .ok (.ifCond .eq 32, 3) := by decide +kernel
theorem dX9_countChanges_212 : decode cX9_countChanges 212 = .ok (.iload 4, 2) := by decide +kernel
theorem dX9_countChanges_214 : decode cX9_countChanges 214 = .ok (.iload_n 3, 1) := by decide +kernel
theorem dX9_countChanges_215 : decode cX9_countChanges 215 = .ok (.if_icmp .ne 23, 3) := by decide +kernel
theorem dX9_countChanges_218 : decode cX9_countChanges 218 = .ok (.aload_n 0, 1) := by decide +kernel
theorem dX9_countChanges_219 : decode cX9_countChanges 219 = .ok (.iload 7, 2) := by decide +kernel
theorem dX9_countChanges_221 : decode cX9_countChanges 221 = .ok (.putfield 245, 3) := by decide +kernel
theorem dX9_countChanges_224 : decode cX9_countChanges 224 = .ok (.aload_n 0, 1) := by decide +kernel
theorem dX9_countChanges_225 : decode cX9_countChanges 225 = .ok (.iload 8, 2) := by decide +kernel
theorem dX9_countChanges_227 : decode cX9_countChanges 227 = .ok (.putfield 248, 3) := by decide +kernel
theorem dX9_countChanges_230 : decode cX9_countChanges 230 = .ok (.aload_n 0, 1) := by decide +kernel
theorem dX9_countChanges_231 : decode cX9_countChanges 231 = .ok (.iload 12, 2) := by decide +kernel
theorem dX9_countChanges_233 : decode cX9_countChanges 233 = .ok (.iconst 1, 1) := by decide +kernel
theorem dX9_countChanges_234 : decode cX9_countChanges 234 = .ok (.isub, 1) := by decide +kernel
theorem dX9_countChanges_235 : decode cX9_countChanges 235 = .ok (.putfield 251, 3) := by decide +kernel
theorem dX9_countChanges_238 : decode cX9_countChanges 238 = .ok (.iinc 4 1, 3) := by decide +kernel
theorem dX9_countChanges_241 : decode cX9_countChanges 241 = .ok (.iinc 12 1, 3) := by decide +kernel
theorem dX9_countChanges_244 : decode cX9_countChanges 244 = .ok (.goto (-64), 3) := by decide +kernel
theorem dX9_countChanges_247 : decode cX9_countChanges 247 = .ok (.iinc 8 1, 3) := by decide +kernel
theorem dX9_countChanges_250 : decode cX9_countChanges 250 = .ok (.goto (-170), 3) := by decide +kernel
theorem dX9_countChanges_253 : decode cX9_countChanges 253 = .ok (.iinc 7 1, 3) := by decide +kernel
theorem dX9_countChanges_256 : decode cX9_countChanges 256 = .ok (.goto (-186), 3) := by decide +kernel
theorem dX9_countChanges_259 : decode cX9_countChanges 259 = .ok (.iload 4, 2) := by decide +kernel
theorem dX9_countChanges_261 : decode cX9_countChanges 261 = .ok (.ireturn, 1) := by decide +kernel
def jX9_countChanges_247 (self70 : Int → Int → PH → RO) (self80 : Int → Int → PH → RO) (p0 p1 p2 p3 p4 p5 p6 p7 p8 : Int) (H : PH) : RO :=
  self80 p4 (w32 (p8 + 1)) H
set_option maxHeartbeats 4000000 in
theorem jX9_countChanges_247_ok {E : PE} {rr : Int} {HH : PH} (F : FX E cX9_countChanges RX9) (q : QE E (some (vi rr)) HH (some .int)) (hn : nLof E = 13) (hf : (roomOf E).frames = 3) (hl : (roomOf E).locals = 72) (self70 : Int → Int → PH → RO) (self80 : Int → Int → PH → RO) (p0 p1 p2 p3 p4 p5 p6 p7 p8 : Int) (H : PH) (ih70 : ∀ (v4 v7 : Int) (HV : PH), self70 v4 v7 HV = some (rr, HH) → PW E 70 [some (vr p0), some (vi p1), some (vi p2), some (vi p3), some (vi v4), some (vi p5), some (vi p6), some (vi v7), none, none, none, none, none] [] HV) (ih80 : ∀ (v4 v8 : Int) (HV : PH), self80 v4 v8 HV = some (rr, HH) → PW E 80 [some (vr p0), some (vi p1), some (vi p2), some (vi p3), some (vi v4), some (vi p5), some (vi p6), some (vi p7), some (vi v8), none, none, none, none] [] HV) (h : jX9_countChanges_247 self70 self80 p0 p1 p2 p3 p4 p5 p6 p7 p8 H = some (rr, HH)) : PW E 247 [some (vr p0), some (vi p1), some (vi p2), some (vi p3), some (vi p4), some (vi p5), some (vi p6), some (vi p7), some (vi p8), none, none, none, none] [] H := by
  unfold jX9_countChanges_247 at h
  refine pw_iinc (pc := 247) F dX9_countChanges_247 rfl (lt_nl hn (by decide)) [some (vr p0), some (vi p1), some (vi p2), some (vi p3), some (vi p4), some (vi p5), some (vi p6), some (vi p7), some (vi (w32 (p8 + 1))), none, none, none, none] rfl (by decide) ?_
  refine pw_goto (pc := 250) F 80 dX9_countChanges_250 (by decide) ?_
  exact pw_mask [true, true, true, true, true, true, true, true, true, true, true, true, true] (ls' := [some (vr p0), some (vi p1), some (vi p2), some (vi p3), some (vi p4), some (vi p5), some (vi p6), some (vi p7), some (vi (w32 (p8 + 1))), none, none, none, none]) rfl (ih80 p4 (w32 (p8 + 1)) H h)
def jX9_countChanges_241 (self70 : Int → Int → PH → RO) (self80 : Int → Int → PH → RO) (self180 : Int → Int → PH → RO) (p0 p1 p2 p3 p4 p5 p6 p7 p8 p11 p12 : Int) (H : PH) : RO :=
  self180 p4 (w32 (p12 + 1)) H
set_option maxHeartbeats 4000000 in
theorem jX9_countChanges_241_ok {E : PE} {rr : Int} {HH : PH} (F : FX E cX9_countChanges RX9) (q : QE E (some (vi rr)) HH (some .int)) (hn : nLof E = 13) (hf : (roomOf E).frames = 3) (hl : (roomOf E).locals = 72) (self70 : Int → Int → PH → RO) (self80 : Int → Int → PH → RO) (self180 : Int → Int → PH → RO) (p0 p1 p2 p3 p4 p5 p6 p7 p8 p11 p12 : Int) (H : PH) (ih70 : ∀ (v4 v7 : Int) (HV : PH), self70 v4 v7 HV = some (rr, HH) → PW E 70 [some (vr p0), some (vi p1), some (vi p2), some (vi p3), some (vi v4), some (vi p5), some (vi p6), some (vi v7), none, none, none, none, none] [] HV) (ih80 : ∀ (v4 v8 : Int) (HV : PH), self80 v4 v8 HV = some (rr, HH) → PW E 80 [some (vr p0), some (vi p1), some (vi p2), some (vi p3), some (vi v4), some (vi p5), some (vi p6), some (vi p7), some (vi v8), none, none, none, none] [] HV) (ih180 : ∀ (v4 v12 : Int) (HV : PH), self180 v4 v12 HV = some (rr, HH) → PW E 180 [some (vr p0), some (vi p1), some (vi p2), some (vi p3), some (vi v4), some (vi p5), some (vi p6), some (vi p7), some (vi p8), none, none, some (vi p11), some (vi v12)] [] HV) (h : jX9_countChanges_241 self70 self80 self180 p0 p1 p2 p3 p4 p5 p6 p7 p8 p11 p12 H = some (rr, HH)) : PW E 241 [some (vr p0), some (vi p1), some (vi p2), some (vi p3), some (vi p4), some (vi p5), some (vi p6), some (vi p7), some (vi p8), none, none, some (vi p11), some (vi p12)] [] H := by
  unfold jX9_countChanges_241 at h
  refine pw_iinc (pc := 241) F dX9_countChanges_241 rfl (lt_nl hn (by decide)) [some (vr p0), some (vi p1), some (vi p2), some (vi p3), some (vi p4), some (vi p5), some (vi p6), some (vi p7), some (vi p8), none, none, some (vi p11), some (vi (w32 (p12 + 1)))] rfl (by decide) ?_
  refine pw_goto (pc := 244) F 180 dX9_countChanges_244 (by decide) ?_
  exact pw_mask [true, true, true, true, true, true, true, true, true, true, true, true, true] (ls' := [some (vr p0), some (vi p1), some (vi p2), some (vi p3), some (vi p4), some (vi p5), some (vi p6), some (vi p7), some (vi p8), none, none, some (vi p11), some (vi (w32 (p12 + 1)))]) rfl (ih180 p4 (w32 (p12 + 1)) H h)
def jX9_countChanges_238 (self70 : Int → Int → PH → RO) (self80 : Int → Int → PH → RO) (self180 : Int → Int → PH → RO) (p0 p1 p2 p3 p4 p5 p6 p7 p8 p11 p12 : Int) (H : PH) : RO :=
  jX9_countChanges_241 self70 self80 self180 p0 p1 p2 p3 (w32 (p4 + 1)) p5 p6 p7 p8 p11 p12 H
set_option maxHeartbeats 4000000 in
theorem jX9_countChanges_238_ok {E : PE} {rr : Int} {HH : PH} (F : FX E cX9_countChanges RX9) (q : QE E (some (vi rr)) HH (some .int)) (hn : nLof E = 13) (hf : (roomOf E).frames = 3) (hl : (roomOf E).locals = 72) (self70 : Int → Int → PH → RO) (self80 : Int → Int → PH → RO) (self180 : Int → Int → PH → RO) (p0 p1 p2 p3 p4 p5 p6 p7 p8 p11 p12 : Int) (H : PH) (ih70 : ∀ (v4 v7 : Int) (HV : PH), self70 v4 v7 HV = some (rr, HH) → PW E 70 [some (vr p0), some (vi p1), some (vi p2), some (vi p3), some (vi v4), some (vi p5), some (vi p6), some (vi v7), none, none, none, none, none] [] HV) (ih80 : ∀ (v4 v8 : Int) (HV : PH), self80 v4 v8 HV = some (rr, HH) → PW E 80 [some (vr p0), some (vi p1), some (vi p2), some (vi p3), some (vi v4), some (vi p5), some (vi p6), some (vi p7), some (vi v8), none, none, none, none] [] HV) (ih180 : ∀ (v4 v12 : Int) (HV : PH), self180 v4 v12 HV = some (rr, HH) → PW E 180 [some (vr p0), some (vi p1), some (vi p2), some (vi p3), some (vi v4), some (vi p5), some (vi p6), some (vi p7), some (vi p8), none, none, some (vi p11), some (vi v12)] [] HV) (h : jX9_countChanges_238 self70 self80 self180 p0 p1 p2 p3 p4 p5 p6 p7 p8 p11 p12 H = some (rr, HH)) : PW E 238 [some (vr p0), some (vi p1), some (vi p2), some (vi p3), some (vi p4), some (vi p5), some (vi p6), some (vi p7), some (vi p8), none, none, some (vi p11), some (vi p12)] [] H := by
  unfold jX9_countChanges_238 at h
  refine pw_iinc (pc := 238) F dX9_countChanges_238 rfl (lt_nl hn (by decide)) [some (vr p0), some (vi p1), some (vi p2), some (vi p3), some (vi (w32 (p4 + 1))), some (vi p5), some (vi p6), some (vi p7), some (vi p8), none, none, some (vi p11), some (vi p12)] rfl (by decide) ?_
  exact pw_mask [true, true, true, true, true, true, true, true, true, true, true, true, true] (ls' := [some (vr p0), some (vi p1), some (vi p2), some (vi p3), some (vi (w32 (p4 + 1))), some (vi p5), some (vi p6), some (vi p7), some (vi p8), none, none, some (vi p11), some (vi p12)]) rfl (jX9_countChanges_241_ok F q hn hf hl self70 self80 self180 p0 p1 p2 p3 (w32 (p4 + 1)) p5 p6 p7 p8 p11 p12 H ih70 ih80 ih180 h)
def lX9_countChanges_180 (self70 : Int → Int → PH → RO) (self80 : Int → Int → PH → RO) (p0 p1 p2 p3 p5 p6 p7 p8 p11 : Int) (self180 : Int → Int → PH → RO) (p4 p12 : Int) (H : PH) : RO :=
  (if p12 > p11 then jX9_countChanges_247 self70 self80 p0 p1 p2 p3 p4 p5 p6 p7 p8 H
  else (ld 25 H p0 3).bind fun x1 => (ld 0 H x1 p8).bind fun x2 => (if x2 ≠ 0 then jX9_countChanges_247 self70 self80 p0 p1 p2 p3 p4 p5 p6 p7 p8 H
  else (f_X9_isChanged p0 p1 p2 p7 p8 p12 H).bind fun z3 => (if z3.1 = 0 then jX9_countChanges_241 self70 self80 self180 p0 p1 p2 p3 p4 p5 p6 p7 p8 p11 p12 z3.2
  else (if p4 ≠ p3 then jX9_countChanges_238 self70 self80 self180 p0 p1 p2 p3 p4 p5 p6 p7 p8 p11 p12 z3.2
  else (stv 25 z3.2 p0 46 p7).bind fun H4 => (stv 25 H4 p0 47 p8).bind fun H5 => (stv 25 H5 p0 48 (w32 (p12 - 1))).bind fun H6 => jX9_countChanges_238 self70 self80 self180 p0 p1 p2 p3 p4 p5 p6 p7 p8 p11 p12 H6))))
set_option maxHeartbeats 4000000 in
theorem lX9_countChanges_180_ok {E : PE} {rr : Int} {HH : PH} (F : FX E cX9_countChanges RX9) (q : QE E (some (vi rr)) HH (some .int)) (hn : nLof E = 13) (hf : (roomOf E).frames = 3) (hl : (roomOf E).locals = 72) (self70 : Int → Int → PH → RO) (self80 : Int → Int → PH → RO) (p0 p1 p2 p3 p5 p6 p7 p8 p11 : Int) (ih70 : ∀ (v4 v7 : Int) (HV : PH), self70 v4 v7 HV = some (rr, HH) → PW E 70 [some (vr p0), some (vi p1), some (vi p2), some (vi p3), some (vi v4), some (vi p5), some (vi p6), some (vi v7), none, none, none, none, none] [] HV) (ih80 : ∀ (v4 v8 : Int) (HV : PH), self80 v4 v8 HV = some (rr, HH) → PW E 80 [some (vr p0), some (vi p1), some (vi p2), some (vi p3), some (vi v4), some (vi p5), some (vi p6), some (vi p7), some (vi v8), none, none, none, none] [] HV) : ∀ (n : Nat) (p4 p12 : Int) (H : PH), lq2 (lX9_countChanges_180 self70 self80 p0 p1 p2 p3 p5 p6 p7 p8 p11) n p4 p12 H = some (rr, HH) → PW E 180 [some (vr p0), some (vi p1), some (vi p2), some (vi p3), some (vi p4), some (vi p5), some (vi p6), some (vi p7), some (vi p8), none, none, some (vi p11), some (vi p12)] [] H := by
  refine lq2_ind (P := fun p4 p12 H => PW E 180 [some (vr p0), some (vi p1), some (vi p2), some (vi p3), some (vi p4), some (vi p5), some (vi p6), some (vi p7), some (vi p8), none, none, some (vi p11), some (vi p12)] [] H) ?_
  intro self180 ih180 p4 p12 H h
  unfold lX9_countChanges_180 at h
  refine pw_iload (pc := 180) F dX9_countChanges_180 rfl ?_
  refine pw_iload (pc := 182) F dX9_countChanges_182 rfl ?_
  refine pw_icmp_gt (pc := 184) F 247 dX9_countChanges_184 (by decide) (fun hc => ?_) (fun hc => ?_)
  · have h := iteT hc h
    exact pw_mask [true, true, true, true, true, true, true, true, true, true, true, false, false] (ls' := [some (vr p0), some (vi p1), some (vi p2), some (vi p3), some (vi p4), some (vi p5), some (vi p6), some (vi p7), some (vi p8), none, none, none, none]) rfl (jX9_countChanges_247_ok F q hn hf hl self70 self80 p0 p1 p2 p3 p4 p5 p6 p7 p8 H ih70 ih80 h)
  · have h := iteF hc h
    refine pw_aload_n (pc := 187) F dX9_countChanges_187 rfl ?_
    obtain ⟨x1, ex1, h⟩ := bnd h
    refine pw_get (pc := 188) F 9 3 16 (by decide) (by decide) g_bd19d270ba inl_9 2 rfl dX9_countChanges_188 ex1 ?_
    refine pw_iload (pc := 191) F dX9_countChanges_191 rfl ?_
    obtain ⟨x2, ex2, h⟩ := bnd h
    refine pw_iald (pc := 193) F dX9_countChanges_193 ex2 ?_
    refine pw_if_ne (pc := 194) F 247 dX9_countChanges_194 (by decide) (fun hc => ?_) (fun hc => ?_)
    · have h := iteT hc h
      exact pw_mask [true, true, true, true, true, true, true, true, true, true, true, false, false] (ls' := [some (vr p0), some (vi p1), some (vi p2), some (vi p3), some (vi p4), some (vi p5), some (vi p6), some (vi p7), some (vi p8), none, none, none, none]) rfl (jX9_countChanges_247_ok F q hn hf hl self70 self80 p0 p1 p2 p3 p4 p5 p6 p7 p8 H ih70 ih80 h)
    · have h := iteF hc h
      refine pw_aload_n (pc := 197) F dX9_countChanges_197 rfl ?_
      refine pw_iload_n (pc := 198) F dX9_countChanges_198 rfl ?_
      refine pw_iload_n (pc := 199) F dX9_countChanges_199 rfl ?_
      refine pw_iload (pc := 200) F dX9_countChanges_200 rfl ?_
      refine pw_iload (pc := 202) F dX9_countChanges_202 rfl ?_
      refine pw_iload (pc := 204) F dX9_countChanges_204 rfl ?_
      obtain ⟨z3, ez3, h⟩ := bnd h
      refine pw_callV (pc := 206) (as := [vi p1, vi p2, vi p7, vi p8, vi p12]) (st := []) (r := (some (vi z3.1))) F 328 9 (by decide) rfl (fun l => m_X9_isChanged l p0 p1 p2 p7 p8 p12 H z3.1 z3.2 ez3) g_e3435001ab g_448621e89d g_2f1b386174 g_2759d91faa g_ba368c083b hd_X9_isChanged (rm_ok hf hl (by decide) (by decide)) rfl (vm_spec ez3).1 dX9_countChanges_206 rfl (stk' := [vi z3.1]) rfl ?_
      refine pw_if_eq (pc := 209) F 241 dX9_countChanges_209 (by decide) (fun hc => ?_) (fun hc => ?_)
      · have h := iteT hc h
        exact pw_mask [true, true, true, true, true, true, true, true, true, true, true, true, true] (ls' := [some (vr p0), some (vi p1), some (vi p2), some (vi p3), some (vi p4), some (vi p5), some (vi p6), some (vi p7), some (vi p8), none, none, some (vi p11), some (vi p12)]) rfl (jX9_countChanges_241_ok F q hn hf hl self70 self80 self180 p0 p1 p2 p3 p4 p5 p6 p7 p8 p11 p12 z3.2 ih70 ih80 ih180 h)
      · have h := iteF hc h
        refine pw_iload (pc := 212) F dX9_countChanges_212 rfl ?_
        refine pw_iload_n (pc := 214) F dX9_countChanges_214 rfl ?_
        refine pw_icmp_ne (pc := 215) F 238 dX9_countChanges_215 (by decide) (fun hc => ?_) (fun hc => ?_)
        · have h := iteT hc h
          exact pw_mask [true, true, true, true, true, true, true, true, true, true, true, true, true] (ls' := [some (vr p0), some (vi p1), some (vi p2), some (vi p3), some (vi p4), some (vi p5), some (vi p6), some (vi p7), some (vi p8), none, none, some (vi p11), some (vi p12)]) rfl (jX9_countChanges_238_ok F q hn hf hl self70 self80 self180 p0 p1 p2 p3 p4 p5 p6 p7 p8 p11 p12 z3.2 ih70 ih80 ih180 h)
        · have h := iteF hc h
          refine pw_aload_n (pc := 218) F dX9_countChanges_218 rfl ?_
          refine pw_iload (pc := 219) F dX9_countChanges_219 rfl ?_
          obtain ⟨H4, eH4, h⟩ := bnd h
          refine pw_put (pc := 221) F 9 46 245 (by decide) (by decide) g_5eda813601 inl_9 rfl 0 rfl dX9_countChanges_221 trivial eH4 ?_
          refine pw_aload_n (pc := 224) F dX9_countChanges_224 rfl ?_
          refine pw_iload (pc := 225) F dX9_countChanges_225 rfl ?_
          obtain ⟨H5, eH5, h⟩ := bnd h
          refine pw_put (pc := 227) F 9 47 248 (by decide) (by decide) g_b49cc09124 inl_9 rfl 0 rfl dX9_countChanges_227 trivial eH5 ?_
          refine pw_aload_n (pc := 230) F dX9_countChanges_230 rfl ?_
          refine pw_iload (pc := 231) F dX9_countChanges_231 rfl ?_
          refine pw_iconst (pc := 233) F 1 dX9_countChanges_233 (by decide) ?_
          refine pw_isub (pc := 234) F dX9_countChanges_234 ?_
          obtain ⟨H6, eH6, h⟩ := bnd h
          refine pw_put (pc := 235) F 9 48 251 (by decide) (by decide) g_cc779e6b53 inl_9 rfl 0 rfl dX9_countChanges_235 trivial eH6 ?_
          exact pw_mask [true, true, true, true, true, true, true, true, true, true, true, true, true] (ls' := [some (vr p0), some (vi p1), some (vi p2), some (vi p3), some (vi p4), some (vi p5), some (vi p6), some (vi p7), some (vi p8), none, none, some (vi p11), some (vi p12)]) rfl (jX9_countChanges_238_ok F q hn hf hl self70 self80 self180 p0 p1 p2 p3 p4 p5 p6 p7 p8 p11 p12 H6 ih70 ih80 ih180 h)
def jX9_countChanges_178 (self70 : Int → Int → PH → RO) (self80 : Int → Int → PH → RO) (p0 p1 p2 p3 p4 p5 p6 p7 p8 p11 s0 : Int) (H : PH) : RO :=
  lq2 (lX9_countChanges_180 self70 self80 p0 p1 p2 p3 p5 p6 p7 p8 p11) 6000 p4 s0 H
set_option maxHeartbeats 4000000 in
theorem jX9_countChanges_178_ok {E : PE} {rr : Int} {HH : PH} (F : FX E cX9_countChanges RX9) (q : QE E (some (vi rr)) HH (some .int)) (hn : nLof E = 13) (hf : (roomOf E).frames = 3) (hl : (roomOf E).locals = 72) (self70 : Int → Int → PH → RO) (self80 : Int → Int → PH → RO) (p0 p1 p2 p3 p4 p5 p6 p7 p8 p11 s0 : Int) (H : PH) (ih70 : ∀ (v4 v7 : Int) (HV : PH), self70 v4 v7 HV = some (rr, HH) → PW E 70 [some (vr p0), some (vi p1), some (vi p2), some (vi p3), some (vi v4), some (vi p5), some (vi p6), some (vi v7), none, none, none, none, none] [] HV) (ih80 : ∀ (v4 v8 : Int) (HV : PH), self80 v4 v8 HV = some (rr, HH) → PW E 80 [some (vr p0), some (vi p1), some (vi p2), some (vi p3), some (vi v4), some (vi p5), some (vi p6), some (vi p7), some (vi v8), none, none, none, none] [] HV) (h : jX9_countChanges_178 self70 self80 p0 p1 p2 p3 p4 p5 p6 p7 p8 p11 s0 H = some (rr, HH)) : PW E 178 [some (vr p0), some (vi p1), some (vi p2), some (vi p3), some (vi p4), some (vi p5), some (vi p6), some (vi p7), some (vi p8), none, none, some (vi p11), none] [vi s0] H := by
  unfold jX9_countChanges_178 at h
  refine pw_istore (pc := 178) F dX9_countChanges_178 (lt_nl hn (by decide)) [some (vr p0), some (vi p1), some (vi p2), some (vi p3), some (vi p4), some (vi p5), some (vi p6), some (vi p7), some (vi p8), none, none, some (vi p11), some (vi s0)] rfl ?_
  exact pw_mask [true, true, true, true, true, true, true, true, true, true, true, true, true] (ls' := [some (vr p0), some (vi p1), some (vi p2), some (vi p3), some (vi p4), some (vi p5), some (vi p6), some (vi p7), some (vi p8), none, none, some (vi p11), some (vi s0)]) rfl (lX9_countChanges_180_ok F q hn hf hl self70 self80 p0 p1 p2 p3 p5 p6 p7 p8 p11 ih70 ih80  6000 p4 s0 H h)
def jX9_countChanges_161 (self70 : Int → Int → PH → RO) (self80 : Int → Int → PH → RO) (p0 p1 p2 p3 p4 p5 p6 p7 p8 s0 : Int) (H : PH) : RO :=
  (ld 25 H p0 2).bind fun x1 => (ld 0 H x1 p8).bind fun x2 => (if x2 ≥ 0 then jX9_countChanges_178 self70 self80 p0 p1 p2 p3 p4 p5 p6 p7 p8 s0 1 H
  else jX9_countChanges_178 self70 self80 p0 p1 p2 p3 p4 p5 p6 p7 p8 s0 0 H)
set_option maxHeartbeats 4000000 in
theorem jX9_countChanges_161_ok {E : PE} {rr : Int} {HH : PH} (F : FX E cX9_countChanges RX9) (q : QE E (some (vi rr)) HH (some .int)) (hn : nLof E = 13) (hf : (roomOf E).frames = 3) (hl : (roomOf E).locals = 72) (self70 : Int → Int → PH → RO) (self80 : Int → Int → PH → RO) (p0 p1 p2 p3 p4 p5 p6 p7 p8 s0 : Int) (H : PH) (ih70 : ∀ (v4 v7 : Int) (HV : PH), self70 v4 v7 HV = some (rr, HH) → PW E 70 [some (vr p0), some (vi p1), some (vi p2), some (vi p3), some (vi v4), some (vi p5), some (vi p6), some (vi v7), none, none, none, none, none] [] HV) (ih80 : ∀ (v4 v8 : Int) (HV : PH), self80 v4 v8 HV = some (rr, HH) → PW E 80 [some (vr p0), some (vi p1), some (vi p2), some (vi p3), some (vi v4), some (vi p5), some (vi p6), some (vi p7), some (vi v8), none, none, none, none] [] HV) (h : jX9_countChanges_161 self70 self80 p0 p1 p2 p3 p4 p5 p6 p7 p8 s0 H = some (rr, HH)) : PW E 161 [some (vr p0), some (vi p1), some (vi p2), some (vi p3), some (vi p4), some (vi p5), some (vi p6), some (vi p7), some (vi p8), none, none, none, none] [vi s0] H := by
  unfold jX9_countChanges_161 at h
  refine pw_istore (pc := 161) F dX9_countChanges_161 (lt_nl hn (by decide)) [some (vr p0), some (vi p1), some (vi p2), some (vi p3), some (vi p4), some (vi p5), some (vi p6), some (vi p7), some (vi p8), none, none, some (vi s0), none] rfl ?_
  refine pw_aload_n (pc := 163) F dX9_countChanges_163 rfl ?_
  obtain ⟨x1, ex1, h⟩ := bnd h
  refine pw_get (pc := 164) F 9 2 13 (by decide) (by decide) g_0c2899f53f inl_9 2 rfl dX9_countChanges_164 ex1 ?_
  refine pw_iload (pc := 167) F dX9_countChanges_167 rfl ?_
  obtain ⟨x2, ex2, h⟩ := bnd h
  refine pw_iald (pc := 169) F dX9_countChanges_169 ex2 ?_
  refine pw_if_ge (pc := 170) F 177 dX9_countChanges_170 (by decide) (fun hc => ?_) (fun hc => ?_)
  · have h := iteT hc h
    refine pw_iconst (pc := 177) F 1 dX9_countChanges_177 (by decide) ?_
    exact pw_mask [true, true, true, true, true, true, true, true, true, true, true, true, true] (ls' := [some (vr p0), some (vi p1), some (vi p2), some (vi p3), some (vi p4), some (vi p5), some (vi p6), some (vi p7), some (vi p8), none, none, some (vi s0), none]) rfl (jX9_countChanges_178_ok F q hn hf hl self70 self80 p0 p1 p2 p3 p4 p5 p6 p7 p8 s0 1 H ih70 ih80 h)
  · have h := iteF hc h
    refine pw_iconst (pc := 173) F 0 dX9_countChanges_173 (by decide) ?_
    refine pw_goto (pc := 174) F 178 dX9_countChanges_174 (by decide) ?_
    exact pw_mask [true, true, true, true, true, true, true, true, true, true, true, true, true] (ls' := [some (vr p0), some (vi p1), some (vi p2), some (vi p3), some (vi p4), some (vi p5), some (vi p6), some (vi p7), some (vi p8), none, none, some (vi s0), none]) rfl (jX9_countChanges_178_ok F q hn hf hl self70 self80 p0 p1 p2 p3 p4 p5 p6 p7 p8 s0 0 H ih70 ih80 h)
def jX9_countChanges_145 (self70 : Int → Int → PH → RO) (self80 : Int → Int → PH → RO) (p0 p1 p2 p3 p4 p5 p6 p7 p8 p9 s0 : Int) (H : PH) : RO :=
  (if p9 ≤ s0 then jX9_countChanges_161 self70 self80 p0 p1 p2 p3 p4 p5 p6 p7 p8 s0 H
  else jX9_countChanges_161 self70 self80 p0 p1 p2 p3 p4 p5 p6 p7 p8 p9 H)
set_option maxHeartbeats 4000000 in
theorem jX9_countChanges_145_ok {E : PE} {rr : Int} {HH : PH} (F : FX E cX9_countChanges RX9) (q : QE E (some (vi rr)) HH (some .int)) (hn : nLof E = 13) (hf : (roomOf E).frames = 3) (hl : (roomOf E).locals = 72) (self70 : Int → Int → PH → RO) (self80 : Int → Int → PH → RO) (p0 p1 p2 p3 p4 p5 p6 p7 p8 p9 s0 : Int) (H : PH) (ih70 : ∀ (v4 v7 : Int) (HV : PH), self70 v4 v7 HV = some (rr, HH) → PW E 70 [some (vr p0), some (vi p1), some (vi p2), some (vi p3), some (vi v4), some (vi p5), some (vi p6), some (vi v7), none, none, none, none, none] [] HV) (ih80 : ∀ (v4 v8 : Int) (HV : PH), self80 v4 v8 HV = some (rr, HH) → PW E 80 [some (vr p0), some (vi p1), some (vi p2), some (vi p3), some (vi v4), some (vi p5), some (vi p6), some (vi p7), some (vi v8), none, none, none, none] [] HV) (h : jX9_countChanges_145 self70 self80 p0 p1 p2 p3 p4 p5 p6 p7 p8 p9 s0 H = some (rr, HH)) : PW E 145 [some (vr p0), some (vi p1), some (vi p2), some (vi p3), some (vi p4), some (vi p5), some (vi p6), some (vi p7), some (vi p8), some (vi p9), none, none, none] [vi s0] H := by
  unfold jX9_countChanges_145 at h
  refine pw_istore (pc := 145) F dX9_countChanges_145 (lt_nl hn (by decide)) [some (vr p0), some (vi p1), some (vi p2), some (vi p3), some (vi p4), some (vi p5), some (vi p6), some (vi p7), some (vi p8), some (vi p9), some (vi s0), none, none] rfl ?_
  refine pw_iload (pc := 147) F dX9_countChanges_147 rfl ?_
  refine pw_iload (pc := 149) F dX9_countChanges_149 rfl ?_
  refine pw_icmp_le (pc := 151) F 159 dX9_countChanges_151 (by decide) (fun hc => ?_) (fun hc => ?_)
  · have h := iteT hc h
    refine pw_iload (pc := 159) F dX9_countChanges_159 rfl ?_
    exact pw_mask [true, true, true, true, true, true, true, true, true, false, false, true, true] (ls' := [some (vr p0), some (vi p1), some (vi p2), some (vi p3), some (vi p4), some (vi p5), some (vi p6), some (vi p7), some (vi p8), none, none, none, none]) rfl (jX9_countChanges_161_ok F q hn hf hl self70 self80 p0 p1 p2 p3 p4 p5 p6 p7 p8 s0 H ih70 ih80 h)
  · have h := iteF hc h
    refine pw_iload (pc := 154) F dX9_countChanges_154 rfl ?_
    refine pw_goto (pc := 156) F 161 dX9_countChanges_156 (by decide) ?_
    exact pw_mask [true, true, true, true, true, true, true, true, true, false, false, true, true] (ls' := [some (vr p0), some (vi p1), some (vi p2), some (vi p3), some (vi p4), some (vi p5), some (vi p6), some (vi p7), some (vi p8), none, none, none, none]) rfl (jX9_countChanges_161_ok F q hn hf hl self70 self80 p0 p1 p2 p3 p4 p5 p6 p7 p8 p9 H ih70 ih80 h)
def jX9_countChanges_115 (self70 : Int → Int → PH → RO) (self80 : Int → Int → PH → RO) (p0 p1 p2 p3 p4 p5 p6 p7 p8 s0 : Int) (H : PH) : RO :=
  (ld 25 H p0 2).bind fun x1 => (ld 0 H x1 p8).bind fun x2 => (if x2 ≥ 0 then (ld 25 H p0 2).bind fun x3 => (ld 0 H x3 p8).bind fun x4 => (f_X9_personsThen p0 p2 p7 x4 H).bind fun z5 => jX9_countChanges_145 self70 self80 p0 p1 p2 p3 p4 p5 p6 p7 p8 s0 z5.1 z5.2
  else jX9_countChanges_145 self70 self80 p0 p1 p2 p3 p4 p5 p6 p7 p8 s0 0 H)
set_option maxHeartbeats 4000000 in
theorem jX9_countChanges_115_ok {E : PE} {rr : Int} {HH : PH} (F : FX E cX9_countChanges RX9) (q : QE E (some (vi rr)) HH (some .int)) (hn : nLof E = 13) (hf : (roomOf E).frames = 3) (hl : (roomOf E).locals = 72) (self70 : Int → Int → PH → RO) (self80 : Int → Int → PH → RO) (p0 p1 p2 p3 p4 p5 p6 p7 p8 s0 : Int) (H : PH) (ih70 : ∀ (v4 v7 : Int) (HV : PH), self70 v4 v7 HV = some (rr, HH) → PW E 70 [some (vr p0), some (vi p1), some (vi p2), some (vi p3), some (vi v4), some (vi p5), some (vi p6), some (vi v7), none, none, none, none, none] [] HV) (ih80 : ∀ (v4 v8 : Int) (HV : PH), self80 v4 v8 HV = some (rr, HH) → PW E 80 [some (vr p0), some (vi p1), some (vi p2), some (vi p3), some (vi v4), some (vi p5), some (vi p6), some (vi p7), some (vi v8), none, none, none, none] [] HV) (h : jX9_countChanges_115 self70 self80 p0 p1 p2 p3 p4 p5 p6 p7 p8 s0 H = some (rr, HH)) : PW E 115 [some (vr p0), some (vi p1), some (vi p2), some (vi p3), some (vi p4), some (vi p5), some (vi p6), some (vi p7), some (vi p8), none, none, none, none] [vi s0] H := by
  unfold jX9_countChanges_115 at h
  refine pw_istore (pc := 115) F dX9_countChanges_115 (lt_nl hn (by decide)) [some (vr p0), some (vi p1), some (vi p2), some (vi p3), some (vi p4), some (vi p5), some (vi p6), some (vi p7), some (vi p8), some (vi s0), none, none, none] rfl ?_
  refine pw_aload_n (pc := 117) F dX9_countChanges_117 rfl ?_
  obtain ⟨x1, ex1, h⟩ := bnd h
  refine pw_get (pc := 118) F 9 2 13 (by decide) (by decide) g_0c2899f53f inl_9 2 rfl dX9_countChanges_118 ex1 ?_
  refine pw_iload (pc := 121) F dX9_countChanges_121 rfl ?_
  obtain ⟨x2, ex2, h⟩ := bnd h
  refine pw_iald (pc := 123) F dX9_countChanges_123 ex2 ?_
  refine pw_if_ge (pc := 124) F 131 dX9_countChanges_124 (by decide) (fun hc => ?_) (fun hc => ?_)
  · have h := iteT hc h
    refine pw_aload_n (pc := 131) F dX9_countChanges_131 rfl ?_
    refine pw_iload_n (pc := 132) F dX9_countChanges_132 rfl ?_
    refine pw_iload (pc := 133) F dX9_countChanges_133 rfl ?_
    refine pw_aload_n (pc := 135) F dX9_countChanges_135 rfl ?_
    obtain ⟨x3, ex3, h⟩ := bnd h
    refine pw_get (pc := 136) F 9 2 13 (by decide) (by decide) g_0c2899f53f inl_9 2 rfl dX9_countChanges_136 ex3 ?_
    refine pw_iload (pc := 139) F dX9_countChanges_139 rfl ?_
    obtain ⟨x4, ex4, h⟩ := bnd h
    refine pw_iald (pc := 141) F dX9_countChanges_141 ex4 ?_
    obtain ⟨z5, ez5, h⟩ := bnd h
    refine pw_callV (pc := 142) (as := [vi p2, vi p7, vi x4]) (st := []) (r := (some (vi z5.1))) F 322 9 (by decide) rfl (fun l => m_X9_personsThen l p0 p2 p7 x4 H z5.1 z5.2 ez5) g_7240af1532 g_bbe3792e2d g_9a0cc18cc9 g_2759d91faa g_73f398285b hd_X9_personsThen (rm_ok hf hl (by decide) (by decide)) rfl (vm_spec ez5).1 dX9_countChanges_142 rfl (stk' := [vi z5.1]) rfl ?_
    exact pw_mask [true, true, true, true, true, true, true, true, true, true, true, true, true] (ls' := [some (vr p0), some (vi p1), some (vi p2), some (vi p3), some (vi p4), some (vi p5), some (vi p6), some (vi p7), some (vi p8), some (vi s0), none, none, none]) rfl (jX9_countChanges_145_ok F q hn hf hl self70 self80 p0 p1 p2 p3 p4 p5 p6 p7 p8 s0 z5.1 z5.2 ih70 ih80 h)
  · have h := iteF hc h
    refine pw_iconst (pc := 127) F 0 dX9_countChanges_127 (by decide) ?_
    refine pw_goto (pc := 128) F 145 dX9_countChanges_128 (by decide) ?_
    exact pw_mask [true, true, true, true, true, true, true, true, true, true, true, true, true] (ls' := [some (vr p0), some (vi p1), some (vi p2), some (vi p3), some (vi p4), some (vi p5), some (vi p6), some (vi p7), some (vi p8), some (vi s0), none, none, none]) rfl (jX9_countChanges_145_ok F q hn hf hl self70 self80 p0 p1 p2 p3 p4 p5 p6 p7 p8 s0 0 H ih70 ih80 h)
def lX9_countChanges_80 (self70 : Int → Int → PH → RO) (p0 p1 p2 p3 p5 p6 p7 : Int) (self80 : Int → Int → PH → RO) (p4 p8 : Int) (H : PH) : RO :=
  (if p8 ≥ p6 then self70 p4 (w32 (p7 + 1)) H
  else (ld 25 H p0 2).bind fun x1 => (ld 0 H x1 p8).bind fun x2 => (if x2 ≥ 0 then (ld 25 H p0 2).bind fun x3 => (ld 0 H x3 p8).bind fun x4 => (f_X9_personsThen p0 p1 p7 x4 H).bind fun z5 => jX9_countChanges_115 self70 self80 p0 p1 p2 p3 p4 p5 p6 p7 p8 z5.1 z5.2
  else jX9_countChanges_115 self70 self80 p0 p1 p2 p3 p4 p5 p6 p7 p8 0 H))
set_option maxHeartbeats 4000000 in
theorem lX9_countChanges_80_ok {E : PE} {rr : Int} {HH : PH} (F : FX E cX9_countChanges RX9) (q : QE E (some (vi rr)) HH (some .int)) (hn : nLof E = 13) (hf : (roomOf E).frames = 3) (hl : (roomOf E).locals = 72) (self70 : Int → Int → PH → RO) (p0 p1 p2 p3 p5 p6 p7 : Int) (ih70 : ∀ (v4 v7 : Int) (HV : PH), self70 v4 v7 HV = some (rr, HH) → PW E 70 [some (vr p0), some (vi p1), some (vi p2), some (vi p3), some (vi v4), some (vi p5), some (vi p6), some (vi v7), none, none, none, none, none] [] HV) : ∀ (n : Nat) (p4 p8 : Int) (H : PH), lq2 (lX9_countChanges_80 self70 p0 p1 p2 p3 p5 p6 p7) n p4 p8 H = some (rr, HH) → PW E 80 [some (vr p0), some (vi p1), some (vi p2), some (vi p3), some (vi p4), some (vi p5), some (vi p6), some (vi p7), some (vi p8), none, none, none, none] [] H := by
  refine lq2_ind (P := fun p4 p8 H => PW E 80 [some (vr p0), some (vi p1), some (vi p2), some (vi p3), some (vi p4), some (vi p5), some (vi p6), some (vi p7), some (vi p8), none, none, none, none] [] H) ?_
  intro self80 ih80 p4 p8 H h
  unfold lX9_countChanges_80 at h
  refine pw_iload (pc := 80) F dX9_countChanges_80 rfl ?_
  refine pw_iload (pc := 82) F dX9_countChanges_82 rfl ?_
  refine pw_icmp_ge (pc := 84) F 253 dX9_countChanges_84 (by decide) (fun hc => ?_) (fun hc => ?_)
  · have h := iteT hc h
    refine pw_iinc (pc := 253) F dX9_countChanges_253 rfl (lt_nl hn (by decide)) [some (vr p0), some (vi p1), some (vi p2), some (vi p3), some (vi p4), some (vi p5), some (vi p6), some (vi (w32 (p7 + 1))), some (vi p8), none, none, none, none] rfl (by decide) ?_
    refine pw_goto (pc := 256) F 70 dX9_countChanges_256 (by decide) ?_
    exact pw_mask [true, true, true, true, true, true, true, true, false, true, true, true, true] (ls' := [some (vr p0), some (vi p1), some (vi p2), some (vi p3), some (vi p4), some (vi p5), some (vi p6), some (vi (w32 (p7 + 1))), none, none, none, none, none]) rfl (ih70 p4 (w32 (p7 + 1)) H h)
  · have h := iteF hc h
    refine pw_aload_n (pc := 87) F dX9_countChanges_87 rfl ?_
    obtain ⟨x1, ex1, h⟩ := bnd h
    refine pw_get (pc := 88) F 9 2 13 (by decide) (by decide) g_0c2899f53f inl_9 2 rfl dX9_countChanges_88 ex1 ?_
    refine pw_iload (pc := 91) F dX9_countChanges_91 rfl ?_
    obtain ⟨x2, ex2, h⟩ := bnd h
    refine pw_iald (pc := 93) F dX9_countChanges_93 ex2 ?_
    refine pw_if_ge (pc := 94) F 101 dX9_countChanges_94 (by decide) (fun hc => ?_) (fun hc => ?_)
    · have h := iteT hc h
      refine pw_aload_n (pc := 101) F dX9_countChanges_101 rfl ?_
      refine pw_iload_n (pc := 102) F dX9_countChanges_102 rfl ?_
      refine pw_iload (pc := 103) F dX9_countChanges_103 rfl ?_
      refine pw_aload_n (pc := 105) F dX9_countChanges_105 rfl ?_
      obtain ⟨x3, ex3, h⟩ := bnd h
      refine pw_get (pc := 106) F 9 2 13 (by decide) (by decide) g_0c2899f53f inl_9 2 rfl dX9_countChanges_106 ex3 ?_
      refine pw_iload (pc := 109) F dX9_countChanges_109 rfl ?_
      obtain ⟨x4, ex4, h⟩ := bnd h
      refine pw_iald (pc := 111) F dX9_countChanges_111 ex4 ?_
      obtain ⟨z5, ez5, h⟩ := bnd h
      refine pw_callV (pc := 112) (as := [vi p1, vi p7, vi x4]) (st := []) (r := (some (vi z5.1))) F 322 9 (by decide) rfl (fun l => m_X9_personsThen l p0 p1 p7 x4 H z5.1 z5.2 ez5) g_7240af1532 g_bbe3792e2d g_9a0cc18cc9 g_2759d91faa g_73f398285b hd_X9_personsThen (rm_ok hf hl (by decide) (by decide)) rfl (vm_spec ez5).1 dX9_countChanges_112 rfl (stk' := [vi z5.1]) rfl ?_
      exact pw_mask [true, true, true, true, true, true, true, true, true, true, true, true, true] (ls' := [some (vr p0), some (vi p1), some (vi p2), some (vi p3), some (vi p4), some (vi p5), some (vi p6), some (vi p7), some (vi p8), none, none, none, none]) rfl (jX9_countChanges_115_ok F q hn hf hl self70 self80 p0 p1 p2 p3 p4 p5 p6 p7 p8 z5.1 z5.2 ih70 ih80 h)
    · have h := iteF hc h
      refine pw_iconst (pc := 97) F 0 dX9_countChanges_97 (by decide) ?_
      refine pw_goto (pc := 98) F 115 dX9_countChanges_98 (by decide) ?_
      exact pw_mask [true, true, true, true, true, true, true, true, true, true, true, true, true] (ls' := [some (vr p0), some (vi p1), some (vi p2), some (vi p3), some (vi p4), some (vi p5), some (vi p6), some (vi p7), some (vi p8), none, none, none, none]) rfl (jX9_countChanges_115_ok F q hn hf hl self70 self80 p0 p1 p2 p3 p4 p5 p6 p7 p8 0 H ih70 ih80 h)
def lX9_countChanges_70 (p0 p1 p2 p3 p5 p6 : Int) (self70 : Int → Int → PH → RO) (p4 p7 : Int) (H : PH) : RO :=
  (if p7 ≥ p5 then some (p4, H)
  else lq2 (lX9_countChanges_80 self70 p0 p1 p2 p3 p5 p6 p7) 6000 p4 0 H)
set_option maxHeartbeats 4000000 in
theorem lX9_countChanges_70_ok {E : PE} {rr : Int} {HH : PH} (F : FX E cX9_countChanges RX9) (q : QE E (some (vi rr)) HH (some .int)) (hn : nLof E = 13) (hf : (roomOf E).frames = 3) (hl : (roomOf E).locals = 72) (p0 p1 p2 p3 p5 p6 : Int) : ∀ (n : Nat) (p4 p7 : Int) (H : PH), lq2 (lX9_countChanges_70 p0 p1 p2 p3 p5 p6) n p4 p7 H = some (rr, HH) → PW E 70 [some (vr p0), some (vi p1), some (vi p2), some (vi p3), some (vi p4), some (vi p5), some (vi p6), some (vi p7), none, none, none, none, none] [] H := by
  refine lq2_ind (P := fun p4 p7 H => PW E 70 [some (vr p0), some (vi p1), some (vi p2), some (vi p3), some (vi p4), some (vi p5), some (vi p6), some (vi p7), none, none, none, none, none] [] H) ?_
  intro self70 ih70 p4 p7 H h
  unfold lX9_countChanges_70 at h
  refine pw_iload (pc := 70) F dX9_countChanges_70 rfl ?_
  refine pw_iload (pc := 72) F dX9_countChanges_72 rfl ?_
  refine pw_icmp_ge (pc := 74) F 259 dX9_countChanges_74 (by decide) (fun hc => ?_) (fun hc => ?_)
  · have h := iteT hc h
    refine pw_iload (pc := 259) F dX9_countChanges_259 rfl ?_
    cases h
    exact pw_iret (pc := 261) F q dX9_countChanges_261
  · have h := iteF hc h
    refine pw_iconst (pc := 77) F 0 dX9_countChanges_77 (by decide) ?_
    refine pw_istore (pc := 78) F dX9_countChanges_78 (lt_nl hn (by decide)) [some (vr p0), some (vi p1), some (vi p2), some (vi p3), some (vi p4), some (vi p5), some (vi p6), some (vi p7), some (vi 0), none, none, none, none] rfl ?_
    exact pw_mask [true, true, true, true, true, true, true, true, true, true, true, true, true] (ls' := [some (vr p0), some (vi p1), some (vi p2), some (vi p3), some (vi p4), some (vi p5), some (vi p6), some (vi p7), some (vi 0), none, none, none, none]) rfl (lX9_countChanges_80_ok F q hn hf hl self70 p0 p1 p2 p3 p5 p6 p7 ih70  6000 p4 0 H h)
def jX9_countChanges_65 (p0 p1 p2 p3 p4 p5 s0 : Int) (H : PH) : RO :=
  lq2 (lX9_countChanges_70 p0 p1 p2 p3 p5 s0) 6000 p4 0 H
set_option maxHeartbeats 4000000 in
theorem jX9_countChanges_65_ok {E : PE} {rr : Int} {HH : PH} (F : FX E cX9_countChanges RX9) (q : QE E (some (vi rr)) HH (some .int)) (hn : nLof E = 13) (hf : (roomOf E).frames = 3) (hl : (roomOf E).locals = 72) (p0 p1 p2 p3 p4 p5 s0 : Int) (H : PH) (h : jX9_countChanges_65 p0 p1 p2 p3 p4 p5 s0 H = some (rr, HH)) : PW E 65 [some (vr p0), some (vi p1), some (vi p2), some (vi p3), some (vi p4), some (vi p5), none, none, none, none, none, none, none] [vi s0] H := by
  unfold jX9_countChanges_65 at h
  refine pw_istore (pc := 65) F dX9_countChanges_65 (lt_nl hn (by decide)) [some (vr p0), some (vi p1), some (vi p2), some (vi p3), some (vi p4), some (vi p5), some (vi s0), none, none, none, none, none, none] rfl ?_
  refine pw_iconst (pc := 67) F 0 dX9_countChanges_67 (by decide) ?_
  refine pw_istore (pc := 68) F dX9_countChanges_68 (lt_nl hn (by decide)) [some (vr p0), some (vi p1), some (vi p2), some (vi p3), some (vi p4), some (vi p5), some (vi s0), some (vi 0), none, none, none, none, none] rfl ?_
  exact pw_mask [true, true, true, true, true, true, true, true, true, true, true, true, true] (ls' := [some (vr p0), some (vi p1), some (vi p2), some (vi p3), some (vi p4), some (vi p5), some (vi s0), some (vi 0), none, none, none, none, none]) rfl (lX9_countChanges_70_ok F q hn hf hl p0 p1 p2 p3 p5 s0  6000 p4 0 H h)
def jX9_countChanges_33 (p0 p1 p2 p3 p4 s0 : Int) (H : PH) : RO :=
  (ld 25 H p0 32).bind fun x1 => (ld 0 H x1 p1).bind fun x2 => (ld 25 H p0 32).bind fun x3 => (ld 0 H x3 p2).bind fun x4 => (if x2 ≥ x4 then (ld 25 H p0 32).bind fun x5 => (ld 0 H x5 p2).bind fun x6 => jX9_countChanges_65 p0 p1 p2 p3 p4 s0 x6 H
  else (ld 25 H p0 32).bind fun x7 => (ld 0 H x7 p1).bind fun x8 => jX9_countChanges_65 p0 p1 p2 p3 p4 s0 x8 H)
set_option maxHeartbeats 4000000 in
theorem jX9_countChanges_33_ok {E : PE} {rr : Int} {HH : PH} (F : FX E cX9_countChanges RX9) (q : QE E (some (vi rr)) HH (some .int)) (hn : nLof E = 13) (hf : (roomOf E).frames = 3) (hl : (roomOf E).locals = 72) (p0 p1 p2 p3 p4 s0 : Int) (H : PH) (h : jX9_countChanges_33 p0 p1 p2 p3 p4 s0 H = some (rr, HH)) : PW E 33 [some (vr p0), some (vi p1), some (vi p2), some (vi p3), some (vi p4), none, none, none, none, none, none, none, none] [vi s0] H := by
  unfold jX9_countChanges_33 at h
  refine pw_istore (pc := 33) F dX9_countChanges_33 (lt_nl hn (by decide)) [some (vr p0), some (vi p1), some (vi p2), some (vi p3), some (vi p4), some (vi s0), none, none, none, none, none, none, none] rfl ?_
  refine pw_aload_n (pc := 35) F dX9_countChanges_35 rfl ?_
  obtain ⟨x1, ex1, h⟩ := bnd h
  refine pw_get (pc := 36) F 9 32 93 (by decide) (by decide) g_f2c3c3bf67 inl_9 2 rfl dX9_countChanges_36 ex1 ?_
  refine pw_iload_n (pc := 39) F dX9_countChanges_39 rfl ?_
  obtain ⟨x2, ex2, h⟩ := bnd h
  refine pw_iald (pc := 40) F dX9_countChanges_40 ex2 ?_
  refine pw_aload_n (pc := 41) F dX9_countChanges_41 rfl ?_
  obtain ⟨x3, ex3, h⟩ := bnd h
  refine pw_get (pc := 42) F 9 32 93 (by decide) (by decide) g_f2c3c3bf67 inl_9 2 rfl dX9_countChanges_42 ex3 ?_
  refine pw_iload_n (pc := 45) F dX9_countChanges_45 rfl ?_
  obtain ⟨x4, ex4, h⟩ := bnd h
  refine pw_iald (pc := 46) F dX9_countChanges_46 ex4 ?_
  refine pw_icmp_ge (pc := 47) F 59 dX9_countChanges_47 (by decide) (fun hc => ?_) (fun hc => ?_)
  · have h := iteT hc h
    refine pw_aload_n (pc := 59) F dX9_countChanges_59 rfl ?_
    obtain ⟨x5, ex5, h⟩ := bnd h
    refine pw_get (pc := 60) F 9 32 93 (by decide) (by decide) g_f2c3c3bf67 inl_9 2 rfl dX9_countChanges_60 ex5 ?_
    refine pw_iload_n (pc := 63) F dX9_countChanges_63 rfl ?_
    obtain ⟨x6, ex6, h⟩ := bnd h
    refine pw_iald (pc := 64) F dX9_countChanges_64 ex6 ?_
    exact pw_mask [true, true, true, true, true, true, true, true, true, true, true, true, true] (ls' := [some (vr p0), some (vi p1), some (vi p2), some (vi p3), some (vi p4), some (vi s0), none, none, none, none, none, none, none]) rfl (jX9_countChanges_65_ok F q hn hf hl p0 p1 p2 p3 p4 s0 x6 H h)
  · have h := iteF hc h
    refine pw_aload_n (pc := 50) F dX9_countChanges_50 rfl ?_
    obtain ⟨x7, ex7, h⟩ := bnd h
    refine pw_get (pc := 51) F 9 32 93 (by decide) (by decide) g_f2c3c3bf67 inl_9 2 rfl dX9_countChanges_51 ex7 ?_
    refine pw_iload_n (pc := 54) F dX9_countChanges_54 rfl ?_
    obtain ⟨x8, ex8, h⟩ := bnd h
    refine pw_iald (pc := 55) F dX9_countChanges_55 ex8 ?_
    refine pw_goto (pc := 56) F 65 dX9_countChanges_56 (by decide) ?_
    exact pw_mask [true, true, true, true, true, true, true, true, true, true, true, true, true] (ls' := [some (vr p0), some (vi p1), some (vi p2), some (vi p3), some (vi p4), some (vi s0), none, none, none, none, none, none, none]) rfl (jX9_countChanges_65_ok F q hn hf hl p0 p1 p2 p3 p4 s0 x8 H h)
def f_X9_countChanges (a0 a1 a2 a3 : Int) (H : PH) : RO := vm 9 a0 H <|
  (ld 25 H a0 31).bind fun x1 => (ld 0 H x1 a1).bind fun x2 => (ld 25 H a0 31).bind fun x3 => (ld 0 H x3 a2).bind fun x4 => (if x2 ≥ x4 then (ld 25 H a0 31).bind fun x5 => (ld 0 H x5 a2).bind fun x6 => jX9_countChanges_33 a0 a1 a2 a3 0 x6 H
  else (ld 25 H a0 31).bind fun x7 => (ld 0 H x7 a1).bind fun x8 => jX9_countChanges_33 a0 a1 a2 a3 0 x8 H)
set_option maxHeartbeats 4000000 in
theorem m_X9_countChanges (l : Launch) (a0 a1 a2 a3 : Int) (H : PH) (rr : Int) (HH : PH) (h : f_X9_countChanges a0 a1 a2 a3 H = some (rr, HH)) : CT l yX9_countChanges cX9_countChanges 13 (some .int) 3 72 [vr a0, vi a1, vi a2, vi a3] H (some (vi rr)) HH := by
  refine CT.of RX9 (by decide) rfl [some (vr a0), some (vi a1), some (vi a2), some (vi a3), none, none, none, none, none, none, none, none, none] rfl rfl ?_
  intro E F q hn hf hl hm
  unfold f_X9_countChanges at h
  obtain ⟨hv, h⟩ := vm_spec h
  refine pw_iconst (pc := 0) F 0 dX9_countChanges_0 (by decide) ?_
  refine pw_istore (pc := 1) F dX9_countChanges_1 (lt_nl hn (by decide)) [some (vr a0), some (vi a1), some (vi a2), some (vi a3), some (vi 0), none, none, none, none, none, none, none, none] rfl ?_
  refine pw_aload_n (pc := 3) F dX9_countChanges_3 rfl ?_
  obtain ⟨x1, ex1, h⟩ := bnd h
  refine pw_get (pc := 4) F 9 31 90 (by decide) (by decide) g_b2cdc3fd82 inl_9 2 rfl dX9_countChanges_4 ex1 ?_
  refine pw_iload_n (pc := 7) F dX9_countChanges_7 rfl ?_
  obtain ⟨x2, ex2, h⟩ := bnd h
  refine pw_iald (pc := 8) F dX9_countChanges_8 ex2 ?_
  refine pw_aload_n (pc := 9) F dX9_countChanges_9 rfl ?_
  obtain ⟨x3, ex3, h⟩ := bnd h
  refine pw_get (pc := 10) F 9 31 90 (by decide) (by decide) g_b2cdc3fd82 inl_9 2 rfl dX9_countChanges_10 ex3 ?_
  refine pw_iload_n (pc := 13) F dX9_countChanges_13 rfl ?_
  obtain ⟨x4, ex4, h⟩ := bnd h
  refine pw_iald (pc := 14) F dX9_countChanges_14 ex4 ?_
  refine pw_icmp_ge (pc := 15) F 27 dX9_countChanges_15 (by decide) (fun hc => ?_) (fun hc => ?_)
  · have h := iteT hc h
    refine pw_aload_n (pc := 27) F dX9_countChanges_27 rfl ?_
    obtain ⟨x5, ex5, h⟩ := bnd h
    refine pw_get (pc := 28) F 9 31 90 (by decide) (by decide) g_b2cdc3fd82 inl_9 2 rfl dX9_countChanges_28 ex5 ?_
    refine pw_iload_n (pc := 31) F dX9_countChanges_31 rfl ?_
    obtain ⟨x6, ex6, h⟩ := bnd h
    refine pw_iald (pc := 32) F dX9_countChanges_32 ex6 ?_
    exact pw_mask [true, true, true, true, true, true, true, true, true, true, true, true, true] (ls' := [some (vr a0), some (vi a1), some (vi a2), some (vi a3), some (vi 0), none, none, none, none, none, none, none, none]) rfl (jX9_countChanges_33_ok F q hn hf hl a0 a1 a2 a3 0 x6 H h)
  · have h := iteF hc h
    refine pw_aload_n (pc := 18) F dX9_countChanges_18 rfl ?_
    obtain ⟨x7, ex7, h⟩ := bnd h
    refine pw_get (pc := 19) F 9 31 90 (by decide) (by decide) g_b2cdc3fd82 inl_9 2 rfl dX9_countChanges_19 ex7 ?_
    refine pw_iload_n (pc := 22) F dX9_countChanges_22 rfl ?_
    obtain ⟨x8, ex8, h⟩ := bnd h
    refine pw_iald (pc := 23) F dX9_countChanges_23 ex8 ?_
    refine pw_goto (pc := 24) F 33 dX9_countChanges_24 (by decide) ?_
    exact pw_mask [true, true, true, true, true, true, true, true, true, true, true, true, true] (ls' := [some (vr a0), some (vi a1), some (vi a2), some (vi a3), some (vi 0), none, none, none, none, none, none, none, none]) rfl (jX9_countChanges_33_ok F q hn hf hl a0 a1 a2 a3 0 x8 H h)
/-! HouseholdVaultModel.changes(II)I -/
theorem dX9_changes_0 : decode cX9_changes 0 = .ok (.aload_n 0, 1) := by decide +kernel
theorem dX9_changes_1 : decode cX9_changes 1 = .ok (.iload_n 1, 1) := by decide +kernel
theorem dX9_changes_2 : decode cX9_changes 2 = .ok (.invokevirtual 319, 3) := by decide +kernel
theorem dX9_changes_5 : decode cX9_changes 5 = .ok (.ifCond .eq 21, 3) := by decide +kernel
theorem dX9_changes_8 : decode cX9_changes 8 = .ok (.aload_n 0, 1) := by decide +kernel
theorem dX9_changes_9 : decode cX9_changes 9 = .ok (.iload_n 2, 1) := by decide +kernel
theorem dX9_changes_10 : decode cX9_changes 10 = .ok (.invokevirtual 319, 3) := by decide +kernel
theorem dX9_changes_13 : decode cX9_changes 13 = .ok (.ifCond .eq 13, 3) := by decide +kernel
theorem dX9_changes_16 : decode cX9_changes 16 = .ok (.aload_n 0, 1) := by decide +kernel
theorem dX9_changes_17 : decode cX9_changes 17 = .ok (.iload_n 1, 1) := by decide +kernel
theorem dX9_changes_18 : decode cX9_changes 18 = .ok (.iload_n 2, 1) := by decide +kernel
theorem dX9_changes_19 : decode cX9_changes 19 = .ok (.iconst (-1), 1) := by decide +kernel
theorem dX9_changes_20 : decode cX9_changes 20 = .ok (.invokevirtual 332, 3) := by decide +kernel
theorem dX9_changes_23 : decode cX9_changes 23 = .ok (.goto 4, 3) := by decide +kernel
theorem dX9_changes_26 : decode cX9_changes 26 = .ok (.iconst (-1), 1) := by decide +kernel
theorem dX9_changes_27 : decode cX9_changes 27 = .ok (.ireturn, 1) := by decide +kernel
def f_X9_changes (a0 a1 a2 : Int) (H : PH) : RO := vm 9 a0 H <|
  (f_X9_isEdition a0 a1 H).bind fun z1 => (if z1.1 = 0 then some ((-1), z1.2)
  else (f_X9_isEdition a0 a2 z1.2).bind fun z2 => (if z2.1 = 0 then some ((-1), z2.2)
  else (f_X9_countChanges a0 a1 a2 (-1) z2.2).bind fun z3 => some (z3.1, z3.2)))
set_option maxHeartbeats 4000000 in
theorem m_X9_changes (l : Launch) (a0 a1 a2 : Int) (H : PH) (rr : Int) (HH : PH) (h : f_X9_changes a0 a1 a2 H = some (rr, HH)) : CT l yX9_changes cX9_changes 3 (some .int) 4 104 [vr a0, vi a1, vi a2] H (some (vi rr)) HH := by
  refine CT.of RX9 (by decide) rfl [some (vr a0), some (vi a1), some (vi a2)] rfl rfl ?_
  intro E F q hn hf hl hm
  unfold f_X9_changes at h
  obtain ⟨hv, h⟩ := vm_spec h
  refine pw_aload_n (pc := 0) F dX9_changes_0 rfl ?_
  refine pw_iload_n (pc := 1) F dX9_changes_1 rfl ?_
  obtain ⟨z1, ez1, h⟩ := bnd h
  refine pw_callV (pc := 2) (as := [vi a1]) (st := []) (r := (some (vi z1.1))) F 319 9 (by decide) rfl (fun l => m_X9_isEdition l a0 a1 H z1.1 z1.2 ez1) g_dd0beb76bd g_1109160d54 g_f5f25b7a85 g_2759d91faa g_3abcb6d5e1 hd_X9_isEdition (rm_ok hf hl (by decide) (by decide)) rfl (vm_spec ez1).1 dX9_changes_2 rfl (stk' := [vi z1.1]) rfl ?_
  refine pw_if_eq (pc := 5) F 26 dX9_changes_5 (by decide) (fun hc => ?_) (fun hc => ?_)
  · have h := iteT hc h
    refine pw_iconst (pc := 26) F (-1) dX9_changes_26 (by decide) ?_
    cases h
    exact pw_iret (pc := 27) F q dX9_changes_27
  · have h := iteF hc h
    refine pw_aload_n (pc := 8) F dX9_changes_8 rfl ?_
    refine pw_iload_n (pc := 9) F dX9_changes_9 rfl ?_
    obtain ⟨z2, ez2, h⟩ := bnd h
    refine pw_callV (pc := 10) (as := [vi a2]) (st := []) (r := (some (vi z2.1))) F 319 9 (by decide) rfl (fun l => m_X9_isEdition l a0 a2 z1.2 z2.1 z2.2 ez2) g_dd0beb76bd g_1109160d54 g_f5f25b7a85 g_2759d91faa g_3abcb6d5e1 hd_X9_isEdition (rm_ok hf hl (by decide) (by decide)) rfl (vm_spec ez2).1 dX9_changes_10 rfl (stk' := [vi z2.1]) rfl ?_
    refine pw_if_eq (pc := 13) F 26 dX9_changes_13 (by decide) (fun hc => ?_) (fun hc => ?_)
    · have h := iteT hc h
      refine pw_iconst (pc := 26) F (-1) dX9_changes_26 (by decide) ?_
      cases h
      exact pw_iret (pc := 27) F q dX9_changes_27
    · have h := iteF hc h
      refine pw_aload_n (pc := 16) F dX9_changes_16 rfl ?_
      refine pw_iload_n (pc := 17) F dX9_changes_17 rfl ?_
      refine pw_iload_n (pc := 18) F dX9_changes_18 rfl ?_
      refine pw_iconst (pc := 19) F (-1) dX9_changes_19 (by decide) ?_
      obtain ⟨z3, ez3, h⟩ := bnd h
      refine pw_callV (pc := 20) (as := [vi a1, vi a2, vi (-1)]) (st := []) (r := (some (vi z3.1))) F 332 9 (by decide) rfl (fun l => m_X9_countChanges l a0 a1 a2 (-1) z2.2 z3.1 z3.2 ez3) g_0509681654 g_f171b33d96 g_6f1c9cdc6d g_2759d91faa g_5a547b72ef hd_X9_countChanges (rm_ok hf hl (by decide) (by decide)) rfl (vm_spec ez3).1 dX9_changes_20 rfl (stk' := [vi z3.1]) rfl ?_
      refine pw_goto (pc := 23) F 27 dX9_changes_23 (by decide) ?_
      cases h
      exact pw_iret (pc := 27) F q dX9_changes_27
/-! HouseholdVaultModel.changeAt(IIII)I -/
theorem dX9_changeAt_0 : decode cX9_changeAt 0 = .ok (.aload_n 0, 1) := by decide +kernel
theorem dX9_changeAt_1 : decode cX9_changeAt 1 = .ok (.iload_n 1, 1) := by decide +kernel
theorem dX9_changeAt_2 : decode cX9_changeAt 2 = .ok (.invokevirtual 319, 3) := by decide +kernel
theorem dX9_changeAt_5 : decode cX9_changeAt 5 = .ok (.ifCond .eq 39, 3) := by decide +kernel
theorem dX9_changeAt_8 : decode cX9_changeAt 8 = .ok (.aload_n 0, 1) := by decide +kernel
theorem dX9_changeAt_9 : decode cX9_changeAt 9 = .ok (.iload_n 2, 1) := by decide +kernel
theorem dX9_changeAt_10 : decode cX9_changeAt 10 = .ok (.invokevirtual 319, 3) := by decide +kernel
theorem dX9_changeAt_13 : decode cX9_changeAt 13 = .ok (.ifCond .eq 31, 3) := by decide +kernel
theorem dX9_changeAt_16 : decode cX9_changeAt 16 = .ok (.iload 4, 2) := by decide +kernel
theorem dX9_changeAt_18 : decode cX9_changeAt 18 = .ok (.i2l, 1) := by decide +kernel
theorem dX9_changeAt_19 : decode cX9_changeAt 19 = .ok (.lconst 0, 1) := by decide +kernel
theorem dX9_changeAt_20 : decode cX9_changeAt 20 = .ok (.ldc2_w 240, 3) := by decide +kernel
theorem dX9_changeAt_23 : decode cX9_changeAt 23 = .ok (.invokestatic 140, 3) := by decide +kernel
theorem dX9_changeAt_26 : decode cX9_changeAt 26 = .ok (.ifCond .eq 18, 3) := by decide +kernel
theorem dX9_changeAt_29 : decode cX9_changeAt 29 = .ok (.iload_n 3, 1) := by decide +kernel
theorem dX9_changeAt_30 : decode cX9_changeAt 30 = .ok (.ifCond .lt 14, 3) := by decide +kernel
theorem dX9_changeAt_33 : decode cX9_changeAt 33 = .ok (.iload_n 3, 1) := by decide +kernel
theorem dX9_changeAt_34 : decode cX9_changeAt 34 = .ok (.aload_n 0, 1) := by decide +kernel
theorem dX9_changeAt_35 : decode cX9_changeAt 35 = .ok (.iload_n 1, 1) := by decide +kernel
theorem dX9_changeAt_36 : decode cX9_changeAt 36 = .ok (.iload_n 2, 1) := by decide +kernel
theorem dX9_changeAt_37 : decode cX9_changeAt 37 = .ok (.iload_n 3, 1) := by decide +kernel
theorem dX9_changeAt_38 : decode cX9_changeAt 38 = .ok (.invokevirtual 332, 3) := by decide +kernel
theorem dX9_changeAt_41 : decode cX9_changeAt 41 = .ok (.if_icmp .lt 8, 3) := by decide +kernel
theorem dX9_changeAt_44 : decode cX9_changeAt 44 = .ok (.bipush (-2), 2) := by decide +kernel
theorem dX9_changeAt_46 : decode cX9_changeAt 46 = .ok (.goto 9, 3) := by decide +kernel
theorem dX9_changeAt_49 : decode cX9_changeAt 49 = .ok (.aload_n 0, 1) := by decide +kernel
theorem dX9_changeAt_50 : decode cX9_changeAt 50 = .ok (.iload 4, 2) := by decide +kernel
theorem dX9_changeAt_52 : decode cX9_changeAt 52 = .ok (.invokevirtual 258, 3) := by decide +kernel
theorem dX9_changeAt_55 : decode cX9_changeAt 55 = .ok (.ireturn, 1) := by decide +kernel
def jX9_changeAt_44 (H : PH) : RO :=
  some ((-2), H)
set_option maxHeartbeats 4000000 in
theorem jX9_changeAt_44_ok {E : PE} {rr : Int} {HH : PH} (F : FX E cX9_changeAt RX9) (q : QE E (some (vi rr)) HH (some .int)) (hn : nLof E = 5) (hf : (roomOf E).frames = 4) (hl : (roomOf E).locals = 104) (H : PH) (h : jX9_changeAt_44  H = some (rr, HH)) : PW E 44 [none, none, none, none, none] [] H := by
  unfold jX9_changeAt_44 at h
  refine pw_bipush (pc := 44) F (-2) dX9_changeAt_44 (by decide) ?_
  refine pw_goto (pc := 46) F 55 dX9_changeAt_46 (by decide) ?_
  cases h
  exact pw_iret (pc := 55) F q dX9_changeAt_55
def f_X9_changeAt (a0 a1 a2 a3 a4 : Int) (H : PH) : RO := vm 9 a0 H <|
  (f_X9_isEdition a0 a1 H).bind fun z1 => (if z1.1 = 0 then jX9_changeAt_44  z1.2
  else (f_X9_isEdition a0 a2 z1.2).bind fun z2 => (if z2.1 = 0 then jX9_changeAt_44  z2.2
  else (f_X9_in a4 0 2 z2.2).bind fun z3 => (if z3.1 = 0 then jX9_changeAt_44  z3.2
  else (if a3 < 0 then jX9_changeAt_44  z3.2
  else (f_X9_countChanges a0 a1 a2 a3 z3.2).bind fun z4 => (if a3 < z4.1 then (f_X9_sought a0 a4 z4.2).bind fun z5 => some (z5.1, z5.2)
  else jX9_changeAt_44  z4.2)))))
set_option maxHeartbeats 4000000 in
theorem m_X9_changeAt (l : Launch) (a0 a1 a2 a3 a4 : Int) (H : PH) (rr : Int) (HH : PH) (h : f_X9_changeAt a0 a1 a2 a3 a4 H = some (rr, HH)) : CT l yX9_changeAt cX9_changeAt 5 (some .int) 4 104 [vr a0, vi a1, vi a2, vi a3, vi a4] H (some (vi rr)) HH := by
  refine CT.of RX9 (by decide) rfl [some (vr a0), some (vi a1), some (vi a2), some (vi a3), some (vi a4)] rfl rfl ?_
  intro E F q hn hf hl hm
  unfold f_X9_changeAt at h
  obtain ⟨hv, h⟩ := vm_spec h
  refine pw_aload_n (pc := 0) F dX9_changeAt_0 rfl ?_
  refine pw_iload_n (pc := 1) F dX9_changeAt_1 rfl ?_
  obtain ⟨z1, ez1, h⟩ := bnd h
  refine pw_callV (pc := 2) (as := [vi a1]) (st := []) (r := (some (vi z1.1))) F 319 9 (by decide) rfl (fun l => m_X9_isEdition l a0 a1 H z1.1 z1.2 ez1) g_dd0beb76bd g_1109160d54 g_f5f25b7a85 g_2759d91faa g_3abcb6d5e1 hd_X9_isEdition (rm_ok hf hl (by decide) (by decide)) rfl (vm_spec ez1).1 dX9_changeAt_2 rfl (stk' := [vi z1.1]) rfl ?_
  refine pw_if_eq (pc := 5) F 44 dX9_changeAt_5 (by decide) (fun hc => ?_) (fun hc => ?_)
  · have h := iteT hc h
    exact pw_mask [false, false, false, false, false] (ls' := [none, none, none, none, none]) rfl (jX9_changeAt_44_ok F q hn hf hl  z1.2 h)
  · have h := iteF hc h
    refine pw_aload_n (pc := 8) F dX9_changeAt_8 rfl ?_
    refine pw_iload_n (pc := 9) F dX9_changeAt_9 rfl ?_
    obtain ⟨z2, ez2, h⟩ := bnd h
    refine pw_callV (pc := 10) (as := [vi a2]) (st := []) (r := (some (vi z2.1))) F 319 9 (by decide) rfl (fun l => m_X9_isEdition l a0 a2 z1.2 z2.1 z2.2 ez2) g_dd0beb76bd g_1109160d54 g_f5f25b7a85 g_2759d91faa g_3abcb6d5e1 hd_X9_isEdition (rm_ok hf hl (by decide) (by decide)) rfl (vm_spec ez2).1 dX9_changeAt_10 rfl (stk' := [vi z2.1]) rfl ?_
    refine pw_if_eq (pc := 13) F 44 dX9_changeAt_13 (by decide) (fun hc => ?_) (fun hc => ?_)
    · have h := iteT hc h
      exact pw_mask [false, false, false, false, false] (ls' := [none, none, none, none, none]) rfl (jX9_changeAt_44_ok F q hn hf hl  z2.2 h)
    · have h := iteF hc h
      refine pw_iload (pc := 16) F dX9_changeAt_16 rfl ?_
      refine pw_i2l (pc := 18) F dX9_changeAt_18 ?_
      refine pw_lconst (pc := 19) F 0 dX9_changeAt_19 (by decide) ?_
      refine pw_ldc2 (pc := 20) F 2 g_f9a9b8d2f4 dX9_changeAt_20 (by decide) ?_
      obtain ⟨z3, ez3, h⟩ := bnd h
      refine pw_callS (pc := 23) (as := [vl a4, vl 0, vl 2]) (st := []) (r := (some (vi z3.1))) F 140 (fun l => m_X9_in l a4 0 2 z2.2 z3.1 z3.2 ez3) g_0174c906e2 g_3fadeb3198 g_2759d91faa g_c0c30bc7de hd_X9_in (rm_ok hf hl (by decide) (by decide)) rfl dX9_changeAt_23 rfl (stk' := [vi z3.1]) rfl ?_
      refine pw_if_eq (pc := 26) F 44 dX9_changeAt_26 (by decide) (fun hc => ?_) (fun hc => ?_)
      · have h := iteT hc h
        exact pw_mask [false, false, false, false, false] (ls' := [none, none, none, none, none]) rfl (jX9_changeAt_44_ok F q hn hf hl  z3.2 h)
      · have h := iteF hc h
        refine pw_iload_n (pc := 29) F dX9_changeAt_29 rfl ?_
        refine pw_if_lt (pc := 30) F 44 dX9_changeAt_30 (by decide) (fun hc => ?_) (fun hc => ?_)
        · have h := iteT hc h
          exact pw_mask [false, false, false, false, false] (ls' := [none, none, none, none, none]) rfl (jX9_changeAt_44_ok F q hn hf hl  z3.2 h)
        · have h := iteF hc h
          refine pw_iload_n (pc := 33) F dX9_changeAt_33 rfl ?_
          refine pw_aload_n (pc := 34) F dX9_changeAt_34 rfl ?_
          refine pw_iload_n (pc := 35) F dX9_changeAt_35 rfl ?_
          refine pw_iload_n (pc := 36) F dX9_changeAt_36 rfl ?_
          refine pw_iload_n (pc := 37) F dX9_changeAt_37 rfl ?_
          obtain ⟨z4, ez4, h⟩ := bnd h
          refine pw_callV (pc := 38) (as := [vi a1, vi a2, vi a3]) (st := [vi a3]) (r := (some (vi z4.1))) F 332 9 (by decide) rfl (fun l => m_X9_countChanges l a0 a1 a2 a3 z3.2 z4.1 z4.2 ez4) g_0509681654 g_f171b33d96 g_6f1c9cdc6d g_2759d91faa g_5a547b72ef hd_X9_countChanges (rm_ok hf hl (by decide) (by decide)) rfl (vm_spec ez4).1 dX9_changeAt_38 rfl (stk' := [vi z4.1, vi a3]) rfl ?_
          refine pw_icmp_lt (pc := 41) F 49 dX9_changeAt_41 (by decide) (fun hc => ?_) (fun hc => ?_)
          · have h := iteT hc h
            refine pw_aload_n (pc := 49) F dX9_changeAt_49 rfl ?_
            refine pw_iload (pc := 50) F dX9_changeAt_50 rfl ?_
            obtain ⟨z5, ez5, h⟩ := bnd h
            refine pw_callV (pc := 52) (as := [vi a4]) (st := []) (r := (some (vi z5.1))) F 258 9 (by decide) rfl (fun l => m_X9_sought l a0 a4 z4.2 z5.1 z5.2 ez5) g_04759b94c6 g_f7d7b42c7f g_0184e0801f g_2759d91faa g_4fe738e030 hd_X9_sought (rm_ok hf hl (by decide) (by decide)) rfl (vm_spec ez5).1 dX9_changeAt_52 rfl (stk' := [vi z5.1]) rfl ?_
            cases h
            exact pw_iret (pc := 55) F q dX9_changeAt_55
          · have h := iteF hc h
            exact pw_mask [false, false, false, false, false] (ls' := [none, none, none, none, none]) rfl (jX9_changeAt_44_ok F q hn hf hl  z4.2 h)
/-! HouseholdVaultModel.merge(I)I -/
theorem dX9_merge_0 : decode cX9_merge 0 = .ok (.aload_n 0, 1) := by decide +kernel
theorem dX9_merge_1 : decode cX9_merge 1 = .ok (.iload_n 1, 1) := by decide +kernel
theorem dX9_merge_2 : decode cX9_merge 2 = .ok (.invokevirtual 319, 3) := by decide +kernel
theorem dX9_merge_5 : decode cX9_merge 5 = .ok (.ifCond .ne 5, 3) := by decide +kernel
theorem dX9_merge_8 : decode cX9_merge 8 = .ok (.iconst (-1), 1) := by decide +kernel
theorem dX9_merge_9 : decode cX9_merge 9 = .ok (.ireturn, 1) := by decide +kernel
theorem dX9_merge_10 : decode cX9_merge 10 = .ok (.iconst 0, 1) := by decide +kernel
theorem dX9_merge_11 : decode cX9_merge 11 = .ok (.istore_n 2, 1) := by decide +kernel
theorem dX9_merge_12 : decode cX9_merge 12 = .ok (.iconst 0, 1) := by decide +kernel
theorem dX9_merge_13 : decode cX9_merge 13 = .ok (.istore_n 3, 1) := by decide +kernel
theorem dX9_merge_14 : decode cX9_merge 14 = .ok (.iload_n 3, 1) := by decide +kernel
theorem dX9_merge_15 : decode cX9_merge 15 = .ok (.aload_n 0, 1) := by decide +kernel
theorem dX9_merge_16 : decode cX9_merge 16 = .ok (.getfield 90, 3) := by decide +kernel
theorem dX9_merge_19 : decode cX9_merge 19 = .ok (.iload_n 1, 1) := by decide +kernel
theorem dX9_merge_20 : decode cX9_merge 20 = .ok (.iaload, 1) := by decide +kernel
theorem dX9_merge_21 : decode cX9_merge 21 = .ok (.if_icmp .ge 212, 3) := by decide +kernel
theorem dX9_merge_24 : decode cX9_merge 24 = .ok (.iconst 0, 1) := by decide +kernel
theorem dX9_merge_25 : decode cX9_merge 25 = .ok (.istore 4, 2) := by decide +kernel
theorem dX9_merge_27 : decode cX9_merge 27 = .ok (.iload 4, 2) := by decide +kernel
theorem dX9_merge_29 : decode cX9_merge 29 = .ok (.aload_n 0, 1) := by decide +kernel
theorem dX9_merge_30 : decode cX9_merge 30 = .ok (.getfield 93, 3) := by decide +kernel
theorem dX9_merge_33 : decode cX9_merge 33 = .ok (.iload_n 1, 1) := by decide +kernel
theorem dX9_merge_34 : decode cX9_merge 34 = .ok (.iaload, 1) := by decide +kernel
theorem dX9_merge_35 : decode cX9_merge 35 = .ok (.if_icmp .ge 192, 3) := by decide +kernel
theorem dX9_merge_38 : decode cX9_merge 38 = .ok (.aload_n 0, 1) := by decide +kernel
theorem dX9_merge_39 : decode cX9_merge 39 = .ok (.getfield 16, 3) := by decide +kernel
theorem dX9_merge_42 : decode cX9_merge 42 = .ok (.iload 4, 2) := by decide +kernel
theorem dX9_merge_44 : decode cX9_merge 44 = .ok (.iaload, 1) := by decide +kernel
theorem dX9_merge_45 : decode cX9_merge 45 = .ok (.ifCond .gt 176, 3) := by decide +kernel
theorem dX9_merge_48 : decode cX9_merge 48 = .ok (.aload_n 0, 1) := by decide +kernel
theorem dX9_merge_49 : decode cX9_merge 49 = .ok (.getfield 7, 3) := by decide +kernel
theorem dX9_merge_52 : decode cX9_merge 52 = .ok (.iload 4, 2) := by decide +kernel
theorem dX9_merge_54 : decode cX9_merge 54 = .ok (.iaload, 1) := by decide +kernel
theorem dX9_merge_55 : decode cX9_merge 55 = .ok (.iconst 5, 1) := by decide +kernel
theorem dX9_merge_56 : decode cX9_merge 56 = .ok (.if_icmp .ne 6, 3) := by decide +kernel
theorem dX9_merge_59 : decode cX9_merge 59 = .ok (.goto 162, 3) := by decide +kernel
theorem dX9_merge_62 : decode cX9_merge 62 = .ok (.aload_n 0, 1) := by decide +kernel
theorem dX9_merge_63 : decode cX9_merge 63 = .ok (.getfield 13, 3) := by decide +kernel
theorem dX9_merge_66 : decode cX9_merge 66 = .ok (.iload 4, 2) := by decide +kernel
theorem dX9_merge_68 : decode cX9_merge 68 = .ok (.iaload, 1) := by decide +kernel
theorem dX9_merge_69 : decode cX9_merge 69 = .ok (.ifCond .ge 7, 3) := by decide +kernel
theorem dX9_merge_72 : decode cX9_merge 72 = .ok (.iconst 0, 1) := by decide +kernel
theorem dX9_merge_73 : decode cX9_merge 73 = .ok (.goto 15, 3) := by decide +kernel
theorem dX9_merge_76 : decode cX9_merge 76 = .ok (.aload_n 0, 1) := by decide +kernel
theorem dX9_merge_77 : decode cX9_merge 77 = .ok (.iload_n 3, 1) := by decide +kernel
theorem dX9_merge_78 : decode cX9_merge 78 = .ok (.aload_n 0, 1) := by decide +kernel
theorem dX9_merge_79 : decode cX9_merge 79 = .ok (.getfield 13, 3) := by decide +kernel
theorem dX9_merge_82 : decode cX9_merge 82 = .ok (.iload 4, 2) := by decide +kernel
theorem dX9_merge_84 : decode cX9_merge 84 = .ok (.iaload, 1) := by decide +kernel
theorem dX9_merge_85 : decode cX9_merge 85 = .ok (.invokevirtual 184, 3) := by decide +kernel
theorem dX9_merge_88 : decode cX9_merge 88 = .ok (.istore 5, 2) := by decide +kernel
theorem dX9_merge_90 : decode cX9_merge 90 = .ok (.aload_n 0, 1) := by decide +kernel
theorem dX9_merge_91 : decode cX9_merge 91 = .ok (.getfield 13, 3) := by decide +kernel
theorem dX9_merge_94 : decode cX9_merge 94 = .ok (.iload 4, 2) := by decide +kernel
theorem dX9_merge_96 : decode cX9_merge 96 = .ok (.iaload, 1) := by decide +kernel
theorem dX9_merge_97 : decode cX9_merge 97 = .ok (.ifCond .ge 7, 3) := by decide +kernel
theorem dX9_merge_100 : decode cX9_merge 100 = .ok (.iconst 0, 1) := by decide +kernel
theorem dX9_merge_101 : decode cX9_merge 101 = .ok (.goto 16, 3) := by decide +kernel
theorem dX9_merge_104 : decode cX9_merge 104 = .ok (.aload_n 0, 1) := by decide +kernel
theorem dX9_merge_105 : decode cX9_merge 105 = .ok (.iload_n 1, 1) := by decide +kernel
theorem dX9_merge_106 : decode cX9_merge 106 = .ok (.iload_n 3, 1) := by decide +kernel
theorem dX9_merge_107 : decode cX9_merge 107 = .ok (.aload_n 0, 1) := by decide +kernel
theorem dX9_merge_108 : decode cX9_merge 108 = .ok (.getfield 13, 3) := by decide +kernel
theorem dX9_merge_111 : decode cX9_merge 111 = .ok (.iload 4, 2) := by decide +kernel
theorem dX9_merge_113 : decode cX9_merge 113 = .ok (.iaload, 1) := by decide +kernel
theorem dX9_merge_114 : decode cX9_merge 114 = .ok (.invokevirtual 322, 3) := by decide +kernel
theorem dX9_merge_117 : decode cX9_merge 117 = .ok (.istore 6, 2) := by decide +kernel
theorem dX9_merge_119 : decode cX9_merge 119 = .ok (.aload_n 0, 1) := by decide +kernel
theorem dX9_merge_120 : decode cX9_merge 120 = .ok (.getfield 13, 3) := by decide +kernel
theorem dX9_merge_123 : decode cX9_merge 123 = .ok (.iload 4, 2) := by decide +kernel
theorem dX9_merge_125 : decode cX9_merge 125 = .ok (.iaload, 1) := by decide +kernel
theorem dX9_merge_126 : decode cX9_merge 126 = .ok (.ifCond .ge 7, 3) := by decide +kernel
theorem dX9_merge_129 : decode cX9_merge 129 = .ok (.iconst 0, 1) := by decide +kernel
theorem dX9_merge_130 : decode cX9_merge 130 = .ok (.goto 4, 3) := by decide +kernel
theorem dX9_merge_133 : decode cX9_merge 133 = .ok (.iconst 1, 1) := by decide +kernel
theorem dX9_merge_134 : decode cX9_merge 134 = .ok (.istore 7, 2) := by decide +kernel
theorem dX9_merge_136 : decode cX9_merge 136 = .ok (.iload 7, 2) := by decide +kernel
theorem dX9_merge_138 : decode cX9_merge 138 = .ok (.iload 5, 2) := by decide +kernel
theorem dX9_merge_140 : decode cX9_merge 140 = .ok (.if_icmp .gt 81, 3) := by decide +kernel
theorem dX9_merge_143 : decode cX9_merge 143 = .ok (.iload 7, 2) := by decide +kernel
theorem dX9_merge_145 : decode cX9_merge 145 = .ok (.iload 6, 2) := by decide +kernel
theorem dX9_merge_147 : decode cX9_merge 147 = .ok (.if_icmp .gt 74, 3) := by decide +kernel
theorem dX9_merge_150 : decode cX9_merge 150 = .ok (.iload_n 3, 1) := by decide +kernel
theorem dX9_merge_151 : decode cX9_merge 151 = .ok (.iload 4, 2) := by decide +kernel
theorem dX9_merge_153 : decode cX9_merge 153 = .ok (.iload 7, 2) := by decide +kernel
theorem dX9_merge_155 : decode cX9_merge 155 = .ok (.invokestatic 150, 3) := by decide +kernel
theorem dX9_merge_158 : decode cX9_merge 158 = .ok (.istore 8, 2) := by decide +kernel
theorem dX9_merge_160 : decode cX9_merge 160 = .ok (.sipush 5760, 3) := by decide +kernel
theorem dX9_merge_163 : decode cX9_merge 163 = .ok (.iload_n 1, 1) := by decide +kernel
theorem dX9_merge_164 : decode cX9_merge 164 = .ok (.imul, 1) := by decide +kernel
theorem dX9_merge_165 : decode cX9_merge 165 = .ok (.iload 8, 2) := by decide +kernel
theorem dX9_merge_167 : decode cX9_merge 167 = .ok (.iadd, 1) := by decide +kernel
theorem dX9_merge_168 : decode cX9_merge 168 = .ok (.istore 9, 2) := by decide +kernel
theorem dX9_merge_170 : decode cX9_merge 170 = .ok (.aload_n 0, 1) := by decide +kernel
theorem dX9_merge_171 : decode cX9_merge 171 = .ok (.getfield 54, 3) := by decide +kernel
theorem dX9_merge_174 : decode cX9_merge 174 = .ok (.iload 8, 2) := by decide +kernel
theorem dX9_merge_176 : decode cX9_merge 176 = .ok (.iaload, 1) := by decide +kernel
theorem dX9_merge_177 : decode cX9_merge 177 = .ok (.ifCond .le 38, 3) := by decide +kernel
theorem dX9_merge_180 : decode cX9_merge 180 = .ok (.aload_n 0, 1) := by decide +kernel
theorem dX9_merge_181 : decode cX9_merge 181 = .ok (.getfield 100, 3) := by decide +kernel
theorem dX9_merge_184 : decode cX9_merge 184 = .ok (.iload 9, 2) := by decide +kernel
theorem dX9_merge_186 : decode cX9_merge 186 = .ok (.iaload, 1) := by decide +kernel
theorem dX9_merge_187 : decode cX9_merge 187 = .ok (.ifCond .ne 28, 3) := by decide +kernel
theorem dX9_merge_190 : decode cX9_merge 190 = .ok (.aload_n 0, 1) := by decide +kernel
theorem dX9_merge_191 : decode cX9_merge 191 = .ok (.getfield 51, 3) := by decide +kernel
theorem dX9_merge_194 : decode cX9_merge 194 = .ok (.iload 8, 2) := by decide +kernel
theorem dX9_merge_196 : decode cX9_merge 196 = .ok (.aload_n 0, 1) := by decide +kernel
theorem dX9_merge_197 : decode cX9_merge 197 = .ok (.getfield 97, 3) := by decide +kernel
theorem dX9_merge_200 : decode cX9_merge 200 = .ok (.iload 9, 2) := by decide +kernel
theorem dX9_merge_202 : decode cX9_merge 202 = .ok (.laload, 1) := by decide +kernel
theorem dX9_merge_203 : decode cX9_merge 203 = .ok (.lastore, 1) := by decide +kernel
theorem dX9_merge_204 : decode cX9_merge 204 = .ok (.aload_n 0, 1) := by decide +kernel
theorem dX9_merge_205 : decode cX9_merge 205 = .ok (.getfield 54, 3) := by decide +kernel
theorem dX9_merge_208 : decode cX9_merge 208 = .ok (.iload 8, 2) := by decide +kernel
theorem dX9_merge_210 : decode cX9_merge 210 = .ok (.iconst 0, 1) := by decide +kernel
theorem dX9_merge_211 : decode cX9_merge 211 = .ok (.iastore, 1) := by decide +kernel
theorem dX9_merge_212 : decode cX9_merge 212 = .ok (.iinc 2 1, 3) := by decide +kernel
theorem dX9_merge_215 : decode cX9_merge 215 = .ok (.iinc 7 1, 3) := by decide +kernel
theorem dX9_merge_218 : decode cX9_merge 218 = .ok (.goto (-82), 3) := by decide +kernel
theorem dX9_merge_221 : decode cX9_merge 221 = .ok (.iinc 4 1, 3) := by decide +kernel
theorem dX9_merge_224 : decode cX9_merge 224 = .ok (.goto (-197), 3) := by decide +kernel
theorem dX9_merge_227 : decode cX9_merge 227 = .ok (.iinc 3 1, 3) := by decide +kernel
theorem dX9_merge_230 : decode cX9_merge 230 = .ok (.goto (-216), 3) := by decide +kernel
theorem dX9_merge_233 : decode cX9_merge 233 = .ok (.iload_n 2, 1) := by decide +kernel
theorem dX9_merge_234 : decode cX9_merge 234 = .ok (.ireturn, 1) := by decide +kernel
def jX9_merge_221 (self14 : Int → Int → PH → RO) (self27 : Int → Int → PH → RO) (p0 p1 p2 p3 p4 : Int) (H : PH) : RO :=
  self27 p2 (w32 (p4 + 1)) H
set_option maxHeartbeats 4000000 in
theorem jX9_merge_221_ok {E : PE} {rr : Int} {HH : PH} (F : FX E cX9_merge RX9) (q : QE E (some (vi rr)) HH (some .int)) (hn : nLof E = 10) (hf : (roomOf E).frames = 2) (hl : (roomOf E).locals = 46) (self14 : Int → Int → PH → RO) (self27 : Int → Int → PH → RO) (p0 p1 p2 p3 p4 : Int) (H : PH) (ih14 : ∀ (v2 v3 : Int) (HV : PH), self14 v2 v3 HV = some (rr, HH) → PW E 14 [some (vr p0), some (vi p1), some (vi v2), some (vi v3), none, none, none, none, none, none] [] HV) (ih27 : ∀ (v2 v4 : Int) (HV : PH), self27 v2 v4 HV = some (rr, HH) → PW E 27 [some (vr p0), some (vi p1), some (vi v2), some (vi p3), some (vi v4), none, none, none, none, none] [] HV) (h : jX9_merge_221 self14 self27 p0 p1 p2 p3 p4 H = some (rr, HH)) : PW E 221 [some (vr p0), some (vi p1), some (vi p2), some (vi p3), some (vi p4), none, none, none, none, none] [] H := by
  unfold jX9_merge_221 at h
  refine pw_iinc (pc := 221) F dX9_merge_221 rfl (lt_nl hn (by decide)) [some (vr p0), some (vi p1), some (vi p2), some (vi p3), some (vi (w32 (p4 + 1))), none, none, none, none, none] rfl (by decide) ?_
  refine pw_goto (pc := 224) F 27 dX9_merge_224 (by decide) ?_
  exact pw_mask [true, true, true, true, true, true, true, true, true, true] (ls' := [some (vr p0), some (vi p1), some (vi p2), some (vi p3), some (vi (w32 (p4 + 1))), none, none, none, none, none]) rfl (ih27 p2 (w32 (p4 + 1)) H h)
def jX9_merge_215 (self14 : Int → Int → PH → RO) (self27 : Int → Int → PH → RO) (self136 : Int → Int → PH → RO) (p0 p1 p2 p3 p4 p5 p6 p7 : Int) (H : PH) : RO :=
  self136 p2 (w32 (p7 + 1)) H
set_option maxHeartbeats 4000000 in
theorem jX9_merge_215_ok {E : PE} {rr : Int} {HH : PH} (F : FX E cX9_merge RX9) (q : QE E (some (vi rr)) HH (some .int)) (hn : nLof E = 10) (hf : (roomOf E).frames = 2) (hl : (roomOf E).locals = 46) (self14 : Int → Int → PH → RO) (self27 : Int → Int → PH → RO) (self136 : Int → Int → PH → RO) (p0 p1 p2 p3 p4 p5 p6 p7 : Int) (H : PH) (ih14 : ∀ (v2 v3 : Int) (HV : PH), self14 v2 v3 HV = some (rr, HH) → PW E 14 [some (vr p0), some (vi p1), some (vi v2), some (vi v3), none, none, none, none, none, none] [] HV) (ih27 : ∀ (v2 v4 : Int) (HV : PH), self27 v2 v4 HV = some (rr, HH) → PW E 27 [some (vr p0), some (vi p1), some (vi v2), some (vi p3), some (vi v4), none, none, none, none, none] [] HV) (ih136 : ∀ (v2 v7 : Int) (HV : PH), self136 v2 v7 HV = some (rr, HH) → PW E 136 [some (vr p0), some (vi p1), some (vi v2), some (vi p3), some (vi p4), some (vi p5), some (vi p6), some (vi v7), none, none] [] HV) (h : jX9_merge_215 self14 self27 self136 p0 p1 p2 p3 p4 p5 p6 p7 H = some (rr, HH)) : PW E 215 [some (vr p0), some (vi p1), some (vi p2), some (vi p3), some (vi p4), some (vi p5), some (vi p6), some (vi p7), none, none] [] H := by
  unfold jX9_merge_215 at h
  refine pw_iinc (pc := 215) F dX9_merge_215 rfl (lt_nl hn (by decide)) [some (vr p0), some (vi p1), some (vi p2), some (vi p3), some (vi p4), some (vi p5), some (vi p6), some (vi (w32 (p7 + 1))), none, none] rfl (by decide) ?_
  refine pw_goto (pc := 218) F 136 dX9_merge_218 (by decide) ?_
  exact pw_mask [true, true, true, true, true, true, true, true, true, true] (ls' := [some (vr p0), some (vi p1), some (vi p2), some (vi p3), some (vi p4), some (vi p5), some (vi p6), some (vi (w32 (p7 + 1))), none, none]) rfl (ih136 p2 (w32 (p7 + 1)) H h)
def lX9_merge_136 (self14 : Int → Int → PH → RO) (self27 : Int → Int → PH → RO) (p0 p1 p3 p4 p5 p6 : Int) (self136 : Int → Int → PH → RO) (p2 p7 : Int) (H : PH) : RO :=
  (if p7 > p5 then jX9_merge_221 self14 self27 p0 p1 p2 p3 p4 H
  else (if p7 > p6 then jX9_merge_221 self14 self27 p0 p1 p2 p3 p4 H
  else (f_X9_place p3 p4 p7 H).bind fun z1 => (ld 25 z1.2 p0 16).bind fun x2 => (ld 0 z1.2 x2 z1.1).bind fun x3 => (if x3 ≤ 0 then jX9_merge_215 self14 self27 self136 p0 p1 p2 p3 p4 p5 p6 p7 z1.2
  else (ld 25 z1.2 p0 34).bind fun x4 => (ld 0 z1.2 x4 (w32 ((w32 (5760 * p1)) + z1.1))).bind fun x5 => (if x5 ≠ 0 then jX9_merge_215 self14 self27 self136 p0 p1 p2 p3 p4 p5 p6 p7 z1.2
  else (ld 25 z1.2 p0 15).bind fun x6 => (ld 25 z1.2 p0 33).bind fun x7 => (ld 1 z1.2 x7 (w32 ((w32 (5760 * p1)) + z1.1))).bind fun x8 => (stv 1 z1.2 x6 z1.1 x8).bind fun H9 => (ld 25 H9 p0 16).bind fun x10 => (stv 0 H9 x10 z1.1 0).bind fun H11 => jX9_merge_215 self14 self27 self136 p0 p1 (w32 (p2 + 1)) p3 p4 p5 p6 p7 H11))))
set_option maxHeartbeats 4000000 in
theorem lX9_merge_136_ok {E : PE} {rr : Int} {HH : PH} (F : FX E cX9_merge RX9) (q : QE E (some (vi rr)) HH (some .int)) (hn : nLof E = 10) (hf : (roomOf E).frames = 2) (hl : (roomOf E).locals = 46) (self14 : Int → Int → PH → RO) (self27 : Int → Int → PH → RO) (p0 p1 p3 p4 p5 p6 : Int) (ih14 : ∀ (v2 v3 : Int) (HV : PH), self14 v2 v3 HV = some (rr, HH) → PW E 14 [some (vr p0), some (vi p1), some (vi v2), some (vi v3), none, none, none, none, none, none] [] HV) (ih27 : ∀ (v2 v4 : Int) (HV : PH), self27 v2 v4 HV = some (rr, HH) → PW E 27 [some (vr p0), some (vi p1), some (vi v2), some (vi p3), some (vi v4), none, none, none, none, none] [] HV) : ∀ (n : Nat) (p2 p7 : Int) (H : PH), lq2 (lX9_merge_136 self14 self27 p0 p1 p3 p4 p5 p6) n p2 p7 H = some (rr, HH) → PW E 136 [some (vr p0), some (vi p1), some (vi p2), some (vi p3), some (vi p4), some (vi p5), some (vi p6), some (vi p7), none, none] [] H := by
  refine lq2_ind (P := fun p2 p7 H => PW E 136 [some (vr p0), some (vi p1), some (vi p2), some (vi p3), some (vi p4), some (vi p5), some (vi p6), some (vi p7), none, none] [] H) ?_
  intro self136 ih136 p2 p7 H h
  unfold lX9_merge_136 at h
  refine pw_iload (pc := 136) F dX9_merge_136 rfl ?_
  refine pw_iload (pc := 138) F dX9_merge_138 rfl ?_
  refine pw_icmp_gt (pc := 140) F 221 dX9_merge_140 (by decide) (fun hc => ?_) (fun hc => ?_)
  · have h := iteT hc h
    exact pw_mask [true, true, true, true, true, false, false, false, true, true] (ls' := [some (vr p0), some (vi p1), some (vi p2), some (vi p3), some (vi p4), none, none, none, none, none]) rfl (jX9_merge_221_ok F q hn hf hl self14 self27 p0 p1 p2 p3 p4 H ih14 ih27 h)
  · have h := iteF hc h
    refine pw_iload (pc := 143) F dX9_merge_143 rfl ?_
    refine pw_iload (pc := 145) F dX9_merge_145 rfl ?_
    refine pw_icmp_gt (pc := 147) F 221 dX9_merge_147 (by decide) (fun hc => ?_) (fun hc => ?_)
    · have h := iteT hc h
      exact pw_mask [true, true, true, true, true, false, false, false, true, true] (ls' := [some (vr p0), some (vi p1), some (vi p2), some (vi p3), some (vi p4), none, none, none, none, none]) rfl (jX9_merge_221_ok F q hn hf hl self14 self27 p0 p1 p2 p3 p4 H ih14 ih27 h)
    · have h := iteF hc h
      refine pw_iload_n (pc := 150) F dX9_merge_150 rfl ?_
      refine pw_iload (pc := 151) F dX9_merge_151 rfl ?_
      refine pw_iload (pc := 153) F dX9_merge_153 rfl ?_
      obtain ⟨z1, ez1, h⟩ := bnd h
      refine pw_callS (pc := 155) (as := [vi p3, vi p4, vi p7]) (st := []) (r := (some (vi z1.1))) F 150 (fun l => m_X9_place l p3 p4 p7 H z1.1 z1.2 ez1) g_ace1a9f84c g_ec0534314d g_2759d91faa g_205510d507 hd_X9_place (rm_ok hf hl (by decide) (by decide)) rfl dX9_merge_155 rfl (stk' := [vi z1.1]) rfl ?_
      refine pw_istore (pc := 158) F dX9_merge_158 (lt_nl hn (by decide)) [some (vr p0), some (vi p1), some (vi p2), some (vi p3), some (vi p4), some (vi p5), some (vi p6), some (vi p7), some (vi z1.1), none] rfl ?_
      refine pw_sipush (pc := 160) F 5760 dX9_merge_160 (by decide) ?_
      refine pw_iload_n (pc := 163) F dX9_merge_163 rfl ?_
      refine pw_imul (pc := 164) F dX9_merge_164 ?_
      refine pw_iload (pc := 165) F dX9_merge_165 rfl ?_
      refine pw_iadd (pc := 167) F dX9_merge_167 ?_
      refine pw_istore (pc := 168) F dX9_merge_168 (lt_nl hn (by decide)) [some (vr p0), some (vi p1), some (vi p2), some (vi p3), some (vi p4), some (vi p5), some (vi p6), some (vi p7), some (vi z1.1), some (vi (w32 ((w32 (5760 * p1)) + z1.1)))] rfl ?_
      refine pw_aload_n (pc := 170) F dX9_merge_170 rfl ?_
      obtain ⟨x2, ex2, h⟩ := bnd h
      refine pw_get (pc := 171) F 9 16 54 (by decide) (by decide) g_fd9fcec31c inl_9 2 rfl dX9_merge_171 ex2 ?_
      refine pw_iload (pc := 174) F dX9_merge_174 rfl ?_
      obtain ⟨x3, ex3, h⟩ := bnd h
      refine pw_iald (pc := 176) F dX9_merge_176 ex3 ?_
      refine pw_if_le (pc := 177) F 215 dX9_merge_177 (by decide) (fun hc => ?_) (fun hc => ?_)
      · have h := iteT hc h
        exact pw_mask [true, true, true, true, true, true, true, true, false, false] (ls' := [some (vr p0), some (vi p1), some (vi p2), some (vi p3), some (vi p4), some (vi p5), some (vi p6), some (vi p7), none, none]) rfl (jX9_merge_215_ok F q hn hf hl self14 self27 self136 p0 p1 p2 p3 p4 p5 p6 p7 z1.2 ih14 ih27 ih136 h)
      · have h := iteF hc h
        refine pw_aload_n (pc := 180) F dX9_merge_180 rfl ?_
        obtain ⟨x4, ex4, h⟩ := bnd h
        refine pw_get (pc := 181) F 9 34 100 (by decide) (by decide) g_41a86a255d inl_9 2 rfl dX9_merge_181 ex4 ?_
        refine pw_iload (pc := 184) F dX9_merge_184 rfl ?_
        obtain ⟨x5, ex5, h⟩ := bnd h
        refine pw_iald (pc := 186) F dX9_merge_186 ex5 ?_
        refine pw_if_ne (pc := 187) F 215 dX9_merge_187 (by decide) (fun hc => ?_) (fun hc => ?_)
        · have h := iteT hc h
          exact pw_mask [true, true, true, true, true, true, true, true, false, false] (ls' := [some (vr p0), some (vi p1), some (vi p2), some (vi p3), some (vi p4), some (vi p5), some (vi p6), some (vi p7), none, none]) rfl (jX9_merge_215_ok F q hn hf hl self14 self27 self136 p0 p1 p2 p3 p4 p5 p6 p7 z1.2 ih14 ih27 ih136 h)
        · have h := iteF hc h
          refine pw_aload_n (pc := 190) F dX9_merge_190 rfl ?_
          obtain ⟨x6, ex6, h⟩ := bnd h
          refine pw_get (pc := 191) F 9 15 51 (by decide) (by decide) g_948f79b8fe inl_9 2 rfl dX9_merge_191 ex6 ?_
          refine pw_iload (pc := 194) F dX9_merge_194 rfl ?_
          refine pw_aload_n (pc := 196) F dX9_merge_196 rfl ?_
          obtain ⟨x7, ex7, h⟩ := bnd h
          refine pw_get (pc := 197) F 9 33 97 (by decide) (by decide) g_e5d5e6041e inl_9 2 rfl dX9_merge_197 ex7 ?_
          refine pw_iload (pc := 200) F dX9_merge_200 rfl ?_
          obtain ⟨x8, ex8, h⟩ := bnd h
          refine pw_lald (pc := 202) F dX9_merge_202 ex8 ?_
          obtain ⟨H9, eH9, h⟩ := bnd h
          refine pw_last (pc := 203) F dX9_merge_203 eH9 ?_
          refine pw_aload_n (pc := 204) F dX9_merge_204 rfl ?_
          obtain ⟨x10, ex10, h⟩ := bnd h
          refine pw_get (pc := 205) F 9 16 54 (by decide) (by decide) g_fd9fcec31c inl_9 2 rfl dX9_merge_205 ex10 ?_
          refine pw_iload (pc := 208) F dX9_merge_208 rfl ?_
          refine pw_iconst (pc := 210) F 0 dX9_merge_210 (by decide) ?_
          obtain ⟨H11, eH11, h⟩ := bnd h
          refine pw_iast (pc := 211) F dX9_merge_211 eH11 ?_
          refine pw_iinc (pc := 212) F dX9_merge_212 rfl (lt_nl hn (by decide)) [some (vr p0), some (vi p1), some (vi (w32 (p2 + 1))), some (vi p3), some (vi p4), some (vi p5), some (vi p6), some (vi p7), some (vi z1.1), some (vi (w32 ((w32 (5760 * p1)) + z1.1)))] rfl (by decide) ?_
          exact pw_mask [true, true, true, true, true, true, true, true, false, false] (ls' := [some (vr p0), some (vi p1), some (vi (w32 (p2 + 1))), some (vi p3), some (vi p4), some (vi p5), some (vi p6), some (vi p7), none, none]) rfl (jX9_merge_215_ok F q hn hf hl self14 self27 self136 p0 p1 (w32 (p2 + 1)) p3 p4 p5 p6 p7 H11 ih14 ih27 ih136 h)
def jX9_merge_134 (self14 : Int → Int → PH → RO) (self27 : Int → Int → PH → RO) (p0 p1 p2 p3 p4 p5 p6 s0 : Int) (H : PH) : RO :=
  lq2 (lX9_merge_136 self14 self27 p0 p1 p3 p4 p5 p6) 6000 p2 s0 H
set_option maxHeartbeats 4000000 in
theorem jX9_merge_134_ok {E : PE} {rr : Int} {HH : PH} (F : FX E cX9_merge RX9) (q : QE E (some (vi rr)) HH (some .int)) (hn : nLof E = 10) (hf : (roomOf E).frames = 2) (hl : (roomOf E).locals = 46) (self14 : Int → Int → PH → RO) (self27 : Int → Int → PH → RO) (p0 p1 p2 p3 p4 p5 p6 s0 : Int) (H : PH) (ih14 : ∀ (v2 v3 : Int) (HV : PH), self14 v2 v3 HV = some (rr, HH) → PW E 14 [some (vr p0), some (vi p1), some (vi v2), some (vi v3), none, none, none, none, none, none] [] HV) (ih27 : ∀ (v2 v4 : Int) (HV : PH), self27 v2 v4 HV = some (rr, HH) → PW E 27 [some (vr p0), some (vi p1), some (vi v2), some (vi p3), some (vi v4), none, none, none, none, none] [] HV) (h : jX9_merge_134 self14 self27 p0 p1 p2 p3 p4 p5 p6 s0 H = some (rr, HH)) : PW E 134 [some (vr p0), some (vi p1), some (vi p2), some (vi p3), some (vi p4), some (vi p5), some (vi p6), none, none, none] [vi s0] H := by
  unfold jX9_merge_134 at h
  refine pw_istore (pc := 134) F dX9_merge_134 (lt_nl hn (by decide)) [some (vr p0), some (vi p1), some (vi p2), some (vi p3), some (vi p4), some (vi p5), some (vi p6), some (vi s0), none, none] rfl ?_
  exact pw_mask [true, true, true, true, true, true, true, true, true, true] (ls' := [some (vr p0), some (vi p1), some (vi p2), some (vi p3), some (vi p4), some (vi p5), some (vi p6), some (vi s0), none, none]) rfl (lX9_merge_136_ok F q hn hf hl self14 self27 p0 p1 p3 p4 p5 p6 ih14 ih27  6000 p2 s0 H h)
def jX9_merge_117 (self14 : Int → Int → PH → RO) (self27 : Int → Int → PH → RO) (p0 p1 p2 p3 p4 p5 s0 : Int) (H : PH) : RO :=
  (ld 25 H p0 2).bind fun x1 => (ld 0 H x1 p4).bind fun x2 => (if x2 ≥ 0 then jX9_merge_134 self14 self27 p0 p1 p2 p3 p4 p5 s0 1 H
  else jX9_merge_134 self14 self27 p0 p1 p2 p3 p4 p5 s0 0 H)
set_option maxHeartbeats 4000000 in
theorem jX9_merge_117_ok {E : PE} {rr : Int} {HH : PH} (F : FX E cX9_merge RX9) (q : QE E (some (vi rr)) HH (some .int)) (hn : nLof E = 10) (hf : (roomOf E).frames = 2) (hl : (roomOf E).locals = 46) (self14 : Int → Int → PH → RO) (self27 : Int → Int → PH → RO) (p0 p1 p2 p3 p4 p5 s0 : Int) (H : PH) (ih14 : ∀ (v2 v3 : Int) (HV : PH), self14 v2 v3 HV = some (rr, HH) → PW E 14 [some (vr p0), some (vi p1), some (vi v2), some (vi v3), none, none, none, none, none, none] [] HV) (ih27 : ∀ (v2 v4 : Int) (HV : PH), self27 v2 v4 HV = some (rr, HH) → PW E 27 [some (vr p0), some (vi p1), some (vi v2), some (vi p3), some (vi v4), none, none, none, none, none] [] HV) (h : jX9_merge_117 self14 self27 p0 p1 p2 p3 p4 p5 s0 H = some (rr, HH)) : PW E 117 [some (vr p0), some (vi p1), some (vi p2), some (vi p3), some (vi p4), some (vi p5), none, none, none, none] [vi s0] H := by
  unfold jX9_merge_117 at h
  refine pw_istore (pc := 117) F dX9_merge_117 (lt_nl hn (by decide)) [some (vr p0), some (vi p1), some (vi p2), some (vi p3), some (vi p4), some (vi p5), some (vi s0), none, none, none] rfl ?_
  refine pw_aload_n (pc := 119) F dX9_merge_119 rfl ?_
  obtain ⟨x1, ex1, h⟩ := bnd h
  refine pw_get (pc := 120) F 9 2 13 (by decide) (by decide) g_0c2899f53f inl_9 2 rfl dX9_merge_120 ex1 ?_
  refine pw_iload (pc := 123) F dX9_merge_123 rfl ?_
  obtain ⟨x2, ex2, h⟩ := bnd h
  refine pw_iald (pc := 125) F dX9_merge_125 ex2 ?_
  refine pw_if_ge (pc := 126) F 133 dX9_merge_126 (by decide) (fun hc => ?_) (fun hc => ?_)
  · have h := iteT hc h
    refine pw_iconst (pc := 133) F 1 dX9_merge_133 (by decide) ?_
    exact pw_mask [true, true, true, true, true, true, true, true, true, true] (ls' := [some (vr p0), some (vi p1), some (vi p2), some (vi p3), some (vi p4), some (vi p5), some (vi s0), none, none, none]) rfl (jX9_merge_134_ok F q hn hf hl self14 self27 p0 p1 p2 p3 p4 p5 s0 1 H ih14 ih27 h)
  · have h := iteF hc h
    refine pw_iconst (pc := 129) F 0 dX9_merge_129 (by decide) ?_
    refine pw_goto (pc := 130) F 134 dX9_merge_130 (by decide) ?_
    exact pw_mask [true, true, true, true, true, true, true, true, true, true] (ls' := [some (vr p0), some (vi p1), some (vi p2), some (vi p3), some (vi p4), some (vi p5), some (vi s0), none, none, none]) rfl (jX9_merge_134_ok F q hn hf hl self14 self27 p0 p1 p2 p3 p4 p5 s0 0 H ih14 ih27 h)
def jX9_merge_88 (self14 : Int → Int → PH → RO) (self27 : Int → Int → PH → RO) (p0 p1 p2 p3 p4 s0 : Int) (H : PH) : RO :=
  (ld 25 H p0 2).bind fun x1 => (ld 0 H x1 p4).bind fun x2 => (if x2 ≥ 0 then (ld 25 H p0 2).bind fun x3 => (ld 0 H x3 p4).bind fun x4 => (f_X9_personsThen p0 p1 p3 x4 H).bind fun z5 => jX9_merge_117 self14 self27 p0 p1 p2 p3 p4 s0 z5.1 z5.2
  else jX9_merge_117 self14 self27 p0 p1 p2 p3 p4 s0 0 H)
set_option maxHeartbeats 4000000 in
theorem jX9_merge_88_ok {E : PE} {rr : Int} {HH : PH} (F : FX E cX9_merge RX9) (q : QE E (some (vi rr)) HH (some .int)) (hn : nLof E = 10) (hf : (roomOf E).frames = 2) (hl : (roomOf E).locals = 46) (self14 : Int → Int → PH → RO) (self27 : Int → Int → PH → RO) (p0 p1 p2 p3 p4 s0 : Int) (H : PH) (ih14 : ∀ (v2 v3 : Int) (HV : PH), self14 v2 v3 HV = some (rr, HH) → PW E 14 [some (vr p0), some (vi p1), some (vi v2), some (vi v3), none, none, none, none, none, none] [] HV) (ih27 : ∀ (v2 v4 : Int) (HV : PH), self27 v2 v4 HV = some (rr, HH) → PW E 27 [some (vr p0), some (vi p1), some (vi v2), some (vi p3), some (vi v4), none, none, none, none, none] [] HV) (h : jX9_merge_88 self14 self27 p0 p1 p2 p3 p4 s0 H = some (rr, HH)) : PW E 88 [some (vr p0), some (vi p1), some (vi p2), some (vi p3), some (vi p4), none, none, none, none, none] [vi s0] H := by
  unfold jX9_merge_88 at h
  refine pw_istore (pc := 88) F dX9_merge_88 (lt_nl hn (by decide)) [some (vr p0), some (vi p1), some (vi p2), some (vi p3), some (vi p4), some (vi s0), none, none, none, none] rfl ?_
  refine pw_aload_n (pc := 90) F dX9_merge_90 rfl ?_
  obtain ⟨x1, ex1, h⟩ := bnd h
  refine pw_get (pc := 91) F 9 2 13 (by decide) (by decide) g_0c2899f53f inl_9 2 rfl dX9_merge_91 ex1 ?_
  refine pw_iload (pc := 94) F dX9_merge_94 rfl ?_
  obtain ⟨x2, ex2, h⟩ := bnd h
  refine pw_iald (pc := 96) F dX9_merge_96 ex2 ?_
  refine pw_if_ge (pc := 97) F 104 dX9_merge_97 (by decide) (fun hc => ?_) (fun hc => ?_)
  · have h := iteT hc h
    refine pw_aload_n (pc := 104) F dX9_merge_104 rfl ?_
    refine pw_iload_n (pc := 105) F dX9_merge_105 rfl ?_
    refine pw_iload_n (pc := 106) F dX9_merge_106 rfl ?_
    refine pw_aload_n (pc := 107) F dX9_merge_107 rfl ?_
    obtain ⟨x3, ex3, h⟩ := bnd h
    refine pw_get (pc := 108) F 9 2 13 (by decide) (by decide) g_0c2899f53f inl_9 2 rfl dX9_merge_108 ex3 ?_
    refine pw_iload (pc := 111) F dX9_merge_111 rfl ?_
    obtain ⟨x4, ex4, h⟩ := bnd h
    refine pw_iald (pc := 113) F dX9_merge_113 ex4 ?_
    obtain ⟨z5, ez5, h⟩ := bnd h
    refine pw_callV (pc := 114) (as := [vi p1, vi p3, vi x4]) (st := []) (r := (some (vi z5.1))) F 322 9 (by decide) rfl (fun l => m_X9_personsThen l p0 p1 p3 x4 H z5.1 z5.2 ez5) g_7240af1532 g_bbe3792e2d g_9a0cc18cc9 g_2759d91faa g_73f398285b hd_X9_personsThen (rm_ok hf hl (by decide) (by decide)) rfl (vm_spec ez5).1 dX9_merge_114 rfl (stk' := [vi z5.1]) rfl ?_
    exact pw_mask [true, true, true, true, true, true, true, true, true, true] (ls' := [some (vr p0), some (vi p1), some (vi p2), some (vi p3), some (vi p4), some (vi s0), none, none, none, none]) rfl (jX9_merge_117_ok F q hn hf hl self14 self27 p0 p1 p2 p3 p4 s0 z5.1 z5.2 ih14 ih27 h)
  · have h := iteF hc h
    refine pw_iconst (pc := 100) F 0 dX9_merge_100 (by decide) ?_
    refine pw_goto (pc := 101) F 117 dX9_merge_101 (by decide) ?_
    exact pw_mask [true, true, true, true, true, true, true, true, true, true] (ls' := [some (vr p0), some (vi p1), some (vi p2), some (vi p3), some (vi p4), some (vi s0), none, none, none, none]) rfl (jX9_merge_117_ok F q hn hf hl self14 self27 p0 p1 p2 p3 p4 s0 0 H ih14 ih27 h)
def lX9_merge_27 (self14 : Int → Int → PH → RO) (p0 p1 p3 : Int) (self27 : Int → Int → PH → RO) (p2 p4 : Int) (H : PH) : RO :=
  (ld 25 H p0 32).bind fun x1 => (ld 0 H x1 p1).bind fun x2 => (if p4 ≥ x2 then self14 p2 (w32 (p3 + 1)) H
  else (ld 25 H p0 3).bind fun x3 => (ld 0 H x3 p4).bind fun x4 => (if x4 > 0 then jX9_merge_221 self14 self27 p0 p1 p2 p3 p4 H
  else (ld 25 H p0 1).bind fun x5 => (ld 0 H x5 p4).bind fun x6 => (if x6 ≠ 5 then (ld 25 H p0 2).bind fun x7 => (ld 0 H x7 p4).bind fun x8 => (if x8 ≥ 0 then (ld 25 H p0 2).bind fun x9 => (ld 0 H x9 p4).bind fun x10 => (f_X9_persons p0 p3 x10 H).bind fun z11 => jX9_merge_88 self14 self27 p0 p1 p2 p3 p4 z11.1 z11.2
  else jX9_merge_88 self14 self27 p0 p1 p2 p3 p4 0 H)
  else jX9_merge_221 self14 self27 p0 p1 p2 p3 p4 H)))
set_option maxHeartbeats 4000000 in
theorem lX9_merge_27_ok {E : PE} {rr : Int} {HH : PH} (F : FX E cX9_merge RX9) (q : QE E (some (vi rr)) HH (some .int)) (hn : nLof E = 10) (hf : (roomOf E).frames = 2) (hl : (roomOf E).locals = 46) (self14 : Int → Int → PH → RO) (p0 p1 p3 : Int) (ih14 : ∀ (v2 v3 : Int) (HV : PH), self14 v2 v3 HV = some (rr, HH) → PW E 14 [some (vr p0), some (vi p1), some (vi v2), some (vi v3), none, none, none, none, none, none] [] HV) : ∀ (n : Nat) (p2 p4 : Int) (H : PH), lq2 (lX9_merge_27 self14 p0 p1 p3) n p2 p4 H = some (rr, HH) → PW E 27 [some (vr p0), some (vi p1), some (vi p2), some (vi p3), some (vi p4), none, none, none, none, none] [] H := by
  refine lq2_ind (P := fun p2 p4 H => PW E 27 [some (vr p0), some (vi p1), some (vi p2), some (vi p3), some (vi p4), none, none, none, none, none] [] H) ?_
  intro self27 ih27 p2 p4 H h
  unfold lX9_merge_27 at h
  refine pw_iload (pc := 27) F dX9_merge_27 rfl ?_
  refine pw_aload_n (pc := 29) F dX9_merge_29 rfl ?_
  obtain ⟨x1, ex1, h⟩ := bnd h
  refine pw_get (pc := 30) F 9 32 93 (by decide) (by decide) g_f2c3c3bf67 inl_9 2 rfl dX9_merge_30 ex1 ?_
  refine pw_iload_n (pc := 33) F dX9_merge_33 rfl ?_
  obtain ⟨x2, ex2, h⟩ := bnd h
  refine pw_iald (pc := 34) F dX9_merge_34 ex2 ?_
  refine pw_icmp_ge (pc := 35) F 227 dX9_merge_35 (by decide) (fun hc => ?_) (fun hc => ?_)
  · have h := iteT hc h
    refine pw_iinc (pc := 227) F dX9_merge_227 rfl (lt_nl hn (by decide)) [some (vr p0), some (vi p1), some (vi p2), some (vi (w32 (p3 + 1))), some (vi p4), none, none, none, none, none] rfl (by decide) ?_
    refine pw_goto (pc := 230) F 14 dX9_merge_230 (by decide) ?_
    exact pw_mask [true, true, true, true, false, true, true, true, true, true] (ls' := [some (vr p0), some (vi p1), some (vi p2), some (vi (w32 (p3 + 1))), none, none, none, none, none, none]) rfl (ih14 p2 (w32 (p3 + 1)) H h)
  · have h := iteF hc h
    refine pw_aload_n (pc := 38) F dX9_merge_38 rfl ?_
    obtain ⟨x3, ex3, h⟩ := bnd h
    refine pw_get (pc := 39) F 9 3 16 (by decide) (by decide) g_bd19d270ba inl_9 2 rfl dX9_merge_39 ex3 ?_
    refine pw_iload (pc := 42) F dX9_merge_42 rfl ?_
    obtain ⟨x4, ex4, h⟩ := bnd h
    refine pw_iald (pc := 44) F dX9_merge_44 ex4 ?_
    refine pw_if_gt (pc := 45) F 221 dX9_merge_45 (by decide) (fun hc => ?_) (fun hc => ?_)
    · have h := iteT hc h
      exact pw_mask [true, true, true, true, true, true, true, true, true, true] (ls' := [some (vr p0), some (vi p1), some (vi p2), some (vi p3), some (vi p4), none, none, none, none, none]) rfl (jX9_merge_221_ok F q hn hf hl self14 self27 p0 p1 p2 p3 p4 H ih14 ih27 h)
    · have h := iteF hc h
      refine pw_aload_n (pc := 48) F dX9_merge_48 rfl ?_
      obtain ⟨x5, ex5, h⟩ := bnd h
      refine pw_get (pc := 49) F 9 1 7 (by decide) (by decide) g_a89464ec18 inl_9 2 rfl dX9_merge_49 ex5 ?_
      refine pw_iload (pc := 52) F dX9_merge_52 rfl ?_
      obtain ⟨x6, ex6, h⟩ := bnd h
      refine pw_iald (pc := 54) F dX9_merge_54 ex6 ?_
      refine pw_iconst (pc := 55) F 5 dX9_merge_55 (by decide) ?_
      refine pw_icmp_ne (pc := 56) F 62 dX9_merge_56 (by decide) (fun hc => ?_) (fun hc => ?_)
      · have h := iteT hc h
        refine pw_aload_n (pc := 62) F dX9_merge_62 rfl ?_
        obtain ⟨x7, ex7, h⟩ := bnd h
        refine pw_get (pc := 63) F 9 2 13 (by decide) (by decide) g_0c2899f53f inl_9 2 rfl dX9_merge_63 ex7 ?_
        refine pw_iload (pc := 66) F dX9_merge_66 rfl ?_
        obtain ⟨x8, ex8, h⟩ := bnd h
        refine pw_iald (pc := 68) F dX9_merge_68 ex8 ?_
        refine pw_if_ge (pc := 69) F 76 dX9_merge_69 (by decide) (fun hc => ?_) (fun hc => ?_)
        · have h := iteT hc h
          refine pw_aload_n (pc := 76) F dX9_merge_76 rfl ?_
          refine pw_iload_n (pc := 77) F dX9_merge_77 rfl ?_
          refine pw_aload_n (pc := 78) F dX9_merge_78 rfl ?_
          obtain ⟨x9, ex9, h⟩ := bnd h
          refine pw_get (pc := 79) F 9 2 13 (by decide) (by decide) g_0c2899f53f inl_9 2 rfl dX9_merge_79 ex9 ?_
          refine pw_iload (pc := 82) F dX9_merge_82 rfl ?_
          obtain ⟨x10, ex10, h⟩ := bnd h
          refine pw_iald (pc := 84) F dX9_merge_84 ex10 ?_
          obtain ⟨z11, ez11, h⟩ := bnd h
          refine pw_callV (pc := 85) (as := [vi p3, vi x10]) (st := []) (r := (some (vi z11.1))) F 184 9 (by decide) rfl (fun l => m_X9_persons l p0 p3 x10 H z11.1 z11.2 ez11) g_de33c5095d g_d70a88cf42 g_2197e2f2b8 g_2759d91faa g_c55f0dc1c5 hd_X9_persons (rm_ok hf hl (by decide) (by decide)) rfl (vm_spec ez11).1 dX9_merge_85 rfl (stk' := [vi z11.1]) rfl ?_
          exact pw_mask [true, true, true, true, true, true, true, true, true, true] (ls' := [some (vr p0), some (vi p1), some (vi p2), some (vi p3), some (vi p4), none, none, none, none, none]) rfl (jX9_merge_88_ok F q hn hf hl self14 self27 p0 p1 p2 p3 p4 z11.1 z11.2 ih14 ih27 h)
        · have h := iteF hc h
          refine pw_iconst (pc := 72) F 0 dX9_merge_72 (by decide) ?_
          refine pw_goto (pc := 73) F 88 dX9_merge_73 (by decide) ?_
          exact pw_mask [true, true, true, true, true, true, true, true, true, true] (ls' := [some (vr p0), some (vi p1), some (vi p2), some (vi p3), some (vi p4), none, none, none, none, none]) rfl (jX9_merge_88_ok F q hn hf hl self14 self27 p0 p1 p2 p3 p4 0 H ih14 ih27 h)
      · have h := iteF hc h
        refine pw_goto (pc := 59) F 221 dX9_merge_59 (by decide) ?_
        exact pw_mask [true, true, true, true, true, true, true, true, true, true] (ls' := [some (vr p0), some (vi p1), some (vi p2), some (vi p3), some (vi p4), none, none, none, none, none]) rfl (jX9_merge_221_ok F q hn hf hl self14 self27 p0 p1 p2 p3 p4 H ih14 ih27 h)
def lX9_merge_14 (p0 p1 : Int) (self14 : Int → Int → PH → RO) (p2 p3 : Int) (H : PH) : RO :=
  (ld 25 H p0 31).bind fun x1 => (ld 0 H x1 p1).bind fun x2 => (if p3 ≥ x2 then some (p2, H)
  else lq2 (lX9_merge_27 self14 p0 p1 p3) 6000 p2 0 H)
set_option maxHeartbeats 4000000 in
theorem lX9_merge_14_ok {E : PE} {rr : Int} {HH : PH} (F : FX E cX9_merge RX9) (q : QE E (some (vi rr)) HH (some .int)) (hn : nLof E = 10) (hf : (roomOf E).frames = 2) (hl : (roomOf E).locals = 46) (p0 p1 : Int) : ∀ (n : Nat) (p2 p3 : Int) (H : PH), lq2 (lX9_merge_14 p0 p1) n p2 p3 H = some (rr, HH) → PW E 14 [some (vr p0), some (vi p1), some (vi p2), some (vi p3), none, none, none, none, none, none] [] H := by
  refine lq2_ind (P := fun p2 p3 H => PW E 14 [some (vr p0), some (vi p1), some (vi p2), some (vi p3), none, none, none, none, none, none] [] H) ?_
  intro self14 ih14 p2 p3 H h
  unfold lX9_merge_14 at h
  refine pw_iload_n (pc := 14) F dX9_merge_14 rfl ?_
  refine pw_aload_n (pc := 15) F dX9_merge_15 rfl ?_
  obtain ⟨x1, ex1, h⟩ := bnd h
  refine pw_get (pc := 16) F 9 31 90 (by decide) (by decide) g_b2cdc3fd82 inl_9 2 rfl dX9_merge_16 ex1 ?_
  refine pw_iload_n (pc := 19) F dX9_merge_19 rfl ?_
  obtain ⟨x2, ex2, h⟩ := bnd h
  refine pw_iald (pc := 20) F dX9_merge_20 ex2 ?_
  refine pw_icmp_ge (pc := 21) F 233 dX9_merge_21 (by decide) (fun hc => ?_) (fun hc => ?_)
  · have h := iteT hc h
    refine pw_iload_n (pc := 233) F dX9_merge_233 rfl ?_
    cases h
    exact pw_iret (pc := 234) F q dX9_merge_234
  · have h := iteF hc h
    refine pw_iconst (pc := 24) F 0 dX9_merge_24 (by decide) ?_
    refine pw_istore (pc := 25) F dX9_merge_25 (lt_nl hn (by decide)) [some (vr p0), some (vi p1), some (vi p2), some (vi p3), some (vi 0), none, none, none, none, none] rfl ?_
    exact pw_mask [true, true, true, true, true, true, true, true, true, true] (ls' := [some (vr p0), some (vi p1), some (vi p2), some (vi p3), some (vi 0), none, none, none, none, none]) rfl (lX9_merge_27_ok F q hn hf hl self14 p0 p1 p3 ih14  6000 p2 0 H h)
def f_X9_merge (a0 a1 : Int) (H : PH) : RO := vm 9 a0 H <|
  (f_X9_isEdition a0 a1 H).bind fun z1 => (if z1.1 ≠ 0 then lq2 (lX9_merge_14 a0 a1) 6000 0 0 z1.2
  else some ((-1), z1.2))
set_option maxHeartbeats 4000000 in
theorem m_X9_merge (l : Launch) (a0 a1 : Int) (H : PH) (rr : Int) (HH : PH) (h : f_X9_merge a0 a1 H = some (rr, HH)) : CT l yX9_merge cX9_merge 10 (some .int) 2 46 [vr a0, vi a1] H (some (vi rr)) HH := by
  refine CT.of RX9 (by decide) rfl [some (vr a0), some (vi a1), none, none, none, none, none, none, none, none] rfl rfl ?_
  intro E F q hn hf hl hm
  unfold f_X9_merge at h
  obtain ⟨hv, h⟩ := vm_spec h
  refine pw_aload_n (pc := 0) F dX9_merge_0 rfl ?_
  refine pw_iload_n (pc := 1) F dX9_merge_1 rfl ?_
  obtain ⟨z1, ez1, h⟩ := bnd h
  refine pw_callV (pc := 2) (as := [vi a1]) (st := []) (r := (some (vi z1.1))) F 319 9 (by decide) rfl (fun l => m_X9_isEdition l a0 a1 H z1.1 z1.2 ez1) g_dd0beb76bd g_1109160d54 g_f5f25b7a85 g_2759d91faa g_3abcb6d5e1 hd_X9_isEdition (rm_ok hf hl (by decide) (by decide)) rfl (vm_spec ez1).1 dX9_merge_2 rfl (stk' := [vi z1.1]) rfl ?_
  refine pw_if_ne (pc := 5) F 10 dX9_merge_5 (by decide) (fun hc => ?_) (fun hc => ?_)
  · have h := iteT hc h
    refine pw_iconst (pc := 10) F 0 dX9_merge_10 (by decide) ?_
    refine pw_istore_n (pc := 11) F dX9_merge_11 (lt_nl hn (by decide)) [some (vr a0), some (vi a1), some (vi 0), none, none, none, none, none, none, none] rfl ?_
    refine pw_iconst (pc := 12) F 0 dX9_merge_12 (by decide) ?_
    refine pw_istore_n (pc := 13) F dX9_merge_13 (lt_nl hn (by decide)) [some (vr a0), some (vi a1), some (vi 0), some (vi 0), none, none, none, none, none, none] rfl ?_
    exact pw_mask [true, true, true, true, true, true, true, true, true, true] (ls' := [some (vr a0), some (vi a1), some (vi 0), some (vi 0), none, none, none, none, none, none]) rfl (lX9_merge_14_ok F q hn hf hl a0 a1  6000 0 0 z1.2 h)
  · have h := iteF hc h
    refine pw_iconst (pc := 8) F (-1) dX9_merge_8 (by decide) ?_
    cases h
    exact pw_iret (pc := 9) F q dX9_merge_9
/-! HouseholdVaultModel.count(I)I -/
theorem dX9_count_0 : decode cX9_count 0 = .ok (.iload_n 1, 1) := by decide +kernel
theorem dX9_count_1 : decode cX9_count 1 = .ok (.tableswitch 91 0 5 #[39, 44, 49, 54, 59, 75], 39) := by decide +kernel
theorem dX9_count_40 : decode cX9_count 40 = .ok (.aload_n 0, 1) := by decide +kernel
theorem dX9_count_41 : decode cX9_count 41 = .ok (.getfield 136, 3) := by decide +kernel
theorem dX9_count_44 : decode cX9_count 44 = .ok (.ireturn, 1) := by decide +kernel
theorem dX9_count_45 : decode cX9_count 45 = .ok (.aload_n 0, 1) := by decide +kernel
theorem dX9_count_46 : decode cX9_count 46 = .ok (.getfield 144, 3) := by decide +kernel
theorem dX9_count_49 : decode cX9_count 49 = .ok (.ireturn, 1) := by decide +kernel
theorem dX9_count_50 : decode cX9_count 50 = .ok (.aload_n 0, 1) := by decide +kernel
theorem dX9_count_51 : decode cX9_count 51 = .ok (.getfield 147, 3) := by decide +kernel
theorem dX9_count_54 : decode cX9_count 54 = .ok (.ireturn, 1) := by decide +kernel
theorem dX9_count_55 : decode cX9_count 55 = .ok (.aload_n 0, 1) := by decide +kernel
theorem dX9_count_56 : decode cX9_count 56 = .ok (.getfield 316, 3) := by decide +kernel
theorem dX9_count_59 : decode cX9_count 59 = .ok (.ireturn, 1) := by decide +kernel
theorem dX9_count_60 : decode cX9_count 60 = .ok (.aload_n 0, 1) := by decide +kernel
theorem dX9_count_61 : decode cX9_count 61 = .ok (.getfield 268, 3) := by decide +kernel
theorem dX9_count_64 : decode cX9_count 64 = .ok (.ifCond .eq 10, 3) := by decide +kernel
theorem dX9_count_67 : decode cX9_count 67 = .ok (.aload_n 0, 1) := by decide +kernel
theorem dX9_count_68 : decode cX9_count 68 = .ok (.getfield 275, 3) := by decide +kernel
theorem dX9_count_71 : decode cX9_count 71 = .ok (.goto 4, 3) := by decide +kernel
theorem dX9_count_74 : decode cX9_count 74 = .ok (.iconst 0, 1) := by decide +kernel
theorem dX9_count_75 : decode cX9_count 75 = .ok (.ireturn, 1) := by decide +kernel
theorem dX9_count_76 : decode cX9_count 76 = .ok (.aload_n 0, 1) := by decide +kernel
theorem dX9_count_77 : decode cX9_count 77 = .ok (.getfield 268, 3) := by decide +kernel
theorem dX9_count_80 : decode cX9_count 80 = .ok (.ifCond .eq 10, 3) := by decide +kernel
theorem dX9_count_83 : decode cX9_count 83 = .ok (.aload_n 0, 1) := by decide +kernel
theorem dX9_count_84 : decode cX9_count 84 = .ok (.getfield 278, 3) := by decide +kernel
theorem dX9_count_87 : decode cX9_count 87 = .ok (.goto 4, 3) := by decide +kernel
theorem dX9_count_90 : decode cX9_count 90 = .ok (.iconst 0, 1) := by decide +kernel
theorem dX9_count_91 : decode cX9_count 91 = .ok (.ireturn, 1) := by decide +kernel
theorem dX9_count_92 : decode cX9_count 92 = .ok (.iconst (-1), 1) := by decide +kernel
theorem dX9_count_93 : decode cX9_count 93 = .ok (.ireturn, 1) := by decide +kernel
def f_X9_count (a0 a1 : Int) (H : PH) : RO := vm 9 a0 H <|
  (if a1 < 0 ∨ 5 < a1 then some ((-1), H)
  else List.getD [(ld 25 H a0 0).bind fun x1 => some (x1, H), (ld 25 H a0 14).bind fun x2 => some (x2, H), (ld 25 H a0 18).bind fun x3 => some (x3, H), (ld 25 H a0 30).bind fun x4 => some (x4, H), (ld 25 H a0 35).bind fun x5 => (if x5 = 0 then some (0, H)
  else (ld 25 H a0 37).bind fun x6 => some (x6, H)), (ld 25 H a0 35).bind fun x7 => (if x7 = 0 then some (0, H)
  else (ld 25 H a0 38).bind fun x8 => some (x8, H))] (a1 - 0).toNat none)
set_option maxHeartbeats 4000000 in
theorem m_X9_count (l : Launch) (a0 a1 : Int) (H : PH) (rr : Int) (HH : PH) (h : f_X9_count a0 a1 H = some (rr, HH)) : CT l yX9_count cX9_count 2 (some .int) 0 0 [vr a0, vi a1] H (some (vi rr)) HH := by
  refine CT.of RX9 (by decide) rfl [some (vr a0), some (vi a1)] rfl rfl ?_
  intro E F q hn hf hl hm
  unfold f_X9_count at h
  obtain ⟨hv, h⟩ := vm_spec h
  refine pw_iload_n (pc := 0) F dX9_count_0 rfl ?_
  refine pw_table (pc := 1) F dX9_count_1 92 (by decide) [40, 45, 50, 55, 60, 76] (by decide) (by decide) (fun hc => ?_) (fun i t ht ha => ?_)
  · have h := iteT hc h
    refine pw_iconst (pc := 92) F (-1) dX9_count_92 (by decide) ?_
    cases h
    exact pw_iret (pc := 93) F q dX9_count_93
  · have hc : ¬ (a1 < 0 ∨ 5 < a1) := sw_in 6 ht ha (by decide) (by decide)
    have h := iteF hc h
    have h := sw_at ha h
    match i, ht, h with
    | 0, ht, h =>
      obtain rfl : 40 = t := Option.some.inj ht
      have h : ((ld 25 H a0 0).bind fun x1 => some (x1, H) : RO) = some (rr, HH) := h
      refine pw_aload_n (pc := 40) F dX9_count_40 rfl ?_
      obtain ⟨x1, ex1, h⟩ := bnd h
      refine pw_get (pc := 41) F 9 0 136 (by decide) (by decide) g_eb25be88a8 inl_9 0 rfl dX9_count_41 ex1 ?_
      cases h
      exact pw_iret (pc := 44) F q dX9_count_44
    | 1, ht, h =>
      obtain rfl : 45 = t := Option.some.inj ht
      have h : ((ld 25 H a0 14).bind fun x2 => some (x2, H) : RO) = some (rr, HH) := h
      refine pw_aload_n (pc := 45) F dX9_count_45 rfl ?_
      obtain ⟨x2, ex2, h⟩ := bnd h
      refine pw_get (pc := 46) F 9 14 144 (by decide) (by decide) g_f4ed299937 inl_9 0 rfl dX9_count_46 ex2 ?_
      cases h
      exact pw_iret (pc := 49) F q dX9_count_49
    | 2, ht, h =>
      obtain rfl : 50 = t := Option.some.inj ht
      have h : ((ld 25 H a0 18).bind fun x3 => some (x3, H) : RO) = some (rr, HH) := h
      refine pw_aload_n (pc := 50) F dX9_count_50 rfl ?_
      obtain ⟨x3, ex3, h⟩ := bnd h
      refine pw_get (pc := 51) F 9 18 147 (by decide) (by decide) g_98b4b1c18b inl_9 0 rfl dX9_count_51 ex3 ?_
      cases h
      exact pw_iret (pc := 54) F q dX9_count_54
    | 3, ht, h =>
      obtain rfl : 55 = t := Option.some.inj ht
      have h : ((ld 25 H a0 30).bind fun x4 => some (x4, H) : RO) = some (rr, HH) := h
      refine pw_aload_n (pc := 55) F dX9_count_55 rfl ?_
      obtain ⟨x4, ex4, h⟩ := bnd h
      refine pw_get (pc := 56) F 9 30 316 (by decide) (by decide) g_3bdbf5cb09 inl_9 0 rfl dX9_count_56 ex4 ?_
      cases h
      exact pw_iret (pc := 59) F q dX9_count_59
    | 4, ht, h =>
      obtain rfl : 60 = t := Option.some.inj ht
      have h : ((ld 25 H a0 35).bind fun x5 => (if x5 = 0 then some (0, H)
  else (ld 25 H a0 37).bind fun x6 => some (x6, H)) : RO) = some (rr, HH) := h
      refine pw_aload_n (pc := 60) F dX9_count_60 rfl ?_
      obtain ⟨x5, ex5, h⟩ := bnd h
      refine pw_get (pc := 61) F 9 35 268 (by decide) (by decide) g_5b90579a7e inl_9 0 rfl dX9_count_61 ex5 ?_
      refine pw_if_eq (pc := 64) F 74 dX9_count_64 (by decide) (fun hc => ?_) (fun hc => ?_)
      · have h := iteT hc h
        refine pw_iconst (pc := 74) F 0 dX9_count_74 (by decide) ?_
        cases h
        exact pw_iret (pc := 75) F q dX9_count_75
      · have h := iteF hc h
        refine pw_aload_n (pc := 67) F dX9_count_67 rfl ?_
        obtain ⟨x6, ex6, h⟩ := bnd h
        refine pw_get (pc := 68) F 9 37 275 (by decide) (by decide) g_95aff2781a inl_9 0 rfl dX9_count_68 ex6 ?_
        refine pw_goto (pc := 71) F 75 dX9_count_71 (by decide) ?_
        cases h
        exact pw_iret (pc := 75) F q dX9_count_75
    | 5, ht, h =>
      obtain rfl : 76 = t := Option.some.inj ht
      have h : ((ld 25 H a0 35).bind fun x7 => (if x7 = 0 then some (0, H)
  else (ld 25 H a0 38).bind fun x8 => some (x8, H)) : RO) = some (rr, HH) := h
      refine pw_aload_n (pc := 76) F dX9_count_76 rfl ?_
      obtain ⟨x7, ex7, h⟩ := bnd h
      refine pw_get (pc := 77) F 9 35 268 (by decide) (by decide) g_5b90579a7e inl_9 0 rfl dX9_count_77 ex7 ?_
      refine pw_if_eq (pc := 80) F 90 dX9_count_80 (by decide) (fun hc => ?_) (fun hc => ?_)
      · have h := iteT hc h
        refine pw_iconst (pc := 90) F 0 dX9_count_90 (by decide) ?_
        cases h
        exact pw_iret (pc := 91) F q dX9_count_91
      · have h := iteF hc h
        refine pw_aload_n (pc := 83) F dX9_count_83 rfl ?_
        obtain ⟨x8, ex8, h⟩ := bnd h
        refine pw_get (pc := 84) F 9 38 278 (by decide) (by decide) g_3c3db0642c inl_9 0 rfl dX9_count_84 ex8 ?_
        refine pw_goto (pc := 87) F 91 dX9_count_87 (by decide) ?_
        cases h
        exact pw_iret (pc := 91) F q dX9_count_91
    | i + 6, ht, h => simp at ht
