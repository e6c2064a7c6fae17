/-! HouseholdVaultModel.sum(I)I -/
theorem dX9_sum_0 : decode cX9_sum 0 = .ok (.aload_n 0, 1) := by decide +kernel
theorem dX9_sum_1 : decode cX9_sum 1 = .ok (.iload_n 1, 1) := by decide +kernel
theorem dX9_sum_2 : decode cX9_sum 2 = .ok (.invokevirtual 163, 3) := by decide +kernel
theorem dX9_sum_5 : decode cX9_sum 5 = .ok (.ifCond .ne 5, 3) := by decide +kernel
theorem dX9_sum_8 : decode cX9_sum 8 = .ok (.iconst (-1), 1) := by decide +kernel
theorem dX9_sum_9 : decode cX9_sum 9 = .ok (.ireturn, 1) := by decide +kernel
theorem dX9_sum_10 : decode cX9_sum 10 = .ok (.aload_n 0, 1) := by decide +kernel
theorem dX9_sum_11 : decode cX9_sum 11 = .ok (.getfield 7, 3) := by decide +kernel
theorem dX9_sum_14 : decode cX9_sum 14 = .ok (.iload_n 1, 1) := by decide +kernel
theorem dX9_sum_15 : decode cX9_sum 15 = .ok (.iaload, 1) := by decide +kernel
theorem dX9_sum_16 : decode cX9_sum 16 = .ok (.iconst 2, 1) := by decide +kernel
theorem dX9_sum_17 : decode cX9_sum 17 = .ok (.if_icmp .eq 13, 3) := by decide +kernel
theorem dX9_sum_20 : decode cX9_sum 20 = .ok (.aload_n 0, 1) := by decide +kernel
theorem dX9_sum_21 : decode cX9_sum 21 = .ok (.getfield 7, 3) := by decide +kernel
theorem dX9_sum_24 : decode cX9_sum 24 = .ok (.iload_n 1, 1) := by decide +kernel
theorem dX9_sum_25 : decode cX9_sum 25 = .ok (.iaload, 1) := by decide +kernel
theorem dX9_sum_26 : decode cX9_sum 26 = .ok (.iconst 3, 1) := by decide +kernel
theorem dX9_sum_27 : decode cX9_sum 27 = .ok (.if_icmp .ne 12, 3) := by decide +kernel
theorem dX9_sum_30 : decode cX9_sum 30 = .ok (.aload_n 0, 1) := by decide +kernel
theorem dX9_sum_31 : decode cX9_sum 31 = .ok (.getfield 13, 3) := by decide +kernel
theorem dX9_sum_34 : decode cX9_sum 34 = .ok (.iload_n 1, 1) := by decide +kernel
theorem dX9_sum_35 : decode cX9_sum 35 = .ok (.iaload, 1) := by decide +kernel
theorem dX9_sum_36 : decode cX9_sum 36 = .ok (.ifCond .ge 6, 3) := by decide +kernel
theorem dX9_sum_39 : decode cX9_sum 39 = .ok (.bipush (-2), 2) := by decide +kernel
theorem dX9_sum_41 : decode cX9_sum 41 = .ok (.ireturn, 1) := by decide +kernel
theorem dX9_sum_42 : decode cX9_sum 42 = .ok (.aload_n 0, 1) := by decide +kernel
theorem dX9_sum_43 : decode cX9_sum 43 = .ok (.getfield 136, 3) := by decide +kernel
theorem dX9_sum_46 : decode cX9_sum 46 = .ok (.bipush 24, 2) := by decide +kernel
theorem dX9_sum_48 : decode cX9_sum 48 = .ok (.if_icmp .ne 6, 3) := by decide +kernel
theorem dX9_sum_51 : decode cX9_sum 51 = .ok (.bipush (-4), 2) := by decide +kernel
theorem dX9_sum_53 : decode cX9_sum 53 = .ok (.ireturn, 1) := by decide +kernel
theorem dX9_sum_54 : decode cX9_sum 54 = .ok (.aload_n 0, 1) := by decide +kernel
theorem dX9_sum_55 : decode cX9_sum 55 = .ok (.aload_n 0, 1) := by decide +kernel
theorem dX9_sum_56 : decode cX9_sum 56 = .ok (.getfield 7, 3) := by decide +kernel
theorem dX9_sum_59 : decode cX9_sum 59 = .ok (.iload_n 1, 1) := by decide +kernel
theorem dX9_sum_60 : decode cX9_sum 60 = .ok (.iaload, 1) := by decide +kernel
theorem dX9_sum_61 : decode cX9_sum 61 = .ok (.iconst (-1), 1) := by decide +kernel
theorem dX9_sum_62 : decode cX9_sum 62 = .ok (.iconst 3, 1) := by decide +kernel
theorem dX9_sum_63 : decode cX9_sum 63 = .ok (.invokevirtual 167, 3) := by decide +kernel
theorem dX9_sum_66 : decode cX9_sum 66 = .ok (.istore_n 2, 1) := by decide +kernel
theorem dX9_sum_67 : decode cX9_sum 67 = .ok (.aload_n 0, 1) := by decide +kernel
theorem dX9_sum_68 : decode cX9_sum 68 = .ok (.getfield 19, 3) := by decide +kernel
theorem dX9_sum_71 : decode cX9_sum 71 = .ok (.iload_n 2, 1) := by decide +kernel
theorem dX9_sum_72 : decode cX9_sum 72 = .ok (.iload_n 1, 1) := by decide +kernel
theorem dX9_sum_73 : decode cX9_sum 73 = .ok (.iastore, 1) := by decide +kernel
theorem dX9_sum_74 : decode cX9_sum 74 = .ok (.iload_n 2, 1) := by decide +kernel
theorem dX9_sum_75 : decode cX9_sum 75 = .ok (.ireturn, 1) := by decide +kernel
def jX9_sum_30 (p0 p1 : Int) (H : PH) : RO :=
  (ld 25 H p0 2).bind fun x1 => (ld 0 H x1 p1).bind fun x2 => (if x2 ≥ 0 then (ld 25 H p0 0).bind fun x3 => (if x3 ≠ 24 then (ld 25 H p0 1).bind fun x4 => (ld 0 H x4 p1).bind fun x5 => (f_X9_add p0 x5 (-1) 3 H).bind fun z6 => (ld 25 z6.2 p0 4).bind fun x7 => (stv 0 z6.2 x7 z6.1 p1).bind fun H8 => some (z6.1, H8)
  else some ((-4), H))
  else some ((-2), H))
set_option maxHeartbeats 4000000 in
theorem jX9_sum_30_ok {E : PE} {rr : Int} {HH : PH} (F : FX E cX9_sum RX9) (q : QE E (some (vi rr)) HH (some .int)) (hn : nLof E = 3) (hf : (roomOf E).frames = 3) (hl : (roomOf E).locals = 70) (p0 p1 : Int) (H : PH) (h : jX9_sum_30 p0 p1 H = some (rr, HH)) : PW E 30 [some (vr p0), some (vi p1), none] [] H := by
  unfold jX9_sum_30 at h
  refine pw_aload_n (pc := 30) F dX9_sum_30 rfl ?_
  obtain ⟨x1, ex1, h⟩ := bnd h
  refine pw_get (pc := 31) F 9 2 13 (by decide) (by decide) g_0c2899f53f inl_9 2 rfl dX9_sum_31 ex1 ?_
  refine pw_iload_n (pc := 34) F dX9_sum_34 rfl ?_
  obtain ⟨x2, ex2, h⟩ := bnd h
  refine pw_iald (pc := 35) F dX9_sum_35 ex2 ?_
  refine pw_if_ge (pc := 36) F 42 dX9_sum_36 (by decide) (fun hc => ?_) (fun hc => ?_)
  · have h := iteT hc h
    refine pw_aload_n (pc := 42) F dX9_sum_42 rfl ?_
    obtain ⟨x3, ex3, h⟩ := bnd h
    refine pw_get (pc := 43) F 9 0 136 (by decide) (by decide) g_eb25be88a8 inl_9 0 rfl dX9_sum_43 ex3 ?_
    refine pw_bipush (pc := 46) F 24 dX9_sum_46 (by decide) ?_
    refine pw_icmp_ne (pc := 48) F 54 dX9_sum_48 (by decide) (fun hc => ?_) (fun hc => ?_)
    · have h := iteT hc h
      refine pw_aload_n (pc := 54) F dX9_sum_54 rfl ?_
      refine pw_aload_n (pc := 55) F dX9_sum_55 rfl ?_
      obtain ⟨x4, ex4, h⟩ := bnd h
      refine pw_get (pc := 56) F 9 1 7 (by decide) (by decide) g_a89464ec18 inl_9 2 rfl dX9_sum_56 ex4 ?_
      refine pw_iload_n (pc := 59) F dX9_sum_59 rfl ?_
      obtain ⟨x5, ex5, h⟩ := bnd h
      refine pw_iald (pc := 60) F dX9_sum_60 ex5 ?_
      refine pw_iconst (pc := 61) F (-1) dX9_sum_61 (by decide) ?_
      refine pw_iconst (pc := 62) F 3 dX9_sum_62 (by decide) ?_
      obtain ⟨z6, ez6, h⟩ := bnd h
      refine pw_callV (pc := 63) (as := [vi x5, vi (-1), vi 3]) (st := []) (r := (some (vi z6.1))) F 167 9 (by decide) rfl (fun l => m_X9_add l p0 x5 (-1) 3 H z6.1 z6.2 ez6) g_4e37b5869d g_00ef69ae41 g_862b2bfc9b g_2759d91faa g_c8224d232d hd_X9_add (rm_ok hf hl (by decide) (by decide)) rfl (vm_spec ez6).1 dX9_sum_63 rfl (stk' := [vi z6.1]) rfl ?_
      refine pw_istore_n (pc := 66) F dX9_sum_66 (lt_nl hn (by decide)) [some (vr p0), some (vi p1), some (vi z6.1)] rfl ?_
      refine pw_aload_n (pc := 67) F dX9_sum_67 rfl ?_
      obtain ⟨x7, ex7, h⟩ := bnd h
      refine pw_get (pc := 68) F 9 4 19 (by decide) (by decide) g_1b40c2a4c8 inl_9 2 rfl dX9_sum_68 ex7 ?_
      refine pw_iload_n (pc := 71) F dX9_sum_71 rfl ?_
      refine pw_iload_n (pc := 72) F dX9_sum_72 rfl ?_
      obtain ⟨H8, eH8, h⟩ := bnd h
      refine pw_iast (pc := 73) F dX9_sum_73 eH8 ?_
      refine pw_iload_n (pc := 74) F dX9_sum_74 rfl ?_
      cases h
      exact pw_iret (pc := 75) F q dX9_sum_75
    · have h := iteF hc h
      refine pw_bipush (pc := 51) F (-4) dX9_sum_51 (by decide) ?_
      cases h
      exact pw_iret (pc := 53) F q dX9_sum_53
  · have h := iteF hc h
    refine pw_bipush (pc := 39) F (-2) dX9_sum_39 (by decide) ?_
    cases h
    exact pw_iret (pc := 41) F q dX9_sum_41
def f_X9_sum (a0 a1 : Int) (H : PH) : RO := vm 9 a0 H <|
  (f_X9_isQuestion a0 a1 H).bind fun z1 => (if z1.1 ≠ 0 then (ld 25 z1.2 a0 1).bind fun x2 => (ld 0 z1.2 x2 a1).bind fun x3 => (if x3 = 2 then jX9_sum_30 a0 a1 z1.2
  else (ld 25 z1.2 a0 1).bind fun x4 => (ld 0 z1.2 x4 a1).bind fun x5 => (if x5 ≠ 3 then some ((-2), z1.2)
  else jX9_sum_30 a0 a1 z1.2))
  else some ((-1), z1.2))
set_option maxHeartbeats 4000000 in
theorem m_X9_sum (l : Launch) (a0 a1 : Int) (H : PH) (rr : Int) (HH : PH) (h : f_X9_sum a0 a1 H = some (rr, HH)) : CT l yX9_sum cX9_sum 3 (some .int) 3 70 [vr a0, vi a1] H (some (vi rr)) HH := by
  refine CT.of RX9 (by decide) rfl [some (vr a0), some (vi a1), none] rfl rfl ?_
  intro E F q hn hf hl hm
  unfold f_X9_sum at h
  obtain ⟨hv, h⟩ := vm_spec h
  refine pw_aload_n (pc := 0) F dX9_sum_0 rfl ?_
  refine pw_iload_n (pc := 1) F dX9_sum_1 rfl ?_
  obtain ⟨z1, ez1, h⟩ := bnd h
  refine pw_callV (pc := 2) (as := [vi a1]) (st := []) (r := (some (vi z1.1))) F 163 9 (by decide) rfl (fun l => m_X9_isQuestion l a0 a1 H z1.1 z1.2 ez1) g_26236cf357 g_504499df23 g_65a9490ac1 g_2759d91faa g_4f2165d1ca hd_X9_isQuestion (rm_ok hf hl (by decide) (by decide)) rfl (vm_spec ez1).1 dX9_sum_2 rfl (stk' := [vi z1.1]) rfl ?_
  refine pw_if_ne (pc := 5) F 10 dX9_sum_5 (by decide) (fun hc => ?_) (fun hc => ?_)
  · have h := iteT hc h
    refine pw_aload_n (pc := 10) F dX9_sum_10 rfl ?_
    obtain ⟨x2, ex2, h⟩ := bnd h
    refine pw_get (pc := 11) F 9 1 7 (by decide) (by decide) g_a89464ec18 inl_9 2 rfl dX9_sum_11 ex2 ?_
    refine pw_iload_n (pc := 14) F dX9_sum_14 rfl ?_
    obtain ⟨x3, ex3, h⟩ := bnd h
    refine pw_iald (pc := 15) F dX9_sum_15 ex3 ?_
    refine pw_iconst (pc := 16) F 2 dX9_sum_16 (by decide) ?_
    refine pw_icmp_eq (pc := 17) F 30 dX9_sum_17 (by decide) (fun hc => ?_) (fun hc => ?_)
    · have h := iteT hc h
      exact pw_mask [true, true, true] (ls' := [some (vr a0), some (vi a1), none]) rfl (jX9_sum_30_ok F q hn hf hl a0 a1 z1.2 h)
    · have h := iteF hc h
      refine pw_aload_n (pc := 20) F dX9_sum_20 rfl ?_
      obtain ⟨x4, ex4, h⟩ := bnd h
      refine pw_get (pc := 21) F 9 1 7 (by decide) (by decide) g_a89464ec18 inl_9 2 rfl dX9_sum_21 ex4 ?_
      refine pw_iload_n (pc := 24) F dX9_sum_24 rfl ?_
      obtain ⟨x5, ex5, h⟩ := bnd h
      refine pw_iald (pc := 25) F dX9_sum_25 ex5 ?_
      refine pw_iconst (pc := 26) F 3 dX9_sum_26 (by decide) ?_
      refine pw_icmp_ne (pc := 27) F 39 dX9_sum_27 (by decide) (fun hc => ?_) (fun hc => ?_)
      · have h := iteT hc h
        refine pw_bipush (pc := 39) F (-2) dX9_sum_39 (by decide) ?_
        cases h
        exact pw_iret (pc := 41) F q dX9_sum_41
      · have h := iteF hc h
        exact pw_mask [true, true, true] (ls' := [some (vr a0), some (vi a1), none]) rfl (jX9_sum_30_ok F q hn hf hl a0 a1 z1.2 h)
  · have h := iteF hc h
    refine pw_iconst (pc := 8) F (-1) dX9_sum_8 (by decide) ?_
    cases h
    exact pw_iret (pc := 9) F q dX9_sum_9
/-! HouseholdVaultModel.of(II)I -/
theorem dX9_of_0 : decode cX9_of 0 = .ok (.aload_n 0, 1) := by decide +kernel
theorem dX9_of_1 : decode cX9_of 1 = .ok (.iload_n 1, 1) := by decide +kernel
theorem dX9_of_2 : decode cX9_of 2 = .ok (.invokevirtual 163, 3) := by decide +kernel
theorem dX9_of_5 : decode cX9_of 5 = .ok (.ifCond .ne 5, 3) := by decide +kernel
theorem dX9_of_8 : decode cX9_of 8 = .ok (.iconst (-1), 1) := by decide +kernel
theorem dX9_of_9 : decode cX9_of 9 = .ok (.ireturn, 1) := by decide +kernel
theorem dX9_of_10 : decode cX9_of 10 = .ok (.iload_n 2, 1) := by decide +kernel
theorem dX9_of_11 : decode cX9_of 11 = .ok (.tableswitch 87 0 5 #[37, 44, 51, 58, 65, 72], 37) := by decide +kernel
theorem dX9_of_48 : decode cX9_of 48 = .ok (.aload_n 0, 1) := by decide +kernel
theorem dX9_of_49 : decode cX9_of 49 = .ok (.getfield 7, 3) := by decide +kernel
theorem dX9_of_52 : decode cX9_of 52 = .ok (.iload_n 1, 1) := by decide +kernel
theorem dX9_of_53 : decode cX9_of 53 = .ok (.iaload, 1) := by decide +kernel
theorem dX9_of_54 : decode cX9_of 54 = .ok (.ireturn, 1) := by decide +kernel
theorem dX9_of_55 : decode cX9_of 55 = .ok (.aload_n 0, 1) := by decide +kernel
theorem dX9_of_56 : decode cX9_of 56 = .ok (.getfield 13, 3) := by decide +kernel
theorem dX9_of_59 : decode cX9_of 59 = .ok (.iload_n 1, 1) := by decide +kernel
theorem dX9_of_60 : decode cX9_of 60 = .ok (.iaload, 1) := by decide +kernel
theorem dX9_of_61 : decode cX9_of 61 = .ok (.ireturn, 1) := by decide +kernel
theorem dX9_of_62 : decode cX9_of 62 = .ok (.aload_n 0, 1) := by decide +kernel
theorem dX9_of_63 : decode cX9_of 63 = .ok (.getfield 35, 3) := by decide +kernel
theorem dX9_of_66 : decode cX9_of 66 = .ok (.iload_n 1, 1) := by decide +kernel
theorem dX9_of_67 : decode cX9_of 67 = .ok (.iaload, 1) := by decide +kernel
theorem dX9_of_68 : decode cX9_of 68 = .ok (.ireturn, 1) := by decide +kernel
theorem dX9_of_69 : decode cX9_of 69 = .ok (.aload_n 0, 1) := by decide +kernel
theorem dX9_of_70 : decode cX9_of 70 = .ok (.getfield 16, 3) := by decide +kernel
theorem dX9_of_73 : decode cX9_of 73 = .ok (.iload_n 1, 1) := by decide +kernel
theorem dX9_of_74 : decode cX9_of 74 = .ok (.iaload, 1) := by decide +kernel
theorem dX9_of_75 : decode cX9_of 75 = .ok (.ireturn, 1) := by decide +kernel
theorem dX9_of_76 : decode cX9_of 76 = .ok (.aload_n 0, 1) := by decide +kernel
theorem dX9_of_77 : decode cX9_of 77 = .ok (.getfield 25, 3) := by decide +kernel
theorem dX9_of_80 : decode cX9_of 80 = .ok (.iload_n 1, 1) := by decide +kernel
theorem dX9_of_81 : decode cX9_of 81 = .ok (.iaload, 1) := by decide +kernel
theorem dX9_of_82 : decode cX9_of 82 = .ok (.ireturn, 1) := by decide +kernel
theorem dX9_of_83 : decode cX9_of 83 = .ok (.aload_n 0, 1) := by decide +kernel
theorem dX9_of_84 : decode cX9_of 84 = .ok (.getfield 28, 3) := by decide +kernel
theorem dX9_of_87 : decode cX9_of 87 = .ok (.iload_n 1, 1) := by decide +kernel
theorem dX9_of_88 : decode cX9_of 88 = .ok (.baload, 1) := by decide +kernel
theorem dX9_of_89 : decode cX9_of 89 = .ok (.ifCond .eq 7, 3) := by decide +kernel
theorem dX9_of_92 : decode cX9_of 92 = .ok (.iconst 1, 1) := by decide +kernel
theorem dX9_of_93 : decode cX9_of 93 = .ok (.goto 4, 3) := by decide +kernel
theorem dX9_of_96 : decode cX9_of 96 = .ok (.iconst 0, 1) := by decide +kernel
theorem dX9_of_97 : decode cX9_of 97 = .ok (.ireturn, 1) := by decide +kernel
theorem dX9_of_98 : decode cX9_of 98 = .ok (.iconst (-1), 1) := by decide +kernel
theorem dX9_of_99 : decode cX9_of 99 = .ok (.ireturn, 1) := by decide +kernel
def f_X9_of (a0 a1 a2 : Int) (H : PH) : RO := vm 9 a0 H <|
  (f_X9_isQuestion a0 a1 H).bind fun z1 => (if z1.1 ≠ 0 then (if a2 < 0 ∨ 5 < a2 then some ((-1), z1.2)
  else List.getD [(ld 25 z1.2 a0 1).bind fun x2 => (ld 0 z1.2 x2 a1).bind fun x3 => some (x3, z1.2), (ld 25 z1.2 a0 2).bind fun x4 => (ld 0 z1.2 x4 a1).bind fun x5 => some (x5, z1.2), (ld 25 z1.2 a0 9).bind fun x6 => (ld 0 z1.2 x6 a1).bind fun x7 => some (x7, z1.2), (ld 25 z1.2 a0 3).bind fun x8 => (ld 0 z1.2 x8 a1).bind fun x9 => some (x9, z1.2), (ld 25 z1.2 a0 6).bind fun x10 => (ld 0 z1.2 x10 a1).bind fun x11 => some (x11, z1.2), (ld 25 z1.2 a0 7).bind fun x12 => (ld 2 z1.2 x12 a1).bind fun x13 => (if x13 = 0 then some (0, z1.2)
  else some (1, z1.2))] (a2 - 0).toNat none)
  else some ((-1), z1.2))
set_option maxHeartbeats 4000000 in
theorem m_X9_of (l : Launch) (a0 a1 a2 : Int) (H : PH) (rr : Int) (HH : PH) (h : f_X9_of a0 a1 a2 H = some (rr, HH)) : CT l yX9_of cX9_of 3 (some .int) 2 46 [vr a0, vi a1, vi a2] H (some (vi rr)) HH := by
  refine CT.of RX9 (by decide) rfl [some (vr a0), some (vi a1), some (vi a2)] rfl rfl ?_
  intro E F q hn hf hl hm
  unfold f_X9_of at h
  obtain ⟨hv, h⟩ := vm_spec h
  refine pw_aload_n (pc := 0) F dX9_of_0 rfl ?_
  refine pw_iload_n (pc := 1) F dX9_of_1 rfl ?_
  obtain ⟨z1, ez1, h⟩ := bnd h
  refine pw_callV (pc := 2) (as := [vi a1]) (st := []) (r := (some (vi z1.1))) F 163 9 (by decide) rfl (fun l => m_X9_isQuestion l a0 a1 H z1.1 z1.2 ez1) g_26236cf357 g_504499df23 g_65a9490ac1 g_2759d91faa g_4f2165d1ca hd_X9_isQuestion (rm_ok hf hl (by decide) (by decide)) rfl (vm_spec ez1).1 dX9_of_2 rfl (stk' := [vi z1.1]) rfl ?_
  refine pw_if_ne (pc := 5) F 10 dX9_of_5 (by decide) (fun hc => ?_) (fun hc => ?_)
  · have h := iteT hc h
    refine pw_iload_n (pc := 10) F dX9_of_10 rfl ?_
    refine pw_table (pc := 11) F dX9_of_11 98 (by decide) [48, 55, 62, 69, 76, 83] (by decide) (by decide) (fun hc => ?_) (fun i t ht ha => ?_)
    · have h := iteT hc h
      refine pw_iconst (pc := 98) F (-1) dX9_of_98 (by decide) ?_
      cases h
      exact pw_iret (pc := 99) F q dX9_of_99
    · have hc : ¬ (a2 < 0 ∨ 5 < a2) := sw_in 6 ht ha (by decide) (by decide)
      have h := iteF hc h
      have h := sw_at ha h
      match i, ht, h with
      | 0, ht, h =>
        obtain rfl : 48 = t := Option.some.inj ht
        have h : ((ld 25 z1.2 a0 1).bind fun x2 => (ld 0 z1.2 x2 a1).bind fun x3 => some (x3, z1.2) : RO) = some (rr, HH) := h
        refine pw_aload_n (pc := 48) F dX9_of_48 rfl ?_
        obtain ⟨x2, ex2, h⟩ := bnd h
        refine pw_get (pc := 49) F 9 1 7 (by decide) (by decide) g_a89464ec18 inl_9 2 rfl dX9_of_49 ex2 ?_
        refine pw_iload_n (pc := 52) F dX9_of_52 rfl ?_
        obtain ⟨x3, ex3, h⟩ := bnd h
        refine pw_iald (pc := 53) F dX9_of_53 ex3 ?_
        cases h
        exact pw_iret (pc := 54) F q dX9_of_54
      | 1, ht, h =>
        obtain rfl : 55 = t := Option.some.inj ht
        have h : ((ld 25 z1.2 a0 2).bind fun x4 => (ld 0 z1.2 x4 a1).bind fun x5 => some (x5, z1.2) : RO) = some (rr, HH) := h
        refine pw_aload_n (pc := 55) F dX9_of_55 rfl ?_
        obtain ⟨x4, ex4, h⟩ := bnd h
        refine pw_get (pc := 56) F 9 2 13 (by decide) (by decide) g_0c2899f53f inl_9 2 rfl dX9_of_56 ex4 ?_
        refine pw_iload_n (pc := 59) F dX9_of_59 rfl ?_
        obtain ⟨x5, ex5, h⟩ := bnd h
        refine pw_iald (pc := 60) F dX9_of_60 ex5 ?_
        cases h
        exact pw_iret (pc := 61) F q dX9_of_61
      | 2, ht, h =>
        obtain rfl : 62 = t := Option.some.inj ht
        have h : ((ld 25 z1.2 a0 9).bind fun x6 => (ld 0 z1.2 x6 a1).bind fun x7 => some (x7, z1.2) : RO) = some (rr, HH) := h
        refine pw_aload_n (pc := 62) F dX9_of_62 rfl ?_
        obtain ⟨x6, ex6, h⟩ := bnd h
        refine pw_get (pc := 63) F 9 9 35 (by decide) (by decide) g_364d877551 inl_9 2 rfl dX9_of_63 ex6 ?_
        refine pw_iload_n (pc := 66) F dX9_of_66 rfl ?_
        obtain ⟨x7, ex7, h⟩ := bnd h
        refine pw_iald (pc := 67) F dX9_of_67 ex7 ?_
        cases h
        exact pw_iret (pc := 68) F q dX9_of_68
      | 3, ht, h =>
        obtain rfl : 69 = t := Option.some.inj ht
        have h : ((ld 25 z1.2 a0 3).bind fun x8 => (ld 0 z1.2 x8 a1).bind fun x9 => some (x9, z1.2) : RO) = some (rr, HH) := h
        refine pw_aload_n (pc := 69) F dX9_of_69 rfl ?_
        obtain ⟨x8, ex8, h⟩ := bnd h
        refine pw_get (pc := 70) F 9 3 16 (by decide) (by decide) g_bd19d270ba inl_9 2 rfl dX9_of_70 ex8 ?_
        refine pw_iload_n (pc := 73) F dX9_of_73 rfl ?_
        obtain ⟨x9, ex9, h⟩ := bnd h
        refine pw_iald (pc := 74) F dX9_of_74 ex9 ?_
        cases h
        exact pw_iret (pc := 75) F q dX9_of_75
      | 4, ht, h =>
        obtain rfl : 76 = t := Option.some.inj ht
        have h : ((ld 25 z1.2 a0 6).bind fun x10 => (ld 0 z1.2 x10 a1).bind fun x11 => some (x11, z1.2) : RO) = some (rr, HH) := h
        refine pw_aload_n (pc := 76) F dX9_of_76 rfl ?_
        obtain ⟨x10, ex10, h⟩ := bnd h
        refine pw_get (pc := 77) F 9 6 25 (by decide) (by decide) g_10019bf10f inl_9 2 rfl dX9_of_77 ex10 ?_
        refine pw_iload_n (pc := 80) F dX9_of_80 rfl ?_
        obtain ⟨x11, ex11, h⟩ := bnd h
        refine pw_iald (pc := 81) F dX9_of_81 ex11 ?_
        cases h
        exact pw_iret (pc := 82) F q dX9_of_82
      | 5, ht, h =>
        obtain rfl : 83 = t := Option.some.inj ht
        have h : ((ld 25 z1.2 a0 7).bind fun x12 => (ld 2 z1.2 x12 a1).bind fun x13 => (if x13 = 0 then some (0, z1.2)
  else some (1, z1.2)) : RO) = some (rr, HH) := h
        refine pw_aload_n (pc := 83) F dX9_of_83 rfl ?_
        obtain ⟨x12, ex12, h⟩ := bnd h
        refine pw_get (pc := 84) F 9 7 28 (by decide) (by decide) g_993ceefc50 inl_9 2 rfl dX9_of_84 ex12 ?_
        refine pw_iload_n (pc := 87) F dX9_of_87 rfl ?_
        obtain ⟨x13, ex13, h⟩ := bnd h
        refine pw_zald (pc := 88) F dX9_of_88 ex13 ?_
        refine pw_if_eq (pc := 89) F 96 dX9_of_89 (by decide) (fun hc => ?_) (fun hc => ?_)
        · have h := iteT hc h
          refine pw_iconst (pc := 96) F 0 dX9_of_96 (by decide) ?_
          cases h
          exact pw_iret (pc := 97) F q dX9_of_97
        · have h := iteF hc h
          refine pw_iconst (pc := 92) F 1 dX9_of_92 (by decide) ?_
          refine pw_goto (pc := 93) F 97 dX9_of_93 (by decide) ?_
          cases h
          exact pw_iret (pc := 97) F q dX9_of_97
      | i + 6, ht, h => simp at ht
  · have h := iteF hc h
    refine pw_iconst (pc := 8) F (-1) dX9_of_8 (by decide) ?_
    cases h
    exact pw_iret (pc := 9) F q dX9_of_9
/-! HouseholdVaultModel.codeAt(II)I -/
theorem dX9_codeAt_0 : decode cX9_codeAt 0 = .ok (.aload_n 0, 1) := by decide +kernel
theorem dX9_codeAt_1 : decode cX9_codeAt 1 = .ok (.iload_n 1, 1) := by decide +kernel
theorem dX9_codeAt_2 : decode cX9_codeAt 2 = .ok (.invokevirtual 163, 3) := by decide +kernel
theorem dX9_codeAt_5 : decode cX9_codeAt 5 = .ok (.ifCond .eq 35, 3) := by decide +kernel
theorem dX9_codeAt_8 : decode cX9_codeAt 8 = .ok (.iload_n 2, 1) := by decide +kernel
theorem dX9_codeAt_9 : decode cX9_codeAt 9 = .ok (.i2l, 1) := by decide +kernel
theorem dX9_codeAt_10 : decode cX9_codeAt 10 = .ok (.lconst 0, 1) := by decide +kernel
theorem dX9_codeAt_11 : decode cX9_codeAt 11 = .ok (.aload_n 0, 1) := by decide +kernel
theorem dX9_codeAt_12 : decode cX9_codeAt 12 = .ok (.getfield 35, 3) := by decide +kernel
theorem dX9_codeAt_15 : decode cX9_codeAt 15 = .ok (.iload_n 1, 1) := by decide +kernel
theorem dX9_codeAt_16 : decode cX9_codeAt 16 = .ok (.iaload, 1) := by decide +kernel
theorem dX9_codeAt_17 : decode cX9_codeAt 17 = .ok (.iconst 1, 1) := by decide +kernel
theorem dX9_codeAt_18 : decode cX9_codeAt 18 = .ok (.isub, 1) := by decide +kernel
theorem dX9_codeAt_19 : decode cX9_codeAt 19 = .ok (.i2l, 1) := by decide +kernel
theorem dX9_codeAt_20 : decode cX9_codeAt 20 = .ok (.invokestatic 140, 3) := by decide +kernel
theorem dX9_codeAt_23 : decode cX9_codeAt 23 = .ok (.ifCond .eq 17, 3) := by decide +kernel
theorem dX9_codeAt_26 : decode cX9_codeAt 26 = .ok (.aload_n 0, 1) := by decide +kernel
theorem dX9_codeAt_27 : decode cX9_codeAt 27 = .ok (.getfield 32, 3) := by decide +kernel
theorem dX9_codeAt_30 : decode cX9_codeAt 30 = .ok (.bipush 8, 2) := by decide +kernel
theorem dX9_codeAt_32 : decode cX9_codeAt 32 = .ok (.iload_n 1, 1) := by decide +kernel
theorem dX9_codeAt_33 : decode cX9_codeAt 33 = .ok (.imul, 1) := by decide +kernel
theorem dX9_codeAt_34 : decode cX9_codeAt 34 = .ok (.iload_n 2, 1) := by decide +kernel
theorem dX9_codeAt_35 : decode cX9_codeAt 35 = .ok (.iadd, 1) := by decide +kernel
theorem dX9_codeAt_36 : decode cX9_codeAt 36 = .ok (.iaload, 1) := by decide +kernel
theorem dX9_codeAt_37 : decode cX9_codeAt 37 = .ok (.goto 6, 3) := by decide +kernel
theorem dX9_codeAt_40 : decode cX9_codeAt 40 = .ok (.sipush 1000, 3) := by decide +kernel
theorem dX9_codeAt_43 : decode cX9_codeAt 43 = .ok (.ireturn, 1) := by decide +kernel
def f_X9_codeAt (a0 a1 a2 : Int) (H : PH) : RO := vm 9 a0 H <|
  (f_X9_isQuestion a0 a1 H).bind fun z1 => (if z1.1 = 0 then some (1000, z1.2)
  else (ld 25 z1.2 a0 9).bind fun x2 => (ld 0 z1.2 x2 a1).bind fun x3 => (f_X9_in a2 0 (w32 (x3 - 1)) z1.2).bind fun z4 => (if z4.1 = 0 then some (1000, z4.2)
  else (ld 25 z4.2 a0 8).bind fun x5 => (ld 0 z4.2 x5 (w32 ((w32 (8 * a1)) + a2))).bind fun x6 => some (x6, z4.2)))
set_option maxHeartbeats 4000000 in
theorem m_X9_codeAt (l : Launch) (a0 a1 a2 : Int) (H : PH) (rr : Int) (HH : PH) (h : f_X9_codeAt a0 a1 a2 H = some (rr, HH)) : CT l yX9_codeAt cX9_codeAt 3 (some .int) 2 46 [vr a0, vi a1, vi a2] H (some (vi rr)) HH := by
  refine CT.of RX9 (by decide) rfl [some (vr a0), some (vi a1), some (vi a2)] rfl rfl ?_
  intro E F q hn hf hl hm
  unfold f_X9_codeAt at h
  obtain ⟨hv, h⟩ := vm_spec h
  refine pw_aload_n (pc := 0) F dX9_codeAt_0 rfl ?_
  refine pw_iload_n (pc := 1) F dX9_codeAt_1 rfl ?_
  obtain ⟨z1, ez1, h⟩ := bnd h
  refine pw_callV (pc := 2) (as := [vi a1]) (st := []) (r := (some (vi z1.1))) F 163 9 (by decide) rfl (fun l => m_X9_isQuestion l a0 a1 H z1.1 z1.2 ez1) g_26236cf357 g_504499df23 g_65a9490ac1 g_2759d91faa g_4f2165d1ca hd_X9_isQuestion (rm_ok hf hl (by decide) (by decide)) rfl (vm_spec ez1).1 dX9_codeAt_2 rfl (stk' := [vi z1.1]) rfl ?_
  refine pw_if_eq (pc := 5) F 40 dX9_codeAt_5 (by decide) (fun hc => ?_) (fun hc => ?_)
  · have h := iteT hc h
    refine pw_sipush (pc := 40) F 1000 dX9_codeAt_40 (by decide) ?_
    cases h
    exact pw_iret (pc := 43) F q dX9_codeAt_43
  · have h := iteF hc h
    refine pw_iload_n (pc := 8) F dX9_codeAt_8 rfl ?_
    refine pw_i2l (pc := 9) F dX9_codeAt_9 ?_
    refine pw_lconst (pc := 10) F 0 dX9_codeAt_10 (by decide) ?_
    refine pw_aload_n (pc := 11) F dX9_codeAt_11 rfl ?_
    obtain ⟨x2, ex2, h⟩ := bnd h
    refine pw_get (pc := 12) F 9 9 35 (by decide) (by decide) g_364d877551 inl_9 2 rfl dX9_codeAt_12 ex2 ?_
    refine pw_iload_n (pc := 15) F dX9_codeAt_15 rfl ?_
    obtain ⟨x3, ex3, h⟩ := bnd h
    refine pw_iald (pc := 16) F dX9_codeAt_16 ex3 ?_
    refine pw_iconst (pc := 17) F 1 dX9_codeAt_17 (by decide) ?_
    refine pw_isub (pc := 18) F dX9_codeAt_18 ?_
    refine pw_i2l (pc := 19) F dX9_codeAt_19 ?_
    obtain ⟨z4, ez4, h⟩ := bnd h
    refine pw_callS (pc := 20) (as := [vl a2, vl 0, vl (w32 (x3 - 1))]) (st := []) (r := (some (vi z4.1))) F 140 (fun l => m_X9_in l a2 0 (w32 (x3 - 1)) z1.2 z4.1 z4.2 ez4) g_0174c906e2 g_3fadeb3198 g_2759d91faa g_c0c30bc7de hd_X9_in (rm_ok hf hl (by decide) (by decide)) rfl dX9_codeAt_20 rfl (stk' := [vi z4.1]) rfl ?_
    refine pw_if_eq (pc := 23) F 40 dX9_codeAt_23 (by decide) (fun hc => ?_) (fun hc => ?_)
    · have h := iteT hc h
      refine pw_sipush (pc := 40) F 1000 dX9_codeAt_40 (by decide) ?_
      cases h
      exact pw_iret (pc := 43) F q dX9_codeAt_43
    · have h := iteF hc h
      refine pw_aload_n (pc := 26) F dX9_codeAt_26 rfl ?_
      obtain ⟨x5, ex5, h⟩ := bnd h
      refine pw_get (pc := 27) F 9 8 32 (by decide) (by decide) g_8263c80882 inl_9 2 rfl dX9_codeAt_27 ex5 ?_
      refine pw_bipush (pc := 30) F 8 dX9_codeAt_30 (by decide) ?_
      refine pw_iload_n (pc := 32) F dX9_codeAt_32 rfl ?_
      refine pw_imul (pc := 33) F dX9_codeAt_33 ?_
      refine pw_iload_n (pc := 34) F dX9_codeAt_34 rfl ?_
      refine pw_iadd (pc := 35) F dX9_codeAt_35 ?_
      obtain ⟨x6, ex6, h⟩ := bnd h
      refine pw_iald (pc := 36) F dX9_codeAt_36 ex6 ?_
      refine pw_goto (pc := 37) F 43 dX9_codeAt_37 (by decide) ?_
      cases h
      exact pw_iret (pc := 43) F q dX9_codeAt_43
/-! HouseholdVaultModel.household()I -/
theorem dX9_household_0 : decode cX9_household 0 = .ok (.aload_n 0, 1) := by decide +kernel
theorem dX9_household_1 : decode cX9_household 1 = .ok (.getfield 144, 3) := by decide +kernel
theorem dX9_household_4 : decode cX9_household 4 = .ok (.bipush 40, 2) := by decide +kernel
theorem dX9_household_6 : decode cX9_household 6 = .ok (.if_icmp .ne 6, 3) := by decide +kernel
theorem dX9_household_9 : decode cX9_household 9 = .ok (.bipush (-4), 2) := by decide +kernel
theorem dX9_household_11 : decode cX9_household 11 = .ok (.ireturn, 1) := by decide +kernel
theorem dX9_household_12 : decode cX9_household 12 = .ok (.aload_n 0, 1) := by decide +kernel
theorem dX9_household_13 : decode cX9_household 13 = .ok (.getfield 57, 3) := by decide +kernel
theorem dX9_household_16 : decode cX9_household 16 = .ok (.aload_n 0, 1) := by decide +kernel
theorem dX9_household_17 : decode cX9_household 17 = .ok (.getfield 144, 3) := by decide +kernel
theorem dX9_household_20 : decode cX9_household 20 = .ok (.sipush 2520, 3) := by decide +kernel
theorem dX9_household_23 : decode cX9_household 23 = .ok (.iastore, 1) := by decide +kernel
theorem dX9_household_24 : decode cX9_household 24 = .ok (.aload_n 0, 1) := by decide +kernel
theorem dX9_household_25 : decode cX9_household 25 = .ok (.dup, 1) := by decide +kernel
theorem dX9_household_26 : decode cX9_household 26 = .ok (.getfield 144, 3) := by decide +kernel
theorem dX9_household_29 : decode cX9_household 29 = .ok (.iconst 1, 1) := by decide +kernel
theorem dX9_household_30 : decode cX9_household 30 = .ok (.iadd, 1) := by decide +kernel
theorem dX9_household_31 : decode cX9_household 31 = .ok (.putfield 144, 3) := by decide +kernel
theorem dX9_household_34 : decode cX9_household 34 = .ok (.iconst 0, 1) := by decide +kernel
theorem dX9_household_35 : decode cX9_household 35 = .ok (.istore_n 1, 1) := by decide +kernel
theorem dX9_household_36 : decode cX9_household 36 = .ok (.iload_n 1, 1) := by decide +kernel
theorem dX9_household_37 : decode cX9_household 37 = .ok (.aload_n 0, 1) := by decide +kernel
theorem dX9_household_38 : decode cX9_household 38 = .ok (.getfield 136, 3) := by decide +kernel
theorem dX9_household_41 : decode cX9_household 41 = .ok (.if_icmp .ge 20, 3) := by decide +kernel
theorem dX9_household_44 : decode cX9_household 44 = .ok (.aload_n 0, 1) := by decide +kernel
theorem dX9_household_45 : decode cX9_household 45 = .ok (.aload_n 0, 1) := by decide +kernel
theorem dX9_household_46 : decode cX9_household 46 = .ok (.getfield 144, 3) := by decide +kernel
theorem dX9_household_49 : decode cX9_household 49 = .ok (.iconst 1, 1) := by decide +kernel
theorem dX9_household_50 : decode cX9_household 50 = .ok (.isub, 1) := by decide +kernel
theorem dX9_household_51 : decode cX9_household 51 = .ok (.iload_n 1, 1) := by decide +kernel
theorem dX9_household_52 : decode cX9_household 52 = .ok (.invokevirtual 154, 3) := by decide +kernel
theorem dX9_household_55 : decode cX9_household 55 = .ok (.iinc 1 1, 3) := by decide +kernel
theorem dX9_household_58 : decode cX9_household 58 = .ok (.goto (-22), 3) := by decide +kernel
theorem dX9_household_61 : decode cX9_household 61 = .ok (.aload_n 0, 1) := by decide +kernel
theorem dX9_household_62 : decode cX9_household 62 = .ok (.getfield 144, 3) := by decide +kernel
theorem dX9_household_65 : decode cX9_household 65 = .ok (.iconst 1, 1) := by decide +kernel
theorem dX9_household_66 : decode cX9_household 66 = .ok (.isub, 1) := by decide +kernel
theorem dX9_household_67 : decode cX9_household 67 = .ok (.ireturn, 1) := by decide +kernel
def lX9_household_36 (p0 : Int) (self36 : Int → PH → RO) (p1 : Int) (H : PH) : RO :=
  (ld 25 H p0 0).bind fun x1 => (if p1 ≥ x1 then (ld 25 H p0 14).bind fun x2 => some ((w32 (x2 - 1)), H)
  else (ld 25 H p0 14).bind fun x3 => (f_X9_blank p0 (w32 (x3 - 1)) p1 H).bind fun z4 => self36 (w32 (p1 + 1)) z4.2)
set_option maxHeartbeats 4000000 in
theorem lX9_household_36_ok {E : PE} {rr : Int} {HH : PH} (F : FX E cX9_household RX9) (q : QE E (some (vi rr)) HH (some .int)) (hn : nLof E = 2) (hf : (roomOf E).frames = 2) (hl : (roomOf E).locals = 45) (p0 : Int) : ∀ (n : Nat) (p1 : Int) (H : PH), lq1 (lX9_household_36 p0) n p1 H = some (rr, HH) → PW E 36 [some (vr p0), some (vi p1)] [] H := by
  refine lq1_ind (P := fun p1 H => PW E 36 [some (vr p0), some (vi p1)] [] H) ?_
  intro self36 ih36 p1 H h
  unfold lX9_household_36 at h
  refine pw_iload_n (pc := 36) F dX9_household_36 rfl ?_
  refine pw_aload_n (pc := 37) F dX9_household_37 rfl ?_
  obtain ⟨x1, ex1, h⟩ := bnd h
  refine pw_get (pc := 38) F 9 0 136 (by decide) (by decide) g_eb25be88a8 inl_9 0 rfl dX9_household_38 ex1 ?_
  refine pw_icmp_ge (pc := 41) F 61 dX9_household_41 (by decide) (fun hc => ?_) (fun hc => ?_)
  · have h := iteT hc h
    refine pw_aload_n (pc := 61) F dX9_household_61 rfl ?_
    obtain ⟨x2, ex2, h⟩ := bnd h
    refine pw_get (pc := 62) F 9 14 144 (by decide) (by decide) g_f4ed299937 inl_9 0 rfl dX9_household_62 ex2 ?_
    refine pw_iconst (pc := 65) F 1 dX9_household_65 (by decide) ?_
    refine pw_isub (pc := 66) F dX9_household_66 ?_
    cases h
    exact pw_iret (pc := 67) F q dX9_household_67
  · have h := iteF hc h
    refine pw_aload_n (pc := 44) F dX9_household_44 rfl ?_
    refine pw_aload_n (pc := 45) F dX9_household_45 rfl ?_
    obtain ⟨x3, ex3, h⟩ := bnd h
    refine pw_get (pc := 46) F 9 14 144 (by decide) (by decide) g_f4ed299937 inl_9 0 rfl dX9_household_46 ex3 ?_
    refine pw_iconst (pc := 49) F 1 dX9_household_49 (by decide) ?_
    refine pw_isub (pc := 50) F dX9_household_50 ?_
    refine pw_iload_n (pc := 51) F dX9_household_51 rfl ?_
    obtain ⟨z4, ez4, h⟩ := bnd h
    refine pw_callV (pc := 52) (as := [vi (w32 (x3 - 1)), vi p1]) (st := []) (r := none) F 154 9 (by decide) rfl (fun l => m_X9_blank l p0 (w32 (x3 - 1)) p1 H z4.1 z4.2 ez4) g_0a8335923d g_13467f71e4 g_aac8bd4ee9 g_2759d91faa g_df8e1135b4 hd_X9_blank (rm_ok hf hl (by decide) (by decide)) rfl (vm_spec ez4).1 dX9_household_52 rfl (stk' := []) rfl ?_
    refine pw_iinc (pc := 55) F dX9_household_55 rfl (lt_nl hn (by decide)) [some (vr p0), some (vi (w32 (p1 + 1)))] rfl (by decide) ?_
    refine pw_goto (pc := 58) F 36 dX9_household_58 (by decide) ?_
    exact pw_mask [true, true] (ls' := [some (vr p0), some (vi (w32 (p1 + 1)))]) rfl (ih36 (w32 (p1 + 1)) z4.2 h)
def f_X9_household (a0 : Int) (H : PH) : RO := vm 9 a0 H <|
  (ld 25 H a0 14).bind fun x1 => (if x1 ≠ 40 then (ld 25 H a0 17).bind fun x2 => (ld 25 H a0 14).bind fun x3 => (stv 0 H x2 x3 2520).bind fun H4 => (ld 25 H4 a0 14).bind fun x5 => (stv 25 H4 a0 14 (w32 (x5 + 1))).bind fun H6 => lq1 (lX9_household_36 a0) 6000 0 H6
  else some ((-4), H))
set_option maxHeartbeats 4000000 in
theorem m_X9_household (l : Launch) (a0 : Int) (H : PH) (rr : Int) (HH : PH) (h : f_X9_household a0 H = some (rr, HH)) : CT l yX9_household cX9_household 2 (some .int) 2 45 [vr a0] H (some (vi rr)) HH := by
  refine CT.of RX9 (by decide) rfl [some (vr a0), none] rfl rfl ?_
  intro E F q hn hf hl hm
  unfold f_X9_household at h
  obtain ⟨hv, h⟩ := vm_spec h
  refine pw_aload_n (pc := 0) F dX9_household_0 rfl ?_
  obtain ⟨x1, ex1, h⟩ := bnd h
  refine pw_get (pc := 1) F 9 14 144 (by decide) (by decide) g_f4ed299937 inl_9 0 rfl dX9_household_1 ex1 ?_
  refine pw_bipush (pc := 4) F 40 dX9_household_4 (by decide) ?_
  refine pw_icmp_ne (pc := 6) F 12 dX9_household_6 (by decide) (fun hc => ?_) (fun hc => ?_)
  · have h := iteT hc h
    refine pw_aload_n (pc := 12) F dX9_household_12 rfl ?_
    obtain ⟨x2, ex2, h⟩ := bnd h
    refine pw_get (pc := 13) F 9 17 57 (by decide) (by decide) g_8eca8acc62 inl_9 2 rfl dX9_household_13 ex2 ?_
    refine pw_aload_n (pc := 16) F dX9_household_16 rfl ?_
    obtain ⟨x3, ex3, h⟩ := bnd h
    refine pw_get (pc := 17) F 9 14 144 (by decide) (by decide) g_f4ed299937 inl_9 0 rfl dX9_household_17 ex3 ?_
    refine pw_sipush (pc := 20) F 2520 dX9_household_20 (by decide) ?_
    obtain ⟨H4, eH4, h⟩ := bnd h
    refine pw_iast (pc := 23) F dX9_household_23 eH4 ?_
    refine pw_aload_n (pc := 24) F dX9_household_24 rfl ?_
    refine pw_dup (pc := 25) F dX9_household_25 (pvne rfl) ?_
    obtain ⟨x5, ex5, h⟩ := bnd h
    refine pw_get (pc := 26) F 9 14 144 (by decide) (by decide) g_f4ed299937 inl_9 0 rfl dX9_household_26 ex5 ?_
    refine pw_iconst (pc := 29) F 1 dX9_household_29 (by decide) ?_
    refine pw_iadd (pc := 30) F dX9_household_30 ?_
    obtain ⟨H6, eH6, h⟩ := bnd h
    refine pw_put (pc := 31) F 9 14 144 (by decide) (by decide) g_f4ed299937 inl_9 rfl 0 rfl dX9_household_31 trivial eH6 ?_
    refine pw_iconst (pc := 34) F 0 dX9_household_34 (by decide) ?_
    refine pw_istore_n (pc := 35) F dX9_household_35 (lt_nl hn (by decide)) [some (vr a0), some (vi 0)] rfl ?_
    exact pw_mask [true, true] (ls' := [some (vr a0), some (vi 0)]) rfl (lX9_household_36_ok F q hn hf hl a0  6000 0 H6 h)
  · have h := iteF hc h
    refine pw_bipush (pc := 9) F (-4) dX9_household_9 (by decide) ?_
    cases h
    exact pw_iret (pc := 11) F q dX9_household_11
/-! HouseholdVaultModel.persons(II)I -/
theorem dX9_persons_0 : decode cX9_persons 0 = .ok (.aload_n 0, 1) := by decide +kernel
theorem dX9_persons_1 : decode cX9_persons 1 = .ok (.getfield 51, 3) := by decide +kernel
theorem dX9_persons_4 : decode cX9_persons 4 = .ok (.iload_n 1, 1) := by decide +kernel
theorem dX9_persons_5 : decode cX9_persons 5 = .ok (.iload_n 2, 1) := by decide +kernel
theorem dX9_persons_6 : decode cX9_persons 6 = .ok (.iconst 0, 1) := by decide +kernel
theorem dX9_persons_7 : decode cX9_persons 7 = .ok (.invokestatic 150, 3) := by decide +kernel
theorem dX9_persons_10 : decode cX9_persons 10 = .ok (.laload, 1) := by decide +kernel
theorem dX9_persons_11 : decode cX9_persons 11 = .ok (.l2i, 1) := by decide +kernel
theorem dX9_persons_12 : decode cX9_persons 12 = .ok (.ireturn, 1) := by decide +kernel
def f_X9_persons (a0 a1 a2 : Int) (H : PH) : RO := vm 9 a0 H <|
  (ld 25 H a0 15).bind fun x1 => (f_X9_place a1 a2 0 H).bind fun z2 => (ld 1 z2.2 x1 z2.1).bind fun x3 => some ((w32 x3), z2.2)
set_option maxHeartbeats 4000000 in
theorem m_X9_persons (l : Launch) (a0 a1 a2 : Int) (H : PH) (rr : Int) (HH : PH) (h : f_X9_persons a0 a1 a2 H = some (rr, HH)) : CT l yX9_persons cX9_persons 3 (some .int) 1 22 [vr a0, vi a1, vi a2] H (some (vi rr)) HH := by
  refine CT.of RX9 (by decide) rfl [some (vr a0), some (vi a1), some (vi a2)] rfl rfl ?_
  intro E F q hn hf hl hm
  unfold f_X9_persons at h
  obtain ⟨hv, h⟩ := vm_spec h
  refine pw_aload_n (pc := 0) F dX9_persons_0 rfl ?_
  obtain ⟨x1, ex1, h⟩ := bnd h
  refine pw_get (pc := 1) F 9 15 51 (by decide) (by decide) g_948f79b8fe inl_9 2 rfl dX9_persons_1 ex1 ?_
  refine pw_iload_n (pc := 4) F dX9_persons_4 rfl ?_
  refine pw_iload_n (pc := 5) F dX9_persons_5 rfl ?_
  refine pw_iconst (pc := 6) F 0 dX9_persons_6 (by decide) ?_
  obtain ⟨z2, ez2, h⟩ := bnd h
  refine pw_callS (pc := 7) (as := [vi a1, vi a2, vi 0]) (st := [vr x1]) (r := (some (vi z2.1))) F 150 (fun l => m_X9_place l a1 a2 0 H z2.1 z2.2 ez2) g_ace1a9f84c g_ec0534314d g_2759d91faa g_205510d507 hd_X9_place (rm_ok hf hl (by decide) (by decide)) rfl dX9_persons_7 rfl (stk' := [vi z2.1, vr x1]) rfl ?_
  obtain ⟨x3, ex3, h⟩ := bnd h
  refine pw_lald (pc := 10) F dX9_persons_10 ex3 ?_
  refine pw_l2i (pc := 11) F dX9_persons_11 ?_
  cases h
  exact pw_iret (pc := 12) F q dX9_persons_12
/-! HouseholdVaultModel.isPlace(III)Z -/
theorem dX9_isPlace_0 : decode cX9_isPlace 0 = .ok (.aload_n 0, 1) := by decide +kernel
theorem dX9_isPlace_1 : decode cX9_isPlace 1 = .ok (.iload_n 1, 1) := by decide +kernel
theorem dX9_isPlace_2 : decode cX9_isPlace 2 = .ok (.invokevirtual 181, 3) := by decide +kernel
theorem dX9_isPlace_5 : decode cX9_isPlace 5 = .ok (.ifCond .eq 11, 3) := by decide +kernel
theorem dX9_isPlace_8 : decode cX9_isPlace 8 = .ok (.aload_n 0, 1) := by decide +kernel
theorem dX9_isPlace_9 : decode cX9_isPlace 9 = .ok (.iload_n 2, 1) := by decide +kernel
theorem dX9_isPlace_10 : decode cX9_isPlace 10 = .ok (.invokevirtual 163, 3) := by decide +kernel
theorem dX9_isPlace_13 : decode cX9_isPlace 13 = .ok (.ifCond .ne 5, 3) := by decide +kernel
theorem dX9_isPlace_16 : decode cX9_isPlace 16 = .ok (.iconst 0, 1) := by decide +kernel
theorem dX9_isPlace_17 : decode cX9_isPlace 17 = .ok (.ireturn, 1) := by decide +kernel
theorem dX9_isPlace_18 : decode cX9_isPlace 18 = .ok (.aload_n 0, 1) := by decide +kernel
theorem dX9_isPlace_19 : decode cX9_isPlace 19 = .ok (.getfield 13, 3) := by decide +kernel
theorem dX9_isPlace_22 : decode cX9_isPlace 22 = .ok (.iload_n 2, 1) := by decide +kernel
theorem dX9_isPlace_23 : decode cX9_isPlace 23 = .ok (.iaload, 1) := by decide +kernel
theorem dX9_isPlace_24 : decode cX9_isPlace 24 = .ok (.ifCond .ge 16, 3) := by decide +kernel
theorem dX9_isPlace_27 : decode cX9_isPlace 27 = .ok (.iload_n 3, 1) := by decide +kernel
theorem dX9_isPlace_28 : decode cX9_isPlace 28 = .ok (.iconst (-1), 1) := by decide +kernel
theorem dX9_isPlace_29 : decode cX9_isPlace 29 = .ok (.if_icmp .ne 7, 3) := by decide +kernel
theorem dX9_isPlace_32 : decode cX9_isPlace 32 = .ok (.iconst 1, 1) := by decide +kernel
theorem dX9_isPlace_33 : decode cX9_isPlace 33 = .ok (.goto 27, 3) := by decide +kernel
theorem dX9_isPlace_36 : decode cX9_isPlace 36 = .ok (.iconst 0, 1) := by decide +kernel
theorem dX9_isPlace_37 : decode cX9_isPlace 37 = .ok (.goto 23, 3) := by decide +kernel
theorem dX9_isPlace_40 : decode cX9_isPlace 40 = .ok (.iload_n 3, 1) := by decide +kernel
theorem dX9_isPlace_41 : decode cX9_isPlace 41 = .ok (.i2l, 1) := by decide +kernel
theorem dX9_isPlace_42 : decode cX9_isPlace 42 = .ok (.lconst 0, 1) := by decide +kernel
theorem dX9_isPlace_43 : decode cX9_isPlace 43 = .ok (.aload_n 0, 1) := by decide +kernel
theorem dX9_isPlace_44 : decode cX9_isPlace 44 = .ok (.iload_n 1, 1) := by decide +kernel
theorem dX9_isPlace_45 : decode cX9_isPlace 45 = .ok (.aload_n 0, 1) := by decide +kernel
theorem dX9_isPlace_46 : decode cX9_isPlace 46 = .ok (.getfield 13, 3) := by decide +kernel
theorem dX9_isPlace_49 : decode cX9_isPlace 49 = .ok (.iload_n 2, 1) := by decide +kernel
theorem dX9_isPlace_50 : decode cX9_isPlace 50 = .ok (.iaload, 1) := by decide +kernel
theorem dX9_isPlace_51 : decode cX9_isPlace 51 = .ok (.invokevirtual 184, 3) := by decide +kernel
theorem dX9_isPlace_54 : decode cX9_isPlace 54 = .ok (.iconst 1, 1) := by decide +kernel
theorem dX9_isPlace_55 : decode cX9_isPlace 55 = .ok (.isub, 1) := by decide +kernel
theorem dX9_isPlace_56 : decode cX9_isPlace 56 = .ok (.i2l, 1) := by decide +kernel
theorem dX9_isPlace_57 : decode cX9_isPlace 57 = .ok (.invokestatic 140, 3) := by decide +kernel
theorem dX9_isPlace_60 : decode cX9_isPlace 60 = .ok (.ireturn, 1) := by decide +kernel
def f_X9_isPlace (a0 a1 a2 a3 : Int) (H : PH) : RO := vm 9 a0 H <|
  (f_X9_isHousehold a0 a1 H).bind fun z1 => (if z1.1 = 0 then some (0, z1.2)
  else (f_X9_isQuestion a0 a2 z1.2).bind fun z2 => (if z2.1 ≠ 0 then (ld 25 z2.2 a0 2).bind fun x3 => (ld 0 z2.2 x3 a2).bind fun x4 => (if x4 ≥ 0 then (ld 25 z2.2 a0 2).bind fun x5 => (ld 0 z2.2 x5 a2).bind fun x6 => (f_X9_persons a0 a1 x6 z2.2).bind fun z7 => (f_X9_in a3 0 (w32 (z7.1 - 1)) z7.2).bind fun z8 => zr z8.1 z8.2
  else (if a3 ≠ (-1) then some (0, z2.2)
  else some (1, z2.2)))
  else some (0, z2.2)))
set_option maxHeartbeats 4000000 in
theorem m_X9_isPlace (l : Launch) (a0 a1 a2 a3 : Int) (H : PH) (rr : Int) (HH : PH) (h : f_X9_isPlace a0 a1 a2 a3 H = some (rr, HH)) : CT l yX9_isPlace cX9_isPlace 4 (some .boolean) 2 46 [vr a0, vi a1, vi a2, vi a3] H (some (vi rr)) HH := by
  refine CT.of RX9 (by decide) rfl [some (vr a0), some (vi a1), some (vi a2), some (vi a3)] rfl rfl ?_
  intro E F q hn hf hl hm
  unfold f_X9_isPlace at h
  obtain ⟨hv, h⟩ := vm_spec h
  refine pw_aload_n (pc := 0) F dX9_isPlace_0 rfl ?_
  refine pw_iload_n (pc := 1) F dX9_isPlace_1 rfl ?_
  obtain ⟨z1, ez1, h⟩ := bnd h
  refine pw_callV (pc := 2) (as := [vi a1]) (st := []) (r := (some (vi z1.1))) F 181 9 (by decide) rfl (fun l => m_X9_isHousehold l a0 a1 H z1.1 z1.2 ez1) g_9d408e4d4c g_afb7bfae38 g_247017f9f2 g_2759d91faa g_8e41464c49 hd_X9_isHousehold (rm_ok hf hl (by decide) (by decide)) rfl (vm_spec ez1).1 dX9_isPlace_2 rfl (stk' := [vi z1.1]) rfl ?_
  refine pw_if_eq (pc := 5) F 16 dX9_isPlace_5 (by decide) (fun hc => ?_) (fun hc => ?_)
  · have h := iteT hc h
    refine pw_iconst (pc := 16) F 0 dX9_isPlace_16 (by decide) ?_
    cases h
    exact pw_zret (pc := 17) F q (by decide) dX9_isPlace_17
  · have h := iteF hc h
    refine pw_aload_n (pc := 8) F dX9_isPlace_8 rfl ?_
    refine pw_iload_n (pc := 9) F dX9_isPlace_9 rfl ?_
    obtain ⟨z2, ez2, h⟩ := bnd h
    refine pw_callV (pc := 10) (as := [vi a2]) (st := []) (r := (some (vi z2.1))) F 163 9 (by decide) rfl (fun l => m_X9_isQuestion l a0 a2 z1.2 z2.1 z2.2 ez2) g_26236cf357 g_504499df23 g_65a9490ac1 g_2759d91faa g_4f2165d1ca hd_X9_isQuestion (rm_ok hf hl (by decide) (by decide)) rfl (vm_spec ez2).1 dX9_isPlace_10 rfl (stk' := [vi z2.1]) rfl ?_
    refine pw_if_ne (pc := 13) F 18 dX9_isPlace_13 (by decide) (fun hc => ?_) (fun hc => ?_)
    · have h := iteT hc h
      refine pw_aload_n (pc := 18) F dX9_isPlace_18 rfl ?_
      obtain ⟨x3, ex3, h⟩ := bnd h
      refine pw_get (pc := 19) F 9 2 13 (by decide) (by decide) g_0c2899f53f inl_9 2 rfl dX9_isPlace_19 ex3 ?_
      refine pw_iload_n (pc := 22) F dX9_isPlace_22 rfl ?_
      obtain ⟨x4, ex4, h⟩ := bnd h
      refine pw_iald (pc := 23) F dX9_isPlace_23 ex4 ?_
      refine pw_if_ge (pc := 24) F 40 dX9_isPlace_24 (by decide) (fun hc => ?_) (fun hc => ?_)
      · have h := iteT hc h
        refine pw_iload_n (pc := 40) F dX9_isPlace_40 rfl ?_
        refine pw_i2l (pc := 41) F dX9_isPlace_41 ?_
        refine pw_lconst (pc := 42) F 0 dX9_isPlace_42 (by decide) ?_
        refine pw_aload_n (pc := 43) F dX9_isPlace_43 rfl ?_
        refine pw_iload_n (pc := 44) F dX9_isPlace_44 rfl ?_
        refine pw_aload_n (pc := 45) F dX9_isPlace_45 rfl ?_
        obtain ⟨x5, ex5, h⟩ := bnd h
        refine pw_get (pc := 46) F 9 2 13 (by decide) (by decide) g_0c2899f53f inl_9 2 rfl dX9_isPlace_46 ex5 ?_
        refine pw_iload_n (pc := 49) F dX9_isPlace_49 rfl ?_
        obtain ⟨x6, ex6, h⟩ := bnd h
        refine pw_iald (pc := 50) F dX9_isPlace_50 ex6 ?_
        obtain ⟨z7, ez7, h⟩ := bnd h
        refine pw_callV (pc := 51) (as := [vi a1, vi x6]) (st := [vl 0, vl a3]) (r := (some (vi z7.1))) F 184 9 (by decide) rfl (fun l => m_X9_persons l a0 a1 x6 z2.2 z7.1 z7.2 ez7) g_de33c5095d g_d70a88cf42 g_2197e2f2b8 g_2759d91faa g_c55f0dc1c5 hd_X9_persons (rm_ok hf hl (by decide) (by decide)) rfl (vm_spec ez7).1 dX9_isPlace_51 rfl (stk' := [vi z7.1, vl 0, vl a3]) rfl ?_
        refine pw_iconst (pc := 54) F 1 dX9_isPlace_54 (by decide) ?_
        refine pw_isub (pc := 55) F dX9_isPlace_55 ?_
        refine pw_i2l (pc := 56) F dX9_isPlace_56 ?_
        obtain ⟨z8, ez8, h⟩ := bnd h
        refine pw_callS (pc := 57) (as := [vl a3, vl 0, vl (w32 (z7.1 - 1))]) (st := []) (r := (some (vi z8.1))) F 140 (fun l => m_X9_in l a3 0 (w32 (z7.1 - 1)) z7.2 z8.1 z8.2 ez8) g_0174c906e2 g_3fadeb3198 g_2759d91faa g_c0c30bc7de hd_X9_in (rm_ok hf hl (by decide) (by decide)) rfl dX9_isPlace_57 rfl (stk' := [vi z8.1]) rfl ?_
        obtain ⟨hz, h⟩ := zr_spec h
        cases h
        exact pw_zret (pc := 60) F q hz dX9_isPlace_60
      · have h := iteF hc h
        refine pw_iload_n (pc := 27) F dX9_isPlace_27 rfl ?_
        refine pw_iconst (pc := 28) F (-1) dX9_isPlace_28 (by decide) ?_
        refine pw_icmp_ne (pc := 29) F 36 dX9_isPlace_29 (by decide) (fun hc => ?_) (fun hc => ?_)
        · have h := iteT hc h
          refine pw_iconst (pc := 36) F 0 dX9_isPlace_36 (by decide) ?_
          refine pw_goto (pc := 37) F 60 dX9_isPlace_37 (by decide) ?_
          cases h
          exact pw_zret (pc := 60) F q (by decide) dX9_isPlace_60
        · have h := iteF hc h
          refine pw_iconst (pc := 32) F 1 dX9_isPlace_32 (by decide) ?_
          refine pw_goto (pc := 33) F 60 dX9_isPlace_33 (by decide) ?_
          cases h
          exact pw_zret (pc := 60) F q (by decide) dX9_isPlace_60
    · have h := iteF hc h
      refine pw_iconst (pc := 16) F 0 dX9_isPlace_16 (by decide) ?_
      cases h
      exact pw_zret (pc := 17) F q (by decide) dX9_isPlace_17
/-! HouseholdVaultModel.isValue(IJ)Z -/
theorem dX9_isValue_0 : decode cX9_isValue 0 = .ok (.aload_n 0, 1) := by decide +kernel
theorem dX9_isValue_1 : decode cX9_isValue 1 = .ok (.getfield 7, 3) := by decide +kernel
theorem dX9_isValue_4 : decode cX9_isValue 4 = .ok (.iload_n 1, 1) := by decide +kernel
theorem dX9_isValue_5 : decode cX9_isValue 5 = .ok (.iaload, 1) := by decide +kernel
theorem dX9_isValue_6 : decode cX9_isValue 6 = .ok (.tableswitch 101 0 4 #[34, 49, 65, 79, 90], 34) := by decide +kernel
theorem dX9_isValue_40 : decode cX9_isValue 40 = .ok (.aload_n 0, 1) := by decide +kernel
theorem dX9_isValue_41 : decode cX9_isValue 41 = .ok (.iload_n 1, 1) := by decide +kernel
theorem dX9_isValue_42 : decode cX9_isValue 42 = .ok (.lload_n 2, 1) := by decide +kernel
theorem dX9_isValue_43 : decode cX9_isValue 43 = .ok (.invokevirtual 174, 3) := by decide +kernel
theorem dX9_isValue_46 : decode cX9_isValue 46 = .ok (.ifCond .lt 7, 3) := by decide +kernel
theorem dX9_isValue_49 : decode cX9_isValue 49 = .ok (.iconst 1, 1) := by decide +kernel
theorem dX9_isValue_50 : decode cX9_isValue 50 = .ok (.goto 4, 3) := by decide +kernel
theorem dX9_isValue_53 : decode cX9_isValue 53 = .ok (.iconst 0, 1) := by decide +kernel
theorem dX9_isValue_54 : decode cX9_isValue 54 = .ok (.ireturn, 1) := by decide +kernel
theorem dX9_isValue_55 : decode cX9_isValue 55 = .ok (.lload_n 2, 1) := by decide +kernel
theorem dX9_isValue_56 : decode cX9_isValue 56 = .ok (.lconst 0, 1) := by decide +kernel
theorem dX9_isValue_57 : decode cX9_isValue 57 = .ok (.lconst 1, 1) := by decide +kernel
theorem dX9_isValue_58 : decode cX9_isValue 58 = .ok (.aload_n 0, 1) := by decide +kernel
theorem dX9_isValue_59 : decode cX9_isValue 59 = .ok (.getfield 35, 3) := by decide +kernel
theorem dX9_isValue_62 : decode cX9_isValue 62 = .ok (.iload_n 1, 1) := by decide +kernel
theorem dX9_isValue_63 : decode cX9_isValue 63 = .ok (.iaload, 1) := by decide +kernel
theorem dX9_isValue_64 : decode cX9_isValue 64 = .ok (.lshl, 1) := by decide +kernel
theorem dX9_isValue_65 : decode cX9_isValue 65 = .ok (.lconst 1, 1) := by decide +kernel
theorem dX9_isValue_66 : decode cX9_isValue 66 = .ok (.lsub, 1) := by decide +kernel
theorem dX9_isValue_67 : decode cX9_isValue 67 = .ok (.invokestatic 140, 3) := by decide +kernel
theorem dX9_isValue_70 : decode cX9_isValue 70 = .ok (.ireturn, 1) := by decide +kernel
theorem dX9_isValue_71 : decode cX9_isValue 71 = .ok (.lload_n 2, 1) := by decide +kernel
theorem dX9_isValue_72 : decode cX9_isValue 72 = .ok (.lload_n 2, 1) := by decide +kernel
theorem dX9_isValue_73 : decode cX9_isValue 73 = .ok (.l2i, 1) := by decide +kernel
theorem dX9_isValue_74 : decode cX9_isValue 74 = .ok (.i2l, 1) := by decide +kernel
theorem dX9_isValue_75 : decode cX9_isValue 75 = .ok (.lcmp, 1) := by decide +kernel
theorem dX9_isValue_76 : decode cX9_isValue 76 = .ok (.ifCond .ne 7, 3) := by decide +kernel
theorem dX9_isValue_79 : decode cX9_isValue 79 = .ok (.iconst 1, 1) := by decide +kernel
theorem dX9_isValue_80 : decode cX9_isValue 80 = .ok (.goto 4, 3) := by decide +kernel
theorem dX9_isValue_83 : decode cX9_isValue 83 = .ok (.iconst 0, 1) := by decide +kernel
theorem dX9_isValue_84 : decode cX9_isValue 84 = .ok (.ireturn, 1) := by decide +kernel
theorem dX9_isValue_85 : decode cX9_isValue 85 = .ok (.lload_n 2, 1) := by decide +kernel
theorem dX9_isValue_86 : decode cX9_isValue 86 = .ok (.ldc2_w 188, 3) := by decide +kernel
theorem dX9_isValue_89 : decode cX9_isValue 89 = .ok (.ldc2_w 190, 3) := by decide +kernel
theorem dX9_isValue_92 : decode cX9_isValue 92 = .ok (.invokestatic 140, 3) := by decide +kernel
theorem dX9_isValue_95 : decode cX9_isValue 95 = .ok (.ireturn, 1) := by decide +kernel
theorem dX9_isValue_96 : decode cX9_isValue 96 = .ok (.lload_n 2, 1) := by decide +kernel
theorem dX9_isValue_97 : decode cX9_isValue 97 = .ok (.ldc2_w 192, 3) := by decide +kernel
theorem dX9_isValue_100 : decode cX9_isValue 100 = .ok (.ldc2_w 194, 3) := by decide +kernel
theorem dX9_isValue_103 : decode cX9_isValue 103 = .ok (.invokestatic 140, 3) := by decide +kernel
theorem dX9_isValue_106 : decode cX9_isValue 106 = .ok (.ireturn, 1) := by decide +kernel
theorem dX9_isValue_107 : decode cX9_isValue 107 = .ok (.lload_n 2, 1) := by decide +kernel
theorem dX9_isValue_108 : decode cX9_isValue 108 = .ok (.lconst 0, 1) := by decide +kernel
theorem dX9_isValue_109 : decode cX9_isValue 109 = .ok (.ldc2_w 161, 3) := by decide +kernel
theorem dX9_isValue_112 : decode cX9_isValue 112 = .ok (.invokestatic 140, 3) := by decide +kernel
theorem dX9_isValue_115 : decode cX9_isValue 115 = .ok (.ireturn, 1) := by decide +kernel
def f_X9_isValue (a0 a1 a2 : Int) (H : PH) : RO := vm 9 a0 H <|
  (ld 25 H a0 1).bind fun x1 => (ld 0 H x1 a1).bind fun x2 => (if x2 < 0 ∨ 4 < x2 then (f_X9_in a2 0 5 H).bind fun z3 => zr z3.1 z3.2
  else List.getD [(f_X9_codeNumber a0 a1 a2 H).bind fun z4 => (if z4.1 < 0 then some (0, z4.2)
  else some (1, z4.2)), (ld 25 H a0 9).bind fun x5 => (ld 0 H x5 a1).bind fun x6 => (f_X9_in a2 0 (w64 ((l_shl 1 x6) - 1)) H).bind fun z7 => zr z7.1 z7.2, (if (lc a2 (w32 a2)) ≠ 0 then some (0, H)
  else some (1, H)), (f_X9_in a2 (-1000000000000000) 1000000000000000 H).bind fun z8 => zr z8.1 z8.2, (f_X9_in a2 (-30000) 30000 H).bind fun z9 => zr z9.1 z9.2] (x2 - 0).toNat none)
set_option maxHeartbeats 4000000 in
theorem m_X9_isValue (l : Launch) (a0 a1 a2 : Int) (H : PH) (rr : Int) (HH : PH) (h : f_X9_isValue a0 a1 a2 H = some (rr, HH)) : CT l yX9_isValue cX9_isValue 4 (some .boolean) 1 25 [vr a0, vi a1, vl a2] H (some (vi rr)) HH := by
  refine CT.of RX9 (by decide) rfl [some (vr a0), some (vi a1), some (vl a2), none] rfl rfl ?_
  intro E F q hn hf hl hm
  unfold f_X9_isValue at h
  obtain ⟨hv, h⟩ := vm_spec h
  refine pw_aload_n (pc := 0) F dX9_isValue_0 rfl ?_
  obtain ⟨x1, ex1, h⟩ := bnd h
  refine pw_get (pc := 1) F 9 1 7 (by decide) (by decide) g_a89464ec18 inl_9 2 rfl dX9_isValue_1 ex1 ?_
  refine pw_iload_n (pc := 4) F dX9_isValue_4 rfl ?_
  obtain ⟨x2, ex2, h⟩ := bnd h
  refine pw_iald (pc := 5) F dX9_isValue_5 ex2 ?_
  refine pw_table (pc := 6) F dX9_isValue_6 107 (by decide) [40, 55, 71, 85, 96] (by decide) (by decide) (fun hc => ?_) (fun i t ht ha => ?_)
  · have h := iteT hc h
    refine pw_lload_n (pc := 107) F dX9_isValue_107 rfl ?_
    refine pw_lconst (pc := 108) F 0 dX9_isValue_108 (by decide) ?_
    refine pw_ldc2 (pc := 109) F 5 g_f5e836366d dX9_isValue_109 (by decide) ?_
    obtain ⟨z3, ez3, h⟩ := bnd h
    refine pw_callS (pc := 112) (as := [vl a2, vl 0, vl 5]) (st := []) (r := (some (vi z3.1))) F 140 (fun l => m_X9_in l a2 0 5 H z3.1 z3.2 ez3) g_0174c906e2 g_3fadeb3198 g_2759d91faa g_c0c30bc7de hd_X9_in (rm_ok hf hl (by decide) (by decide)) rfl dX9_isValue_112 rfl (stk' := [vi z3.1]) rfl ?_
    obtain ⟨hz, h⟩ := zr_spec h
    cases h
    exact pw_zret (pc := 115) F q hz dX9_isValue_115
  · have hc : ¬ (x2 < 0 ∨ 4 < x2) := sw_in 5 ht ha (by decide) (by decide)
    have h := iteF hc h
    have h := sw_at ha h
    match i, ht, h with
    | 0, ht, h =>
      obtain rfl : 40 = t := Option.some.inj ht
      have h : ((f_X9_codeNumber a0 a1 a2 H).bind fun z4 => (if z4.1 < 0 then some (0, z4.2)
  else some (1, z4.2)) : RO) = some (rr, HH) := h
      refine pw_aload_n (pc := 40) F dX9_isValue_40 rfl ?_
      refine pw_iload_n (pc := 41) F dX9_isValue_41 rfl ?_
      refine pw_lload_n (pc := 42) F dX9_isValue_42 rfl ?_
      obtain ⟨z4, ez4, h⟩ := bnd h
      refine pw_callV (pc := 43) (as := [vi a1, vl a2]) (st := []) (r := (some (vi z4.1))) F 174 9 (by decide) rfl (fun l => m_X9_codeNumber l a0 a1 a2 H z4.1 z4.2 ez4) g_74b15b1c50 g_5405ac1030 g_3d4c6b4b45 g_2759d91faa g_522d481ddd hd_X9_codeNumber (rm_ok hf hl (by decide) (by decide)) rfl (vm_spec ez4).1 dX9_isValue_43 rfl (stk' := [vi z4.1]) rfl ?_
      refine pw_if_lt (pc := 46) F 53 dX9_isValue_46 (by decide) (fun hc => ?_) (fun hc => ?_)
      · have h := iteT hc h
        refine pw_iconst (pc := 53) F 0 dX9_isValue_53 (by decide) ?_
        cases h
        exact pw_zret (pc := 54) F q (by decide) dX9_isValue_54
      · have h := iteF hc h
        refine pw_iconst (pc := 49) F 1 dX9_isValue_49 (by decide) ?_
        refine pw_goto (pc := 50) F 54 dX9_isValue_50 (by decide) ?_
        cases h
        exact pw_zret (pc := 54) F q (by decide) dX9_isValue_54
    | 1, ht, h =>
      obtain rfl : 55 = t := Option.some.inj ht
      have h : ((ld 25 H a0 9).bind fun x5 => (ld 0 H x5 a1).bind fun x6 => (f_X9_in a2 0 (w64 ((l_shl 1 x6) - 1)) H).bind fun z7 => zr z7.1 z7.2 : RO) = some (rr, HH) := h
      refine pw_lload_n (pc := 55) F dX9_isValue_55 rfl ?_
      refine pw_lconst (pc := 56) F 0 dX9_isValue_56 (by decide) ?_
      refine pw_lconst (pc := 57) F 1 dX9_isValue_57 (by decide) ?_
      refine pw_aload_n (pc := 58) F dX9_isValue_58 rfl ?_
      obtain ⟨x5, ex5, h⟩ := bnd h
      refine pw_get (pc := 59) F 9 9 35 (by decide) (by decide) g_364d877551 inl_9 2 rfl dX9_isValue_59 ex5 ?_
      refine pw_iload_n (pc := 62) F dX9_isValue_62 rfl ?_
      obtain ⟨x6, ex6, h⟩ := bnd h
      refine pw_iald (pc := 63) F dX9_isValue_63 ex6 ?_
      refine pw_lshl (pc := 64) F dX9_isValue_64 ?_
      refine pw_lconst (pc := 65) F 1 dX9_isValue_65 (by decide) ?_
      refine pw_lsub (pc := 66) F dX9_isValue_66 ?_
      obtain ⟨z7, ez7, h⟩ := bnd h
      refine pw_callS (pc := 67) (as := [vl a2, vl 0, vl (w64 ((l_shl 1 x6) - 1))]) (st := []) (r := (some (vi z7.1))) F 140 (fun l => m_X9_in l a2 0 (w64 ((l_shl 1 x6) - 1)) H z7.1 z7.2 ez7) g_0174c906e2 g_3fadeb3198 g_2759d91faa g_c0c30bc7de hd_X9_in (rm_ok hf hl (by decide) (by decide)) rfl dX9_isValue_67 rfl (stk' := [vi z7.1]) rfl ?_
      obtain ⟨hz, h⟩ := zr_spec h
      cases h
      exact pw_zret (pc := 70) F q hz dX9_isValue_70
    | 2, ht, h =>
      obtain rfl : 71 = t := Option.some.inj ht
      have h : ((if (lc a2 (w32 a2)) ≠ 0 then some (0, H)
  else some (1, H)) : RO) = some (rr, HH) := h
      refine pw_lload_n (pc := 71) F dX9_isValue_71 rfl ?_
      refine pw_lload_n (pc := 72) F dX9_isValue_72 rfl ?_
      refine pw_l2i (pc := 73) F dX9_isValue_73 ?_
      refine pw_i2l (pc := 74) F dX9_isValue_74 ?_
      refine pw_lcmp (pc := 75) F dX9_isValue_75 ?_
      refine pw_if_ne (pc := 76) F 83 dX9_isValue_76 (by decide) (fun hc => ?_) (fun hc => ?_)
      · have h := iteT hc h
        refine pw_iconst (pc := 83) F 0 dX9_isValue_83 (by decide) ?_
        cases h
        exact pw_zret (pc := 84) F q (by decide) dX9_isValue_84
      · have h := iteF hc h
        refine pw_iconst (pc := 79) F 1 dX9_isValue_79 (by decide) ?_
        refine pw_goto (pc := 80) F 84 dX9_isValue_80 (by decide) ?_
        cases h
        exact pw_zret (pc := 84) F q (by decide) dX9_isValue_84
    | 3, ht, h =>
      obtain rfl : 85 = t := Option.some.inj ht
      have h : ((f_X9_in a2 (-1000000000000000) 1000000000000000 H).bind fun z8 => zr z8.1 z8.2 : RO) = some (rr, HH) := h
      refine pw_lload_n (pc := 85) F dX9_isValue_85 rfl ?_
      refine pw_ldc2 (pc := 86) F (-1000000000000000) g_69a79e1e8b dX9_isValue_86 (by decide) ?_
      refine pw_ldc2 (pc := 89) F 1000000000000000 g_b72d356c9a dX9_isValue_89 (by decide) ?_
      obtain ⟨z8, ez8, h⟩ := bnd h
      refine pw_callS (pc := 92) (as := [vl a2, vl (-1000000000000000), vl 1000000000000000]) (st := []) (r := (some (vi z8.1))) F 140 (fun l => m_X9_in l a2 (-1000000000000000) 1000000000000000 H z8.1 z8.2 ez8) g_0174c906e2 g_3fadeb3198 g_2759d91faa g_c0c30bc7de hd_X9_in (rm_ok hf hl (by decide) (by decide)) rfl dX9_isValue_92 rfl (stk' := [vi z8.1]) rfl ?_
      obtain ⟨hz, h⟩ := zr_spec h
      cases h
      exact pw_zret (pc := 95) F q hz dX9_isValue_95
    | 4, ht, h =>
      obtain rfl : 96 = t := Option.some.inj ht
      have h : ((f_X9_in a2 (-30000) 30000 H).bind fun z9 => zr z9.1 z9.2 : RO) = some (rr, HH) := h
      refine pw_lload_n (pc := 96) F dX9_isValue_96 rfl ?_
      refine pw_ldc2 (pc := 97) F (-30000) g_846dcd1cc5 dX9_isValue_97 (by decide) ?_
      refine pw_ldc2 (pc := 100) F 30000 g_06b449786f dX9_isValue_100 (by decide) ?_
      obtain ⟨z9, ez9, h⟩ := bnd h
      refine pw_callS (pc := 103) (as := [vl a2, vl (-30000), vl 30000]) (st := []) (r := (some (vi z9.1))) F 140 (fun l => m_X9_in l a2 (-30000) 30000 H z9.1 z9.2 ez9) g_0174c906e2 g_3fadeb3198 g_2759d91faa g_c0c30bc7de hd_X9_in (rm_ok hf hl (by decide) (by decide)) rfl dX9_isValue_103 rfl (stk' := [vi z9.1]) rfl ?_
      obtain ⟨hz, h⟩ := zr_spec h
      cases h
      exact pw_zret (pc := 106) F q hz dX9_isValue_106
    | i + 5, ht, h => simp at ht
/-! HouseholdVaultModel.people(III)V -/
theorem dX9_people_0 : decode cX9_people 0 = .ok (.aload_n 0, 1) := by decide +kernel
theorem dX9_people_1 : decode cX9_people 1 = .ok (.iload_n 1, 1) := by decide +kernel
theorem dX9_people_2 : decode cX9_people 2 = .ok (.iload_n 2, 1) := by decide +kernel
theorem dX9_people_3 : decode cX9_people 3 = .ok (.invokevirtual 184, 3) := by decide +kernel
theorem dX9_people_6 : decode cX9_people 6 = .ok (.istore 4, 2) := by decide +kernel
theorem dX9_people_8 : decode cX9_people 8 = .ok (.iconst 0, 1) := by decide +kernel
theorem dX9_people_9 : decode cX9_people 9 = .ok (.istore 5, 2) := by decide +kernel
theorem dX9_people_11 : decode cX9_people 11 = .ok (.iload 5, 2) := by decide +kernel
theorem dX9_people_13 : decode cX9_people 13 = .ok (.aload_n 0, 1) := by decide +kernel
theorem dX9_people_14 : decode cX9_people 14 = .ok (.getfield 136, 3) := by decide +kernel
theorem dX9_people_17 : decode cX9_people 17 = .ok (.if_icmp .ge 80, 3) := by decide +kernel
theorem dX9_people_20 : decode cX9_people 20 = .ok (.iconst 0, 1) := by decide +kernel
theorem dX9_people_21 : decode cX9_people 21 = .ok (.istore 6, 2) := by decide +kernel
theorem dX9_people_23 : decode cX9_people 23 = .ok (.iload 6, 2) := by decide +kernel
theorem dX9_people_25 : decode cX9_people 25 = .ok (.iconst 5, 1) := by decide +kernel
theorem dX9_people_26 : decode cX9_people 26 = .ok (.if_icmp .ge 65, 3) := by decide +kernel
theorem dX9_people_29 : decode cX9_people 29 = .ok (.aload_n 0, 1) := by decide +kernel
theorem dX9_people_30 : decode cX9_people 30 = .ok (.getfield 13, 3) := by decide +kernel
theorem dX9_people_33 : decode cX9_people 33 = .ok (.iload 5, 2) := by decide +kernel
theorem dX9_people_35 : decode cX9_people 35 = .ok (.iaload, 1) := by decide +kernel
theorem dX9_people_36 : decode cX9_people 36 = .ok (.iload_n 2, 1) := by decide +kernel
theorem dX9_people_37 : decode cX9_people 37 = .ok (.if_icmp .ne 54, 3) := by decide +kernel
theorem dX9_people_40 : decode cX9_people 40 = .ok (.iload 6, 2) := by decide +kernel
theorem dX9_people_42 : decode cX9_people 42 = .ok (.iload 4, 2) := by decide +kernel
theorem dX9_people_44 : decode cX9_people 44 = .ok (.if_icmp .ge 9, 3) := by decide +kernel
theorem dX9_people_47 : decode cX9_people 47 = .ok (.iload 6, 2) := by decide +kernel
theorem dX9_people_49 : decode cX9_people 49 = .ok (.iload_n 3, 1) := by decide +kernel
theorem dX9_people_50 : decode cX9_people 50 = .ok (.if_icmp .lt 35, 3) := by decide +kernel
theorem dX9_people_53 : decode cX9_people 53 = .ok (.aload_n 0, 1) := by decide +kernel
theorem dX9_people_54 : decode cX9_people 54 = .ok (.getfield 51, 3) := by decide +kernel
theorem dX9_people_57 : decode cX9_people 57 = .ok (.iload_n 1, 1) := by decide +kernel
theorem dX9_people_58 : decode cX9_people 58 = .ok (.iload 5, 2) := by decide +kernel
theorem dX9_people_60 : decode cX9_people 60 = .ok (.iload 6, 2) := by decide +kernel
theorem dX9_people_62 : decode cX9_people 62 = .ok (.iconst 1, 1) := by decide +kernel
theorem dX9_people_63 : decode cX9_people 63 = .ok (.iadd, 1) := by decide +kernel
theorem dX9_people_64 : decode cX9_people 64 = .ok (.invokestatic 150, 3) := by decide +kernel
theorem dX9_people_67 : decode cX9_people 67 = .ok (.lconst 0, 1) := by decide +kernel
theorem dX9_people_68 : decode cX9_people 68 = .ok (.lastore, 1) := by decide +kernel
theorem dX9_people_69 : decode cX9_people 69 = .ok (.aload_n 0, 1) := by decide +kernel
theorem dX9_people_70 : decode cX9_people 70 = .ok (.getfield 54, 3) := by decide +kernel
theorem dX9_people_73 : decode cX9_people 73 = .ok (.iload_n 1, 1) := by decide +kernel
theorem dX9_people_74 : decode cX9_people 74 = .ok (.iload 5, 2) := by decide +kernel
theorem dX9_people_76 : decode cX9_people 76 = .ok (.iload 6, 2) := by decide +kernel
theorem dX9_people_78 : decode cX9_people 78 = .ok (.iconst 1, 1) := by decide +kernel
theorem dX9_people_79 : decode cX9_people 79 = .ok (.iadd, 1) := by decide +kernel
theorem dX9_people_80 : decode cX9_people 80 = .ok (.invokestatic 150, 3) := by decide +kernel
theorem dX9_people_83 : decode cX9_people 83 = .ok (.iconst 1, 1) := by decide +kernel
theorem dX9_people_84 : decode cX9_people 84 = .ok (.iastore, 1) := by decide +kernel
theorem dX9_people_85 : decode cX9_people 85 = .ok (.iinc 6 1, 3) := by decide +kernel
theorem dX9_people_88 : decode cX9_people 88 = .ok (.goto (-65), 3) := by decide +kernel
theorem dX9_people_91 : decode cX9_people 91 = .ok (.iinc 5 1, 3) := by decide +kernel
theorem dX9_people_94 : decode cX9_people 94 = .ok (.goto (-83), 3) := by decide +kernel
theorem dX9_people_97 : decode cX9_people 97 = .ok (.return_, 1) := by decide +kernel
def jX9_people_91 (self11 : Int → PH → RO) (p0 p1 p2 p3 p4 p5 : Int) (H : PH) : RO :=
  self11 (w32 (p5 + 1)) H
set_option maxHeartbeats 4000000 in
theorem jX9_people_91_ok {E : PE} {rr : Int} {HH : PH} (F : FX E cX9_people RX9) (q : QE E none HH none) (hn : nLof E = 7) (hf : (roomOf E).frames = 2) (hl : (roomOf E).locals = 44) (self11 : Int → PH → RO) (p0 p1 p2 p3 p4 p5 : Int) (H : PH) (ih11 : ∀ (v5 : Int) (HV : PH), self11 v5 HV = some (rr, HH) → PW E 11 [some (vr p0), some (vi p1), some (vi p2), some (vi p3), some (vi p4), some (vi v5), none] [] HV) (h : jX9_people_91 self11 p0 p1 p2 p3 p4 p5 H = some (rr, HH)) : PW E 91 [some (vr p0), some (vi p1), some (vi p2), some (vi p3), some (vi p4), some (vi p5), none] [] H := by
  unfold jX9_people_91 at h
  refine pw_iinc (pc := 91) F dX9_people_91 rfl (lt_nl hn (by decide)) [some (vr p0), some (vi p1), some (vi p2), some (vi p3), some (vi p4), some (vi (w32 (p5 + 1))), none] rfl (by decide) ?_
  refine pw_goto (pc := 94) F 11 dX9_people_94 (by decide) ?_
  exact pw_mask [true, true, true, true, true, true, true] (ls' := [some (vr p0), some (vi p1), some (vi p2), some (vi p3), some (vi p4), some (vi (w32 (p5 + 1))), none]) rfl (ih11 (w32 (p5 + 1)) H h)
def jX9_people_85 (self11 : Int → PH → RO) (self23 : Int → PH → RO) (p0 p1 p2 p3 p4 p5 p6 : Int) (H : PH) : RO :=
  self23 (w32 (p6 + 1)) H
set_option maxHeartbeats 4000000 in
theorem jX9_people_85_ok {E : PE} {rr : Int} {HH : PH} (F : FX E cX9_people RX9) (q : QE E none HH none) (hn : nLof E = 7) (hf : (roomOf E).frames = 2) (hl : (roomOf E).locals = 44) (self11 : Int → PH → RO) (self23 : Int → PH → RO) (p0 p1 p2 p3 p4 p5 p6 : Int) (H : PH) (ih11 : ∀ (v5 : Int) (HV : PH), self11 v5 HV = some (rr, HH) → PW E 11 [some (vr p0), some (vi p1), some (vi p2), some (vi p3), some (vi p4), some (vi v5), none] [] HV) (ih23 : ∀ (v6 : Int) (HV : PH), self23 v6 HV = some (rr, HH) → PW E 23 [some (vr p0), some (vi p1), some (vi p2), some (vi p3), some (vi p4), some (vi p5), some (vi v6)] [] HV) (h : jX9_people_85 self11 self23 p0 p1 p2 p3 p4 p5 p6 H = some (rr, HH)) : PW E 85 [some (vr p0), some (vi p1), some (vi p2), some (vi p3), some (vi p4), some (vi p5), some (vi p6)] [] H := by
  unfold jX9_people_85 at h
  refine pw_iinc (pc := 85) F dX9_people_85 rfl (lt_nl hn (by decide)) [some (vr p0), some (vi p1), some (vi p2), some (vi p3), some (vi p4), some (vi p5), some (vi (w32 (p6 + 1)))] rfl (by decide) ?_
  refine pw_goto (pc := 88) F 23 dX9_people_88 (by decide) ?_
  exact pw_mask [true, true, true, true, true, true, true] (ls' := [some (vr p0), some (vi p1), some (vi p2), some (vi p3), some (vi p4), some (vi p5), some (vi (w32 (p6 + 1)))]) rfl (ih23 (w32 (p6 + 1)) H h)
def jX9_people_53 (self11 : Int → PH → RO) (self23 : Int → PH → RO) (p0 p1 p2 p3 p4 p5 p6 : Int) (H : PH) : RO :=
  (ld 25 H p0 15).bind fun x1 => (f_X9_place p1 p5 (w32 (p6 + 1)) H).bind fun z2 => (stv 1 z2.2 x1 z2.1 0).bind fun H3 => (ld 25 H3 p0 16).bind fun x4 => (f_X9_place p1 p5 (w32 (p6 + 1)) H3).bind fun z5 => (stv 0 z5.2 x4 z5.1 1).bind fun H6 => jX9_people_85 self11 self23 p0 p1 p2 p3 p4 p5 p6 H6
set_option maxHeartbeats 4000000 in
theorem jX9_people_53_ok {E : PE} {rr : Int} {HH : PH} (F : FX E cX9_people RX9) (q : QE E none HH none) (hn : nLof E = 7) (hf : (roomOf E).frames = 2) (hl : (roomOf E).locals = 44) (self11 : Int → PH → RO) (self23 : Int → PH → RO) (p0 p1 p2 p3 p4 p5 p6 : Int) (H : PH) (ih11 : ∀ (v5 : Int) (HV : PH), self11 v5 HV = some (rr, HH) → PW E 11 [some (vr p0), some (vi p1), some (vi p2), some (vi p3), some (vi p4), some (vi v5), none] [] HV) (ih23 : ∀ (v6 : Int) (HV : PH), self23 v6 HV = some (rr, HH) → PW E 23 [some (vr p0), some (vi p1), some (vi p2), some (vi p3), some (vi p4), some (vi p5), some (vi v6)] [] HV) (h : jX9_people_53 self11 self23 p0 p1 p2 p3 p4 p5 p6 H = some (rr, HH)) : PW E 53 [some (vr p0), some (vi p1), some (vi p2), some (vi p3), some (vi p4), some (vi p5), some (vi p6)] [] H := by
  unfold jX9_people_53 at h
  refine pw_aload_n (pc := 53) F dX9_people_53 rfl ?_
  obtain ⟨x1, ex1, h⟩ := bnd h
  refine pw_get (pc := 54) F 9 15 51 (by decide) (by decide) g_948f79b8fe inl_9 2 rfl dX9_people_54 ex1 ?_
  refine pw_iload_n (pc := 57) F dX9_people_57 rfl ?_
  refine pw_iload (pc := 58) F dX9_people_58 rfl ?_
  refine pw_iload (pc := 60) F dX9_people_60 rfl ?_
  refine pw_iconst (pc := 62) F 1 dX9_people_62 (by decide) ?_
  refine pw_iadd (pc := 63) F dX9_people_63 ?_
  obtain ⟨z2, ez2, h⟩ := bnd h
  refine pw_callS (pc := 64) (as := [vi p1, vi p5, vi (w32 (p6 + 1))]) (st := [vr x1]) (r := (some (vi z2.1))) F 150 (fun l => m_X9_place l p1 p5 (w32 (p6 + 1)) H z2.1 z2.2 ez2) g_ace1a9f84c g_ec0534314d g_2759d91faa g_205510d507 hd_X9_place (rm_ok hf hl (by decide) (by decide)) rfl dX9_people_64 rfl (stk' := [vi z2.1, vr x1]) rfl ?_
  refine pw_lconst (pc := 67) F 0 dX9_people_67 (by decide) ?_
  obtain ⟨H3, eH3, h⟩ := bnd h
  refine pw_last (pc := 68) F dX9_people_68 eH3 ?_
  refine pw_aload_n (pc := 69) F dX9_people_69 rfl ?_
  obtain ⟨x4, ex4, h⟩ := bnd h
  refine pw_get (pc := 70) F 9 16 54 (by decide) (by decide) g_fd9fcec31c inl_9 2 rfl dX9_people_70 ex4 ?_
  refine pw_iload_n (pc := 73) F dX9_people_73 rfl ?_
  refine pw_iload (pc := 74) F dX9_people_74 rfl ?_
  refine pw_iload (pc := 76) F dX9_people_76 rfl ?_
  refine pw_iconst (pc := 78) F 1 dX9_people_78 (by decide) ?_
  refine pw_iadd (pc := 79) F dX9_people_79 ?_
  obtain ⟨z5, ez5, h⟩ := bnd h
  refine pw_callS (pc := 80) (as := [vi p1, vi p5, vi (w32 (p6 + 1))]) (st := [vr x4]) (r := (some (vi z5.1))) F 150 (fun l => m_X9_place l p1 p5 (w32 (p6 + 1)) H3 z5.1 z5.2 ez5) g_ace1a9f84c g_ec0534314d g_2759d91faa g_205510d507 hd_X9_place (rm_ok hf hl (by decide) (by decide)) rfl dX9_people_80 rfl (stk' := [vi z5.1, vr x4]) rfl ?_
  refine pw_iconst (pc := 83) F 1 dX9_people_83 (by decide) ?_
  obtain ⟨H6, eH6, h⟩ := bnd h
  refine pw_iast (pc := 84) F dX9_people_84 eH6 ?_
  exact pw_mask [true, true, true, true, true, true, true] (ls' := [some (vr p0), some (vi p1), some (vi p2), some (vi p3), some (vi p4), some (vi p5), some (vi p6)]) rfl (jX9_people_85_ok F q hn hf hl self11 self23 p0 p1 p2 p3 p4 p5 p6 H6 ih11 ih23 h)
def lX9_people_23 (self11 : Int → PH → RO) (p0 p1 p2 p3 p4 p5 : Int) (self23 : Int → PH → RO) (p6 : Int) (H : PH) : RO :=
  (if p6 ≥ 5 then jX9_people_91 self11 p0 p1 p2 p3 p4 p5 H
  else (ld 25 H p0 2).bind fun x1 => (ld 0 H x1 p5).bind fun x2 => (if x2 ≠ p2 then jX9_people_91 self11 p0 p1 p2 p3 p4 p5 H
  else (if p6 ≥ p4 then jX9_people_53 self11 self23 p0 p1 p2 p3 p4 p5 p6 H
  else (if p6 < p3 then jX9_people_85 self11 self23 p0 p1 p2 p3 p4 p5 p6 H
  else jX9_people_53 self11 self23 p0 p1 p2 p3 p4 p5 p6 H))))
set_option maxHeartbeats 4000000 in
theorem lX9_people_23_ok {E : PE} {rr : Int} {HH : PH} (F : FX E cX9_people RX9) (q : QE E none HH none) (hn : nLof E = 7) (hf : (roomOf E).frames = 2) (hl : (roomOf E).locals = 44) (self11 : Int → PH → RO) (p0 p1 p2 p3 p4 p5 : Int) (ih11 : ∀ (v5 : Int) (HV : PH), self11 v5 HV = some (rr, HH) → PW E 11 [some (vr p0), some (vi p1), some (vi p2), some (vi p3), some (vi p4), some (vi v5), none] [] HV) : ∀ (n : Nat) (p6 : Int) (H : PH), lq1 (lX9_people_23 self11 p0 p1 p2 p3 p4 p5) n p6 H = some (rr, HH) → PW E 23 [some (vr p0), some (vi p1), some (vi p2), some (vi p3), some (vi p4), some (vi p5), some (vi p6)] [] H := by
  refine lq1_ind (P := fun p6 H => PW E 23 [some (vr p0), some (vi p1), some (vi p2), some (vi p3), some (vi p4), some (vi p5), some (vi p6)] [] H) ?_
  intro self23 ih23 p6 H h
  unfold lX9_people_23 at h
  refine pw_iload (pc := 23) F dX9_people_23 rfl ?_
  refine pw_iconst (pc := 25) F 5 dX9_people_25 (by decide) ?_
  refine pw_icmp_ge (pc := 26) F 91 dX9_people_26 (by decide) (fun hc => ?_) (fun hc => ?_)
  · have h := iteT hc h
    exact pw_mask [true, true, true, true, true, true, false] (ls' := [some (vr p0), some (vi p1), some (vi p2), some (vi p3), some (vi p4), some (vi p5), none]) rfl (jX9_people_91_ok F q hn hf hl self11 p0 p1 p2 p3 p4 p5 H ih11 h)
  · have h := iteF hc h
    refine pw_aload_n (pc := 29) F dX9_people_29 rfl ?_
    obtain ⟨x1, ex1, h⟩ := bnd h
    refine pw_get (pc := 30) F 9 2 13 (by decide) (by decide) g_0c2899f53f inl_9 2 rfl dX9_people_30 ex1 ?_
    refine pw_iload (pc := 33) F dX9_people_33 rfl ?_
    obtain ⟨x2, ex2, h⟩ := bnd h
    refine pw_iald (pc := 35) F dX9_people_35 ex2 ?_
    refine pw_iload_n (pc := 36) F dX9_people_36 rfl ?_
    refine pw_icmp_ne (pc := 37) F 91 dX9_people_37 (by decide) (fun hc => ?_) (fun hc => ?_)
    · have h := iteT hc h
      exact pw_mask [true, true, true, true, true, true, false] (ls' := [some (vr p0), some (vi p1), some (vi p2), some (vi p3), some (vi p4), some (vi p5), none]) rfl (jX9_people_91_ok F q hn hf hl self11 p0 p1 p2 p3 p4 p5 H ih11 h)
    · have h := iteF hc h
      refine pw_iload (pc := 40) F dX9_people_40 rfl ?_
      refine pw_iload (pc := 42) F dX9_people_42 rfl ?_
      refine pw_icmp_ge (pc := 44) F 53 dX9_people_44 (by decide) (fun hc => ?_) (fun hc => ?_)
      · have h := iteT hc h
        exact pw_mask [true, true, true, true, true, true, true] (ls' := [some (vr p0), some (vi p1), some (vi p2), some (vi p3), some (vi p4), some (vi p5), some (vi p6)]) rfl (jX9_people_53_ok F q hn hf hl self11 self23 p0 p1 p2 p3 p4 p5 p6 H ih11 ih23 h)
      · have h := iteF hc h
        refine pw_iload (pc := 47) F dX9_people_47 rfl ?_
        refine pw_iload_n (pc := 49) F dX9_people_49 rfl ?_
        refine pw_icmp_lt (pc := 50) F 85 dX9_people_50 (by decide) (fun hc => ?_) (fun hc => ?_)
        · have h := iteT hc h
          exact pw_mask [true, true, true, true, true, true, true] (ls' := [some (vr p0), some (vi p1), some (vi p2), some (vi p3), some (vi p4), some (vi p5), some (vi p6)]) rfl (jX9_people_85_ok F q hn hf hl self11 self23 p0 p1 p2 p3 p4 p5 p6 H ih11 ih23 h)
        · have h := iteF hc h
          exact pw_mask [true, true, true, true, true, true, true] (ls' := [some (vr p0), some (vi p1), some (vi p2), some (vi p3), some (vi p4), some (vi p5), some (vi p6)]) rfl (jX9_people_53_ok F q hn hf hl self11 self23 p0 p1 p2 p3 p4 p5 p6 H ih11 ih23 h)
def lX9_people_11 (p0 p1 p2 p3 p4 : Int) (self11 : Int → PH → RO) (p5 : Int) (H : PH) : RO :=
  (ld 25 H p0 0).bind fun x1 => (if p5 ≥ x1 then some (0, H)
  else lq1 (lX9_people_23 self11 p0 p1 p2 p3 p4 p5) 6000 0 H)
set_option maxHeartbeats 4000000 in
theorem lX9_people_11_ok {E : PE} {rr : Int} {HH : PH} (F : FX E cX9_people RX9) (q : QE E none HH none) (hn : nLof E = 7) (hf : (roomOf E).frames = 2) (hl : (roomOf E).locals = 44) (p0 p1 p2 p3 p4 : Int) : ∀ (n : Nat) (p5 : Int) (H : PH), lq1 (lX9_people_11 p0 p1 p2 p3 p4) n p5 H = some (rr, HH) → PW E 11 [some (vr p0), some (vi p1), some (vi p2), some (vi p3), some (vi p4), some (vi p5), none] [] H := by
  refine lq1_ind (P := fun p5 H => PW E 11 [some (vr p0), some (vi p1), some (vi p2), some (vi p3), some (vi p4), some (vi p5), none] [] H) ?_
  intro self11 ih11 p5 H h
  unfold lX9_people_11 at h
  refine pw_iload (pc := 11) F dX9_people_11 rfl ?_
  refine pw_aload_n (pc := 13) F dX9_people_13 rfl ?_
  obtain ⟨x1, ex1, h⟩ := bnd h
  refine pw_get (pc := 14) F 9 0 136 (by decide) (by decide) g_eb25be88a8 inl_9 0 rfl dX9_people_14 ex1 ?_
  refine pw_icmp_ge (pc := 17) F 97 dX9_people_17 (by decide) (fun hc => ?_) (fun hc => ?_)
  · have h := iteT hc h
    cases h
    exact pw_vret (pc := 97) F q dX9_people_97
  · have h := iteF hc h
    refine pw_iconst (pc := 20) F 0 dX9_people_20 (by decide) ?_
    refine pw_istore (pc := 21) F dX9_people_21 (lt_nl hn (by decide)) [some (vr p0), some (vi p1), some (vi p2), some (vi p3), some (vi p4), some (vi p5), some (vi 0)] rfl ?_
    exact pw_mask [true, true, true, true, true, true, true] (ls' := [some (vr p0), some (vi p1), some (vi p2), some (vi p3), some (vi p4), some (vi p5), some (vi 0)]) rfl (lX9_people_23_ok F q hn hf hl self11 p0 p1 p2 p3 p4 p5 ih11  6000 0 H h)
def f_X9_people (a0 a1 a2 a3 : Int) (H : PH) : RO := vm 9 a0 H <|
  (f_X9_persons a0 a1 a2 H).bind fun z1 => lq1 (lX9_people_11 a0 a1 a2 a3 z1.1) 6000 0 z1.2
set_option maxHeartbeats 4000000 in
theorem m_X9_people (l : Launch) (a0 a1 a2 a3 : Int) (H : PH) (rr : Int) (HH : PH) (h : f_X9_people a0 a1 a2 a3 H = some (rr, HH)) : CT l yX9_people cX9_people 7 none 2 44 [vr a0, vi a1, vi a2, vi a3] H none HH := by
  refine CT.of RX9 (by decide) rfl [some (vr a0), some (vi a1), some (vi a2), some (vi a3), none, none, none] rfl rfl ?_
  intro E F q hn hf hl hm
  unfold f_X9_people at h
  obtain ⟨hv, h⟩ := vm_spec h
  refine pw_aload_n (pc := 0) F dX9_people_0 rfl ?_
  refine pw_iload_n (pc := 1) F dX9_people_1 rfl ?_
  refine pw_iload_n (pc := 2) F dX9_people_2 rfl ?_
  obtain ⟨z1, ez1, h⟩ := bnd h
  refine pw_callV (pc := 3) (as := [vi a1, vi a2]) (st := []) (r := (some (vi z1.1))) F 184 9 (by decide) rfl (fun l => m_X9_persons l a0 a1 a2 H z1.1 z1.2 ez1) g_de33c5095d g_d70a88cf42 g_2197e2f2b8 g_2759d91faa g_c55f0dc1c5 hd_X9_persons (rm_ok hf hl (by decide) (by decide)) rfl (vm_spec ez1).1 dX9_people_3 rfl (stk' := [vi z1.1]) rfl ?_
  refine pw_istore (pc := 6) F dX9_people_6 (lt_nl hn (by decide)) [some (vr a0), some (vi a1), some (vi a2), some (vi a3), some (vi z1.1), none, none] rfl ?_
  refine pw_iconst (pc := 8) F 0 dX9_people_8 (by decide) ?_
  refine pw_istore (pc := 9) F dX9_people_9 (lt_nl hn (by decide)) [some (vr a0), some (vi a1), some (vi a2), some (vi a3), some (vi z1.1), some (vi 0), none] rfl ?_
  exact pw_mask [true, true, true, true, true, true, true] (ls' := [some (vr a0), some (vi a1), some (vi a2), some (vi a3), some (vi z1.1), some (vi 0), none]) rfl (lX9_people_11_ok F q hn hf hl a0 a1 a2 a3 z1.1  6000 0 z1.2 h)
/-! HouseholdVaultModel.answer(IIIJ)I -/
theorem dX9_answer_0 : decode cX9_answer 0 = .ok (.aload_n 0, 1) := by decide +kernel
theorem dX9_answer_1 : decode cX9_answer 1 = .ok (.iload_n 1, 1) := by decide +kernel
theorem dX9_answer_2 : decode cX9_answer 2 = .ok (.iload_n 2, 1) := by decide +kernel
theorem dX9_answer_3 : decode cX9_answer 3 = .ok (.iload_n 3, 1) := by decide +kernel
theorem dX9_answer_4 : decode cX9_answer 4 = .ok (.invokevirtual 196, 3) := by decide +kernel
theorem dX9_answer_7 : decode cX9_answer 7 = .ok (.ifCond .ne 5, 3) := by decide +kernel
theorem dX9_answer_10 : decode cX9_answer 10 = .ok (.iconst (-1), 1) := by decide +kernel
theorem dX9_answer_11 : decode cX9_answer 11 = .ok (.ireturn, 1) := by decide +kernel
theorem dX9_answer_12 : decode cX9_answer 12 = .ok (.aload_n 0, 1) := by decide +kernel
theorem dX9_answer_13 : decode cX9_answer 13 = .ok (.getfield 16, 3) := by decide +kernel
theorem dX9_answer_16 : decode cX9_answer 16 = .ok (.iload_n 2, 1) := by decide +kernel
theorem dX9_answer_17 : decode cX9_answer 17 = .ok (.iaload, 1) := by decide +kernel
theorem dX9_answer_18 : decode cX9_answer 18 = .ok (.ifCond .le 6, 3) := by decide +kernel
theorem dX9_answer_21 : decode cX9_answer 21 = .ok (.bipush (-2), 2) := by decide +kernel
theorem dX9_answer_23 : decode cX9_answer 23 = .ok (.ireturn, 1) := by decide +kernel
theorem dX9_answer_24 : decode cX9_answer 24 = .ok (.aload_n 0, 1) := by decide +kernel
theorem dX9_answer_25 : decode cX9_answer 25 = .ok (.iload_n 2, 1) := by decide +kernel
theorem dX9_answer_26 : decode cX9_answer 26 = .ok (.lload 4, 2) := by decide +kernel
theorem dX9_answer_28 : decode cX9_answer 28 = .ok (.invokevirtual 200, 3) := by decide +kernel
theorem dX9_answer_31 : decode cX9_answer 31 = .ok (.ifCond .ne 5, 3) := by decide +kernel
theorem dX9_answer_34 : decode cX9_answer 34 = .ok (.iconst (-1), 1) := by decide +kernel
theorem dX9_answer_35 : decode cX9_answer 35 = .ok (.ireturn, 1) := by decide +kernel
theorem dX9_answer_36 : decode cX9_answer 36 = .ok (.aload_n 0, 1) := by decide +kernel
theorem dX9_answer_37 : decode cX9_answer 37 = .ok (.getfield 7, 3) := by decide +kernel
theorem dX9_answer_40 : decode cX9_answer 40 = .ok (.iload_n 2, 1) := by decide +kernel
theorem dX9_answer_41 : decode cX9_answer 41 = .ok (.iaload, 1) := by decide +kernel
theorem dX9_answer_42 : decode cX9_answer 42 = .ok (.iconst 5, 1) := by decide +kernel
theorem dX9_answer_43 : decode cX9_answer 43 = .ok (.if_icmp .ne 12, 3) := by decide +kernel
theorem dX9_answer_46 : decode cX9_answer 46 = .ok (.aload_n 0, 1) := by decide +kernel
theorem dX9_answer_47 : decode cX9_answer 47 = .ok (.iload_n 1, 1) := by decide +kernel
theorem dX9_answer_48 : decode cX9_answer 48 = .ok (.iload_n 2, 1) := by decide +kernel
theorem dX9_answer_49 : decode cX9_answer 49 = .ok (.lload 4, 2) := by decide +kernel
theorem dX9_answer_51 : decode cX9_answer 51 = .ok (.l2i, 1) := by decide +kernel
theorem dX9_answer_52 : decode cX9_answer 52 = .ok (.invokevirtual 204, 3) := by decide +kernel
theorem dX9_answer_55 : decode cX9_answer 55 = .ok (.aload_n 0, 1) := by decide +kernel
theorem dX9_answer_56 : decode cX9_answer 56 = .ok (.getfield 51, 3) := by decide +kernel
theorem dX9_answer_59 : decode cX9_answer 59 = .ok (.iload_n 1, 1) := by decide +kernel
theorem dX9_answer_60 : decode cX9_answer 60 = .ok (.iload_n 2, 1) := by decide +kernel
theorem dX9_answer_61 : decode cX9_answer 61 = .ok (.iload_n 3, 1) := by decide +kernel
theorem dX9_answer_62 : decode cX9_answer 62 = .ok (.iconst 1, 1) := by decide +kernel
theorem dX9_answer_63 : decode cX9_answer 63 = .ok (.iadd, 1) := by decide +kernel
theorem dX9_answer_64 : decode cX9_answer 64 = .ok (.invokestatic 150, 3) := by decide +kernel
theorem dX9_answer_67 : decode cX9_answer 67 = .ok (.lload 4, 2) := by decide +kernel
theorem dX9_answer_69 : decode cX9_answer 69 = .ok (.lastore, 1) := by decide +kernel
theorem dX9_answer_70 : decode cX9_answer 70 = .ok (.aload_n 0, 1) := by decide +kernel
theorem dX9_answer_71 : decode cX9_answer 71 = .ok (.getfield 54, 3) := by decide +kernel
theorem dX9_answer_74 : decode cX9_answer 74 = .ok (.iload_n 1, 1) := by decide +kernel
theorem dX9_answer_75 : decode cX9_answer 75 = .ok (.iload_n 2, 1) := by decide +kernel
theorem dX9_answer_76 : decode cX9_answer 76 = .ok (.iload_n 3, 1) := by decide +kernel
theorem dX9_answer_77 : decode cX9_answer 77 = .ok (.iconst 1, 1) := by decide +kernel
theorem dX9_answer_78 : decode cX9_answer 78 = .ok (.iadd, 1) := by decide +kernel
theorem dX9_answer_79 : decode cX9_answer 79 = .ok (.invokestatic 150, 3) := by decide +kernel
theorem dX9_answer_82 : decode cX9_answer 82 = .ok (.iconst 0, 1) := by decide +kernel
theorem dX9_answer_83 : decode cX9_answer 83 = .ok (.iastore, 1) := by decide +kernel
theorem dX9_answer_84 : decode cX9_answer 84 = .ok (.iconst 1, 1) := by decide +kernel
theorem dX9_answer_85 : decode cX9_answer 85 = .ok (.ireturn, 1) := by decide +kernel
def jX9_answer_55 (p0 p1 p2 p3 p4 : Int) (H : PH) : RO :=
  (ld 25 H p0 15).bind fun x1 => (f_X9_place p1 p2 (w32 (p3 + 1)) H).bind fun z2 => (stv 1 z2.2 x1 z2.1 p4).bind fun H3 => (ld 25 H3 p0 16).bind fun x4 => (f_X9_place p1 p2 (w32 (p3 + 1)) H3).bind fun z5 => (stv 0 z5.2 x4 z5.1 0).bind fun H6 => some (1, H6)
set_option maxHeartbeats 4000000 in
theorem jX9_answer_55_ok {E : PE} {rr : Int} {HH : PH} (F : FX E cX9_answer RX9) (q : QE E (some (vi rr)) HH (some .int)) (hn : nLof E = 6) (hf : (roomOf E).frames = 3) (hl : (roomOf E).locals = 70) (p0 p1 p2 p3 p4 : Int) (H : PH) (h : jX9_answer_55 p0 p1 p2 p3 p4 H = some (rr, HH)) : PW E 55 [some (vr p0), some (vi p1), some (vi p2), some (vi p3), some (vl p4), none] [] H := by
  unfold jX9_answer_55 at h
  refine pw_aload_n (pc := 55) F dX9_answer_55 rfl ?_
  obtain ⟨x1, ex1, h⟩ := bnd h
  refine pw_get (pc := 56) F 9 15 51 (by decide) (by decide) g_948f79b8fe inl_9 2 rfl dX9_answer_56 ex1 ?_
  refine pw_iload_n (pc := 59) F dX9_answer_59 rfl ?_
  refine pw_iload_n (pc := 60) F dX9_answer_60 rfl ?_
  refine pw_iload_n (pc := 61) F dX9_answer_61 rfl ?_
  refine pw_iconst (pc := 62) F 1 dX9_answer_62 (by decide) ?_
  refine pw_iadd (pc := 63) F dX9_answer_63 ?_
  obtain ⟨z2, ez2, h⟩ := bnd h
  refine pw_callS (pc := 64) (as := [vi p1, vi p2, vi (w32 (p3 + 1))]) (st := [vr x1]) (r := (some (vi z2.1))) F 150 (fun l => m_X9_place l p1 p2 (w32 (p3 + 1)) H z2.1 z2.2 ez2) g_ace1a9f84c g_ec0534314d g_2759d91faa g_205510d507 hd_X9_place (rm_ok hf hl (by decide) (by decide)) rfl dX9_answer_64 rfl (stk' := [vi z2.1, vr x1]) rfl ?_
  refine pw_lload (pc := 67) F dX9_answer_67 rfl ?_
  obtain ⟨H3, eH3, h⟩ := bnd h
  refine pw_last (pc := 69) F dX9_answer_69 eH3 ?_
  refine pw_aload_n (pc := 70) F dX9_answer_70 rfl ?_
  obtain ⟨x4, ex4, h⟩ := bnd h
  refine pw_get (pc := 71) F 9 16 54 (by decide) (by decide) g_fd9fcec31c inl_9 2 rfl dX9_answer_71 ex4 ?_
  refine pw_iload_n (pc := 74) F dX9_answer_74 rfl ?_
  refine pw_iload_n (pc := 75) F dX9_answer_75 rfl ?_
  refine pw_iload_n (pc := 76) F dX9_answer_76 rfl ?_
  refine pw_iconst (pc := 77) F 1 dX9_answer_77 (by decide) ?_
  refine pw_iadd (pc := 78) F dX9_answer_78 ?_
  obtain ⟨z5, ez5, h⟩ := bnd h
  refine pw_callS (pc := 79) (as := [vi p1, vi p2, vi (w32 (p3 + 1))]) (st := [vr x4]) (r := (some (vi z5.1))) F 150 (fun l => m_X9_place l p1 p2 (w32 (p3 + 1)) H3 z5.1 z5.2 ez5) g_ace1a9f84c g_ec0534314d g_2759d91faa g_205510d507 hd_X9_place (rm_ok hf hl (by decide) (by decide)) rfl dX9_answer_79 rfl (stk' := [vi z5.1, vr x4]) rfl ?_
  refine pw_iconst (pc := 82) F 0 dX9_answer_82 (by decide) ?_
  obtain ⟨H6, eH6, h⟩ := bnd h
  refine pw_iast (pc := 83) F dX9_answer_83 eH6 ?_
  refine pw_iconst (pc := 84) F 1 dX9_answer_84 (by decide) ?_
  cases h
  exact pw_iret (pc := 85) F q dX9_answer_85
def f_X9_answer (a0 a1 a2 a3 a4 : Int) (H : PH) : RO := vm 9 a0 H <|
  (f_X9_isPlace a0 a1 a2 a3 H).bind fun z1 => (if z1.1 ≠ 0 then (ld 25 z1.2 a0 3).bind fun x2 => (ld 0 z1.2 x2 a2).bind fun x3 => (if x3 ≤ 0 then (f_X9_isValue a0 a2 a4 z1.2).bind fun z4 => (if z4.1 ≠ 0 then (ld 25 z4.2 a0 1).bind fun x5 => (ld 0 z4.2 x5 a2).bind fun x6 => (if x6 ≠ 5 then jX9_answer_55 a0 a1 a2 a3 a4 z4.2
  else (f_X9_people a0 a1 a2 (w32 a4) z4.2).bind fun z7 => jX9_answer_55 a0 a1 a2 a3 a4 z7.2)
  else some ((-1), z4.2))
  else some ((-2), z1.2))
  else some ((-1), z1.2))
set_option maxHeartbeats 4000000 in
theorem m_X9_answer (l : Launch) (a0 a1 a2 a3 a4 : Int) (H : PH) (rr : Int) (HH : PH) (h : f_X9_answer a0 a1 a2 a3 a4 H = some (rr, HH)) : CT l yX9_answer cX9_answer 6 (some .int) 3 70 [vr a0, vi a1, vi a2, vi a3, vl a4] H (some (vi rr)) HH := by
  refine CT.of RX9 (by decide) rfl [some (vr a0), some (vi a1), some (vi a2), some (vi a3), some (vl a4), none] rfl rfl ?_
  intro E F q hn hf hl hm
  unfold f_X9_answer at h
  obtain ⟨hv, h⟩ := vm_spec h
  refine pw_aload_n (pc := 0) F dX9_answer_0 rfl ?_
  refine pw_iload_n (pc := 1) F dX9_answer_1 rfl ?_
  refine pw_iload_n (pc := 2) F dX9_answer_2 rfl ?_
  refine pw_iload_n (pc := 3) F dX9_answer_3 rfl ?_
  obtain ⟨z1, ez1, h⟩ := bnd h
  refine pw_callV (pc := 4) (as := [vi a1, vi a2, vi a3]) (st := []) (r := (some (vi z1.1))) F 196 9 (by decide) rfl (fun l => m_X9_isPlace l a0 a1 a2 a3 H z1.1 z1.2 ez1) g_4eaf5d5c79 g_c8b02f6700 g_d798c155f8 g_2759d91faa g_b17f622d62 hd_X9_isPlace (rm_ok hf hl (by decide) (by decide)) rfl (vm_spec ez1).1 dX9_answer_4 rfl (stk' := [vi z1.1]) rfl ?_
  refine pw_if_ne (pc := 7) F 12 dX9_answer_7 (by decide) (fun hc => ?_) (fun hc => ?_)
  · have h := iteT hc h
    refine pw_aload_n (pc := 12) F dX9_answer_12 rfl ?_
    obtain ⟨x2, ex2, h⟩ := bnd h
    refine pw_get (pc := 13) F 9 3 16 (by decide) (by decide) g_bd19d270ba inl_9 2 rfl dX9_answer_13 ex2 ?_
    refine pw_iload_n (pc := 16) F dX9_answer_16 rfl ?_
    obtain ⟨x3, ex3, h⟩ := bnd h
    refine pw_iald (pc := 17) F dX9_answer_17 ex3 ?_
    refine pw_if_le (pc := 18) F 24 dX9_answer_18 (by decide) (fun hc => ?_) (fun hc => ?_)
    · have h := iteT hc h
      refine pw_aload_n (pc := 24) F dX9_answer_24 rfl ?_
      refine pw_iload_n (pc := 25) F dX9_answer_25 rfl ?_
      refine pw_lload (pc := 26) F dX9_answer_26 rfl ?_
      obtain ⟨z4, ez4, h⟩ := bnd h
      refine pw_callV (pc := 28) (as := [vi a2, vl a4]) (st := []) (r := (some (vi z4.1))) F 200 9 (by decide) rfl (fun l => m_X9_isValue l a0 a2 a4 z1.2 z4.1 z4.2 ez4) g_81ebbd05a6 g_1c5f71c0d0 g_f6fa3c9e6b g_2759d91faa g_94e35b967a hd_X9_isValue (rm_ok hf hl (by decide) (by decide)) rfl (vm_spec ez4).1 dX9_answer_28 rfl (stk' := [vi z4.1]) rfl ?_
      refine pw_if_ne (pc := 31) F 36 dX9_answer_31 (by decide) (fun hc => ?_) (fun hc => ?_)
      · have h := iteT hc h
        refine pw_aload_n (pc := 36) F dX9_answer_36 rfl ?_
        obtain ⟨x5, ex5, h⟩ := bnd h
        refine pw_get (pc := 37) F 9 1 7 (by decide) (by decide) g_a89464ec18 inl_9 2 rfl dX9_answer_37 ex5 ?_
        refine pw_iload_n (pc := 40) F dX9_answer_40 rfl ?_
        obtain ⟨x6, ex6, h⟩ := bnd h
        refine pw_iald (pc := 41) F dX9_answer_41 ex6 ?_
        refine pw_iconst (pc := 42) F 5 dX9_answer_42 (by decide) ?_
        refine pw_icmp_ne (pc := 43) F 55 dX9_answer_43 (by decide) (fun hc => ?_) (fun hc => ?_)
        · have h := iteT hc h
          exact pw_mask [true, true, true, true, true, true] (ls' := [some (vr a0), some (vi a1), some (vi a2), some (vi a3), some (vl a4), none]) rfl (jX9_answer_55_ok F q hn hf hl a0 a1 a2 a3 a4 z4.2 h)
        · have h := iteF hc h
          refine pw_aload_n (pc := 46) F dX9_answer_46 rfl ?_
          refine pw_iload_n (pc := 47) F dX9_answer_47 rfl ?_
          refine pw_iload_n (pc := 48) F dX9_answer_48 rfl ?_
          refine pw_lload (pc := 49) F dX9_answer_49 rfl ?_
          refine pw_l2i (pc := 51) F dX9_answer_51 ?_
          obtain ⟨z7, ez7, h⟩ := bnd h
          refine pw_callV (pc := 52) (as := [vi a1, vi a2, vi (w32 a4)]) (st := []) (r := none) F 204 9 (by decide) rfl (fun l => m_X9_people l a0 a1 a2 (w32 a4) z4.2 z7.1 z7.2 ez7) g_a5c9403578 g_dad00ec571 g_47c98390be g_2759d91faa g_49cb50c2e0 hd_X9_people (rm_ok hf hl (by decide) (by decide)) rfl (vm_spec ez7).1 dX9_answer_52 rfl (stk' := []) rfl ?_
          exact pw_mask [true, true, true, true, true, true] (ls' := [some (vr a0), some (vi a1), some (vi a2), some (vi a3), some (vl a4), none]) rfl (jX9_answer_55_ok F q hn hf hl a0 a1 a2 a3 a4 z7.2 h)
      · have h := iteF hc h
        refine pw_iconst (pc := 34) F (-1) dX9_answer_34 (by decide) ?_
        cases h
        exact pw_iret (pc := 35) F q dX9_answer_35
    · have h := iteF hc h
      refine pw_bipush (pc := 21) F (-2) dX9_answer_21 (by decide) ?_
      cases h
      exact pw_iret (pc := 23) F q dX9_answer_23
  · have h := iteF hc h
    refine pw_iconst (pc := 10) F (-1) dX9_answer_10 (by decide) ?_
    cases h
    exact pw_iret (pc := 11) F q dX9_answer_11
/-! HouseholdVaultModel.missing(IIII)I -/
theorem dX9_missing_0 : decode cX9_missing 0 = .ok (.aload_n 0, 1) := by decide +kernel
theorem dX9_missing_1 : decode cX9_missing 1 = .ok (.iload_n 1, 1) := by decide +kernel
theorem dX9_missing_2 : decode cX9_missing 2 = .ok (.iload_n 2, 1) := by decide +kernel
theorem dX9_missing_3 : decode cX9_missing 3 = .ok (.iload_n 3, 1) := by decide +kernel
theorem dX9_missing_4 : decode cX9_missing 4 = .ok (.invokevirtual 196, 3) := by decide +kernel
theorem dX9_missing_7 : decode cX9_missing 7 = .ok (.ifCond .eq 16, 3) := by decide +kernel
theorem dX9_missing_10 : decode cX9_missing 10 = .ok (.iload 4, 2) := by decide +kernel
theorem dX9_missing_12 : decode cX9_missing 12 = .ok (.i2l, 1) := by decide +kernel
theorem dX9_missing_13 : decode cX9_missing 13 = .ok (.lconst 1, 1) := by decide +kernel
theorem dX9_missing_14 : decode cX9_missing 14 = .ok (.ldc2_w 161, 3) := by decide +kernel
theorem dX9_missing_17 : decode cX9_missing 17 = .ok (.invokestatic 140, 3) := by decide +kernel
theorem dX9_missing_20 : decode cX9_missing 20 = .ok (.ifCond .ne 5, 3) := by decide +kernel
theorem dX9_missing_23 : decode cX9_missing 23 = .ok (.iconst (-1), 1) := by decide +kernel
theorem dX9_missing_24 : decode cX9_missing 24 = .ok (.ireturn, 1) := by decide +kernel
theorem dX9_missing_25 : decode cX9_missing 25 = .ok (.aload_n 0, 1) := by decide +kernel
theorem dX9_missing_26 : decode cX9_missing 26 = .ok (.getfield 16, 3) := by decide +kernel
theorem dX9_missing_29 : decode cX9_missing 29 = .ok (.iload_n 2, 1) := by decide +kernel
theorem dX9_missing_30 : decode cX9_missing 30 = .ok (.iaload, 1) := by decide +kernel
theorem dX9_missing_31 : decode cX9_missing 31 = .ok (.ifCond .gt 13, 3) := by decide +kernel
theorem dX9_missing_34 : decode cX9_missing 34 = .ok (.aload_n 0, 1) := by decide +kernel
theorem dX9_missing_35 : decode cX9_missing 35 = .ok (.getfield 7, 3) := by decide +kernel
theorem dX9_missing_38 : decode cX9_missing 38 = .ok (.iload_n 2, 1) := by decide +kernel
theorem dX9_missing_39 : decode cX9_missing 39 = .ok (.iaload, 1) := by decide +kernel
theorem dX9_missing_40 : decode cX9_missing 40 = .ok (.iconst 5, 1) := by decide +kernel
theorem dX9_missing_41 : decode cX9_missing 41 = .ok (.if_icmp .ne 6, 3) := by decide +kernel
theorem dX9_missing_44 : decode cX9_missing 44 = .ok (.bipush (-2), 2) := by decide +kernel
theorem dX9_missing_46 : decode cX9_missing 46 = .ok (.ireturn, 1) := by decide +kernel
theorem dX9_missing_47 : decode cX9_missing 47 = .ok (.aload_n 0, 1) := by decide +kernel
theorem dX9_missing_48 : decode cX9_missing 48 = .ok (.getfield 51, 3) := by decide +kernel
theorem dX9_missing_51 : decode cX9_missing 51 = .ok (.iload_n 1, 1) := by decide +kernel
theorem dX9_missing_52 : decode cX9_missing 52 = .ok (.iload_n 2, 1) := by decide +kernel
theorem dX9_missing_53 : decode cX9_missing 53 = .ok (.iload_n 3, 1) := by decide +kernel
theorem dX9_missing_54 : decode cX9_missing 54 = .ok (.iconst 1, 1) := by decide +kernel
theorem dX9_missing_55 : decode cX9_missing 55 = .ok (.iadd, 1) := by decide +kernel
theorem dX9_missing_56 : decode cX9_missing 56 = .ok (.invokestatic 150, 3) := by decide +kernel
theorem dX9_missing_59 : decode cX9_missing 59 = .ok (.lconst 0, 1) := by decide +kernel
theorem dX9_missing_60 : decode cX9_missing 60 = .ok (.lastore, 1) := by decide +kernel
theorem dX9_missing_61 : decode cX9_missing 61 = .ok (.aload_n 0, 1) := by decide +kernel
theorem dX9_missing_62 : decode cX9_missing 62 = .ok (.getfield 54, 3) := by decide +kernel
theorem dX9_missing_65 : decode cX9_missing 65 = .ok (.iload_n 1, 1) := by decide +kernel
theorem dX9_missing_66 : decode cX9_missing 66 = .ok (.iload_n 2, 1) := by decide +kernel
theorem dX9_missing_67 : decode cX9_missing 67 = .ok (.iload_n 3, 1) := by decide +kernel
theorem dX9_missing_68 : decode cX9_missing 68 = .ok (.iconst 1, 1) := by decide +kernel
theorem dX9_missing_69 : decode cX9_missing 69 = .ok (.iadd, 1) := by decide +kernel
theorem dX9_missing_70 : decode cX9_missing 70 = .ok (.invokestatic 150, 3) := by decide +kernel
theorem dX9_missing_73 : decode cX9_missing 73 = .ok (.iload 4, 2) := by decide +kernel
theorem dX9_missing_75 : decode cX9_missing 75 = .ok (.iastore, 1) := by decide +kernel
theorem dX9_missing_76 : decode cX9_missing 76 = .ok (.iconst 1, 1) := by decide +kernel
theorem dX9_missing_77 : decode cX9_missing 77 = .ok (.ireturn, 1) := by decide +kernel
def f_X9_missing (a0 a1 a2 a3 a4 : Int) (H : PH) : RO := vm 9 a0 H <|
  (f_X9_isPlace a0 a1 a2 a3 H).bind fun z1 => (if z1.1 = 0 then some ((-1), z1.2)
  else (f_X9_in a4 1 5 z1.2).bind fun z2 => (if z2.1 ≠ 0 then (ld 25 z2.2 a0 3).bind fun x3 => (ld 0 z2.2 x3 a2).bind fun x4 => (if x4 > 0 then some ((-2), z2.2)
  else (ld 25 z2.2 a0 1).bind fun x5 => (ld 0 z2.2 x5 a2).bind fun x6 => (if x6 ≠ 5 then (ld 25 z2.2 a0 15).bind fun x7 => (f_X9_place a1 a2 (w32 (a3 + 1)) z2.2).bind fun z8 => (stv 1 z8.2 x7 z8.1 0).bind fun H9 => (ld 25 H9 a0 16).bind fun x10 => (f_X9_place a1 a2 (w32 (a3 + 1)) H9).bind fun z11 => (stv 0 z11.2 x10 z11.1 a4).bind fun H12 => some (1, H12)
  else some ((-2), z2.2)))
  else some ((-1), z2.2)))
set_option maxHeartbeats 4000000 in
theorem m_X9_missing (l : Launch) (a0 a1 a2 a3 a4 : Int) (H : PH) (rr : Int) (HH : PH) (h : f_X9_missing a0 a1 a2 a3 a4 H = some (rr, HH)) : CT l yX9_missing cX9_missing 5 (some .int) 3 69 [vr a0, vi a1, vi a2, vi a3, vi a4] H (some (vi rr)) HH := by
  refine CT.of RX9 (by decide) rfl [some (vr a0), some (vi a1), some (vi a2), some (vi a3), some (vi a4)] rfl rfl ?_
  intro E F q hn hf hl hm
  unfold f_X9_missing at h
  obtain ⟨hv, h⟩ := vm_spec h
  refine pw_aload_n (pc := 0) F dX9_missing_0 rfl ?_
  refine pw_iload_n (pc := 1) F dX9_missing_1 rfl ?_
  refine pw_iload_n (pc := 2) F dX9_missing_2 rfl ?_
  refine pw_iload_n (pc := 3) F dX9_missing_3 rfl ?_
  obtain ⟨z1, ez1, h⟩ := bnd h
  refine pw_callV (pc := 4) (as := [vi a1, vi a2, vi a3]) (st := []) (r := (some (vi z1.1))) F 196 9 (by decide) rfl (fun l => m_X9_isPlace l a0 a1 a2 a3 H z1.1 z1.2 ez1) g_4eaf5d5c79 g_c8b02f6700 g_d798c155f8 g_2759d91faa g_b17f622d62 hd_X9_isPlace (rm_ok hf hl (by decide) (by decide)) rfl (vm_spec ez1).1 dX9_missing_4 rfl (stk' := [vi z1.1]) rfl ?_
  refine pw_if_eq (pc := 7) F 23 dX9_missing_7 (by decide) (fun hc => ?_) (fun hc => ?_)
  · have h := iteT hc h
    refine pw_iconst (pc := 23) F (-1) dX9_missing_23 (by decide) ?_
    cases h
    exact pw_iret (pc := 24) F q dX9_missing_24
  · have h := iteF hc h
    refine pw_iload (pc := 10) F dX9_missing_10 rfl ?_
    refine pw_i2l (pc := 12) F dX9_missing_12 ?_
    refine pw_lconst (pc := 13) F 1 dX9_missing_13 (by decide) ?_
    refine pw_ldc2 (pc := 14) F 5 g_f5e836366d dX9_missing_14 (by decide) ?_
    obtain ⟨z2, ez2, h⟩ := bnd h
    refine pw_callS (pc := 17) (as := [vl a4, vl 1, vl 5]) (st := []) (r := (some (vi z2.1))) F 140 (fun l => m_X9_in l a4 1 5 z1.2 z2.1 z2.2 ez2) g_0174c906e2 g_3fadeb3198 g_2759d91faa g_c0c30bc7de hd_X9_in (rm_ok hf hl (by decide) (by decide)) rfl dX9_missing_17 rfl (stk' := [vi z2.1]) rfl ?_
    refine pw_if_ne (pc := 20) F 25 dX9_missing_20 (by decide) (fun hc => ?_) (fun hc => ?_)
    · have h := iteT hc h
      refine pw_aload_n (pc := 25) F dX9_missing_25 rfl ?_
      obtain ⟨x3, ex3, h⟩ := bnd h
      refine pw_get (pc := 26) F 9 3 16 (by decide) (by decide) g_bd19d270ba inl_9 2 rfl dX9_missing_26 ex3 ?_
      refine pw_iload_n (pc := 29) F dX9_missing_29 rfl ?_
      obtain ⟨x4, ex4, h⟩ := bnd h
      refine pw_iald (pc := 30) F dX9_missing_30 ex4 ?_
      refine pw_if_gt (pc := 31) F 44 dX9_missing_31 (by decide) (fun hc => ?_) (fun hc => ?_)
      · have h := iteT hc h
        refine pw_bipush (pc := 44) F (-2) dX9_missing_44 (by decide) ?_
        cases h
        exact pw_iret (pc := 46) F q dX9_missing_46
      · have h := iteF hc h
        refine pw_aload_n (pc := 34) F dX9_missing_34 rfl ?_
        obtain ⟨x5, ex5, h⟩ := bnd h
        refine pw_get (pc := 35) F 9 1 7 (by decide) (by decide) g_a89464ec18 inl_9 2 rfl dX9_missing_35 ex5 ?_
        refine pw_iload_n (pc := 38) F dX9_missing_38 rfl ?_
        obtain ⟨x6, ex6, h⟩ := bnd h
        refine pw_iald (pc := 39) F dX9_missing_39 ex6 ?_
        refine pw_iconst (pc := 40) F 5 dX9_missing_40 (by decide) ?_
        refine pw_icmp_ne (pc := 41) F 47 dX9_missing_41 (by decide) (fun hc => ?_) (fun hc => ?_)
        · have h := iteT hc h
          refine pw_aload_n (pc := 47) F dX9_missing_47 rfl ?_
          obtain ⟨x7, ex7, h⟩ := bnd h
          refine pw_get (pc := 48) F 9 15 51 (by decide) (by decide) g_948f79b8fe inl_9 2 rfl dX9_missing_48 ex7 ?_
          refine pw_iload_n (pc := 51) F dX9_missing_51 rfl ?_
          refine pw_iload_n (pc := 52) F dX9_missing_52 rfl ?_
          refine pw_iload_n (pc := 53) F dX9_missing_53 rfl ?_
          refine pw_iconst (pc := 54) F 1 dX9_missing_54 (by decide) ?_
          refine pw_iadd (pc := 55) F dX9_missing_55 ?_
          obtain ⟨z8, ez8, h⟩ := bnd h
          refine pw_callS (pc := 56) (as := [vi a1, vi a2, vi (w32 (a3 + 1))]) (st := [vr x7]) (r := (some (vi z8.1))) F 150 (fun l => m_X9_place l a1 a2 (w32 (a3 + 1)) z2.2 z8.1 z8.2 ez8) g_ace1a9f84c g_ec0534314d g_2759d91faa g_205510d507 hd_X9_place (rm_ok hf hl (by decide) (by decide)) rfl dX9_missing_56 rfl (stk' := [vi z8.1, vr x7]) rfl ?_
          refine pw_lconst (pc := 59) F 0 dX9_missing_59 (by decide) ?_
          obtain ⟨H9, eH9, h⟩ := bnd h
          refine pw_last (pc := 60) F dX9_missing_60 eH9 ?_
          refine pw_aload_n (pc := 61) F dX9_missing_61 rfl ?_
          obtain ⟨x10, ex10, h⟩ := bnd h
          refine pw_get (pc := 62) F 9 16 54 (by decide) (by decide) g_fd9fcec31c inl_9 2 rfl dX9_missing_62 ex10 ?_
          refine pw_iload_n (pc := 65) F dX9_missing_65 rfl ?_
          refine pw_iload_n (pc := 66) F dX9_missing_66 rfl ?_
          refine pw_iload_n (pc := 67) F dX9_missing_67 rfl ?_
          refine pw_iconst (pc := 68) F 1 dX9_missing_68 (by decide) ?_
          refine pw_iadd (pc := 69) F dX9_missing_69 ?_
          obtain ⟨z11, ez11, h⟩ := bnd h
          refine pw_callS (pc := 70) (as := [vi a1, vi a2, vi (w32 (a3 + 1))]) (st := [vr x10]) (r := (some (vi z11.1))) F 150 (fun l => m_X9_place l a1 a2 (w32 (a3 + 1)) H9 z11.1 z11.2 ez11) g_ace1a9f84c g_ec0534314d g_2759d91faa g_205510d507 hd_X9_place (rm_ok hf hl (by decide) (by decide)) rfl dX9_missing_70 rfl (stk' := [vi z11.1, vr x10]) rfl ?_
          refine pw_iload (pc := 73) F dX9_missing_73 rfl ?_
          obtain ⟨H12, eH12, h⟩ := bnd h
          refine pw_iast (pc := 75) F dX9_missing_75 eH12 ?_
          refine pw_iconst (pc := 76) F 1 dX9_missing_76 (by decide) ?_
          cases h
          exact pw_iret (pc := 77) F q dX9_missing_77
        · have h := iteF hc h
          refine pw_bipush (pc := 44) F (-2) dX9_missing_44 (by decide) ?_
          cases h
          exact pw_iret (pc := 46) F q dX9_missing_46
    · have h := iteF hc h
      refine pw_iconst (pc := 23) F (-1) dX9_missing_23 (by decide) ?_
      cases h
      exact pw_iret (pc := 24) F q dX9_missing_24
/-! HouseholdVaultModel.told(IIJI)V -/
theorem dX9_told_0 : decode cX9_told 0 = .ok (.aload_n 0, 1) := by decide +kernel
theorem dX9_told_1 : decode cX9_told 1 = .ok (.getfield 115, 3) := by decide +kernel
theorem dX9_told_4 : decode cX9_told 4 = .ok (.bipush 6, 2) := by decide +kernel
theorem dX9_told_6 : decode cX9_told 6 = .ok (.iload_n 1, 1) := by decide +kernel
theorem dX9_told_7 : decode cX9_told 7 = .ok (.imul, 1) := by decide +kernel
theorem dX9_told_8 : decode cX9_told 8 = .ok (.iload_n 2, 1) := by decide +kernel
theorem dX9_told_9 : decode cX9_told 9 = .ok (.iadd, 1) := by decide +kernel
theorem dX9_told_10 : decode cX9_told 10 = .ok (.lload_n 3, 1) := by decide +kernel
theorem dX9_told_11 : decode cX9_told 11 = .ok (.lastore, 1) := by decide +kernel
theorem dX9_told_12 : decode cX9_told 12 = .ok (.aload_n 0, 1) := by decide +kernel
theorem dX9_told_13 : decode cX9_told 13 = .ok (.getfield 118, 3) := by decide +kernel
theorem dX9_told_16 : decode cX9_told 16 = .ok (.bipush 6, 2) := by decide +kernel
theorem dX9_told_18 : decode cX9_told 18 = .ok (.iload_n 1, 1) := by decide +kernel
theorem dX9_told_19 : decode cX9_told 19 = .ok (.imul, 1) := by decide +kernel
theorem dX9_told_20 : decode cX9_told 20 = .ok (.iload_n 2, 1) := by decide +kernel
theorem dX9_told_21 : decode cX9_told 21 = .ok (.iadd, 1) := by decide +kernel
theorem dX9_told_22 : decode cX9_told 22 = .ok (.iload 5, 2) := by decide +kernel
theorem dX9_told_24 : decode cX9_told 24 = .ok (.iastore, 1) := by decide +kernel
theorem dX9_told_25 : decode cX9_told 25 = .ok (.return_, 1) := by decide +kernel
def f_X9_told (a0 a1 a2 a3 a4 : Int) (H : PH) : RO := vm 9 a0 H <|
  (ld 25 H a0 43).bind fun x1 => (stv 1 H x1 (w32 ((w32 (6 * a1)) + a2)) a3).bind fun H2 => (ld 25 H2 a0 44).bind fun x3 => (stv 0 H2 x3 (w32 ((w32 (6 * a1)) + a2)) a4).bind fun H4 => some (0, H4)
set_option maxHeartbeats 4000000 in
theorem m_X9_told (l : Launch) (a0 a1 a2 a3 a4 : Int) (H : PH) (rr : Int) (HH : PH) (h : f_X9_told a0 a1 a2 a3 a4 H = some (rr, HH)) : CT l yX9_told cX9_told 6 none 0 0 [vr a0, vi a1, vi a2, vl a3, vi a4] H none HH := by
  refine CT.of RX9 (by decide) rfl [some (vr a0), some (vi a1), some (vi a2), some (vl a3), none, some (vi a4)] rfl rfl ?_
  intro E F q hn hf hl hm
  unfold f_X9_told at h
  obtain ⟨hv, h⟩ := vm_spec h
  refine pw_aload_n (pc := 0) F dX9_told_0 rfl ?_
  obtain ⟨x1, ex1, h⟩ := bnd h
  refine pw_get (pc := 1) F 9 43 115 (by decide) (by decide) g_e8763ca537 inl_9 2 rfl dX9_told_1 ex1 ?_
  refine pw_bipush (pc := 4) F 6 dX9_told_4 (by decide) ?_
  refine pw_iload_n (pc := 6) F dX9_told_6 rfl ?_
  refine pw_imul (pc := 7) F dX9_told_7 ?_
  refine pw_iload_n (pc := 8) F dX9_told_8 rfl ?_
  refine pw_iadd (pc := 9) F dX9_told_9 ?_
  refine pw_lload_n (pc := 10) F dX9_told_10 rfl ?_
  obtain ⟨H2, eH2, h⟩ := bnd h
  refine pw_last (pc := 11) F dX9_told_11 eH2 ?_
  refine pw_aload_n (pc := 12) F dX9_told_12 rfl ?_
  obtain ⟨x3, ex3, h⟩ := bnd h
  refine pw_get (pc := 13) F 9 44 118 (by decide) (by decide) g_5be5e353a9 inl_9 2 rfl dX9_told_13 ex3 ?_
  refine pw_bipush (pc := 16) F 6 dX9_told_16 (by decide) ?_
  refine pw_iload_n (pc := 18) F dX9_told_18 rfl ?_
  refine pw_imul (pc := 19) F dX9_told_19 ?_
  refine pw_iload_n (pc := 20) F dX9_told_20 rfl ?_
  refine pw_iadd (pc := 21) F dX9_told_21 ?_
  refine pw_iload (pc := 22) F dX9_told_22 rfl ?_
  obtain ⟨H4, eH4, h⟩ := bnd h
  refine pw_iast (pc := 24) F dX9_told_24 eH4 ?_
  cases h
  exact pw_vret (pc := 25) F q dX9_told_25
/-! HouseholdVaultModel.mapAt(II)V -/
theorem dX9_mapAt_0 : decode cX9_mapAt 0 = .ok (.bipush 6, 2) := by decide +kernel
theorem dX9_mapAt_2 : decode cX9_mapAt 2 = .ok (.aload_n 0, 1) := by decide +kernel
theorem dX9_mapAt_3 : decode cX9_mapAt 3 = .ok (.getfield 19, 3) := by decide +kernel
theorem dX9_mapAt_6 : decode cX9_mapAt 6 = .ok (.iload_n 1, 1) := by decide +kernel
theorem dX9_mapAt_7 : decode cX9_mapAt 7 = .ok (.iaload, 1) := by decide +kernel
theorem dX9_mapAt_8 : decode cX9_mapAt 8 = .ok (.imul, 1) := by decide +kernel
theorem dX9_mapAt_9 : decode cX9_mapAt 9 = .ok (.iload_n 2, 1) := by decide +kernel
theorem dX9_mapAt_10 : decode cX9_mapAt 10 = .ok (.iadd, 1) := by decide +kernel
theorem dX9_mapAt_11 : decode cX9_mapAt 11 = .ok (.istore_n 3, 1) := by decide +kernel
theorem dX9_mapAt_12 : decode cX9_mapAt 12 = .ok (.aload_n 0, 1) := by decide +kernel
theorem dX9_mapAt_13 : decode cX9_mapAt 13 = .ok (.getfield 118, 3) := by decide +kernel
theorem dX9_mapAt_16 : decode cX9_mapAt 16 = .ok (.iload_n 3, 1) := by decide +kernel
theorem dX9_mapAt_17 : decode cX9_mapAt 17 = .ok (.iaload, 1) := by decide +kernel
theorem dX9_mapAt_18 : decode cX9_mapAt 18 = .ok (.ifCond .le 17, 3) := by decide +kernel
theorem dX9_mapAt_21 : decode cX9_mapAt 21 = .ok (.aload_n 0, 1) := by decide +kernel
theorem dX9_mapAt_22 : decode cX9_mapAt 22 = .ok (.iload_n 1, 1) := by decide +kernel
theorem dX9_mapAt_23 : decode cX9_mapAt 23 = .ok (.iload_n 2, 1) := by decide +kernel
theorem dX9_mapAt_24 : decode cX9_mapAt 24 = .ok (.lconst 0, 1) := by decide +kernel
theorem dX9_mapAt_25 : decode cX9_mapAt 25 = .ok (.aload_n 0, 1) := by decide +kernel
theorem dX9_mapAt_26 : decode cX9_mapAt 26 = .ok (.getfield 118, 3) := by decide +kernel
theorem dX9_mapAt_29 : decode cX9_mapAt 29 = .ok (.iload_n 3, 1) := by decide +kernel
theorem dX9_mapAt_30 : decode cX9_mapAt 30 = .ok (.iaload, 1) := by decide +kernel
theorem dX9_mapAt_31 : decode cX9_mapAt 31 = .ok (.invokevirtual 208, 3) := by decide +kernel
theorem dX9_mapAt_34 : decode cX9_mapAt 34 = .ok (.return_, 1) := by decide +kernel
theorem dX9_mapAt_35 : decode cX9_mapAt 35 = .ok (.bipush 8, 2) := by decide +kernel
theorem dX9_mapAt_37 : decode cX9_mapAt 37 = .ok (.iload_n 1, 1) := by decide +kernel
theorem dX9_mapAt_38 : decode cX9_mapAt 38 = .ok (.imul, 1) := by decide +kernel
theorem dX9_mapAt_39 : decode cX9_mapAt 39 = .ok (.istore 4, 2) := by decide +kernel
theorem dX9_mapAt_41 : decode cX9_mapAt 41 = .ok (.iload 4, 2) := by decide +kernel
theorem dX9_mapAt_43 : decode cX9_mapAt 43 = .ok (.bipush 8, 2) := by decide +kernel
theorem dX9_mapAt_45 : decode cX9_mapAt 45 = .ok (.iload_n 1, 1) := by decide +kernel
theorem dX9_mapAt_46 : decode cX9_mapAt 46 = .ok (.imul, 1) := by decide +kernel
theorem dX9_mapAt_47 : decode cX9_mapAt 47 = .ok (.aload_n 0, 1) := by decide +kernel
theorem dX9_mapAt_48 : decode cX9_mapAt 48 = .ok (.getfield 48, 3) := by decide +kernel
theorem dX9_mapAt_51 : decode cX9_mapAt 51 = .ok (.iload_n 1, 1) := by decide +kernel
theorem dX9_mapAt_52 : decode cX9_mapAt 52 = .ok (.iaload, 1) := by decide +kernel
theorem dX9_mapAt_53 : decode cX9_mapAt 53 = .ok (.iadd, 1) := by decide +kernel
theorem dX9_mapAt_54 : decode cX9_mapAt 54 = .ok (.if_icmp .ge 51, 3) := by decide +kernel
theorem dX9_mapAt_57 : decode cX9_mapAt 57 = .ok (.aload_n 0, 1) := by decide +kernel
theorem dX9_mapAt_58 : decode cX9_mapAt 58 = .ok (.getfield 115, 3) := by decide +kernel
theorem dX9_mapAt_61 : decode cX9_mapAt 61 = .ok (.iload_n 3, 1) := by decide +kernel
theorem dX9_mapAt_62 : decode cX9_mapAt 62 = .ok (.laload, 1) := by decide +kernel
theorem dX9_mapAt_63 : decode cX9_mapAt 63 = .ok (.aload_n 0, 1) := by decide +kernel
theorem dX9_mapAt_64 : decode cX9_mapAt 64 = .ok (.getfield 38, 3) := by decide +kernel
theorem dX9_mapAt_67 : decode cX9_mapAt 67 = .ok (.iload 4, 2) := by decide +kernel
theorem dX9_mapAt_69 : decode cX9_mapAt 69 = .ok (.laload, 1) := by decide +kernel
theorem dX9_mapAt_70 : decode cX9_mapAt 70 = .ok (.aload_n 0, 1) := by decide +kernel
theorem dX9_mapAt_71 : decode cX9_mapAt 71 = .ok (.getfield 42, 3) := by decide +kernel
theorem dX9_mapAt_74 : decode cX9_mapAt 74 = .ok (.iload 4, 2) := by decide +kernel
theorem dX9_mapAt_76 : decode cX9_mapAt 76 = .ok (.laload, 1) := by decide +kernel
theorem dX9_mapAt_77 : decode cX9_mapAt 77 = .ok (.invokestatic 140, 3) := by decide +kernel
theorem dX9_mapAt_80 : decode cX9_mapAt 80 = .ok (.ifCond .eq 19, 3) := by decide +kernel
theorem dX9_mapAt_83 : decode cX9_mapAt 83 = .ok (.aload_n 0, 1) := by decide +kernel
theorem dX9_mapAt_84 : decode cX9_mapAt 84 = .ok (.iload_n 1, 1) := by decide +kernel
theorem dX9_mapAt_85 : decode cX9_mapAt 85 = .ok (.iload_n 2, 1) := by decide +kernel
theorem dX9_mapAt_86 : decode cX9_mapAt 86 = .ok (.aload_n 0, 1) := by decide +kernel
theorem dX9_mapAt_87 : decode cX9_mapAt 87 = .ok (.getfield 45, 3) := by decide +kernel
theorem dX9_mapAt_90 : decode cX9_mapAt 90 = .ok (.iload 4, 2) := by decide +kernel
theorem dX9_mapAt_92 : decode cX9_mapAt 92 = .ok (.iaload, 1) := by decide +kernel
theorem dX9_mapAt_93 : decode cX9_mapAt 93 = .ok (.i2l, 1) := by decide +kernel
theorem dX9_mapAt_94 : decode cX9_mapAt 94 = .ok (.iconst 0, 1) := by decide +kernel
theorem dX9_mapAt_95 : decode cX9_mapAt 95 = .ok (.invokevirtual 208, 3) := by decide +kernel
theorem dX9_mapAt_98 : decode cX9_mapAt 98 = .ok (.return_, 1) := by decide +kernel
theorem dX9_mapAt_99 : decode cX9_mapAt 99 = .ok (.iinc 4 1, 3) := by decide +kernel
theorem dX9_mapAt_102 : decode cX9_mapAt 102 = .ok (.goto (-61), 3) := by decide +kernel
theorem dX9_mapAt_105 : decode cX9_mapAt 105 = .ok (.aload_n 0, 1) := by decide +kernel
theorem dX9_mapAt_106 : decode cX9_mapAt 106 = .ok (.iload_n 1, 1) := by decide +kernel
theorem dX9_mapAt_107 : decode cX9_mapAt 107 = .ok (.iload_n 2, 1) := by decide +kernel
theorem dX9_mapAt_108 : decode cX9_mapAt 108 = .ok (.lconst 0, 1) := by decide +kernel
theorem dX9_mapAt_109 : decode cX9_mapAt 109 = .ok (.iconst 4, 1) := by decide +kernel
theorem dX9_mapAt_110 : decode cX9_mapAt 110 = .ok (.invokevirtual 208, 3) := by decide +kernel
theorem dX9_mapAt_113 : decode cX9_mapAt 113 = .ok (.return_, 1) := by decide +kernel
def lX9_mapAt_41 (p0 p1 p2 p3 : Int) (self41 : Int → PH → RO) (p4 : Int) (H : PH) : RO :=
  (ld 25 H p0 13).bind fun x1 => (ld 0 H x1 p1).bind fun x2 => (if p4 ≥ (w32 ((w32 (8 * p1)) + x2)) then (f_X9_told p0 p1 p2 0 4 H).bind fun z3 => some (0, z3.2)
  else (ld 25 H p0 43).bind fun x4 => (ld 1 H x4 p3).bind fun x5 => (ld 25 H p0 10).bind fun x6 => (ld 1 H x6 p4).bind fun x7 => (ld 25 H p0 11).bind fun x8 => (ld 1 H x8 p4).bind fun x9 => (f_X9_in x5 x7 x9 H).bind fun z10 => (if z10.1 = 0 then self41 (w32 (p4 + 1)) z10.2
  else (ld 25 z10.2 p0 12).bind fun x11 => (ld 0 z10.2 x11 p4).bind fun x12 => (f_X9_told p0 p1 p2 x12 0 z10.2).bind fun z13 => some (0, z13.2)))
set_option maxHeartbeats 4000000 in
theorem lX9_mapAt_41_ok {E : PE} {rr : Int} {HH : PH} (F : FX E cX9_mapAt RX9) (q : QE E none HH none) (hn : nLof E = 5) (hf : (roomOf E).frames = 1) (hl : (roomOf E).locals = 25) (p0 p1 p2 p3 : Int) : ∀ (n : Nat) (p4 : Int) (H : PH), lq1 (lX9_mapAt_41 p0 p1 p2 p3) n p4 H = some (rr, HH) → PW E 41 [some (vr p0), some (vi p1), some (vi p2), some (vi p3), some (vi p4)] [] H := by
  refine lq1_ind (P := fun p4 H => PW E 41 [some (vr p0), some (vi p1), some (vi p2), some (vi p3), some (vi p4)] [] H) ?_
  intro self41 ih41 p4 H h
  unfold lX9_mapAt_41 at h
  refine pw_iload (pc := 41) F dX9_mapAt_41 rfl ?_
  refine pw_bipush (pc := 43) F 8 dX9_mapAt_43 (by decide) ?_
  refine pw_iload_n (pc := 45) F dX9_mapAt_45 rfl ?_
  refine pw_imul (pc := 46) F dX9_mapAt_46 ?_
  refine pw_aload_n (pc := 47) F dX9_mapAt_47 rfl ?_
  obtain ⟨x1, ex1, h⟩ := bnd h
  refine pw_get (pc := 48) F 9 13 48 (by decide) (by decide) g_02ee53a81c inl_9 2 rfl dX9_mapAt_48 ex1 ?_
  refine pw_iload_n (pc := 51) F dX9_mapAt_51 rfl ?_
  obtain ⟨x2, ex2, h⟩ := bnd h
  refine pw_iald (pc := 52) F dX9_mapAt_52 ex2 ?_
  refine pw_iadd (pc := 53) F dX9_mapAt_53 ?_
  refine pw_icmp_ge (pc := 54) F 105 dX9_mapAt_54 (by decide) (fun hc => ?_) (fun hc => ?_)
  · have h := iteT hc h
    refine pw_aload_n (pc := 105) F dX9_mapAt_105 rfl ?_
    refine pw_iload_n (pc := 106) F dX9_mapAt_106 rfl ?_
    refine pw_iload_n (pc := 107) F dX9_mapAt_107 rfl ?_
    refine pw_lconst (pc := 108) F 0 dX9_mapAt_108 (by decide) ?_
    refine pw_iconst (pc := 109) F 4 dX9_mapAt_109 (by decide) ?_
    obtain ⟨z3, ez3, h⟩ := bnd h
    refine pw_callV (pc := 110) (as := [vi p1, vi p2, vl 0, vi 4]) (st := []) (r := none) F 208 9 (by decide) rfl (fun l => m_X9_told l p0 p1 p2 0 4 H z3.1 z3.2 ez3) g_b31a41e5be g_bf9f77486a g_02988af58e g_2759d91faa g_fd92aa9107 hd_X9_told (rm_ok hf hl (by decide) (by decide)) rfl (vm_spec ez3).1 dX9_mapAt_110 rfl (stk' := []) rfl ?_
    cases h
    exact pw_vret (pc := 113) F q dX9_mapAt_113
  · have h := iteF hc h
    refine pw_aload_n (pc := 57) F dX9_mapAt_57 rfl ?_
    obtain ⟨x4, ex4, h⟩ := bnd h
    refine pw_get (pc := 58) F 9 43 115 (by decide) (by decide) g_e8763ca537 inl_9 2 rfl dX9_mapAt_58 ex4 ?_
    refine pw_iload_n (pc := 61) F dX9_mapAt_61 rfl ?_
    obtain ⟨x5, ex5, h⟩ := bnd h
    refine pw_lald (pc := 62) F dX9_mapAt_62 ex5 ?_
    refine pw_aload_n (pc := 63) F dX9_mapAt_63 rfl ?_
    obtain ⟨x6, ex6, h⟩ := bnd h
    refine pw_get (pc := 64) F 9 10 38 (by decide) (by decide) g_19aee9d404 inl_9 2 rfl dX9_mapAt_64 ex6 ?_
    refine pw_iload (pc := 67) F dX9_mapAt_67 rfl ?_
    obtain ⟨x7, ex7, h⟩ := bnd h
    refine pw_lald (pc := 69) F dX9_mapAt_69 ex7 ?_
    refine pw_aload_n (pc := 70) F dX9_mapAt_70 rfl ?_
    obtain ⟨x8, ex8, h⟩ := bnd h
    refine pw_get (pc := 71) F 9 11 42 (by decide) (by decide) g_95eb8cebe6 inl_9 2 rfl dX9_mapAt_71 ex8 ?_
    refine pw_iload (pc := 74) F dX9_mapAt_74 rfl ?_
    obtain ⟨x9, ex9, h⟩ := bnd h
    refine pw_lald (pc := 76) F dX9_mapAt_76 ex9 ?_
    obtain ⟨z10, ez10, h⟩ := bnd h
    refine pw_callS (pc := 77) (as := [vl x5, vl x7, vl x9]) (st := []) (r := (some (vi z10.1))) F 140 (fun l => m_X9_in l x5 x7 x9 H z10.1 z10.2 ez10) g_0174c906e2 g_3fadeb3198 g_2759d91faa g_c0c30bc7de hd_X9_in (rm_ok hf hl (by decide) (by decide)) rfl dX9_mapAt_77 rfl (stk' := [vi z10.1]) rfl ?_
    refine pw_if_eq (pc := 80) F 99 dX9_mapAt_80 (by decide) (fun hc => ?_) (fun hc => ?_)
    · have h := iteT hc h
      refine pw_iinc (pc := 99) F dX9_mapAt_99 rfl (lt_nl hn (by decide)) [some (vr p0), some (vi p1), some (vi p2), some (vi p3), some (vi (w32 (p4 + 1)))] rfl (by decide) ?_
      refine pw_goto (pc := 102) F 41 dX9_mapAt_102 (by decide) ?_
      exact pw_mask [true, true, true, true, true] (ls' := [some (vr p0), some (vi p1), some (vi p2), some (vi p3), some (vi (w32 (p4 + 1)))]) rfl (ih41 (w32 (p4 + 1)) z10.2 h)
    · have h := iteF hc h
      refine pw_aload_n (pc := 83) F dX9_mapAt_83 rfl ?_
      refine pw_iload_n (pc := 84) F dX9_mapAt_84 rfl ?_
      refine pw_iload_n (pc := 85) F dX9_mapAt_85 rfl ?_
      refine pw_aload_n (pc := 86) F dX9_mapAt_86 rfl ?_
      obtain ⟨x11, ex11, h⟩ := bnd h
      refine pw_get (pc := 87) F 9 12 45 (by decide) (by decide) g_098a6cb5f4 inl_9 2 rfl dX9_mapAt_87 ex11 ?_
      refine pw_iload (pc := 90) F dX9_mapAt_90 rfl ?_
      obtain ⟨x12, ex12, h⟩ := bnd h
      refine pw_iald (pc := 92) F dX9_mapAt_92 ex12 ?_
      refine pw_i2l (pc := 93) F dX9_mapAt_93 ?_
      refine pw_iconst (pc := 94) F 0 dX9_mapAt_94 (by decide) ?_
      obtain ⟨z13, ez13, h⟩ := bnd h
      refine pw_callV (pc := 95) (as := [vi p1, vi p2, vl x12, vi 0]) (st := []) (r := none) F 208 9 (by decide) rfl (fun l => m_X9_told l p0 p1 p2 x12 0 z10.2 z13.1 z13.2 ez13) g_b31a41e5be g_bf9f77486a g_02988af58e g_2759d91faa g_fd92aa9107 hd_X9_told (rm_ok hf hl (by decide) (by decide)) rfl (vm_spec ez13).1 dX9_mapAt_95 rfl (stk' := []) rfl ?_
      cases h
      exact pw_vret (pc := 98) F q dX9_mapAt_98
def f_X9_mapAt (a0 a1 a2 : Int) (H : PH) : RO := vm 9 a0 H <|
  (ld 25 H a0 4).bind fun x1 => (ld 0 H x1 a1).bind fun x2 => (ld 25 H a0 44).bind fun x3 => (ld 0 H x3 (w32 ((w32 (6 * x2)) + a2))).bind fun x4 => (if x4 ≤ 0 then lq1 (lX9_mapAt_41 a0 a1 a2 (w32 ((w32 (6 * x2)) + a2))) 6000 (w32 (8 * a1)) H
  else (ld 25 H a0 44).bind fun x5 => (ld 0 H x5 (w32 ((w32 (6 * x2)) + a2))).bind fun x6 => (f_X9_told a0 a1 a2 0 x6 H).bind fun z7 => some (0, z7.2))
set_option maxHeartbeats 4000000 in
theorem m_X9_mapAt (l : Launch) (a0 a1 a2 : Int) (H : PH) (rr : Int) (HH : PH) (h : f_X9_mapAt a0 a1 a2 H = some (rr, HH)) : CT l yX9_mapAt cX9_mapAt 5 none 1 25 [vr a0, vi a1, vi a2] H none HH := by
  refine CT.of RX9 (by decide) rfl [some (vr a0), some (vi a1), some (vi a2), none, none] rfl rfl ?_
  intro E F q hn hf hl hm
  unfold f_X9_mapAt at h
  obtain ⟨hv, h⟩ := vm_spec h
  refine pw_bipush (pc := 0) F 6 dX9_mapAt_0 (by decide) ?_
  refine pw_aload_n (pc := 2) F dX9_mapAt_2 rfl ?_
  obtain ⟨x1, ex1, h⟩ := bnd h
  refine pw_get (pc := 3) F 9 4 19 (by decide) (by decide) g_1b40c2a4c8 inl_9 2 rfl dX9_mapAt_3 ex1 ?_
  refine pw_iload_n (pc := 6) F dX9_mapAt_6 rfl ?_
  obtain ⟨x2, ex2, h⟩ := bnd h
  refine pw_iald (pc := 7) F dX9_mapAt_7 ex2 ?_
  refine pw_imul (pc := 8) F dX9_mapAt_8 ?_
  refine pw_iload_n (pc := 9) F dX9_mapAt_9 rfl ?_
  refine pw_iadd (pc := 10) F dX9_mapAt_10 ?_
  refine pw_istore_n (pc := 11) F dX9_mapAt_11 (lt_nl hn (by decide)) [some (vr a0), some (vi a1), some (vi a2), some (vi (w32 ((w32 (6 * x2)) + a2))), none] rfl ?_
  refine pw_aload_n (pc := 12) F dX9_mapAt_12 rfl ?_
  obtain ⟨x3, ex3, h⟩ := bnd h
  refine pw_get (pc := 13) F 9 44 118 (by decide) (by decide) g_5be5e353a9 inl_9 2 rfl dX9_mapAt_13 ex3 ?_
  refine pw_iload_n (pc := 16) F dX9_mapAt_16 rfl ?_
  obtain ⟨x4, ex4, h⟩ := bnd h
  refine pw_iald (pc := 17) F dX9_mapAt_17 ex4 ?_
  refine pw_if_le (pc := 18) F 35 dX9_mapAt_18 (by decide) (fun hc => ?_) (fun hc => ?_)
  · have h := iteT hc h
    refine pw_bipush (pc := 35) F 8 dX9_mapAt_35 (by decide) ?_
    refine pw_iload_n (pc := 37) F dX9_mapAt_37 rfl ?_
    refine pw_imul (pc := 38) F dX9_mapAt_38 ?_
    refine pw_istore (pc := 39) F dX9_mapAt_39 (lt_nl hn (by decide)) [some (vr a0), some (vi a1), some (vi a2), some (vi (w32 ((w32 (6 * x2)) + a2))), some (vi (w32 (8 * a1)))] rfl ?_
    exact pw_mask [true, true, true, true, true] (ls' := [some (vr a0), some (vi a1), some (vi a2), some (vi (w32 ((w32 (6 * x2)) + a2))), some (vi (w32 (8 * a1)))]) rfl (lX9_mapAt_41_ok F q hn hf hl a0 a1 a2 (w32 ((w32 (6 * x2)) + a2))  6000 (w32 (8 * a1)) H h)
  · have h := iteF hc h
    refine pw_aload_n (pc := 21) F dX9_mapAt_21 rfl ?_
    refine pw_iload_n (pc := 22) F dX9_mapAt_22 rfl ?_
    refine pw_iload_n (pc := 23) F dX9_mapAt_23 rfl ?_
    refine pw_lconst (pc := 24) F 0 dX9_mapAt_24 (by decide) ?_
    refine pw_aload_n (pc := 25) F dX9_mapAt_25 rfl ?_
    obtain ⟨x5, ex5, h⟩ := bnd h
    refine pw_get (pc := 26) F 9 44 118 (by decide) (by decide) g_5be5e353a9 inl_9 2 rfl dX9_mapAt_26 ex5 ?_
    refine pw_iload_n (pc := 29) F dX9_mapAt_29 rfl ?_
    obtain ⟨x6, ex6, h⟩ := bnd h
    refine pw_iald (pc := 30) F dX9_mapAt_30 ex6 ?_
    obtain ⟨z7, ez7, h⟩ := bnd h
    refine pw_callV (pc := 31) (as := [vi a1, vi a2, vl 0, vi x6]) (st := []) (r := none) F 208 9 (by decide) rfl (fun l => m_X9_told l a0 a1 a2 0 x6 H z7.1 z7.2 ez7) g_b31a41e5be g_bf9f77486a g_02988af58e g_2759d91faa g_fd92aa9107 hd_X9_told (rm_ok hf hl (by decide) (by decide)) rfl (vm_spec ez7).1 dX9_mapAt_31 rfl (stk' := []) rfl ?_
    cases h
    exact pw_vret (pc := 34) F q dX9_mapAt_34
