/-! HouseholdVault$Condition.<init>(IIIJIII)V -/
theorem dX0_init_0 : decode cX0_init 0 = .ok (.aload_n 0, 1) := by decide +kernel
theorem dX0_init_1 : decode cX0_init 1 = .ok (.invokespecial 3, 3) := by decide +kernel
theorem dX0_init_4 : decode cX0_init 4 = .ok (.aload_n 0, 1) := by decide +kernel
theorem dX0_init_5 : decode cX0_init 5 = .ok (.iload_n 1, 1) := by decide +kernel
theorem dX0_init_6 : decode cX0_init 6 = .ok (.putfield 9, 3) := by decide +kernel
theorem dX0_init_9 : decode cX0_init 9 = .ok (.aload_n 0, 1) := by decide +kernel
theorem dX0_init_10 : decode cX0_init 10 = .ok (.iload_n 2, 1) := by decide +kernel
theorem dX0_init_11 : decode cX0_init 11 = .ok (.putfield 15, 3) := by decide +kernel
theorem dX0_init_14 : decode cX0_init 14 = .ok (.aload_n 0, 1) := by decide +kernel
theorem dX0_init_15 : decode cX0_init 15 = .ok (.iload_n 3, 1) := by decide +kernel
theorem dX0_init_16 : decode cX0_init 16 = .ok (.putfield 18, 3) := by decide +kernel
theorem dX0_init_19 : decode cX0_init 19 = .ok (.aload_n 0, 1) := by decide +kernel
theorem dX0_init_20 : decode cX0_init 20 = .ok (.lload 4, 2) := by decide +kernel
theorem dX0_init_22 : decode cX0_init 22 = .ok (.putfield 21, 3) := by decide +kernel
theorem dX0_init_25 : decode cX0_init 25 = .ok (.aload_n 0, 1) := by decide +kernel
theorem dX0_init_26 : decode cX0_init 26 = .ok (.iload 6, 2) := by decide +kernel
theorem dX0_init_28 : decode cX0_init 28 = .ok (.putfield 25, 3) := by decide +kernel
theorem dX0_init_31 : decode cX0_init 31 = .ok (.aload_n 0, 1) := by decide +kernel
theorem dX0_init_32 : decode cX0_init 32 = .ok (.iload 7, 2) := by decide +kernel
theorem dX0_init_34 : decode cX0_init 34 = .ok (.putfield 28, 3) := by decide +kernel
theorem dX0_init_37 : decode cX0_init 37 = .ok (.aload_n 0, 1) := by decide +kernel
theorem dX0_init_38 : decode cX0_init 38 = .ok (.iload 8, 2) := by decide +kernel
theorem dX0_init_40 : decode cX0_init 40 = .ok (.putfield 31, 3) := by decide +kernel
theorem dX0_init_43 : decode cX0_init 43 = .ok (.return_, 1) := by decide +kernel
def f_X0_init (a0 a1 a2 a3 a4 a5 a6 a7 : Int) (H : PH) : RO := vm 0 a0 H <|
  (stv 16 H a0 0 a1).bind fun H1 => (stv 16 H1 a0 1 a2).bind fun H2 => (stv 16 H2 a0 2 a3).bind fun H3 => (stv 16 H3 a0 3 a4).bind fun H4 => (stv 16 H4 a0 4 a5).bind fun H5 => (stv 16 H5 a0 5 a6).bind fun H6 => (stv 16 H6 a0 6 a7).bind fun H7 => some (0, H7)
set_option maxHeartbeats 4000000 in
theorem m_X0_init (l : Launch) (a0 a1 a2 a3 a4 a5 a6 a7 : Int) (H : PH) (rr : Int) (HH : PH) (h : f_X0_init a0 a1 a2 a3 a4 a5 a6 a7 H = some (rr, HH)) : CT l yX0_init cX0_init 9 none 1 12 [vr a0, vi a1, vi a2, vi a3, vl a4, vi a5, vi a6, vi a7] H none HH := by
  refine CT.of RX0 (by decide) rfl [some (vr a0), some (vi a1), some (vi a2), some (vi a3), some (vl a4), none, some (vi a5), some (vi a6), some (vi a7)] rfl rfl ?_
  intro E F q hn hf hl hm
  unfold f_X0_init at h
  obtain ⟨hv, h⟩ := vm_spec h
  refine pw_aload_n (pc := 0) F dX0_init_0 rfl ?_
  refine pw_objInit (pc := 1) F 3 g_49384ec3ea g_93fb852fc9 g_ecc6a87410 (rm_ok hf hl (by decide) (by decide)) dX0_init_1 (vm_nn hv) ?_
  refine pw_aload_n (pc := 4) F dX0_init_4 rfl ?_
  refine pw_iload_n (pc := 5) F dX0_init_5 rfl ?_
  obtain ⟨H1, eH1, h⟩ := bnd h
  refine pw_putF (pc := 6) F 0 0 9 (by decide) (by decide) g_15d2394a48 inl_0 rfl hm rfl 0 rfl dX0_init_6 trivial eH1 ?_
  refine pw_aload_n (pc := 9) F dX0_init_9 rfl ?_
  refine pw_iload_n (pc := 10) F dX0_init_10 rfl ?_
  obtain ⟨H2, eH2, h⟩ := bnd h
  refine pw_putF (pc := 11) F 0 1 15 (by decide) (by decide) g_32eebd6c40 inl_0 rfl hm rfl 0 rfl dX0_init_11 trivial eH2 ?_
  refine pw_aload_n (pc := 14) F dX0_init_14 rfl ?_
  refine pw_iload_n (pc := 15) F dX0_init_15 rfl ?_
  obtain ⟨H3, eH3, h⟩ := bnd h
  refine pw_putF (pc := 16) F 0 2 18 (by decide) (by decide) g_0f05ebc43b inl_0 rfl hm rfl 0 rfl dX0_init_16 trivial eH3 ?_
  refine pw_aload_n (pc := 19) F dX0_init_19 rfl ?_
  refine pw_lload (pc := 20) F dX0_init_20 rfl ?_
  obtain ⟨H4, eH4, h⟩ := bnd h
  refine pw_putF (pc := 22) F 0 3 21 (by decide) (by decide) g_395243d74a inl_0 rfl hm rfl 1 rfl dX0_init_22 trivial eH4 ?_
  refine pw_aload_n (pc := 25) F dX0_init_25 rfl ?_
  refine pw_iload (pc := 26) F dX0_init_26 rfl ?_
  obtain ⟨H5, eH5, h⟩ := bnd h
  refine pw_putF (pc := 28) F 0 4 25 (by decide) (by decide) g_a98ea0f791 inl_0 rfl hm rfl 0 rfl dX0_init_28 trivial eH5 ?_
  refine pw_aload_n (pc := 31) F dX0_init_31 rfl ?_
  refine pw_iload (pc := 32) F dX0_init_32 rfl ?_
  obtain ⟨H6, eH6, h⟩ := bnd h
  refine pw_putF (pc := 34) F 0 5 28 (by decide) (by decide) g_a2b773c274 inl_0 rfl hm rfl 0 rfl dX0_init_34 trivial eH6 ?_
  refine pw_aload_n (pc := 37) F dX0_init_37 rfl ?_
  refine pw_iload (pc := 38) F dX0_init_38 rfl ?_
  obtain ⟨H7, eH7, h⟩ := bnd h
  refine pw_putF (pc := 40) F 0 6 31 (by decide) (by decide) g_8824e19cf3 inl_0 rfl hm rfl 0 rfl dX0_init_40 trivial eH7 ?_
  cases h
  exact pw_vret (pc := 43) F q dX0_init_43
/-! HouseholdVault$Condition.fits(JIZ)Z -/
theorem dX0_fits_0 : decode cX0_fits 0 = .ok (.aload_n 0, 1) := by decide +kernel
theorem dX0_fits_1 : decode cX0_fits 1 = .ok (.getfield 9, 3) := by decide +kernel
theorem dX0_fits_4 : decode cX0_fits 4 = .ok (.iconst 3, 1) := by decide +kernel
theorem dX0_fits_5 : decode cX0_fits 5 = .ok (.if_icmp .ne 13, 3) := by decide +kernel
theorem dX0_fits_8 : decode cX0_fits 8 = .ok (.iload_n 3, 1) := by decide +kernel
theorem dX0_fits_9 : decode cX0_fits 9 = .ok (.ifCond .eq 7, 3) := by decide +kernel
theorem dX0_fits_12 : decode cX0_fits 12 = .ok (.iconst 1, 1) := by decide +kernel
theorem dX0_fits_13 : decode cX0_fits 13 = .ok (.goto 4, 3) := by decide +kernel
theorem dX0_fits_16 : decode cX0_fits 16 = .ok (.iconst 0, 1) := by decide +kernel
theorem dX0_fits_17 : decode cX0_fits 17 = .ok (.ireturn, 1) := by decide +kernel
theorem dX0_fits_18 : decode cX0_fits 18 = .ok (.iload_n 3, 1) := by decide +kernel
theorem dX0_fits_19 : decode cX0_fits 19 = .ok (.ifCond .eq 5, 3) := by decide +kernel
theorem dX0_fits_22 : decode cX0_fits 22 = .ok (.iconst 0, 1) := by decide +kernel
theorem dX0_fits_23 : decode cX0_fits 23 = .ok (.ireturn, 1) := by decide +kernel
theorem dX0_fits_24 : decode cX0_fits 24 = .ok (.aload_n 0, 1) := by decide +kernel
theorem dX0_fits_25 : decode cX0_fits 25 = .ok (.getfield 9, 3) := by decide +kernel
theorem dX0_fits_28 : decode cX0_fits 28 = .ok (.iconst 1, 1) := by decide +kernel
theorem dX0_fits_29 : decode cX0_fits 29 = .ok (.if_icmp .ne 18, 3) := by decide +kernel
theorem dX0_fits_32 : decode cX0_fits 32 = .ok (.lload_n 1, 1) := by decide +kernel
theorem dX0_fits_33 : decode cX0_fits 33 = .ok (.aload_n 0, 1) := by decide +kernel
theorem dX0_fits_34 : decode cX0_fits 34 = .ok (.getfield 21, 3) := by decide +kernel
theorem dX0_fits_37 : decode cX0_fits 37 = .ok (.lcmp, 1) := by decide +kernel
theorem dX0_fits_38 : decode cX0_fits 38 = .ok (.ifCond .ge 7, 3) := by decide +kernel
theorem dX0_fits_41 : decode cX0_fits 41 = .ok (.iconst 1, 1) := by decide +kernel
theorem dX0_fits_42 : decode cX0_fits 42 = .ok (.goto 4, 3) := by decide +kernel
theorem dX0_fits_45 : decode cX0_fits 45 = .ok (.iconst 0, 1) := by decide +kernel
theorem dX0_fits_46 : decode cX0_fits 46 = .ok (.ireturn, 1) := by decide +kernel
theorem dX0_fits_47 : decode cX0_fits 47 = .ok (.aload_n 0, 1) := by decide +kernel
theorem dX0_fits_48 : decode cX0_fits 48 = .ok (.getfield 9, 3) := by decide +kernel
theorem dX0_fits_51 : decode cX0_fits 51 = .ok (.iconst 2, 1) := by decide +kernel
theorem dX0_fits_52 : decode cX0_fits 52 = .ok (.if_icmp .ne 18, 3) := by decide +kernel
theorem dX0_fits_55 : decode cX0_fits 55 = .ok (.lload_n 1, 1) := by decide +kernel
theorem dX0_fits_56 : decode cX0_fits 56 = .ok (.aload_n 0, 1) := by decide +kernel
theorem dX0_fits_57 : decode cX0_fits 57 = .ok (.getfield 21, 3) := by decide +kernel
theorem dX0_fits_60 : decode cX0_fits 60 = .ok (.lcmp, 1) := by decide +kernel
theorem dX0_fits_61 : decode cX0_fits 61 = .ok (.ifCond .le 7, 3) := by decide +kernel
theorem dX0_fits_64 : decode cX0_fits 64 = .ok (.iconst 1, 1) := by decide +kernel
theorem dX0_fits_65 : decode cX0_fits 65 = .ok (.goto 4, 3) := by decide +kernel
theorem dX0_fits_68 : decode cX0_fits 68 = .ok (.iconst 0, 1) := by decide +kernel
theorem dX0_fits_69 : decode cX0_fits 69 = .ok (.ireturn, 1) := by decide +kernel
theorem dX0_fits_70 : decode cX0_fits 70 = .ok (.iload 4, 2) := by decide +kernel
theorem dX0_fits_72 : decode cX0_fits 72 = .ok (.ifCond .eq 25, 3) := by decide +kernel
theorem dX0_fits_75 : decode cX0_fits 75 = .ok (.lload_n 1, 1) := by decide +kernel
theorem dX0_fits_76 : decode cX0_fits 76 = .ok (.aload_n 0, 1) := by decide +kernel
theorem dX0_fits_77 : decode cX0_fits 77 = .ok (.getfield 21, 3) := by decide +kernel
theorem dX0_fits_80 : decode cX0_fits 80 = .ok (.l2i, 1) := by decide +kernel
theorem dX0_fits_81 : decode cX0_fits 81 = .ok (.lshr, 1) := by decide +kernel
theorem dX0_fits_82 : decode cX0_fits 82 = .ok (.lconst 1, 1) := by decide +kernel
theorem dX0_fits_83 : decode cX0_fits 83 = .ok (.land, 1) := by decide +kernel
theorem dX0_fits_84 : decode cX0_fits 84 = .ok (.lconst 0, 1) := by decide +kernel
theorem dX0_fits_85 : decode cX0_fits 85 = .ok (.lcmp, 1) := by decide +kernel
theorem dX0_fits_86 : decode cX0_fits 86 = .ok (.ifCond .eq 7, 3) := by decide +kernel
theorem dX0_fits_89 : decode cX0_fits 89 = .ok (.iconst 1, 1) := by decide +kernel
theorem dX0_fits_90 : decode cX0_fits 90 = .ok (.goto 21, 3) := by decide +kernel
theorem dX0_fits_93 : decode cX0_fits 93 = .ok (.iconst 0, 1) := by decide +kernel
theorem dX0_fits_94 : decode cX0_fits 94 = .ok (.goto 17, 3) := by decide +kernel
theorem dX0_fits_97 : decode cX0_fits 97 = .ok (.lload_n 1, 1) := by decide +kernel
theorem dX0_fits_98 : decode cX0_fits 98 = .ok (.aload_n 0, 1) := by decide +kernel
theorem dX0_fits_99 : decode cX0_fits 99 = .ok (.getfield 21, 3) := by decide +kernel
theorem dX0_fits_102 : decode cX0_fits 102 = .ok (.lcmp, 1) := by decide +kernel
theorem dX0_fits_103 : decode cX0_fits 103 = .ok (.ifCond .ne 7, 3) := by decide +kernel
theorem dX0_fits_106 : decode cX0_fits 106 = .ok (.iconst 1, 1) := by decide +kernel
theorem dX0_fits_107 : decode cX0_fits 107 = .ok (.goto 4, 3) := by decide +kernel
theorem dX0_fits_110 : decode cX0_fits 110 = .ok (.iconst 0, 1) := by decide +kernel
theorem dX0_fits_111 : decode cX0_fits 111 = .ok (.ireturn, 1) := by decide +kernel
def f_X0_fits (a0 a1 a2 a3 : Int) (H : PH) : RO := vm 0 a0 H <|
  (ld 16 H a0 0).bind fun x1 => (if x1 ≠ 3 then (if a2 = 0 then (ld 16 H a0 0).bind fun x2 => (if x2 ≠ 1 then (ld 16 H a0 0).bind fun x3 => (if x3 ≠ 2 then (if a3 = 0 then (ld 16 H a0 3).bind fun x4 => (if (lc a1 x4) ≠ 0 then some (0, H)
  else some (1, H))
  else (ld 16 H a0 3).bind fun x5 => (if (lc (l_and (l_shr a1 (w32 x5)) 1) 0) = 0 then some (0, H)
  else some (1, H)))
  else (ld 16 H a0 3).bind fun x6 => (if (lc a1 x6) ≤ 0 then some (0, H)
  else some (1, H)))
  else (ld 16 H a0 3).bind fun x7 => (if (lc a1 x7) ≥ 0 then some (0, H)
  else some (1, H)))
  else some (0, H))
  else (if a2 = 0 then some (0, H)
  else some (1, H)))
set_option maxHeartbeats 4000000 in
theorem m_X0_fits (l : Launch) (a0 a1 a2 a3 : Int) (H : PH) (rr : Int) (HH : PH) (h : f_X0_fits a0 a1 a2 a3 H = some (rr, HH)) : CT l yX0_fits cX0_fits 5 (some .boolean) 0 0 [vr a0, vl a1, vi a2, vi a3] H (some (vi rr)) HH := by
  refine CT.of RX0 (by decide) rfl [some (vr a0), some (vl a1), none, some (vi a2), some (vi a3)] rfl rfl ?_
  intro E F q hn hf hl hm
  unfold f_X0_fits at h
  obtain ⟨hv, h⟩ := vm_spec h
  refine pw_aload_n (pc := 0) F dX0_fits_0 rfl ?_
  obtain ⟨x1, ex1, h⟩ := bnd h
  refine pw_get (pc := 1) F 0 0 9 (by decide) (by decide) g_15d2394a48 inl_0 0 rfl dX0_fits_1 ex1 ?_
  refine pw_iconst (pc := 4) F 3 dX0_fits_4 (by decide) ?_
  refine pw_icmp_ne (pc := 5) F 18 dX0_fits_5 (by decide) (fun hc => ?_) (fun hc => ?_)
  · have h := iteT hc h
    refine pw_iload_n (pc := 18) F dX0_fits_18 rfl ?_
    refine pw_if_eq (pc := 19) F 24 dX0_fits_19 (by decide) (fun hc => ?_) (fun hc => ?_)
    · have h := iteT hc h
      refine pw_aload_n (pc := 24) F dX0_fits_24 rfl ?_
      obtain ⟨x2, ex2, h⟩ := bnd h
      refine pw_get (pc := 25) F 0 0 9 (by decide) (by decide) g_15d2394a48 inl_0 0 rfl dX0_fits_25 ex2 ?_
      refine pw_iconst (pc := 28) F 1 dX0_fits_28 (by decide) ?_
      refine pw_icmp_ne (pc := 29) F 47 dX0_fits_29 (by decide) (fun hc => ?_) (fun hc => ?_)
      · have h := iteT hc h
        refine pw_aload_n (pc := 47) F dX0_fits_47 rfl ?_
        obtain ⟨x3, ex3, h⟩ := bnd h
        refine pw_get (pc := 48) F 0 0 9 (by decide) (by decide) g_15d2394a48 inl_0 0 rfl dX0_fits_48 ex3 ?_
        refine pw_iconst (pc := 51) F 2 dX0_fits_51 (by decide) ?_
        refine pw_icmp_ne (pc := 52) F 70 dX0_fits_52 (by decide) (fun hc => ?_) (fun hc => ?_)
        · have h := iteT hc h
          refine pw_iload (pc := 70) F dX0_fits_70 rfl ?_
          refine pw_if_eq (pc := 72) F 97 dX0_fits_72 (by decide) (fun hc => ?_) (fun hc => ?_)
          · have h := iteT hc h
            refine pw_lload_n (pc := 97) F dX0_fits_97 rfl ?_
            refine pw_aload_n (pc := 98) F dX0_fits_98 rfl ?_
            obtain ⟨x4, ex4, h⟩ := bnd h
            refine pw_get (pc := 99) F 0 3 21 (by decide) (by decide) g_395243d74a inl_0 1 rfl dX0_fits_99 ex4 ?_
            refine pw_lcmp (pc := 102) F dX0_fits_102 ?_
            refine pw_if_ne (pc := 103) F 110 dX0_fits_103 (by decide) (fun hc => ?_) (fun hc => ?_)
            · have h := iteT hc h
              refine pw_iconst (pc := 110) F 0 dX0_fits_110 (by decide) ?_
              cases h
              exact pw_zret (pc := 111) F q (by decide) dX0_fits_111
            · have h := iteF hc h
              refine pw_iconst (pc := 106) F 1 dX0_fits_106 (by decide) ?_
              refine pw_goto (pc := 107) F 111 dX0_fits_107 (by decide) ?_
              cases h
              exact pw_zret (pc := 111) F q (by decide) dX0_fits_111
          · have h := iteF hc h
            refine pw_lload_n (pc := 75) F dX0_fits_75 rfl ?_
            refine pw_aload_n (pc := 76) F dX0_fits_76 rfl ?_
            obtain ⟨x5, ex5, h⟩ := bnd h
            refine pw_get (pc := 77) F 0 3 21 (by decide) (by decide) g_395243d74a inl_0 1 rfl dX0_fits_77 ex5 ?_
            refine pw_l2i (pc := 80) F dX0_fits_80 ?_
            refine pw_lshr (pc := 81) F dX0_fits_81 ?_
            refine pw_lconst (pc := 82) F 1 dX0_fits_82 (by decide) ?_
            refine pw_land (pc := 83) F dX0_fits_83 ?_
            refine pw_lconst (pc := 84) F 0 dX0_fits_84 (by decide) ?_
            refine pw_lcmp (pc := 85) F dX0_fits_85 ?_
            refine pw_if_eq (pc := 86) F 93 dX0_fits_86 (by decide) (fun hc => ?_) (fun hc => ?_)
            · have h := iteT hc h
              refine pw_iconst (pc := 93) F 0 dX0_fits_93 (by decide) ?_
              refine pw_goto (pc := 94) F 111 dX0_fits_94 (by decide) ?_
              cases h
              exact pw_zret (pc := 111) F q (by decide) dX0_fits_111
            · have h := iteF hc h
              refine pw_iconst (pc := 89) F 1 dX0_fits_89 (by decide) ?_
              refine pw_goto (pc := 90) F 111 dX0_fits_90 (by decide) ?_
              cases h
              exact pw_zret (pc := 111) F q (by decide) dX0_fits_111
        · have h := iteF hc h
          refine pw_lload_n (pc := 55) F dX0_fits_55 rfl ?_
          refine pw_aload_n (pc := 56) F dX0_fits_56 rfl ?_
          obtain ⟨x6, ex6, h⟩ := bnd h
          refine pw_get (pc := 57) F 0 3 21 (by decide) (by decide) g_395243d74a inl_0 1 rfl dX0_fits_57 ex6 ?_
          refine pw_lcmp (pc := 60) F dX0_fits_60 ?_
          refine pw_if_le (pc := 61) F 68 dX0_fits_61 (by decide) (fun hc => ?_) (fun hc => ?_)
          · have h := iteT hc h
            refine pw_iconst (pc := 68) F 0 dX0_fits_68 (by decide) ?_
            cases h
            exact pw_zret (pc := 69) F q (by decide) dX0_fits_69
          · have h := iteF hc h
            refine pw_iconst (pc := 64) F 1 dX0_fits_64 (by decide) ?_
            refine pw_goto (pc := 65) F 69 dX0_fits_65 (by decide) ?_
            cases h
            exact pw_zret (pc := 69) F q (by decide) dX0_fits_69
      · have h := iteF hc h
        refine pw_lload_n (pc := 32) F dX0_fits_32 rfl ?_
        refine pw_aload_n (pc := 33) F dX0_fits_33 rfl ?_
        obtain ⟨x7, ex7, h⟩ := bnd h
        refine pw_get (pc := 34) F 0 3 21 (by decide) (by decide) g_395243d74a inl_0 1 rfl dX0_fits_34 ex7 ?_
        refine pw_lcmp (pc := 37) F dX0_fits_37 ?_
        refine pw_if_ge (pc := 38) F 45 dX0_fits_38 (by decide) (fun hc => ?_) (fun hc => ?_)
        · have h := iteT hc h
          refine pw_iconst (pc := 45) F 0 dX0_fits_45 (by decide) ?_
          cases h
          exact pw_zret (pc := 46) F q (by decide) dX0_fits_46
        · have h := iteF hc h
          refine pw_iconst (pc := 41) F 1 dX0_fits_41 (by decide) ?_
          refine pw_goto (pc := 42) F 46 dX0_fits_42 (by decide) ?_
          cases h
          exact pw_zret (pc := 46) F q (by decide) dX0_fits_46
    · have h := iteF hc h
      refine pw_iconst (pc := 22) F 0 dX0_fits_22 (by decide) ?_
      cases h
      exact pw_zret (pc := 23) F q (by decide) dX0_fits_23
  · have h := iteF hc h
    refine pw_iload_n (pc := 8) F dX0_fits_8 rfl ?_
    refine pw_if_eq (pc := 9) F 16 dX0_fits_9 (by decide) (fun hc => ?_) (fun hc => ?_)
    · have h := iteT hc h
      refine pw_iconst (pc := 16) F 0 dX0_fits_16 (by decide) ?_
      cases h
      exact pw_zret (pc := 17) F q (by decide) dX0_fits_17
    · have h := iteF hc h
      refine pw_iconst (pc := 12) F 1 dX0_fits_12 (by decide) ?_
      refine pw_goto (pc := 13) F 17 dX0_fits_13 (by decide) ?_
      cases h
      exact pw_zret (pc := 17) F q (by decide) dX0_fits_17
/-! HouseholdVault$Edition.<init>([LHouseholdVault$Sheet;I)V -/
theorem dX1_init_0 : decode cX1_init 0 = .ok (.aload_n 0, 1) := by decide +kernel
theorem dX1_init_1 : decode cX1_init 1 = .ok (.invokespecial 1, 3) := by decide +kernel
theorem dX1_init_4 : decode cX1_init 4 = .ok (.aload_n 0, 1) := by decide +kernel
theorem dX1_init_5 : decode cX1_init 5 = .ok (.aload_n 1, 1) := by decide +kernel
theorem dX1_init_6 : decode cX1_init 6 = .ok (.putfield 7, 3) := by decide +kernel
theorem dX1_init_9 : decode cX1_init 9 = .ok (.aload_n 0, 1) := by decide +kernel
theorem dX1_init_10 : decode cX1_init 10 = .ok (.iload_n 2, 1) := by decide +kernel
theorem dX1_init_11 : decode cX1_init 11 = .ok (.putfield 13, 3) := by decide +kernel
theorem dX1_init_14 : decode cX1_init 14 = .ok (.return_, 1) := by decide +kernel
def f_X1_init (a0 a1 a2 : Int) (H : PH) : RO := vm 1 a0 H <|
  (stv 17 H a0 0 a1).bind fun H1 => (stv 17 H1 a0 1 a2).bind fun H2 => some (0, H2)
set_option maxHeartbeats 4000000 in
theorem m_X1_init (l : Launch) (a0 a1 a2 : Int) (H : PH) (rr : Int) (HH : PH) (h : f_X1_init a0 a1 a2 H = some (rr, HH)) : CT l yX1_init cX1_init 3 none 1 12 [vr a0, vr a1, vi a2] H none HH := by
  refine CT.of RX1 (by decide) rfl [some (vr a0), some (vr a1), some (vi a2)] rfl rfl ?_
  intro E F q hn hf hl hm
  unfold f_X1_init at h
  obtain ⟨hv, h⟩ := vm_spec h
  refine pw_aload_n (pc := 0) F dX1_init_0 rfl ?_
  refine pw_objInit (pc := 1) F 1 g_e1958c4875 g_93fb852fc9 g_ecc6a87410 (rm_ok hf hl (by decide) (by decide)) dX1_init_1 (vm_nn hv) ?_
  refine pw_aload_n (pc := 4) F dX1_init_4 rfl ?_
  refine pw_aload_n (pc := 5) F dX1_init_5 rfl ?_
  obtain ⟨H1, eH1, h⟩ := bnd h
  refine pw_putF (pc := 6) F 1 0 7 (by decide) (by decide) g_13ec0457a5 inl_1 rfl hm rfl 2 rfl dX1_init_6 trivial eH1 ?_
  refine pw_aload_n (pc := 9) F dX1_init_9 rfl ?_
  refine pw_iload_n (pc := 10) F dX1_init_10 rfl ?_
  obtain ⟨H2, eH2, h⟩ := bnd h
  refine pw_putF (pc := 11) F 1 1 13 (by decide) (by decide) g_00b5adc1fb inl_1 rfl hm rfl 0 rfl dX1_init_11 trivial eH2 ?_
  cases h
  exact pw_vret (pc := 14) F q dX1_init_14
/-! HouseholdVault$Finder.<init>()V -/
theorem dX2_init_0 : decode cX2_init 0 = .ok (.aload_n 0, 1) := by decide +kernel
theorem dX2_init_1 : decode cX2_init 1 = .ok (.invokespecial 1, 3) := by decide +kernel
theorem dX2_init_4 : decode cX2_init 4 = .ok (.return_, 1) := by decide +kernel
def f_X2_init (a0 : Int) (H : PH) : RO := vm 2 a0 H <|
  some (0, H)
set_option maxHeartbeats 4000000 in
theorem m_X2_init (l : Launch) (a0 : Int) (H : PH) (rr : Int) (HH : PH) (h : f_X2_init a0 H = some (rr, HH)) : CT l yX2_init cX2_init 1 none 1 12 [vr a0] H none HH := by
  refine CT.of RX2 (by decide) rfl [some (vr a0)] rfl rfl ?_
  intro E F q hn hf hl hm
  unfold f_X2_init at h
  obtain ⟨hv, h⟩ := vm_spec h
  refine pw_aload_n (pc := 0) F dX2_init_0 rfl ?_
  refine pw_objInit (pc := 1) F 1 g_098869d33c g_93fb852fc9 g_ecc6a87410 (rm_ok hf hl (by decide) (by decide)) dX2_init_1 (vm_nn hv) ?_
  cases h
  exact pw_vret (pc := 4) F q dX2_init_4
/-! HouseholdVault$Finder.start(I)V -/
theorem dX2_start_0 : decode cX2_start 0 = .ok (.aload_n 0, 1) := by decide +kernel
theorem dX2_start_1 : decode cX2_start 1 = .ok (.iload_n 1, 1) := by decide +kernel
theorem dX2_start_2 : decode cX2_start 2 = .ok (.putfield 7, 3) := by decide +kernel
theorem dX2_start_5 : decode cX2_start 5 = .ok (.aload_n 0, 1) := by decide +kernel
theorem dX2_start_6 : decode cX2_start 6 = .ok (.iconst 0, 1) := by decide +kernel
theorem dX2_start_7 : decode cX2_start 7 = .ok (.putfield 13, 3) := by decide +kernel
theorem dX2_start_10 : decode cX2_start 10 = .ok (.return_, 1) := by decide +kernel
def f_X2_start (a0 a1 : Int) (H : PH) : RO := vm 2 a0 H <|
  (stv 18 H a0 0 a1).bind fun H1 => (stv 18 H1 a0 1 0).bind fun H2 => some (0, H2)
set_option maxHeartbeats 4000000 in
theorem m_X2_start (l : Launch) (a0 a1 : Int) (H : PH) (rr : Int) (HH : PH) (h : f_X2_start a0 a1 H = some (rr, HH)) : CT l yX2_start cX2_start 2 none 0 0 [vr a0, vi a1] H none HH := by
  refine CT.of RX2 (by decide) rfl [some (vr a0), some (vi a1)] rfl rfl ?_
  intro E F q hn hf hl hm
  unfold f_X2_start at h
  obtain ⟨hv, h⟩ := vm_spec h
  refine pw_aload_n (pc := 0) F dX2_start_0 rfl ?_
  refine pw_iload_n (pc := 1) F dX2_start_1 rfl ?_
  obtain ⟨H1, eH1, h⟩ := bnd h
  refine pw_put (pc := 2) F 2 0 7 (by decide) (by decide) g_49260ac341 inl_2 rfl 0 rfl dX2_start_2 trivial eH1 ?_
  refine pw_aload_n (pc := 5) F dX2_start_5 rfl ?_
  refine pw_iconst (pc := 6) F 0 dX2_start_6 (by decide) ?_
  obtain ⟨H2, eH2, h⟩ := bnd h
  refine pw_put (pc := 7) F 2 1 13 (by decide) (by decide) g_5f44329a01 inl_2 rfl 0 rfl dX2_start_7 trivial eH2 ?_
  cases h
  exact pw_vret (pc := 10) F q dX2_start_10
/-! HouseholdVault$Finder.meet(III)V -/
theorem dX2_meet_0 : decode cX2_meet 0 = .ok (.aload_n 0, 1) := by decide +kernel
theorem dX2_meet_1 : decode cX2_meet 1 = .ok (.getfield 13, 3) := by decide +kernel
theorem dX2_meet_4 : decode cX2_meet 4 = .ok (.aload_n 0, 1) := by decide +kernel
theorem dX2_meet_5 : decode cX2_meet 5 = .ok (.getfield 7, 3) := by decide +kernel
theorem dX2_meet_8 : decode cX2_meet 8 = .ok (.if_icmp .ne 18, 3) := by decide +kernel
theorem dX2_meet_11 : decode cX2_meet 11 = .ok (.aload_n 0, 1) := by decide +kernel
theorem dX2_meet_12 : decode cX2_meet 12 = .ok (.iload_n 1, 1) := by decide +kernel
theorem dX2_meet_13 : decode cX2_meet 13 = .ok (.putfield 16, 3) := by decide +kernel
theorem dX2_meet_16 : decode cX2_meet 16 = .ok (.aload_n 0, 1) := by decide +kernel
theorem dX2_meet_17 : decode cX2_meet 17 = .ok (.iload_n 2, 1) := by decide +kernel
theorem dX2_meet_18 : decode cX2_meet 18 = .ok (.putfield 19, 3) := by decide +kernel
theorem dX2_meet_21 : decode cX2_meet 21 = .ok (.aload_n 0, 1) := by decide +kernel
theorem dX2_meet_22 : decode cX2_meet 22 = .ok (.iload_n 3, 1) := by decide +kernel
theorem dX2_meet_23 : decode cX2_meet 23 = .ok (.putfield 22, 3) := by decide +kernel
theorem dX2_meet_26 : decode cX2_meet 26 = .ok (.aload_n 0, 1) := by decide +kernel
theorem dX2_meet_27 : decode cX2_meet 27 = .ok (.dup, 1) := by decide +kernel
theorem dX2_meet_28 : decode cX2_meet 28 = .ok (.getfield 13, 3) := by decide +kernel
theorem dX2_meet_31 : decode cX2_meet 31 = .ok (.iconst 1, 1) := by decide +kernel
theorem dX2_meet_32 : decode cX2_meet 32 = .ok (.iadd, 1) := by decide +kernel
theorem dX2_meet_33 : decode cX2_meet 33 = .ok (.putfield 13, 3) := by decide +kernel
theorem dX2_meet_36 : decode cX2_meet 36 = .ok (.return_, 1) := by decide +kernel
def jX2_meet_26 (p0 : Int) (H : PH) : RO :=
  (ld 18 H p0 1).bind fun x1 => (stv 18 H p0 1 (w32 (x1 + 1))).bind fun H2 => some (0, H2)
set_option maxHeartbeats 4000000 in
theorem jX2_meet_26_ok {E : PE} {rr : Int} {HH : PH} (F : FX E cX2_meet RX2) (q : QE E none HH none) (hn : nLof E = 4) (hf : (roomOf E).frames = 0) (hl : (roomOf E).locals = 0) (p0 : Int) (H : PH) (h : jX2_meet_26 p0 H = some (rr, HH)) : PW E 26 [some (vr p0), none, none, none] [] H := by
  unfold jX2_meet_26 at h
  refine pw_aload_n (pc := 26) F dX2_meet_26 rfl ?_
  refine pw_dup (pc := 27) F dX2_meet_27 (pvne rfl) ?_
  obtain ⟨x1, ex1, h⟩ := bnd h
  refine pw_get (pc := 28) F 2 1 13 (by decide) (by decide) g_5f44329a01 inl_2 0 rfl dX2_meet_28 ex1 ?_
  refine pw_iconst (pc := 31) F 1 dX2_meet_31 (by decide) ?_
  refine pw_iadd (pc := 32) F dX2_meet_32 ?_
  obtain ⟨H2, eH2, h⟩ := bnd h
  refine pw_put (pc := 33) F 2 1 13 (by decide) (by decide) g_5f44329a01 inl_2 rfl 0 rfl dX2_meet_33 trivial eH2 ?_
  cases h
  exact pw_vret (pc := 36) F q dX2_meet_36
def f_X2_meet (a0 a1 a2 a3 : Int) (H : PH) : RO := vm 2 a0 H <|
  (ld 18 H a0 1).bind fun x1 => (ld 18 H a0 0).bind fun x2 => (if x1 ≠ x2 then jX2_meet_26 a0 H
  else (stv 18 H a0 2 a1).bind fun H3 => (stv 18 H3 a0 3 a2).bind fun H4 => (stv 18 H4 a0 4 a3).bind fun H5 => jX2_meet_26 a0 H5)
set_option maxHeartbeats 4000000 in
theorem m_X2_meet (l : Launch) (a0 a1 a2 a3 : Int) (H : PH) (rr : Int) (HH : PH) (h : f_X2_meet a0 a1 a2 a3 H = some (rr, HH)) : CT l yX2_meet cX2_meet 4 none 0 0 [vr a0, vi a1, vi a2, vi a3] H none HH := by
  refine CT.of RX2 (by decide) rfl [some (vr a0), some (vi a1), some (vi a2), some (vi a3)] rfl rfl ?_
  intro E F q hn hf hl hm
  unfold f_X2_meet at h
  obtain ⟨hv, h⟩ := vm_spec h
  refine pw_aload_n (pc := 0) F dX2_meet_0 rfl ?_
  obtain ⟨x1, ex1, h⟩ := bnd h
  refine pw_get (pc := 1) F 2 1 13 (by decide) (by decide) g_5f44329a01 inl_2 0 rfl dX2_meet_1 ex1 ?_
  refine pw_aload_n (pc := 4) F dX2_meet_4 rfl ?_
  obtain ⟨x2, ex2, h⟩ := bnd h
  refine pw_get (pc := 5) F 2 0 7 (by decide) (by decide) g_49260ac341 inl_2 0 rfl dX2_meet_5 ex2 ?_
  refine pw_icmp_ne (pc := 8) F 26 dX2_meet_8 (by decide) (fun hc => ?_) (fun hc => ?_)
  · have h := iteT hc h
    exact pw_mask [true, false, false, false] (ls' := [some (vr a0), none, none, none]) rfl (jX2_meet_26_ok F q hn hf hl a0 H h)
  · have h := iteF hc h
    refine pw_aload_n (pc := 11) F dX2_meet_11 rfl ?_
    refine pw_iload_n (pc := 12) F dX2_meet_12 rfl ?_
    obtain ⟨H3, eH3, h⟩ := bnd h
    refine pw_put (pc := 13) F 2 2 16 (by decide) (by decide) g_5e3db9ed5a inl_2 rfl 0 rfl dX2_meet_13 trivial eH3 ?_
    refine pw_aload_n (pc := 16) F dX2_meet_16 rfl ?_
    refine pw_iload_n (pc := 17) F dX2_meet_17 rfl ?_
    obtain ⟨H4, eH4, h⟩ := bnd h
    refine pw_put (pc := 18) F 2 3 19 (by decide) (by decide) g_827c13a8d8 inl_2 rfl 0 rfl dX2_meet_18 trivial eH4 ?_
    refine pw_aload_n (pc := 21) F dX2_meet_21 rfl ?_
    refine pw_iload_n (pc := 22) F dX2_meet_22 rfl ?_
    obtain ⟨H5, eH5, h⟩ := bnd h
    refine pw_put (pc := 23) F 2 4 22 (by decide) (by decide) g_331067bbfe inl_2 rfl 0 rfl dX2_meet_23 trivial eH5 ?_
    exact pw_mask [true, false, false, false] (ls' := [some (vr a0), none, none, none]) rfl (jX2_meet_26_ok F q hn hf hl a0 H5 h)
/-! HouseholdVault$Finder.told(III)I -/
theorem dX2_told_0 : decode cX2_told 0 = .ok (.iload_n 1, 1) := by decide +kernel
theorem dX2_told_1 : decode cX2_told 1 = .ok (.ifCond .lt 19, 3) := by decide +kernel
theorem dX2_told_4 : decode cX2_told 4 = .ok (.iload_n 1, 1) := by decide +kernel
theorem dX2_told_5 : decode cX2_told 5 = .ok (.iload_n 2, 1) := by decide +kernel
theorem dX2_told_6 : decode cX2_told 6 = .ok (.if_icmp .ge 14, 3) := by decide +kernel
theorem dX2_told_9 : decode cX2_told 9 = .ok (.aload_n 0, 1) := by decide +kernel
theorem dX2_told_10 : decode cX2_told 10 = .ok (.getfield 7, 3) := by decide +kernel
theorem dX2_told_13 : decode cX2_told 13 = .ok (.aload_n 0, 1) := by decide +kernel
theorem dX2_told_14 : decode cX2_told 14 = .ok (.getfield 13, 3) := by decide +kernel
theorem dX2_told_17 : decode cX2_told 17 = .ok (.if_icmp .lt 5, 3) := by decide +kernel
theorem dX2_told_20 : decode cX2_told 20 = .ok (.iload_n 3, 1) := by decide +kernel
theorem dX2_told_21 : decode cX2_told 21 = .ok (.ireturn, 1) := by decide +kernel
theorem dX2_told_22 : decode cX2_told 22 = .ok (.iload_n 1, 1) := by decide +kernel
theorem dX2_told_23 : decode cX2_told 23 = .ok (.ifCond .ne 8, 3) := by decide +kernel
theorem dX2_told_26 : decode cX2_told 26 = .ok (.aload_n 0, 1) := by decide +kernel
theorem dX2_told_27 : decode cX2_told 27 = .ok (.getfield 16, 3) := by decide +kernel
theorem dX2_told_30 : decode cX2_told 30 = .ok (.ireturn, 1) := by decide +kernel
theorem dX2_told_31 : decode cX2_told 31 = .ok (.iload_n 1, 1) := by decide +kernel
theorem dX2_told_32 : decode cX2_told 32 = .ok (.iconst 1, 1) := by decide +kernel
theorem dX2_told_33 : decode cX2_told 33 = .ok (.if_icmp .ne 10, 3) := by decide +kernel
theorem dX2_told_36 : decode cX2_told 36 = .ok (.aload_n 0, 1) := by decide +kernel
theorem dX2_told_37 : decode cX2_told 37 = .ok (.getfield 19, 3) := by decide +kernel
theorem dX2_told_40 : decode cX2_told 40 = .ok (.goto 7, 3) := by decide +kernel
theorem dX2_told_43 : decode cX2_told 43 = .ok (.aload_n 0, 1) := by decide +kernel
theorem dX2_told_44 : decode cX2_told 44 = .ok (.getfield 22, 3) := by decide +kernel
theorem dX2_told_47 : decode cX2_told 47 = .ok (.ireturn, 1) := by decide +kernel
def f_X2_told (a0 a1 a2 a3 : Int) (H : PH) : RO := vm 2 a0 H <|
  (if a1 < 0 then some (a3, H)
  else (if a1 ≥ a2 then some (a3, H)
  else (ld 18 H a0 0).bind fun x1 => (ld 18 H a0 1).bind fun x2 => (if x1 < x2 then (if a1 ≠ 0 then (if a1 ≠ 1 then (ld 18 H a0 4).bind fun x3 => some (x3, H)
  else (ld 18 H a0 3).bind fun x4 => some (x4, H))
  else (ld 18 H a0 2).bind fun x5 => some (x5, H))
  else some (a3, H))))
set_option maxHeartbeats 4000000 in
theorem m_X2_told (l : Launch) (a0 a1 a2 a3 : Int) (H : PH) (rr : Int) (HH : PH) (h : f_X2_told a0 a1 a2 a3 H = some (rr, HH)) : CT l yX2_told cX2_told 4 (some .int) 0 0 [vr a0, vi a1, vi a2, vi a3] H (some (vi rr)) HH := by
  refine CT.of RX2 (by decide) rfl [some (vr a0), some (vi a1), some (vi a2), some (vi a3)] rfl rfl ?_
  intro E F q hn hf hl hm
  unfold f_X2_told at h
  obtain ⟨hv, h⟩ := vm_spec h
  refine pw_iload_n (pc := 0) F dX2_told_0 rfl ?_
  refine pw_if_lt (pc := 1) F 20 dX2_told_1 (by decide) (fun hc => ?_) (fun hc => ?_)
  · have h := iteT hc h
    refine pw_iload_n (pc := 20) F dX2_told_20 rfl ?_
    cases h
    exact pw_iret (pc := 21) F q dX2_told_21
  · have h := iteF hc h
    refine pw_iload_n (pc := 4) F dX2_told_4 rfl ?_
    refine pw_iload_n (pc := 5) F dX2_told_5 rfl ?_
    refine pw_icmp_ge (pc := 6) F 20 dX2_told_6 (by decide) (fun hc => ?_) (fun hc => ?_)
    · have h := iteT hc h
      refine pw_iload_n (pc := 20) F dX2_told_20 rfl ?_
      cases h
      exact pw_iret (pc := 21) F q dX2_told_21
    · have h := iteF hc h
      refine pw_aload_n (pc := 9) F dX2_told_9 rfl ?_
      obtain ⟨x1, ex1, h⟩ := bnd h
      refine pw_get (pc := 10) F 2 0 7 (by decide) (by decide) g_49260ac341 inl_2 0 rfl dX2_told_10 ex1 ?_
      refine pw_aload_n (pc := 13) F dX2_told_13 rfl ?_
      obtain ⟨x2, ex2, h⟩ := bnd h
      refine pw_get (pc := 14) F 2 1 13 (by decide) (by decide) g_5f44329a01 inl_2 0 rfl dX2_told_14 ex2 ?_
      refine pw_icmp_lt (pc := 17) F 22 dX2_told_17 (by decide) (fun hc => ?_) (fun hc => ?_)
      · have h := iteT hc h
        refine pw_iload_n (pc := 22) F dX2_told_22 rfl ?_
        refine pw_if_ne (pc := 23) F 31 dX2_told_23 (by decide) (fun hc => ?_) (fun hc => ?_)
        · have h := iteT hc h
          refine pw_iload_n (pc := 31) F dX2_told_31 rfl ?_
          refine pw_iconst (pc := 32) F 1 dX2_told_32 (by decide) ?_
          refine pw_icmp_ne (pc := 33) F 43 dX2_told_33 (by decide) (fun hc => ?_) (fun hc => ?_)
          · have h := iteT hc h
            refine pw_aload_n (pc := 43) F dX2_told_43 rfl ?_
            obtain ⟨x3, ex3, h⟩ := bnd h
            refine pw_get (pc := 44) F 2 4 22 (by decide) (by decide) g_331067bbfe inl_2 0 rfl dX2_told_44 ex3 ?_
            cases h
            exact pw_iret (pc := 47) F q dX2_told_47
          · have h := iteF hc h
            refine pw_aload_n (pc := 36) F dX2_told_36 rfl ?_
            obtain ⟨x4, ex4, h⟩ := bnd h
            refine pw_get (pc := 37) F 2 3 19 (by decide) (by decide) g_827c13a8d8 inl_2 0 rfl dX2_told_37 ex4 ?_
            refine pw_goto (pc := 40) F 47 dX2_told_40 (by decide) ?_
            cases h
            exact pw_iret (pc := 47) F q dX2_told_47
        · have h := iteF hc h
          refine pw_aload_n (pc := 26) F dX2_told_26 rfl ?_
          obtain ⟨x5, ex5, h⟩ := bnd h
          refine pw_get (pc := 27) F 2 2 16 (by decide) (by decide) g_5e3db9ed5a inl_2 0 rfl dX2_told_27 ex5 ?_
          cases h
          exact pw_iret (pc := 30) F q dX2_told_30
      · have h := iteF hc h
        refine pw_iload_n (pc := 20) F dX2_told_20 rfl ?_
        cases h
        exact pw_iret (pc := 21) F q dX2_told_21
/-! HouseholdVault$Form.<init>()V -/
theorem dX3_init_0 : decode cX3_init 0 = .ok (.aload_n 0, 1) := by decide +kernel
theorem dX3_init_1 : decode cX3_init 1 = .ok (.invokespecial 3, 3) := by decide +kernel
theorem dX3_init_4 : decode cX3_init 4 = .ok (.aload_n 0, 1) := by decide +kernel
theorem dX3_init_5 : decode cX3_init 5 = .ok (.bipush 24, 2) := by decide +kernel
theorem dX3_init_7 : decode cX3_init 7 = .ok (.anewarray 9, 3) := by decide +kernel
theorem dX3_init_10 : decode cX3_init 10 = .ok (.putfield 11, 3) := by decide +kernel
theorem dX3_init_13 : decode cX3_init 13 = .ok (.aload_n 0, 1) := by decide +kernel
theorem dX3_init_14 : decode cX3_init 14 = .ok (.bipush 60, 2) := by decide +kernel
theorem dX3_init_16 : decode cX3_init 16 = .ok (.anewarray 17, 3) := by decide +kernel
theorem dX3_init_19 : decode cX3_init 19 = .ok (.putfield 19, 3) := by decide +kernel
theorem dX3_init_22 : decode cX3_init 22 = .ok (.aload_n 0, 1) := by decide +kernel
theorem dX3_init_23 : decode cX3_init 23 = .ok (.bipush 84, 2) := by decide +kernel
theorem dX3_init_25 : decode cX3_init 25 = .ok (.newarray .int, 2) := by decide +kernel
theorem dX3_init_27 : decode cX3_init 27 = .ok (.putfield 23, 3) := by decide +kernel
theorem dX3_init_30 : decode cX3_init 30 = .ok (.return_, 1) := by decide +kernel
def f_X3_init (a0 : Int) (H : PH) : RO := vm 3 a0 H <|
  (newa 6 24 H).bind fun z1 => (stv 19 z1.2 a0 0 z1.1).bind fun H2 => (newa 3 60 H2).bind fun z3 => (stv 19 z3.2 a0 2 z3.1).bind fun H4 => (newa 0 84 H4).bind fun z5 => (stv 19 z5.2 a0 4 z5.1).bind fun H6 => some (0, H6)
set_option maxHeartbeats 4000000 in
theorem m_X3_init (l : Launch) (a0 : Int) (H : PH) (rr : Int) (HH : PH) (h : f_X3_init a0 H = some (rr, HH)) : CT l yX3_init cX3_init 1 none 1 12 [vr a0] H none HH := by
  refine CT.of RX3 (by decide) rfl [some (vr a0)] rfl rfl ?_
  intro E F q hn hf hl hm
  unfold f_X3_init at h
  obtain ⟨hv, h⟩ := vm_spec h
  refine pw_aload_n (pc := 0) F dX3_init_0 rfl ?_
  refine pw_objInit (pc := 1) F 3 g_ab6fb71672 g_93fb852fc9 g_ecc6a87410 (rm_ok hf hl (by decide) (by decide)) dX3_init_1 (vm_nn hv) ?_
  refine pw_aload_n (pc := 4) F dX3_init_4 rfl ?_
  refine pw_bipush (pc := 5) F 24 dX3_init_5 (by decide) ?_
  obtain ⟨z1, ez1, h⟩ := bnd h
  refine pw_anew (pc := 7) F 6 9 (by decide) g_e5a8f8c7cb dX3_init_7 ez1 ?_
  obtain ⟨H2, eH2, h⟩ := bnd h
  refine pw_putF (pc := 10) F 3 0 11 (by decide) (by decide) g_b400760f80 inl_3 rfl hm rfl 2 rfl dX3_init_10 trivial eH2 ?_
  refine pw_aload_n (pc := 13) F dX3_init_13 rfl ?_
  refine pw_bipush (pc := 14) F 60 dX3_init_14 (by decide) ?_
  obtain ⟨z3, ez3, h⟩ := bnd h
  refine pw_anew (pc := 16) F 3 17 (by decide) g_67755c6944 dX3_init_16 ez3 ?_
  obtain ⟨H4, eH4, h⟩ := bnd h
  refine pw_putF (pc := 19) F 3 2 19 (by decide) (by decide) g_5bdd928727 inl_3 rfl hm rfl 2 rfl dX3_init_19 trivial eH4 ?_
  refine pw_aload_n (pc := 22) F dX3_init_22 rfl ?_
  refine pw_bipush (pc := 23) F 84 dX3_init_23 (by decide) ?_
  obtain ⟨z5, ez5, h⟩ := bnd h
  refine pw_newa (pc := 25) F 0 (by decide) g_c17bb956eb dX3_init_25 ez5 ?_
  obtain ⟨H6, eH6, h⟩ := bnd h
  refine pw_putF (pc := 27) F 3 4 23 (by decide) (by decide) g_508b17616b inl_3 rfl hm rfl 2 rfl dX3_init_27 trivial eH6 ?_
  cases h
  exact pw_vret (pc := 30) F q dX3_init_30
/-! HouseholdVault$Form.questionOf(I)LHouseholdVault$Question; -/
theorem dX3_questionOf_0 : decode cX3_questionOf 0 = .ok (.iload_n 1, 1) := by decide +kernel
theorem dX3_questionOf_1 : decode cX3_questionOf 1 = .ok (.ifCond .lt 20, 3) := by decide +kernel
theorem dX3_questionOf_4 : decode cX3_questionOf 4 = .ok (.iload_n 1, 1) := by decide +kernel
theorem dX3_questionOf_5 : decode cX3_questionOf 5 = .ok (.aload_n 0, 1) := by decide +kernel
theorem dX3_questionOf_6 : decode cX3_questionOf 6 = .ok (.getfield 27, 3) := by decide +kernel
theorem dX3_questionOf_9 : decode cX3_questionOf 9 = .ok (.if_icmp .ge 12, 3) := by decide +kernel
theorem dX3_questionOf_12 : decode cX3_questionOf 12 = .ok (.aload_n 0, 1) := by decide +kernel
theorem dX3_questionOf_13 : decode cX3_questionOf 13 = .ok (.getfield 11, 3) := by decide +kernel
theorem dX3_questionOf_16 : decode cX3_questionOf 16 = .ok (.iload_n 1, 1) := by decide +kernel
theorem dX3_questionOf_17 : decode cX3_questionOf 17 = .ok (.aaload, 1) := by decide +kernel
theorem dX3_questionOf_18 : decode cX3_questionOf 18 = .ok (.goto 4, 3) := by decide +kernel
theorem dX3_questionOf_21 : decode cX3_questionOf 21 = .ok (.aconst_null, 1) := by decide +kernel
theorem dX3_questionOf_22 : decode cX3_questionOf 22 = .ok (.areturn, 1) := by decide +kernel
def f_X3_questionOf (a0 a1 : Int) (H : PH) : RO := vm 3 a0 H <|
  (if a1 < 0 then some ((-1), H)
  else (ld 19 H a0 1).bind fun x1 => (if a1 ≥ x1 then some ((-1), H)
  else (ld 19 H a0 0).bind fun x2 => (ld 6 H x2 a1).bind fun x3 => some (x3, H)))
set_option maxHeartbeats 4000000 in
theorem m_X3_questionOf (l : Launch) (a0 a1 : Int) (H : PH) (rr : Int) (HH : PH) (h : f_X3_questionOf a0 a1 H = some (rr, HH)) : CT l yX3_questionOf cX3_questionOf 2 (some (.object "HouseholdVault$Question")) 0 0 [vr a0, vi a1] H (some (vr rr)) HH := by
  refine CT.of RX3 (by decide) rfl [some (vr a0), some (vi a1)] rfl rfl ?_
  intro E F q hn hf hl hm
  unfold f_X3_questionOf at h
  obtain ⟨hv, h⟩ := vm_spec h
  refine pw_iload_n (pc := 0) F dX3_questionOf_0 rfl ?_
  refine pw_if_lt (pc := 1) F 21 dX3_questionOf_1 (by decide) (fun hc => ?_) (fun hc => ?_)
  · have h := iteT hc h
    refine pw_null (pc := 21) F dX3_questionOf_21 ?_
    cases h
    exact pw_aret (pc := 22) F (Or.inl ⟨_, rfl⟩) q dX3_questionOf_22
  · have h := iteF hc h
    refine pw_iload_n (pc := 4) F dX3_questionOf_4 rfl ?_
    refine pw_aload_n (pc := 5) F dX3_questionOf_5 rfl ?_
    obtain ⟨x1, ex1, h⟩ := bnd h
    refine pw_get (pc := 6) F 3 1 27 (by decide) (by decide) g_be38874c85 inl_3 0 rfl dX3_questionOf_6 ex1 ?_
    refine pw_icmp_ge (pc := 9) F 21 dX3_questionOf_9 (by decide) (fun hc => ?_) (fun hc => ?_)
    · have h := iteT hc h
      refine pw_null (pc := 21) F dX3_questionOf_21 ?_
      cases h
      exact pw_aret (pc := 22) F (Or.inl ⟨_, rfl⟩) q dX3_questionOf_22
    · have h := iteF hc h
      refine pw_aload_n (pc := 12) F dX3_questionOf_12 rfl ?_
      obtain ⟨x2, ex2, h⟩ := bnd h
      refine pw_get (pc := 13) F 3 0 11 (by decide) (by decide) g_b400760f80 inl_3 2 rfl dX3_questionOf_13 ex2 ?_
      refine pw_iload_n (pc := 16) F dX3_questionOf_16 rfl ?_
      obtain ⟨x3, ex3, h⟩ := bnd h
      refine pw_aald (pc := 17) F 6 (by decide) dX3_questionOf_17 ex3 ?_
      refine pw_goto (pc := 18) F 22 dX3_questionOf_18 (by decide) ?_
      cases h
      exact pw_aret (pc := 22) F (Or.inl ⟨_, rfl⟩) q dX3_questionOf_22
/-! HouseholdVault$Form.conditionOf(I)LHouseholdVault$Condition; -/
theorem dX3_conditionOf_0 : decode cX3_conditionOf 0 = .ok (.iload_n 1, 1) := by decide +kernel
theorem dX3_conditionOf_1 : decode cX3_conditionOf 1 = .ok (.ifCond .lt 20, 3) := by decide +kernel
theorem dX3_conditionOf_4 : decode cX3_conditionOf 4 = .ok (.iload_n 1, 1) := by decide +kernel
theorem dX3_conditionOf_5 : decode cX3_conditionOf 5 = .ok (.aload_n 0, 1) := by decide +kernel
theorem dX3_conditionOf_6 : decode cX3_conditionOf 6 = .ok (.getfield 31, 3) := by decide +kernel
theorem dX3_conditionOf_9 : decode cX3_conditionOf 9 = .ok (.if_icmp .ge 12, 3) := by decide +kernel
theorem dX3_conditionOf_12 : decode cX3_conditionOf 12 = .ok (.aload_n 0, 1) := by decide +kernel
theorem dX3_conditionOf_13 : decode cX3_conditionOf 13 = .ok (.getfield 19, 3) := by decide +kernel
theorem dX3_conditionOf_16 : decode cX3_conditionOf 16 = .ok (.iload_n 1, 1) := by decide +kernel
theorem dX3_conditionOf_17 : decode cX3_conditionOf 17 = .ok (.aaload, 1) := by decide +kernel
theorem dX3_conditionOf_18 : decode cX3_conditionOf 18 = .ok (.goto 4, 3) := by decide +kernel
theorem dX3_conditionOf_21 : decode cX3_conditionOf 21 = .ok (.aconst_null, 1) := by decide +kernel
theorem dX3_conditionOf_22 : decode cX3_conditionOf 22 = .ok (.areturn, 1) := by decide +kernel
def f_X3_conditionOf (a0 a1 : Int) (H : PH) : RO := vm 3 a0 H <|
  (if a1 < 0 then some ((-1), H)
  else (ld 19 H a0 3).bind fun x1 => (if a1 ≥ x1 then some ((-1), H)
  else (ld 19 H a0 2).bind fun x2 => (ld 3 H x2 a1).bind fun x3 => some (x3, H)))
set_option maxHeartbeats 4000000 in
theorem m_X3_conditionOf (l : Launch) (a0 a1 : Int) (H : PH) (rr : Int) (HH : PH) (h : f_X3_conditionOf a0 a1 H = some (rr, HH)) : CT l yX3_conditionOf cX3_conditionOf 2 (some (.object "HouseholdVault$Condition")) 0 0 [vr a0, vi a1] H (some (vr rr)) HH := by
  refine CT.of RX3 (by decide) rfl [some (vr a0), some (vi a1)] rfl rfl ?_
  intro E F q hn hf hl hm
  unfold f_X3_conditionOf at h
  obtain ⟨hv, h⟩ := vm_spec h
  refine pw_iload_n (pc := 0) F dX3_conditionOf_0 rfl ?_
  refine pw_if_lt (pc := 1) F 21 dX3_conditionOf_1 (by decide) (fun hc => ?_) (fun hc => ?_)
  · have h := iteT hc h
    refine pw_null (pc := 21) F dX3_conditionOf_21 ?_
    cases h
    exact pw_aret (pc := 22) F (Or.inl ⟨_, rfl⟩) q dX3_conditionOf_22
  · have h := iteF hc h
    refine pw_iload_n (pc := 4) F dX3_conditionOf_4 rfl ?_
    refine pw_aload_n (pc := 5) F dX3_conditionOf_5 rfl ?_
    obtain ⟨x1, ex1, h⟩ := bnd h
    refine pw_get (pc := 6) F 3 3 31 (by decide) (by decide) g_35b94c9a1b inl_3 0 rfl dX3_conditionOf_6 ex1 ?_
    refine pw_icmp_ge (pc := 9) F 21 dX3_conditionOf_9 (by decide) (fun hc => ?_) (fun hc => ?_)
    · have h := iteT hc h
      refine pw_null (pc := 21) F dX3_conditionOf_21 ?_
      cases h
      exact pw_aret (pc := 22) F (Or.inl ⟨_, rfl⟩) q dX3_conditionOf_22
    · have h := iteF hc h
      refine pw_aload_n (pc := 12) F dX3_conditionOf_12 rfl ?_
      obtain ⟨x2, ex2, h⟩ := bnd h
      refine pw_get (pc := 13) F 3 2 19 (by decide) (by decide) g_5bdd928727 inl_3 2 rfl dX3_conditionOf_13 ex2 ?_
      refine pw_iload_n (pc := 16) F dX3_conditionOf_16 rfl ?_
      obtain ⟨x3, ex3, h⟩ := bnd h
      refine pw_aald (pc := 17) F 3 (by decide) dX3_conditionOf_17 ex3 ?_
      refine pw_goto (pc := 18) F 22 dX3_conditionOf_18 (by decide) ?_
      cases h
      exact pw_aret (pc := 22) F (Or.inl ⟨_, rfl⟩) q dX3_conditionOf_22
/-! HouseholdVault$Form.questionsAreFull()Z -/
theorem dX3_questionsAreFull_0 : decode cX3_questionsAreFull 0 = .ok (.aload_n 0, 1) := by decide +kernel
theorem dX3_questionsAreFull_1 : decode cX3_questionsAreFull 1 = .ok (.getfield 27, 3) := by decide +kernel
theorem dX3_questionsAreFull_4 : decode cX3_questionsAreFull 4 = .ok (.bipush 24, 2) := by decide +kernel
theorem dX3_questionsAreFull_6 : decode cX3_questionsAreFull 6 = .ok (.if_icmp .lt 7, 3) := by decide +kernel
theorem dX3_questionsAreFull_9 : decode cX3_questionsAreFull 9 = .ok (.iconst 1, 1) := by decide +kernel
theorem dX3_questionsAreFull_10 : decode cX3_questionsAreFull 10 = .ok (.goto 4, 3) := by decide +kernel
theorem dX3_questionsAreFull_13 : decode cX3_questionsAreFull 13 = .ok (.iconst 0, 1) := by decide +kernel
theorem dX3_questionsAreFull_14 : decode cX3_questionsAreFull 14 = .ok (.ireturn, 1) := by decide +kernel
def f_X3_questionsAreFull (a0 : Int) (H : PH) : RO := vm 3 a0 H <|
  (ld 19 H a0 1).bind fun x1 => (if x1 < 24 then some (0, H)
  else some (1, H))
set_option maxHeartbeats 4000000 in
theorem m_X3_questionsAreFull (l : Launch) (a0 : Int) (H : PH) (rr : Int) (HH : PH) (h : f_X3_questionsAreFull a0 H = some (rr, HH)) : CT l yX3_questionsAreFull cX3_questionsAreFull 1 (some .boolean) 0 0 [vr a0] H (some (vi rr)) HH := by
  refine CT.of RX3 (by decide) rfl [some (vr a0)] rfl rfl ?_
  intro E F q hn hf hl hm
  unfold f_X3_questionsAreFull at h
  obtain ⟨hv, h⟩ := vm_spec h
  refine pw_aload_n (pc := 0) F dX3_questionsAreFull_0 rfl ?_
  obtain ⟨x1, ex1, h⟩ := bnd h
  refine pw_get (pc := 1) F 3 1 27 (by decide) (by decide) g_be38874c85 inl_3 0 rfl dX3_questionsAreFull_1 ex1 ?_
  refine pw_bipush (pc := 4) F 24 dX3_questionsAreFull_4 (by decide) ?_
  refine pw_icmp_lt (pc := 6) F 13 dX3_questionsAreFull_6 (by decide) (fun hc => ?_) (fun hc => ?_)
  · have h := iteT hc h
    refine pw_iconst (pc := 13) F 0 dX3_questionsAreFull_13 (by decide) ?_
    cases h
    exact pw_zret (pc := 14) F q (by decide) dX3_questionsAreFull_14
  · have h := iteF hc h
    refine pw_iconst (pc := 9) F 1 dX3_questionsAreFull_9 (by decide) ?_
    refine pw_goto (pc := 10) F 14 dX3_questionsAreFull_10 (by decide) ?_
    cases h
    exact pw_zret (pc := 14) F q (by decide) dX3_questionsAreFull_14
/-! HouseholdVault$Form.conditionsAreFull(I)Z -/
theorem dX3_conditionsAreFull_0 : decode cX3_conditionsAreFull 0 = .ok (.aload_n 0, 1) := by decide +kernel
theorem dX3_conditionsAreFull_1 : decode cX3_conditionsAreFull 1 = .ok (.getfield 31, 3) := by decide +kernel
theorem dX3_conditionsAreFull_4 : decode cX3_conditionsAreFull 4 = .ok (.bipush 60, 2) := by decide +kernel
theorem dX3_conditionsAreFull_6 : decode cX3_conditionsAreFull 6 = .ok (.if_icmp .ge 9, 3) := by decide +kernel
theorem dX3_conditionsAreFull_9 : decode cX3_conditionsAreFull 9 = .ok (.iload_n 1, 1) := by decide +kernel
theorem dX3_conditionsAreFull_10 : decode cX3_conditionsAreFull 10 = .ok (.bipush 30, 2) := by decide +kernel
theorem dX3_conditionsAreFull_12 : decode cX3_conditionsAreFull 12 = .ok (.if_icmp .le 7, 3) := by decide +kernel
theorem dX3_conditionsAreFull_15 : decode cX3_conditionsAreFull 15 = .ok (.iconst 1, 1) := by decide +kernel
theorem dX3_conditionsAreFull_16 : decode cX3_conditionsAreFull 16 = .ok (.goto 4, 3) := by decide +kernel
theorem dX3_conditionsAreFull_19 : decode cX3_conditionsAreFull 19 = .ok (.iconst 0, 1) := by decide +kernel
theorem dX3_conditionsAreFull_20 : decode cX3_conditionsAreFull 20 = .ok (.ireturn, 1) := by decide +kernel
def jX3_conditionsAreFull_15 (H : PH) : RO :=
  some (1, H)
set_option maxHeartbeats 4000000 in
theorem jX3_conditionsAreFull_15_ok {E : PE} {rr : Int} {HH : PH} (F : FX E cX3_conditionsAreFull RX3) (q : QE E (some (vi rr)) HH (some .boolean)) (hn : nLof E = 2) (hf : (roomOf E).frames = 0) (hl : (roomOf E).locals = 0) (H : PH) (h : jX3_conditionsAreFull_15  H = some (rr, HH)) : PW E 15 [none, none] [] H := by
  unfold jX3_conditionsAreFull_15 at h
  refine pw_iconst (pc := 15) F 1 dX3_conditionsAreFull_15 (by decide) ?_
  refine pw_goto (pc := 16) F 20 dX3_conditionsAreFull_16 (by decide) ?_
  cases h
  exact pw_zret (pc := 20) F q (by decide) dX3_conditionsAreFull_20
def f_X3_conditionsAreFull (a0 a1 : Int) (H : PH) : RO := vm 3 a0 H <|
  (ld 19 H a0 3).bind fun x1 => (if x1 ≥ 60 then jX3_conditionsAreFull_15  H
  else (if a1 ≤ 30 then some (0, H)
  else jX3_conditionsAreFull_15  H))
set_option maxHeartbeats 4000000 in
theorem m_X3_conditionsAreFull (l : Launch) (a0 a1 : Int) (H : PH) (rr : Int) (HH : PH) (h : f_X3_conditionsAreFull a0 a1 H = some (rr, HH)) : CT l yX3_conditionsAreFull cX3_conditionsAreFull 2 (some .boolean) 0 0 [vr a0, vi a1] H (some (vi rr)) HH := by
  refine CT.of RX3 (by decide) rfl [some (vr a0), some (vi a1)] rfl rfl ?_
  intro E F q hn hf hl hm
  unfold f_X3_conditionsAreFull at h
  obtain ⟨hv, h⟩ := vm_spec h
  refine pw_aload_n (pc := 0) F dX3_conditionsAreFull_0 rfl ?_
  obtain ⟨x1, ex1, h⟩ := bnd h
  refine pw_get (pc := 1) F 3 3 31 (by decide) (by decide) g_35b94c9a1b inl_3 0 rfl dX3_conditionsAreFull_1 ex1 ?_
  refine pw_bipush (pc := 4) F 60 dX3_conditionsAreFull_4 (by decide) ?_
  refine pw_icmp_ge (pc := 6) F 15 dX3_conditionsAreFull_6 (by decide) (fun hc => ?_) (fun hc => ?_)
  · have h := iteT hc h
    exact pw_mask [false, false] (ls' := [none, none]) rfl (jX3_conditionsAreFull_15_ok F q hn hf hl  H h)
  · have h := iteF hc h
    refine pw_iload_n (pc := 9) F dX3_conditionsAreFull_9 rfl ?_
    refine pw_bipush (pc := 10) F 30 dX3_conditionsAreFull_10 (by decide) ?_
    refine pw_icmp_le (pc := 12) F 19 dX3_conditionsAreFull_12 (by decide) (fun hc => ?_) (fun hc => ?_)
    · have h := iteT hc h
      refine pw_iconst (pc := 19) F 0 dX3_conditionsAreFull_19 (by decide) ?_
      cases h
      exact pw_zret (pc := 20) F q (by decide) dX3_conditionsAreFull_20
    · have h := iteF hc h
      exact pw_mask [false, false] (ls' := [none, none]) rfl (jX3_conditionsAreFull_15_ok F q hn hf hl  H h)
/-! HouseholdVault$Form.addStep(I)I -/
theorem dX3_addStep_0 : decode cX3_addStep 0 = .ok (.aload_n 0, 1) := by decide +kernel
theorem dX3_addStep_1 : decode cX3_addStep 1 = .ok (.getfield 23, 3) := by decide +kernel
theorem dX3_addStep_4 : decode cX3_addStep 4 = .ok (.aload_n 0, 1) := by decide +kernel
theorem dX3_addStep_5 : decode cX3_addStep 5 = .ok (.getfield 55, 3) := by decide +kernel
theorem dX3_addStep_8 : decode cX3_addStep 8 = .ok (.iload_n 1, 1) := by decide +kernel
theorem dX3_addStep_9 : decode cX3_addStep 9 = .ok (.iastore, 1) := by decide +kernel
theorem dX3_addStep_10 : decode cX3_addStep 10 = .ok (.aload_n 0, 1) := by decide +kernel
theorem dX3_addStep_11 : decode cX3_addStep 11 = .ok (.dup, 1) := by decide +kernel
theorem dX3_addStep_12 : decode cX3_addStep 12 = .ok (.getfield 55, 3) := by decide +kernel
theorem dX3_addStep_15 : decode cX3_addStep 15 = .ok (.iconst 1, 1) := by decide +kernel
theorem dX3_addStep_16 : decode cX3_addStep 16 = .ok (.iadd, 1) := by decide +kernel
theorem dX3_addStep_17 : decode cX3_addStep 17 = .ok (.putfield 55, 3) := by decide +kernel
theorem dX3_addStep_20 : decode cX3_addStep 20 = .ok (.aload_n 0, 1) := by decide +kernel
theorem dX3_addStep_21 : decode cX3_addStep 21 = .ok (.getfield 55, 3) := by decide +kernel
theorem dX3_addStep_24 : decode cX3_addStep 24 = .ok (.iconst 1, 1) := by decide +kernel
theorem dX3_addStep_25 : decode cX3_addStep 25 = .ok (.isub, 1) := by decide +kernel
theorem dX3_addStep_26 : decode cX3_addStep 26 = .ok (.ireturn, 1) := by decide +kernel
def f_X3_addStep (a0 a1 : Int) (H : PH) : RO := vm 3 a0 H <|
  (ld 19 H a0 4).bind fun x1 => (ld 19 H a0 5).bind fun x2 => (stv 0 H x1 x2 a1).bind fun H3 => (ld 19 H3 a0 5).bind fun x4 => (stv 19 H3 a0 5 (w32 (x4 + 1))).bind fun H5 => (ld 19 H5 a0 5).bind fun x6 => some ((w32 (x6 - 1)), H5)
set_option maxHeartbeats 4000000 in
theorem m_X3_addStep (l : Launch) (a0 a1 : Int) (H : PH) (rr : Int) (HH : PH) (h : f_X3_addStep a0 a1 H = some (rr, HH)) : CT l yX3_addStep cX3_addStep 2 (some .int) 0 0 [vr a0, vi a1] H (some (vi rr)) HH := by
  refine CT.of RX3 (by decide) rfl [some (vr a0), some (vi a1)] rfl rfl ?_
  intro E F q hn hf hl hm
  unfold f_X3_addStep at h
  obtain ⟨hv, h⟩ := vm_spec h
  refine pw_aload_n (pc := 0) F dX3_addStep_0 rfl ?_
  obtain ⟨x1, ex1, h⟩ := bnd h
  refine pw_get (pc := 1) F 3 4 23 (by decide) (by decide) g_508b17616b inl_3 2 rfl dX3_addStep_1 ex1 ?_
  refine pw_aload_n (pc := 4) F dX3_addStep_4 rfl ?_
  obtain ⟨x2, ex2, h⟩ := bnd h
  refine pw_get (pc := 5) F 3 5 55 (by decide) (by decide) g_ef6ab81c3b inl_3 0 rfl dX3_addStep_5 ex2 ?_
  refine pw_iload_n (pc := 8) F dX3_addStep_8 rfl ?_
  obtain ⟨H3, eH3, h⟩ := bnd h
  refine pw_iast (pc := 9) F dX3_addStep_9 eH3 ?_
  refine pw_aload_n (pc := 10) F dX3_addStep_10 rfl ?_
  refine pw_dup (pc := 11) F dX3_addStep_11 (pvne rfl) ?_
  obtain ⟨x4, ex4, h⟩ := bnd h
  refine pw_get (pc := 12) F 3 5 55 (by decide) (by decide) g_ef6ab81c3b inl_3 0 rfl dX3_addStep_12 ex4 ?_
  refine pw_iconst (pc := 15) F 1 dX3_addStep_15 (by decide) ?_
  refine pw_iadd (pc := 16) F dX3_addStep_16 ?_
  obtain ⟨H5, eH5, h⟩ := bnd h
  refine pw_put (pc := 17) F 3 5 55 (by decide) (by decide) g_ef6ab81c3b inl_3 rfl 0 rfl dX3_addStep_17 trivial eH5 ?_
  refine pw_aload_n (pc := 20) F dX3_addStep_20 rfl ?_
  obtain ⟨x6, ex6, h⟩ := bnd h
  refine pw_get (pc := 21) F 3 5 55 (by decide) (by decide) g_ef6ab81c3b inl_3 0 rfl dX3_addStep_21 ex6 ?_
  refine pw_iconst (pc := 24) F 1 dX3_addStep_24 (by decide) ?_
  refine pw_isub (pc := 25) F dX3_addStep_25 ?_
  cases h
  exact pw_iret (pc := 26) F q dX3_addStep_26
/-! HouseholdVault$Form.addQuestion(LHouseholdVault$Question;)I -/
theorem dX3_addQuestion_0 : decode cX3_addQuestion 0 = .ok (.aload_n 0, 1) := by decide +kernel
theorem dX3_addQuestion_1 : decode cX3_addQuestion 1 = .ok (.invokevirtual 34, 3) := by decide +kernel
theorem dX3_addQuestion_4 : decode cX3_addQuestion 4 = .ok (.ifCond .eq 6, 3) := by decide +kernel
theorem dX3_addQuestion_7 : decode cX3_addQuestion 7 = .ok (.bipush (-4), 2) := by decide +kernel
theorem dX3_addQuestion_9 : decode cX3_addQuestion 9 = .ok (.ireturn, 1) := by decide +kernel
theorem dX3_addQuestion_10 : decode cX3_addQuestion 10 = .ok (.aload_n 0, 1) := by decide +kernel
theorem dX3_addQuestion_11 : decode cX3_addQuestion 11 = .ok (.getfield 11, 3) := by decide +kernel
theorem dX3_addQuestion_14 : decode cX3_addQuestion 14 = .ok (.aload_n 0, 1) := by decide +kernel
theorem dX3_addQuestion_15 : decode cX3_addQuestion 15 = .ok (.getfield 27, 3) := by decide +kernel
theorem dX3_addQuestion_18 : decode cX3_addQuestion 18 = .ok (.aload_n 1, 1) := by decide +kernel
theorem dX3_addQuestion_19 : decode cX3_addQuestion 19 = .ok (.aastore, 1) := by decide +kernel
theorem dX3_addQuestion_20 : decode cX3_addQuestion 20 = .ok (.aload_n 1, 1) := by decide +kernel
theorem dX3_addQuestion_21 : decode cX3_addQuestion 21 = .ok (.getfield 38, 3) := by decide +kernel
theorem dX3_addQuestion_24 : decode cX3_addQuestion 24 = .ok (.ifCond .eq 15, 3) := by decide +kernel
theorem dX3_addQuestion_27 : decode cX3_addQuestion 27 = .ok (.aload_n 1, 1) := by decide +kernel
theorem dX3_addQuestion_28 : decode cX3_addQuestion 28 = .ok (.aload_n 0, 1) := by decide +kernel
theorem dX3_addQuestion_29 : decode cX3_addQuestion 29 = .ok (.aload_n 0, 1) := by decide +kernel
theorem dX3_addQuestion_30 : decode cX3_addQuestion 30 = .ok (.getfield 27, 3) := by decide +kernel
theorem dX3_addQuestion_33 : decode cX3_addQuestion 33 = .ok (.invokevirtual 41, 3) := by decide +kernel
theorem dX3_addQuestion_36 : decode cX3_addQuestion 36 = .ok (.putfield 45, 3) := by decide +kernel
theorem dX3_addQuestion_39 : decode cX3_addQuestion 39 = .ok (.aload_n 0, 1) := by decide +kernel
theorem dX3_addQuestion_40 : decode cX3_addQuestion 40 = .ok (.dup, 1) := by decide +kernel
theorem dX3_addQuestion_41 : decode cX3_addQuestion 41 = .ok (.getfield 27, 3) := by decide +kernel
theorem dX3_addQuestion_44 : decode cX3_addQuestion 44 = .ok (.iconst 1, 1) := by decide +kernel
theorem dX3_addQuestion_45 : decode cX3_addQuestion 45 = .ok (.iadd, 1) := by decide +kernel
theorem dX3_addQuestion_46 : decode cX3_addQuestion 46 = .ok (.putfield 27, 3) := by decide +kernel
theorem dX3_addQuestion_49 : decode cX3_addQuestion 49 = .ok (.aload_n 0, 1) := by decide +kernel
theorem dX3_addQuestion_50 : decode cX3_addQuestion 50 = .ok (.getfield 27, 3) := by decide +kernel
theorem dX3_addQuestion_53 : decode cX3_addQuestion 53 = .ok (.iconst 1, 1) := by decide +kernel
theorem dX3_addQuestion_54 : decode cX3_addQuestion 54 = .ok (.isub, 1) := by decide +kernel
theorem dX3_addQuestion_55 : decode cX3_addQuestion 55 = .ok (.ireturn, 1) := by decide +kernel
def jX3_addQuestion_39 (p0 : Int) (H : PH) : RO :=
  (ld 19 H p0 1).bind fun x1 => (stv 19 H p0 1 (w32 (x1 + 1))).bind fun H2 => (ld 19 H2 p0 1).bind fun x3 => some ((w32 (x3 - 1)), H2)
set_option maxHeartbeats 4000000 in
theorem jX3_addQuestion_39_ok {E : PE} {rr : Int} {HH : PH} (F : FX E cX3_addQuestion RX3) (q : QE E (some (vi rr)) HH (some .int)) (hn : nLof E = 2) (hf : (roomOf E).frames = 1) (hl : (roomOf E).locals = 21) (p0 : Int) (H : PH) (h : jX3_addQuestion_39 p0 H = some (rr, HH)) : PW E 39 [some (vr p0), none] [] H := by
  unfold jX3_addQuestion_39 at h
  refine pw_aload_n (pc := 39) F dX3_addQuestion_39 rfl ?_
  refine pw_dup (pc := 40) F dX3_addQuestion_40 (pvne rfl) ?_
  obtain ⟨x1, ex1, h⟩ := bnd h
  refine pw_get (pc := 41) F 3 1 27 (by decide) (by decide) g_be38874c85 inl_3 0 rfl dX3_addQuestion_41 ex1 ?_
  refine pw_iconst (pc := 44) F 1 dX3_addQuestion_44 (by decide) ?_
  refine pw_iadd (pc := 45) F dX3_addQuestion_45 ?_
  obtain ⟨H2, eH2, h⟩ := bnd h
  refine pw_put (pc := 46) F 3 1 27 (by decide) (by decide) g_be38874c85 inl_3 rfl 0 rfl dX3_addQuestion_46 trivial eH2 ?_
  refine pw_aload_n (pc := 49) F dX3_addQuestion_49 rfl ?_
  obtain ⟨x3, ex3, h⟩ := bnd h
  refine pw_get (pc := 50) F 3 1 27 (by decide) (by decide) g_be38874c85 inl_3 0 rfl dX3_addQuestion_50 ex3 ?_
  refine pw_iconst (pc := 53) F 1 dX3_addQuestion_53 (by decide) ?_
  refine pw_isub (pc := 54) F dX3_addQuestion_54 ?_
  cases h
  exact pw_iret (pc := 55) F q dX3_addQuestion_55
def f_X3_addQuestion (a0 a1 : Int) (H : PH) : RO := vm 3 a0 H <|
  (f_X3_questionsAreFull a0 H).bind fun z1 => (if z1.1 = 0 then (ld 19 z1.2 a0 0).bind fun x2 => (ld 19 z1.2 a0 1).bind fun x3 => (sta 6 5 z1.2 x2 x3 a1).bind fun H4 => (ld 21 H4 a1 2).bind fun x5 => (if x5 = 0 then jX3_addQuestion_39 a0 H4
  else (ld 19 H4 a0 1).bind fun x6 => (f_X3_addStep a0 x6 H4).bind fun z7 => (stv 21 z7.2 a1 12 z7.1).bind fun H8 => jX3_addQuestion_39 a0 H8)
  else some ((-4), z1.2))
set_option maxHeartbeats 4000000 in
theorem m_X3_addQuestion (l : Launch) (a0 a1 : Int) (H : PH) (rr : Int) (HH : PH) (h : f_X3_addQuestion a0 a1 H = some (rr, HH)) : CT l yX3_addQuestion cX3_addQuestion 2 (some .int) 1 21 [vr a0, vr a1] H (some (vi rr)) HH := by
  refine CT.of RX3 (by decide) rfl [some (vr a0), some (vr a1)] rfl rfl ?_
  intro E F q hn hf hl hm
  unfold f_X3_addQuestion at h
  obtain ⟨hv, h⟩ := vm_spec h
  refine pw_aload_n (pc := 0) F dX3_addQuestion_0 rfl ?_
  obtain ⟨z1, ez1, h⟩ := bnd h
  refine pw_callV (pc := 1) (as := []) (st := []) (r := (some (vi z1.1))) F 34 3 (by decide) rfl (fun l => m_X3_questionsAreFull l a0 H z1.1 z1.2 ez1) g_9f3eb9c3cd g_ce784a9137 g_0604d5dbe4 g_106b72596f g_78e42c8fc4 hd_X3_questionsAreFull (rm_ok hf hl (by decide) (by decide)) rfl (vm_spec ez1).1 dX3_addQuestion_1 rfl (stk' := [vi z1.1]) rfl ?_
  refine pw_if_eq (pc := 4) F 10 dX3_addQuestion_4 (by decide) (fun hc => ?_) (fun hc => ?_)
  · have h := iteT hc h
    refine pw_aload_n (pc := 10) F dX3_addQuestion_10 rfl ?_
    obtain ⟨x2, ex2, h⟩ := bnd h
    refine pw_get (pc := 11) F 3 0 11 (by decide) (by decide) g_b400760f80 inl_3 2 rfl dX3_addQuestion_11 ex2 ?_
    refine pw_aload_n (pc := 14) F dX3_addQuestion_14 rfl ?_
    obtain ⟨x3, ex3, h⟩ := bnd h
    refine pw_get (pc := 15) F 3 1 27 (by decide) (by decide) g_be38874c85 inl_3 0 rfl dX3_addQuestion_15 ex3 ?_
    refine pw_aload_n (pc := 18) F dX3_addQuestion_18 rfl ?_
    obtain ⟨H4, eH4, h⟩ := bnd h
    refine pw_aast (pc := 19) F 6 5 (by decide) ⟨rfl, by decide⟩ dX3_addQuestion_19 (sta_spec eH4).2 (sta_spec eH4).1 ?_
    refine pw_aload_n (pc := 20) F dX3_addQuestion_20 rfl ?_
    obtain ⟨x5, ex5, h⟩ := bnd h
    refine pw_get (pc := 21) F 5 2 38 (by decide) (by decide) g_44b2781333 inl_5 0 rfl dX3_addQuestion_21 ex5 ?_
    refine pw_if_eq (pc := 24) F 39 dX3_addQuestion_24 (by decide) (fun hc => ?_) (fun hc => ?_)
    · have h := iteT hc h
      exact pw_mask [true, false] (ls' := [some (vr a0), none]) rfl (jX3_addQuestion_39_ok F q hn hf hl a0 H4 h)
    · have h := iteF hc h
      refine pw_aload_n (pc := 27) F dX3_addQuestion_27 rfl ?_
      refine pw_aload_n (pc := 28) F dX3_addQuestion_28 rfl ?_
      refine pw_aload_n (pc := 29) F dX3_addQuestion_29 rfl ?_
      obtain ⟨x6, ex6, h⟩ := bnd h
      refine pw_get (pc := 30) F 3 1 27 (by decide) (by decide) g_be38874c85 inl_3 0 rfl dX3_addQuestion_30 ex6 ?_
      obtain ⟨z7, ez7, h⟩ := bnd h
      refine pw_callV (pc := 33) (as := [vi x6]) (st := [vr a1]) (r := (some (vi z7.1))) F 41 3 (by decide) rfl (fun l => m_X3_addStep l a0 x6 H4 z7.1 z7.2 ez7) g_9a15c5745a g_7d14aa49ff g_cdb6d561d8 g_106b72596f g_7084beed68 hd_X3_addStep (rm_ok hf hl (by decide) (by decide)) rfl (vm_spec ez7).1 dX3_addQuestion_33 rfl (stk' := [vi z7.1, vr a1]) rfl ?_
      obtain ⟨H8, eH8, h⟩ := bnd h
      refine pw_put (pc := 36) F 5 12 45 (by decide) (by decide) g_4bf7a8e1a2 inl_5 rfl 0 rfl dX3_addQuestion_36 trivial eH8 ?_
      exact pw_mask [true, false] (ls' := [some (vr a0), none]) rfl (jX3_addQuestion_39_ok F q hn hf hl a0 H8 h)
  · have h := iteF hc h
    refine pw_bipush (pc := 7) F (-4) dX3_addQuestion_7 (by decide) ?_
    cases h
    exact pw_iret (pc := 9) F q dX3_addQuestion_9
/-! HouseholdVault$Form.addCondition(LHouseholdVault$Condition;)I -/
theorem dX3_addCondition_0 : decode cX3_addCondition 0 = .ok (.aload_n 0, 1) := by decide +kernel
theorem dX3_addCondition_1 : decode cX3_addCondition 1 = .ok (.aload_n 1, 1) := by decide +kernel
theorem dX3_addCondition_2 : decode cX3_addCondition 2 = .ok (.getfield 48, 3) := by decide +kernel
theorem dX3_addCondition_5 : decode cX3_addCondition 5 = .ok (.invokevirtual 51, 3) := by decide +kernel
theorem dX3_addCondition_8 : decode cX3_addCondition 8 = .ok (.ifCond .eq 6, 3) := by decide +kernel
theorem dX3_addCondition_11 : decode cX3_addCondition 11 = .ok (.bipush (-4), 2) := by decide +kernel
theorem dX3_addCondition_13 : decode cX3_addCondition 13 = .ok (.ireturn, 1) := by decide +kernel
theorem dX3_addCondition_14 : decode cX3_addCondition 14 = .ok (.aload_n 0, 1) := by decide +kernel
theorem dX3_addCondition_15 : decode cX3_addCondition 15 = .ok (.getfield 19, 3) := by decide +kernel
theorem dX3_addCondition_18 : decode cX3_addCondition 18 = .ok (.aload_n 0, 1) := by decide +kernel
theorem dX3_addCondition_19 : decode cX3_addCondition 19 = .ok (.getfield 31, 3) := by decide +kernel
theorem dX3_addCondition_22 : decode cX3_addCondition 22 = .ok (.aload_n 1, 1) := by decide +kernel
theorem dX3_addCondition_23 : decode cX3_addCondition 23 = .ok (.aastore, 1) := by decide +kernel
theorem dX3_addCondition_24 : decode cX3_addCondition 24 = .ok (.aload_n 0, 1) := by decide +kernel
theorem dX3_addCondition_25 : decode cX3_addCondition 25 = .ok (.bipush 24, 2) := by decide +kernel
theorem dX3_addCondition_27 : decode cX3_addCondition 27 = .ok (.aload_n 0, 1) := by decide +kernel
theorem dX3_addCondition_28 : decode cX3_addCondition 28 = .ok (.getfield 31, 3) := by decide +kernel
theorem dX3_addCondition_31 : decode cX3_addCondition 31 = .ok (.iadd, 1) := by decide +kernel
theorem dX3_addCondition_32 : decode cX3_addCondition 32 = .ok (.invokevirtual 41, 3) := by decide +kernel
theorem dX3_addCondition_35 : decode cX3_addCondition 35 = .ok (.pop, 1) := by decide +kernel
theorem dX3_addCondition_36 : decode cX3_addCondition 36 = .ok (.aload_n 0, 1) := by decide +kernel
theorem dX3_addCondition_37 : decode cX3_addCondition 37 = .ok (.dup, 1) := by decide +kernel
theorem dX3_addCondition_38 : decode cX3_addCondition 38 = .ok (.getfield 31, 3) := by decide +kernel
theorem dX3_addCondition_41 : decode cX3_addCondition 41 = .ok (.iconst 1, 1) := by decide +kernel
theorem dX3_addCondition_42 : decode cX3_addCondition 42 = .ok (.iadd, 1) := by decide +kernel
theorem dX3_addCondition_43 : decode cX3_addCondition 43 = .ok (.putfield 31, 3) := by decide +kernel
theorem dX3_addCondition_46 : decode cX3_addCondition 46 = .ok (.aload_n 0, 1) := by decide +kernel
theorem dX3_addCondition_47 : decode cX3_addCondition 47 = .ok (.getfield 31, 3) := by decide +kernel
theorem dX3_addCondition_50 : decode cX3_addCondition 50 = .ok (.iconst 1, 1) := by decide +kernel
theorem dX3_addCondition_51 : decode cX3_addCondition 51 = .ok (.isub, 1) := by decide +kernel
theorem dX3_addCondition_52 : decode cX3_addCondition 52 = .ok (.ireturn, 1) := by decide +kernel
def f_X3_addCondition (a0 a1 : Int) (H : PH) : RO := vm 3 a0 H <|
  (ld 16 H a1 5).bind fun x1 => (f_X3_conditionsAreFull a0 x1 H).bind fun z2 => (if z2.1 = 0 then (ld 19 z2.2 a0 2).bind fun x3 => (ld 19 z2.2 a0 3).bind fun x4 => (sta 3 0 z2.2 x3 x4 a1).bind fun H5 => (ld 19 H5 a0 3).bind fun x6 => (f_X3_addStep a0 (w32 (24 + x6)) H5).bind fun z7 => (ld 19 z7.2 a0 3).bind fun x8 => (stv 19 z7.2 a0 3 (w32 (x8 + 1))).bind fun H9 => (ld 19 H9 a0 3).bind fun x10 => some ((w32 (x10 - 1)), H9)
  else some ((-4), z2.2))
set_option maxHeartbeats 4000000 in
theorem m_X3_addCondition (l : Launch) (a0 a1 : Int) (H : PH) (rr : Int) (HH : PH) (h : f_X3_addCondition a0 a1 H = some (rr, HH)) : CT l yX3_addCondition cX3_addCondition 2 (some .int) 1 21 [vr a0, vr a1] H (some (vi rr)) HH := by
  refine CT.of RX3 (by decide) rfl [some (vr a0), some (vr a1)] rfl rfl ?_
  intro E F q hn hf hl hm
  unfold f_X3_addCondition at h
  obtain ⟨hv, h⟩ := vm_spec h
  refine pw_aload_n (pc := 0) F dX3_addCondition_0 rfl ?_
  refine pw_aload_n (pc := 1) F dX3_addCondition_1 rfl ?_
  obtain ⟨x1, ex1, h⟩ := bnd h
  refine pw_get (pc := 2) F 0 5 48 (by decide) (by decide) g_d0c4430d92 inl_0 0 rfl dX3_addCondition_2 ex1 ?_
  obtain ⟨z2, ez2, h⟩ := bnd h
  refine pw_callV (pc := 5) (as := [vi x1]) (st := []) (r := (some (vi z2.1))) F 51 3 (by decide) rfl (fun l => m_X3_conditionsAreFull l a0 x1 H z2.1 z2.2 ez2) g_2ddaef1b07 g_bb5e9f492c g_c1a0ce728c g_106b72596f g_018437c032 hd_X3_conditionsAreFull (rm_ok hf hl (by decide) (by decide)) rfl (vm_spec ez2).1 dX3_addCondition_5 rfl (stk' := [vi z2.1]) rfl ?_
  refine pw_if_eq (pc := 8) F 14 dX3_addCondition_8 (by decide) (fun hc => ?_) (fun hc => ?_)
  · have h := iteT hc h
    refine pw_aload_n (pc := 14) F dX3_addCondition_14 rfl ?_
    obtain ⟨x3, ex3, h⟩ := bnd h
    refine pw_get (pc := 15) F 3 2 19 (by decide) (by decide) g_5bdd928727 inl_3 2 rfl dX3_addCondition_15 ex3 ?_
    refine pw_aload_n (pc := 18) F dX3_addCondition_18 rfl ?_
    obtain ⟨x4, ex4, h⟩ := bnd h
    refine pw_get (pc := 19) F 3 3 31 (by decide) (by decide) g_35b94c9a1b inl_3 0 rfl dX3_addCondition_19 ex4 ?_
    refine pw_aload_n (pc := 22) F dX3_addCondition_22 rfl ?_
    obtain ⟨H5, eH5, h⟩ := bnd h
    refine pw_aast (pc := 23) F 3 0 (by decide) ⟨rfl, by decide⟩ dX3_addCondition_23 (sta_spec eH5).2 (sta_spec eH5).1 ?_
    refine pw_aload_n (pc := 24) F dX3_addCondition_24 rfl ?_
    refine pw_bipush (pc := 25) F 24 dX3_addCondition_25 (by decide) ?_
    refine pw_aload_n (pc := 27) F dX3_addCondition_27 rfl ?_
    obtain ⟨x6, ex6, h⟩ := bnd h
    refine pw_get (pc := 28) F 3 3 31 (by decide) (by decide) g_35b94c9a1b inl_3 0 rfl dX3_addCondition_28 ex6 ?_
    refine pw_iadd (pc := 31) F dX3_addCondition_31 ?_
    obtain ⟨z7, ez7, h⟩ := bnd h
    refine pw_callV (pc := 32) (as := [vi (w32 (24 + x6))]) (st := []) (r := (some (vi z7.1))) F 41 3 (by decide) rfl (fun l => m_X3_addStep l a0 (w32 (24 + x6)) H5 z7.1 z7.2 ez7) g_9a15c5745a g_7d14aa49ff g_cdb6d561d8 g_106b72596f g_7084beed68 hd_X3_addStep (rm_ok hf hl (by decide) (by decide)) rfl (vm_spec ez7).1 dX3_addCondition_32 rfl (stk' := [vi z7.1]) rfl ?_
    refine pw_pop (pc := 35) F dX3_addCondition_35 (pvne rfl) ?_
    refine pw_aload_n (pc := 36) F dX3_addCondition_36 rfl ?_
    refine pw_dup (pc := 37) F dX3_addCondition_37 (pvne rfl) ?_
    obtain ⟨x8, ex8, h⟩ := bnd h
    refine pw_get (pc := 38) F 3 3 31 (by decide) (by decide) g_35b94c9a1b inl_3 0 rfl dX3_addCondition_38 ex8 ?_
    refine pw_iconst (pc := 41) F 1 dX3_addCondition_41 (by decide) ?_
    refine pw_iadd (pc := 42) F dX3_addCondition_42 ?_
    obtain ⟨H9, eH9, h⟩ := bnd h
    refine pw_put (pc := 43) F 3 3 31 (by decide) (by decide) g_35b94c9a1b inl_3 rfl 0 rfl dX3_addCondition_43 trivial eH9 ?_
    refine pw_aload_n (pc := 46) F dX3_addCondition_46 rfl ?_
    obtain ⟨x10, ex10, h⟩ := bnd h
    refine pw_get (pc := 47) F 3 3 31 (by decide) (by decide) g_35b94c9a1b inl_3 0 rfl dX3_addCondition_47 ex10 ?_
    refine pw_iconst (pc := 50) F 1 dX3_addCondition_50 (by decide) ?_
    refine pw_isub (pc := 51) F dX3_addCondition_51 ?_
    cases h
    exact pw_iret (pc := 52) F q dX3_addCondition_52
  · have h := iteF hc h
    refine pw_bipush (pc := 11) F (-4) dX3_addCondition_11 (by decide) ?_
    cases h
    exact pw_iret (pc := 13) F q dX3_addCondition_13
/-! HouseholdVault$Form.hasMarked()Z -/
theorem dX3_hasMarked_0 : decode cX3_hasMarked 0 = .ok (.iconst 0, 1) := by decide +kernel
theorem dX3_hasMarked_1 : decode cX3_hasMarked 1 = .ok (.istore_n 1, 1) := by decide +kernel
theorem dX3_hasMarked_2 : decode cX3_hasMarked 2 = .ok (.iload_n 1, 1) := by decide +kernel
theorem dX3_hasMarked_3 : decode cX3_hasMarked 3 = .ok (.aload_n 0, 1) := by decide +kernel
theorem dX3_hasMarked_4 : decode cX3_hasMarked 4 = .ok (.getfield 27, 3) := by decide +kernel
theorem dX3_hasMarked_7 : decode cX3_hasMarked 7 = .ok (.if_icmp .ge 23, 3) := by decide +kernel
theorem dX3_hasMarked_10 : decode cX3_hasMarked 10 = .ok (.aload_n 0, 1) := by decide +kernel
theorem dX3_hasMarked_11 : decode cX3_hasMarked 11 = .ok (.getfield 11, 3) := by decide +kernel
theorem dX3_hasMarked_14 : decode cX3_hasMarked 14 = .ok (.iload_n 1, 1) := by decide +kernel
theorem dX3_hasMarked_15 : decode cX3_hasMarked 15 = .ok (.aaload, 1) := by decide +kernel
theorem dX3_hasMarked_16 : decode cX3_hasMarked 16 = .ok (.getfield 58, 3) := by decide +kernel
theorem dX3_hasMarked_19 : decode cX3_hasMarked 19 = .ok (.ifCond .eq 5, 3) := by decide +kernel
theorem dX3_hasMarked_22 : decode cX3_hasMarked 22 = .ok (.iconst 1, 1) := by decide +kernel
theorem dX3_hasMarked_23 : decode cX3_hasMarked 23 = .ok (.ireturn, 1) := by decide +kernel
theorem dX3_hasMarked_24 : decode cX3_hasMarked 24 = .ok (.iinc 1 1, 3) := by decide +kernel
theorem dX3_hasMarked_27 : decode cX3_hasMarked 27 = .ok (.goto (-25), 3) := by decide +kernel
theorem dX3_hasMarked_30 : decode cX3_hasMarked 30 = .ok (.iconst 0, 1) := by decide +kernel
theorem dX3_hasMarked_31 : decode cX3_hasMarked 31 = .ok (.ireturn, 1) := by decide +kernel
def lX3_hasMarked_2 (p0 : Int) (self2 : Int → PH → RO) (p1 : Int) (H : PH) : RO :=
  (ld 19 H p0 1).bind fun x1 => (if p1 ≥ x1 then some (0, H)
  else (ld 19 H p0 0).bind fun x2 => (ld 6 H x2 p1).bind fun x3 => (ld 21 H x3 11).bind fun x4 => (if x4 = 0 then self2 (w32 (p1 + 1)) H
  else some (1, H)))
set_option maxHeartbeats 4000000 in
theorem lX3_hasMarked_2_ok {E : PE} {rr : Int} {HH : PH} (F : FX E cX3_hasMarked RX3) (q : QE E (some (vi rr)) HH (some .boolean)) (hn : nLof E = 2) (hf : (roomOf E).frames = 0) (hl : (roomOf E).locals = 0) (p0 : Int) : ∀ (n : Nat) (p1 : Int) (H : PH), lq1 (lX3_hasMarked_2 p0) n p1 H = some (rr, HH) → PW E 2 [some (vr p0), some (vi p1)] [] H := by
  refine lq1_ind (P := fun p1 H => PW E 2 [some (vr p0), some (vi p1)] [] H) ?_
  intro self2 ih2 p1 H h
  unfold lX3_hasMarked_2 at h
  refine pw_iload_n (pc := 2) F dX3_hasMarked_2 rfl ?_
  refine pw_aload_n (pc := 3) F dX3_hasMarked_3 rfl ?_
  obtain ⟨x1, ex1, h⟩ := bnd h
  refine pw_get (pc := 4) F 3 1 27 (by decide) (by decide) g_be38874c85 inl_3 0 rfl dX3_hasMarked_4 ex1 ?_
  refine pw_icmp_ge (pc := 7) F 30 dX3_hasMarked_7 (by decide) (fun hc => ?_) (fun hc => ?_)
  · have h := iteT hc h
    refine pw_iconst (pc := 30) F 0 dX3_hasMarked_30 (by decide) ?_
    cases h
    exact pw_zret (pc := 31) F q (by decide) dX3_hasMarked_31
  · have h := iteF hc h
    refine pw_aload_n (pc := 10) F dX3_hasMarked_10 rfl ?_
    obtain ⟨x2, ex2, h⟩ := bnd h
    refine pw_get (pc := 11) F 3 0 11 (by decide) (by decide) g_b400760f80 inl_3 2 rfl dX3_hasMarked_11 ex2 ?_
    refine pw_iload_n (pc := 14) F dX3_hasMarked_14 rfl ?_
    obtain ⟨x3, ex3, h⟩ := bnd h
    refine pw_aald (pc := 15) F 6 (by decide) dX3_hasMarked_15 ex3 ?_
    obtain ⟨x4, ex4, h⟩ := bnd h
    refine pw_get (pc := 16) F 5 11 58 (by decide) (by decide) g_7e990cd7f9 inl_5 0 rfl dX3_hasMarked_16 ex4 ?_
    refine pw_if_eq (pc := 19) F 24 dX3_hasMarked_19 (by decide) (fun hc => ?_) (fun hc => ?_)
    · have h := iteT hc h
      refine pw_iinc (pc := 24) F dX3_hasMarked_24 rfl (lt_nl hn (by decide)) [some (vr p0), some (vi (w32 (p1 + 1)))] rfl (by decide) ?_
      refine pw_goto (pc := 27) F 2 dX3_hasMarked_27 (by decide) ?_
      exact pw_mask [true, true] (ls' := [some (vr p0), some (vi (w32 (p1 + 1)))]) rfl (ih2 (w32 (p1 + 1)) H h)
    · have h := iteF hc h
      refine pw_iconst (pc := 22) F 1 dX3_hasMarked_22 (by decide) ?_
      cases h
      exact pw_zret (pc := 23) F q (by decide) dX3_hasMarked_23
def f_X3_hasMarked (a0 : Int) (H : PH) : RO := vm 3 a0 H <|
  lq1 (lX3_hasMarked_2 a0) 6000 0 H
set_option maxHeartbeats 4000000 in
theorem m_X3_hasMarked (l : Launch) (a0 : Int) (H : PH) (rr : Int) (HH : PH) (h : f_X3_hasMarked a0 H = some (rr, HH)) : CT l yX3_hasMarked cX3_hasMarked 2 (some .boolean) 0 0 [vr a0] H (some (vi rr)) HH := by
  refine CT.of RX3 (by decide) rfl [some (vr a0), none] rfl rfl ?_
  intro E F q hn hf hl hm
  unfold f_X3_hasMarked at h
  obtain ⟨hv, h⟩ := vm_spec h
  refine pw_iconst (pc := 0) F 0 dX3_hasMarked_0 (by decide) ?_
  refine pw_istore_n (pc := 1) F dX3_hasMarked_1 (lt_nl hn (by decide)) [some (vr a0), some (vi 0)] rfl ?_
  exact pw_mask [true, true] (ls' := [some (vr a0), some (vi 0)]) rfl (lX3_hasMarked_2_ok F q hn hf hl a0  6000 0 H h)
/-! HouseholdVault.spot(II)I -/
theorem dX8_spot_0 : decode cX8_spot 0 = .ok (.iload_n 0, 1) := by decide +kernel
theorem dX8_spot_1 : decode cX8_spot 1 = .ok (.iconst 5, 1) := by decide +kernel
theorem dX8_spot_2 : decode cX8_spot 2 = .ok (.imul, 1) := by decide +kernel
theorem dX8_spot_3 : decode cX8_spot 3 = .ok (.iload_n 1, 1) := by decide +kernel
theorem dX8_spot_4 : decode cX8_spot 4 = .ok (.ifCond .le 7, 3) := by decide +kernel
theorem dX8_spot_7 : decode cX8_spot 7 = .ok (.iload_n 1, 1) := by decide +kernel
theorem dX8_spot_8 : decode cX8_spot 8 = .ok (.goto 4, 3) := by decide +kernel
theorem dX8_spot_11 : decode cX8_spot 11 = .ok (.iconst 0, 1) := by decide +kernel
theorem dX8_spot_12 : decode cX8_spot 12 = .ok (.iadd, 1) := by decide +kernel
theorem dX8_spot_13 : decode cX8_spot 13 = .ok (.ireturn, 1) := by decide +kernel
def jX8_spot_12 (s0 s1 : Int) (H : PH) : RO :=
  some ((w32 (s0 + s1)), H)
set_option maxHeartbeats 4000000 in
theorem jX8_spot_12_ok {E : PE} {rr : Int} {HH : PH} (F : FX E cX8_spot RX8) (q : QE E (some (vi rr)) HH (some .int)) (hn : nLof E = 2) (hf : (roomOf E).frames = 0) (hl : (roomOf E).locals = 0) (s0 s1 : Int) (H : PH) (h : jX8_spot_12 s0 s1 H = some (rr, HH)) : PW E 12 [none, none] [vi s1, vi s0] H := by
  unfold jX8_spot_12 at h
  refine pw_iadd (pc := 12) F dX8_spot_12 ?_
  cases h
  exact pw_iret (pc := 13) F q dX8_spot_13
def f_X8_spot (a0 a1 : Int) (H : PH) : RO :=
  (if a1 ≤ 0 then jX8_spot_12 (w32 (a0 * 5)) 0 H
  else jX8_spot_12 (w32 (a0 * 5)) a1 H)
set_option maxHeartbeats 4000000 in
theorem m_X8_spot (l : Launch) (a0 a1 : Int) (H : PH) (rr : Int) (HH : PH) (h : f_X8_spot a0 a1 H = some (rr, HH)) : CT l yX8_spot cX8_spot 2 (some .int) 0 0 [vi a0, vi a1] H (some (vi rr)) HH := by
  refine CT.of RX8 (by decide) rfl [some (vi a0), some (vi a1)] rfl rfl ?_
  intro E F q hn hf hl hm
  unfold f_X8_spot at h
  refine pw_iload_n (pc := 0) F dX8_spot_0 rfl ?_
  refine pw_iconst (pc := 1) F 5 dX8_spot_1 (by decide) ?_
  refine pw_imul (pc := 2) F dX8_spot_2 ?_
  refine pw_iload_n (pc := 3) F dX8_spot_3 rfl ?_
  refine pw_if_le (pc := 4) F 11 dX8_spot_4 (by decide) (fun hc => ?_) (fun hc => ?_)
  · have h := iteT hc h
    refine pw_iconst (pc := 11) F 0 dX8_spot_11 (by decide) ?_
    exact pw_mask [false, false] (ls' := [none, none]) rfl (jX8_spot_12_ok F q hn hf hl (w32 (a0 * 5)) 0 H h)
  · have h := iteF hc h
    refine pw_iload_n (pc := 7) F dX8_spot_7 rfl ?_
    refine pw_goto (pc := 8) F 12 dX8_spot_8 (by decide) ?_
    exact pw_mask [false, false] (ls' := [none, none]) rfl (jX8_spot_12_ok F q hn hf hl (w32 (a0 * 5)) a1 H h)
/-! HouseholdVault$Sheet.persons(I)I -/
theorem dX6_persons_0 : decode cX6_persons 0 = .ok (.aload_n 0, 1) := by decide +kernel
theorem dX6_persons_1 : decode cX6_persons 1 = .ok (.getfield 9, 3) := by decide +kernel
theorem dX6_persons_4 : decode cX6_persons 4 = .ok (.iload_n 1, 1) := by decide +kernel
theorem dX6_persons_5 : decode cX6_persons 5 = .ok (.iconst (-1), 1) := by decide +kernel
theorem dX6_persons_6 : decode cX6_persons 6 = .ok (.invokestatic 41, 3) := by decide +kernel
theorem dX6_persons_9 : decode cX6_persons 9 = .ok (.laload, 1) := by decide +kernel
theorem dX6_persons_10 : decode cX6_persons 10 = .ok (.l2i, 1) := by decide +kernel
theorem dX6_persons_11 : decode cX6_persons 11 = .ok (.ireturn, 1) := by decide +kernel
def f_X6_persons (a0 a1 : Int) (H : PH) : RO := vm 6 a0 H <|
  (ld 22 H a0 0).bind fun x1 => (f_X8_spot a1 (-1) H).bind fun z2 => (ld 1 z2.2 x1 z2.1).bind fun x3 => some ((w32 x3), z2.2)
set_option maxHeartbeats 4000000 in
theorem m_X6_persons (l : Launch) (a0 a1 : Int) (H : PH) (rr : Int) (HH : PH) (h : f_X6_persons a0 a1 H = some (rr, HH)) : CT l yX6_persons cX6_persons 2 (some .int) 1 21 [vr a0, vi a1] H (some (vi rr)) HH := by
  refine CT.of RX6 (by decide) rfl [some (vr a0), some (vi a1)] rfl rfl ?_
  intro E F q hn hf hl hm
  unfold f_X6_persons at h
  obtain ⟨hv, h⟩ := vm_spec h
  refine pw_aload_n (pc := 0) F dX6_persons_0 rfl ?_
  obtain ⟨x1, ex1, h⟩ := bnd h
  refine pw_get (pc := 1) F 6 0 9 (by decide) (by decide) g_72f7a14260 inl_6 2 rfl dX6_persons_1 ex1 ?_
  refine pw_iload_n (pc := 4) F dX6_persons_4 rfl ?_
  refine pw_iconst (pc := 5) F (-1) dX6_persons_5 (by decide) ?_
  obtain ⟨z2, ez2, h⟩ := bnd h
  refine pw_callSN (pc := 6) (as := [vi a1, vi (-1)]) (st := [vr x1]) (r := (some (vi z2.1))) F 41 RX8 (fun l => m_X8_spot l a1 (-1) H z2.1 z2.2 ez2) (fun _ _ _ h => h.2.2.2.2.2.2.1) g_aa0997f699 g_99e03e18e2 g_0d0469f624 hd_X8_spot (rm_ok hf hl (by decide) (by decide)) rfl dX6_persons_6 rfl (stk' := [vi z2.1, vr x1]) rfl ?_
  obtain ⟨x3, ex3, h⟩ := bnd h
  refine pw_lald (pc := 9) F dX6_persons_9 ex3 ?_
  refine pw_l2i (pc := 10) F dX6_persons_10 ?_
  cases h
  exact pw_iret (pc := 11) F q dX6_persons_11
/-! HouseholdVault.placesOf(LHouseholdVault$Sheet;I)I -/
theorem dX8_placesOf_0 : decode cX8_placesOf 0 = .ok (.iload_n 1, 1) := by decide +kernel
theorem dX8_placesOf_1 : decode cX8_placesOf 1 = .ok (.iconst (-1), 1) := by decide +kernel
theorem dX8_placesOf_2 : decode cX8_placesOf 2 = .ok (.if_icmp .ne 7, 3) := by decide +kernel
theorem dX8_placesOf_5 : decode cX8_placesOf 5 = .ok (.iconst 1, 1) := by decide +kernel
theorem dX8_placesOf_6 : decode cX8_placesOf 6 = .ok (.goto 8, 3) := by decide +kernel
theorem dX8_placesOf_9 : decode cX8_placesOf 9 = .ok (.aload_n 0, 1) := by decide +kernel
theorem dX8_placesOf_10 : decode cX8_placesOf 10 = .ok (.iload_n 1, 1) := by decide +kernel
theorem dX8_placesOf_11 : decode cX8_placesOf 11 = .ok (.invokevirtual 183, 3) := by decide +kernel
theorem dX8_placesOf_14 : decode cX8_placesOf 14 = .ok (.ireturn, 1) := by decide +kernel
def f_X8_placesOf (a0 a1 : Int) (H : PH) : RO :=
  (if a1 ≠ (-1) then (f_X6_persons a0 a1 H).bind fun z1 => some (z1.1, z1.2)
  else some (1, H))
set_option maxHeartbeats 4000000 in
theorem m_X8_placesOf (l : Launch) (a0 a1 : Int) (H : PH) (rr : Int) (HH : PH) (h : f_X8_placesOf a0 a1 H = some (rr, HH)) : CT l yX8_placesOf cX8_placesOf 2 (some .int) 2 42 [vr a0, vi a1] H (some (vi rr)) HH := by
  refine CT.of RX8 (by decide) rfl [some (vr a0), some (vi a1)] rfl rfl ?_
  intro E F q hn hf hl hm
  unfold f_X8_placesOf at h
  refine pw_iload_n (pc := 0) F dX8_placesOf_0 rfl ?_
  refine pw_iconst (pc := 1) F (-1) dX8_placesOf_1 (by decide) ?_
  refine pw_icmp_ne (pc := 2) F 9 dX8_placesOf_2 (by decide) (fun hc => ?_) (fun hc => ?_)
  · have h := iteT hc h
    refine pw_aload_n (pc := 9) F dX8_placesOf_9 rfl ?_
    refine pw_iload_n (pc := 10) F dX8_placesOf_10 rfl ?_
    obtain ⟨z1, ez1, h⟩ := bnd h
    refine pw_callV (pc := 11) (as := [vi a1]) (st := []) (r := (some (vi z1.1))) F 183 6 (by decide) rfl (fun l => m_X6_persons l a0 a1 H z1.1 z1.2 ez1) g_da7a44ffd1 g_57e4f7bfca g_eafb5ccad4 g_6d91b6d2eb g_7de7b516aa hd_X6_persons (rm_ok hf hl (by decide) (by decide)) rfl (vm_spec ez1).1 dX8_placesOf_11 rfl (stk' := [vi z1.1]) rfl ?_
    cases h
    exact pw_iret (pc := 14) F q dX8_placesOf_14
  · have h := iteF hc h
    refine pw_iconst (pc := 5) F 1 dX8_placesOf_5 (by decide) ?_
    refine pw_goto (pc := 6) F 14 dX8_placesOf_6 (by decide) ?_
    cases h
    exact pw_iret (pc := 14) F q dX8_placesOf_14
/-! HouseholdVault$Form.spread(LHouseholdVault$Household;II)I -/
theorem dX3_spread_0 : decode cX3_spread 0 = .ok (.aload_n 0, 1) := by decide +kernel
theorem dX3_spread_1 : decode cX3_spread 1 = .ok (.getfield 19, 3) := by decide +kernel
theorem dX3_spread_4 : decode cX3_spread 4 = .ok (.iload_n 2, 1) := by decide +kernel
theorem dX3_spread_5 : decode cX3_spread 5 = .ok (.aaload, 1) := by decide +kernel
theorem dX3_spread_6 : decode cX3_spread 6 = .ok (.getfield 137, 3) := by decide +kernel
theorem dX3_spread_9 : decode cX3_spread 9 = .ok (.iconst (-1), 1) := by decide +kernel
theorem dX3_spread_10 : decode cX3_spread 10 = .ok (.if_icmp .eq 10, 3) := by decide +kernel
theorem dX3_spread_13 : decode cX3_spread 13 = .ok (.aload_n 1, 1) := by decide +kernel
theorem dX3_spread_14 : decode cX3_spread 14 = .ok (.getfield 89, 3) := by decide +kernel
theorem dX3_spread_17 : decode cX3_spread 17 = .ok (.iload_n 2, 1) := by decide +kernel
theorem dX3_spread_18 : decode cX3_spread 18 = .ok (.iaload, 1) := by decide +kernel
theorem dX3_spread_19 : decode cX3_spread 19 = .ok (.ireturn, 1) := by decide +kernel
theorem dX3_spread_20 : decode cX3_spread 20 = .ok (.aload_n 1, 1) := by decide +kernel
theorem dX3_spread_21 : decode cX3_spread 21 = .ok (.getfield 89, 3) := by decide +kernel
theorem dX3_spread_24 : decode cX3_spread 24 = .ok (.iload_n 2, 1) := by decide +kernel
theorem dX3_spread_25 : decode cX3_spread 25 = .ok (.iaload, 1) := by decide +kernel
theorem dX3_spread_26 : decode cX3_spread 26 = .ok (.ifCond .ne 7, 3) := by decide +kernel
theorem dX3_spread_29 : decode cX3_spread 29 = .ok (.iconst 0, 1) := by decide +kernel
theorem dX3_spread_30 : decode cX3_spread 30 = .ok (.goto 4, 3) := by decide +kernel
theorem dX3_spread_33 : decode cX3_spread 33 = .ok (.iload_n 3, 1) := by decide +kernel
theorem dX3_spread_34 : decode cX3_spread 34 = .ok (.ireturn, 1) := by decide +kernel
def f_X3_spread (a0 a1 a2 a3 : Int) (H : PH) : RO := vm 3 a0 H <|
  (ld 19 H a0 2).bind fun x1 => (ld 3 H x1 a2).bind fun x2 => (ld 16 H x2 4).bind fun x3 => (if x3 = (-1) then (ld 20 H a1 1).bind fun x4 => (ld 0 H x4 a2).bind fun x5 => (if x5 ≠ 0 then some (a3, H)
  else some (0, H))
  else (ld 20 H a1 1).bind fun x6 => (ld 0 H x6 a2).bind fun x7 => some (x7, H))
set_option maxHeartbeats 4000000 in
theorem m_X3_spread (l : Launch) (a0 a1 a2 a3 : Int) (H : PH) (rr : Int) (HH : PH) (h : f_X3_spread a0 a1 a2 a3 H = some (rr, HH)) : CT l yX3_spread cX3_spread 4 (some .int) 0 0 [vr a0, vr a1, vi a2, vi a3] H (some (vi rr)) HH := by
  refine CT.of RX3 (by decide) rfl [some (vr a0), some (vr a1), some (vi a2), some (vi a3)] rfl rfl ?_
  intro E F q hn hf hl hm
  unfold f_X3_spread at h
  obtain ⟨hv, h⟩ := vm_spec h
  refine pw_aload_n (pc := 0) F dX3_spread_0 rfl ?_
  obtain ⟨x1, ex1, h⟩ := bnd h
  refine pw_get (pc := 1) F 3 2 19 (by decide) (by decide) g_5bdd928727 inl_3 2 rfl dX3_spread_1 ex1 ?_
  refine pw_iload_n (pc := 4) F dX3_spread_4 rfl ?_
  obtain ⟨x2, ex2, h⟩ := bnd h
  refine pw_aald (pc := 5) F 3 (by decide) dX3_spread_5 ex2 ?_
  obtain ⟨x3, ex3, h⟩ := bnd h
  refine pw_get (pc := 6) F 0 4 137 (by decide) (by decide) g_2531f3ea29 inl_0 0 rfl dX3_spread_6 ex3 ?_
  refine pw_iconst (pc := 9) F (-1) dX3_spread_9 (by decide) ?_
  refine pw_icmp_eq (pc := 10) F 20 dX3_spread_10 (by decide) (fun hc => ?_) (fun hc => ?_)
  · have h := iteT hc h
    refine pw_aload_n (pc := 20) F dX3_spread_20 rfl ?_
    obtain ⟨x4, ex4, h⟩ := bnd h
    refine pw_get (pc := 21) F 4 1 89 (by decide) (by decide) g_55662c9da8 inl_4 2 rfl dX3_spread_21 ex4 ?_
    refine pw_iload_n (pc := 24) F dX3_spread_24 rfl ?_
    obtain ⟨x5, ex5, h⟩ := bnd h
    refine pw_iald (pc := 25) F dX3_spread_25 ex5 ?_
    refine pw_if_ne (pc := 26) F 33 dX3_spread_26 (by decide) (fun hc => ?_) (fun hc => ?_)
    · have h := iteT hc h
      refine pw_iload_n (pc := 33) F dX3_spread_33 rfl ?_
      cases h
      exact pw_iret (pc := 34) F q dX3_spread_34
    · have h := iteF hc h
      refine pw_iconst (pc := 29) F 0 dX3_spread_29 (by decide) ?_
      refine pw_goto (pc := 30) F 34 dX3_spread_30 (by decide) ?_
      cases h
      exact pw_iret (pc := 34) F q dX3_spread_34
  · have h := iteF hc h
    refine pw_aload_n (pc := 13) F dX3_spread_13 rfl ?_
    obtain ⟨x6, ex6, h⟩ := bnd h
    refine pw_get (pc := 14) F 4 1 89 (by decide) (by decide) g_55662c9da8 inl_4 2 rfl dX3_spread_14 ex6 ?_
    refine pw_iload_n (pc := 17) F dX3_spread_17 rfl ?_
    obtain ⟨x7, ex7, h⟩ := bnd h
    refine pw_iald (pc := 18) F dX3_spread_18 ex7 ?_
    cases h
    exact pw_iret (pc := 19) F q dX3_spread_19
/-! HouseholdVault$Form.bitsOfAsk(LHouseholdVault$Sheet;LHouseholdVault$Condition;I)I -/
theorem dX3_bitsOfAsk_0 : decode cX3_bitsOfAsk 0 = .ok (.aload_n 0, 1) := by decide +kernel
theorem dX3_bitsOfAsk_1 : decode cX3_bitsOfAsk 1 = .ok (.getfield 11, 3) := by decide +kernel
theorem dX3_bitsOfAsk_4 : decode cX3_bitsOfAsk 4 = .ok (.aload_n 2, 1) := by decide +kernel
theorem dX3_bitsOfAsk_5 : decode cX3_bitsOfAsk 5 = .ok (.getfield 143, 3) := by decide +kernel
theorem dX3_bitsOfAsk_8 : decode cX3_bitsOfAsk 8 = .ok (.aaload, 1) := by decide +kernel
theorem dX3_bitsOfAsk_9 : decode cX3_bitsOfAsk 9 = .ok (.getfield 134, 3) := by decide +kernel
theorem dX3_bitsOfAsk_12 : decode cX3_bitsOfAsk 12 = .ok (.iconst 1, 1) := by decide +kernel
theorem dX3_bitsOfAsk_13 : decode cX3_bitsOfAsk 13 = .ok (.if_icmp .ne 7, 3) := by decide +kernel
theorem dX3_bitsOfAsk_16 : decode cX3_bitsOfAsk 16 = .ok (.iconst 1, 1) := by decide +kernel
theorem dX3_bitsOfAsk_17 : decode cX3_bitsOfAsk 17 = .ok (.goto 4, 3) := by decide +kernel
theorem dX3_bitsOfAsk_20 : decode cX3_bitsOfAsk 20 = .ok (.iconst 0, 1) := by decide +kernel
theorem dX3_bitsOfAsk_21 : decode cX3_bitsOfAsk 21 = .ok (.istore 4, 2) := by decide +kernel
theorem dX3_bitsOfAsk_23 : decode cX3_bitsOfAsk 23 = .ok (.iconst 0, 1) := by decide +kernel
theorem dX3_bitsOfAsk_24 : decode cX3_bitsOfAsk 24 = .ok (.istore 5, 2) := by decide +kernel
theorem dX3_bitsOfAsk_26 : decode cX3_bitsOfAsk 26 = .ok (.iconst 0, 1) := by decide +kernel
theorem dX3_bitsOfAsk_27 : decode cX3_bitsOfAsk 27 = .ok (.istore 6, 2) := by decide +kernel
theorem dX3_bitsOfAsk_29 : decode cX3_bitsOfAsk 29 = .ok (.iload 6, 2) := by decide +kernel
theorem dX3_bitsOfAsk_31 : decode cX3_bitsOfAsk 31 = .ok (.iload_n 3, 1) := by decide +kernel
theorem dX3_bitsOfAsk_32 : decode cX3_bitsOfAsk 32 = .ok (.if_icmp .ge 52, 3) := by decide +kernel
theorem dX3_bitsOfAsk_35 : decode cX3_bitsOfAsk 35 = .ok (.aload_n 2, 1) := by decide +kernel
theorem dX3_bitsOfAsk_36 : decode cX3_bitsOfAsk 36 = .ok (.getfield 143, 3) := by decide +kernel
theorem dX3_bitsOfAsk_39 : decode cX3_bitsOfAsk 39 = .ok (.iload 6, 2) := by decide +kernel
theorem dX3_bitsOfAsk_41 : decode cX3_bitsOfAsk 41 = .ok (.invokestatic 85, 3) := by decide +kernel
theorem dX3_bitsOfAsk_44 : decode cX3_bitsOfAsk 44 = .ok (.istore 7, 2) := by decide +kernel
theorem dX3_bitsOfAsk_46 : decode cX3_bitsOfAsk 46 = .ok (.aload_n 2, 1) := by decide +kernel
theorem dX3_bitsOfAsk_47 : decode cX3_bitsOfAsk 47 = .ok (.aload_n 1, 1) := by decide +kernel
theorem dX3_bitsOfAsk_48 : decode cX3_bitsOfAsk 48 = .ok (.getfield 113, 3) := by decide +kernel
theorem dX3_bitsOfAsk_51 : decode cX3_bitsOfAsk 51 = .ok (.iload 7, 2) := by decide +kernel
theorem dX3_bitsOfAsk_53 : decode cX3_bitsOfAsk 53 = .ok (.laload, 1) := by decide +kernel
theorem dX3_bitsOfAsk_54 : decode cX3_bitsOfAsk 54 = .ok (.aload_n 1, 1) := by decide +kernel
theorem dX3_bitsOfAsk_55 : decode cX3_bitsOfAsk 55 = .ok (.getfield 121, 3) := by decide +kernel
theorem dX3_bitsOfAsk_58 : decode cX3_bitsOfAsk 58 = .ok (.iload 7, 2) := by decide +kernel
theorem dX3_bitsOfAsk_60 : decode cX3_bitsOfAsk 60 = .ok (.iaload, 1) := by decide +kernel
theorem dX3_bitsOfAsk_61 : decode cX3_bitsOfAsk 61 = .ok (.iload 4, 2) := by decide +kernel
theorem dX3_bitsOfAsk_63 : decode cX3_bitsOfAsk 63 = .ok (.invokevirtual 161, 3) := by decide +kernel
theorem dX3_bitsOfAsk_66 : decode cX3_bitsOfAsk 66 = .ok (.ifCond .eq 12, 3) := by decide +kernel
theorem dX3_bitsOfAsk_69 : decode cX3_bitsOfAsk 69 = .ok (.iload 5, 2) := by decide +kernel
theorem dX3_bitsOfAsk_71 : decode cX3_bitsOfAsk 71 = .ok (.iconst 1, 1) := by decide +kernel
theorem dX3_bitsOfAsk_72 : decode cX3_bitsOfAsk 72 = .ok (.iload 6, 2) := by decide +kernel
theorem dX3_bitsOfAsk_74 : decode cX3_bitsOfAsk 74 = .ok (.ishl, 1) := by decide +kernel
theorem dX3_bitsOfAsk_75 : decode cX3_bitsOfAsk 75 = .ok (.ior, 1) := by decide +kernel
theorem dX3_bitsOfAsk_76 : decode cX3_bitsOfAsk 76 = .ok (.istore 5, 2) := by decide +kernel
theorem dX3_bitsOfAsk_78 : decode cX3_bitsOfAsk 78 = .ok (.iinc 6 1, 3) := by decide +kernel
theorem dX3_bitsOfAsk_81 : decode cX3_bitsOfAsk 81 = .ok (.goto (-52), 3) := by decide +kernel
theorem dX3_bitsOfAsk_84 : decode cX3_bitsOfAsk 84 = .ok (.iload 5, 2) := by decide +kernel
theorem dX3_bitsOfAsk_86 : decode cX3_bitsOfAsk 86 = .ok (.ireturn, 1) := by decide +kernel
def jX3_bitsOfAsk_78 (self29 : Int → Int → PH → RO) (p1 p2 p3 p4 p5 p6 : Int) (H : PH) : RO :=
  self29 p5 (w32 (p6 + 1)) H
set_option maxHeartbeats 4000000 in
theorem jX3_bitsOfAsk_78_ok {E : PE} {rr : Int} {HH : PH} (F : FX E cX3_bitsOfAsk RX3) (q : QE E (some (vi rr)) HH (some .int)) (hn : nLof E = 8) (hf : (roomOf E).frames = 1) (hl : (roomOf E).locals = 24) (self29 : Int → Int → PH → RO) (p1 p2 p3 p4 p5 p6 : Int) (H : PH) (ih29 : ∀ (v5 v6 : Int) (HV : PH), self29 v5 v6 HV = some (rr, HH) → PW E 29 [none, some (vr p1), some (vr p2), some (vi p3), some (vi p4), some (vi v5), some (vi v6), none] [] HV) (h : jX3_bitsOfAsk_78 self29 p1 p2 p3 p4 p5 p6 H = some (rr, HH)) : PW E 78 [none, some (vr p1), some (vr p2), some (vi p3), some (vi p4), some (vi p5), some (vi p6), none] [] H := by
  unfold jX3_bitsOfAsk_78 at h
  refine pw_iinc (pc := 78) F dX3_bitsOfAsk_78 rfl (lt_nl hn (by decide)) [none, some (vr p1), some (vr p2), some (vi p3), some (vi p4), some (vi p5), some (vi (w32 (p6 + 1))), none] rfl (by decide) ?_
  refine pw_goto (pc := 81) F 29 dX3_bitsOfAsk_81 (by decide) ?_
  exact pw_mask [true, true, true, true, true, true, true, true] (ls' := [none, some (vr p1), some (vr p2), some (vi p3), some (vi p4), some (vi p5), some (vi (w32 (p6 + 1))), none]) rfl (ih29 p5 (w32 (p6 + 1)) H h)
def lX3_bitsOfAsk_29 (p1 p2 p3 p4 : Int) (self29 : Int → Int → PH → RO) (p5 p6 : Int) (H : PH) : RO :=
  (if p6 ≥ p3 then some (p5, H)
  else (ld 16 H p2 1).bind fun x1 => (f_X8_spot x1 p6 H).bind fun z2 => (ld 22 z2.2 p1 0).bind fun x3 => (ld 1 z2.2 x3 z2.1).bind fun x4 => (ld 22 z2.2 p1 1).bind fun x5 => (ld 0 z2.2 x5 z2.1).bind fun x6 => (f_X0_fits p2 x4 x6 p4 z2.2).bind fun z7 => (if z7.1 = 0 then jX3_bitsOfAsk_78 self29 p1 p2 p3 p4 p5 p6 z7.2
  else jX3_bitsOfAsk_78 self29 p1 p2 p3 p4 (i_or p5 (i_shl 1 p6)) p6 z7.2))
set_option maxHeartbeats 4000000 in
theorem lX3_bitsOfAsk_29_ok {E : PE} {rr : Int} {HH : PH} (F : FX E cX3_bitsOfAsk RX3) (q : QE E (some (vi rr)) HH (some .int)) (hn : nLof E = 8) (hf : (roomOf E).frames = 1) (hl : (roomOf E).locals = 24) (p1 p2 p3 p4 : Int) : ∀ (n : Nat) (p5 p6 : Int) (H : PH), lq2 (lX3_bitsOfAsk_29 p1 p2 p3 p4) n p5 p6 H = some (rr, HH) → PW E 29 [none, some (vr p1), some (vr p2), some (vi p3), some (vi p4), some (vi p5), some (vi p6), none] [] H := by
  refine lq2_ind (P := fun p5 p6 H => PW E 29 [none, some (vr p1), some (vr p2), some (vi p3), some (vi p4), some (vi p5), some (vi p6), none] [] H) ?_
  intro self29 ih29 p5 p6 H h
  unfold lX3_bitsOfAsk_29 at h
  refine pw_iload (pc := 29) F dX3_bitsOfAsk_29 rfl ?_
  refine pw_iload_n (pc := 31) F dX3_bitsOfAsk_31 rfl ?_
  refine pw_icmp_ge (pc := 32) F 84 dX3_bitsOfAsk_32 (by decide) (fun hc => ?_) (fun hc => ?_)
  · have h := iteT hc h
    refine pw_iload (pc := 84) F dX3_bitsOfAsk_84 rfl ?_
    cases h
    exact pw_iret (pc := 86) F q dX3_bitsOfAsk_86
  · have h := iteF hc h
    refine pw_aload_n (pc := 35) F dX3_bitsOfAsk_35 rfl ?_
    obtain ⟨x1, ex1, h⟩ := bnd h
    refine pw_get (pc := 36) F 0 1 143 (by decide) (by decide) g_d843082af2 inl_0 0 rfl dX3_bitsOfAsk_36 ex1 ?_
    refine pw_iload (pc := 39) F dX3_bitsOfAsk_39 rfl ?_
    obtain ⟨z2, ez2, h⟩ := bnd h
    refine pw_callSN (pc := 41) (as := [vi x1, vi p6]) (st := []) (r := (some (vi z2.1))) F 85 RX8 (fun l => m_X8_spot l x1 p6 H z2.1 z2.2 ez2) (fun _ _ _ h => h.2.2.2.2.2.1) g_aa0997f699 g_99e03e18e2 g_0d0469f624 hd_X8_spot (rm_ok hf hl (by decide) (by decide)) rfl dX3_bitsOfAsk_41 rfl (stk' := [vi z2.1]) rfl ?_
    refine pw_istore (pc := 44) F dX3_bitsOfAsk_44 (lt_nl hn (by decide)) [none, some (vr p1), some (vr p2), some (vi p3), some (vi p4), some (vi p5), some (vi p6), some (vi z2.1)] rfl ?_
    refine pw_aload_n (pc := 46) F dX3_bitsOfAsk_46 rfl ?_
    refine pw_aload_n (pc := 47) F dX3_bitsOfAsk_47 rfl ?_
    obtain ⟨x3, ex3, h⟩ := bnd h
    refine pw_get (pc := 48) F 6 0 113 (by decide) (by decide) g_0a429a6f3f inl_6 2 rfl dX3_bitsOfAsk_48 ex3 ?_
    refine pw_iload (pc := 51) F dX3_bitsOfAsk_51 rfl ?_
    obtain ⟨x4, ex4, h⟩ := bnd h
    refine pw_lald (pc := 53) F dX3_bitsOfAsk_53 ex4 ?_
    refine pw_aload_n (pc := 54) F dX3_bitsOfAsk_54 rfl ?_
    obtain ⟨x5, ex5, h⟩ := bnd h
    refine pw_get (pc := 55) F 6 1 121 (by decide) (by decide) g_a70b9a2a57 inl_6 2 rfl dX3_bitsOfAsk_55 ex5 ?_
    refine pw_iload (pc := 58) F dX3_bitsOfAsk_58 rfl ?_
    obtain ⟨x6, ex6, h⟩ := bnd h
    refine pw_iald (pc := 60) F dX3_bitsOfAsk_60 ex6 ?_
    refine pw_iload (pc := 61) F dX3_bitsOfAsk_61 rfl ?_
    obtain ⟨z7, ez7, h⟩ := bnd h
    refine pw_callV (pc := 63) (as := [vl x4, vi x6, vi p4]) (st := []) (r := (some (vi z7.1))) F 161 0 (by decide) rfl (fun l => m_X0_fits l p2 x4 x6 p4 z2.2 z7.1 z7.2 ez7) g_8a5de6dd98 g_87d82c7ac4 g_ffeaa85ca0 g_82b0ef516c g_fcc6de1c80 hd_X0_fits (rm_ok hf hl (by decide) (by decide)) rfl (vm_spec ez7).1 dX3_bitsOfAsk_63 rfl (stk' := [vi z7.1]) rfl ?_
    refine pw_if_eq (pc := 66) F 78 dX3_bitsOfAsk_66 (by decide) (fun hc => ?_) (fun hc => ?_)
    · have h := iteT hc h
      exact pw_mask [true, true, true, true, true, true, true, false] (ls' := [none, some (vr p1), some (vr p2), some (vi p3), some (vi p4), some (vi p5), some (vi p6), none]) rfl (jX3_bitsOfAsk_78_ok F q hn hf hl self29 p1 p2 p3 p4 p5 p6 z7.2 ih29 h)
    · have h := iteF hc h
      refine pw_iload (pc := 69) F dX3_bitsOfAsk_69 rfl ?_
      refine pw_iconst (pc := 71) F 1 dX3_bitsOfAsk_71 (by decide) ?_
      refine pw_iload (pc := 72) F dX3_bitsOfAsk_72 rfl ?_
      refine pw_ishl (pc := 74) F dX3_bitsOfAsk_74 ?_
      refine pw_ior (pc := 75) F dX3_bitsOfAsk_75 ?_
      refine pw_istore (pc := 76) F dX3_bitsOfAsk_76 (lt_nl hn (by decide)) [none, some (vr p1), some (vr p2), some (vi p3), some (vi p4), some (vi (i_or p5 (i_shl 1 p6))), some (vi p6), some (vi z2.1)] rfl ?_
      exact pw_mask [true, true, true, true, true, true, true, false] (ls' := [none, some (vr p1), some (vr p2), some (vi p3), some (vi p4), some (vi (i_or p5 (i_shl 1 p6))), some (vi p6), none]) rfl (jX3_bitsOfAsk_78_ok F q hn hf hl self29 p1 p2 p3 p4 (i_or p5 (i_shl 1 p6)) p6 z7.2 ih29 h)
def jX3_bitsOfAsk_21 (p1 p2 p3 s0 : Int) (H : PH) : RO :=
  lq2 (lX3_bitsOfAsk_29 p1 p2 p3 s0) 6000 0 0 H
set_option maxHeartbeats 4000000 in
theorem jX3_bitsOfAsk_21_ok {E : PE} {rr : Int} {HH : PH} (F : FX E cX3_bitsOfAsk RX3) (q : QE E (some (vi rr)) HH (some .int)) (hn : nLof E = 8) (hf : (roomOf E).frames = 1) (hl : (roomOf E).locals = 24) (p1 p2 p3 s0 : Int) (H : PH) (h : jX3_bitsOfAsk_21 p1 p2 p3 s0 H = some (rr, HH)) : PW E 21 [none, some (vr p1), some (vr p2), some (vi p3), none, none, none, none] [vi s0] H := by
  unfold jX3_bitsOfAsk_21 at h
  refine pw_istore (pc := 21) F dX3_bitsOfAsk_21 (lt_nl hn (by decide)) [none, some (vr p1), some (vr p2), some (vi p3), some (vi s0), none, none, none] rfl ?_
  refine pw_iconst (pc := 23) F 0 dX3_bitsOfAsk_23 (by decide) ?_
  refine pw_istore (pc := 24) F dX3_bitsOfAsk_24 (lt_nl hn (by decide)) [none, some (vr p1), some (vr p2), some (vi p3), some (vi s0), some (vi 0), none, none] rfl ?_
  refine pw_iconst (pc := 26) F 0 dX3_bitsOfAsk_26 (by decide) ?_
  refine pw_istore (pc := 27) F dX3_bitsOfAsk_27 (lt_nl hn (by decide)) [none, some (vr p1), some (vr p2), some (vi p3), some (vi s0), some (vi 0), some (vi 0), none] rfl ?_
  exact pw_mask [true, true, true, true, true, true, true, true] (ls' := [none, some (vr p1), some (vr p2), some (vi p3), some (vi s0), some (vi 0), some (vi 0), none]) rfl (lX3_bitsOfAsk_29_ok F q hn hf hl p1 p2 p3 s0  6000 0 0 H h)
def f_X3_bitsOfAsk (a0 a1 a2 a3 : Int) (H : PH) : RO := vm 3 a0 H <|
  (ld 19 H a0 0).bind fun x1 => (ld 16 H a2 1).bind fun x2 => (ld 6 H x1 x2).bind fun x3 => (ld 21 H x3 0).bind fun x4 => (if x4 ≠ 1 then jX3_bitsOfAsk_21 a1 a2 a3 0 H
  else jX3_bitsOfAsk_21 a1 a2 a3 1 H)
set_option maxHeartbeats 4000000 in
theorem m_X3_bitsOfAsk (l : Launch) (a0 a1 a2 a3 : Int) (H : PH) (rr : Int) (HH : PH) (h : f_X3_bitsOfAsk a0 a1 a2 a3 H = some (rr, HH)) : CT l yX3_bitsOfAsk cX3_bitsOfAsk 8 (some .int) 1 24 [vr a0, vr a1, vr a2, vi a3] H (some (vi rr)) HH := by
  refine CT.of RX3 (by decide) rfl [some (vr a0), some (vr a1), some (vr a2), some (vi a3), none, none, none, none] rfl rfl ?_
  intro E F q hn hf hl hm
  unfold f_X3_bitsOfAsk at h
  obtain ⟨hv, h⟩ := vm_spec h
  refine pw_aload_n (pc := 0) F dX3_bitsOfAsk_0 rfl ?_
  obtain ⟨x1, ex1, h⟩ := bnd h
  refine pw_get (pc := 1) F 3 0 11 (by decide) (by decide) g_b400760f80 inl_3 2 rfl dX3_bitsOfAsk_1 ex1 ?_
  refine pw_aload_n (pc := 4) F dX3_bitsOfAsk_4 rfl ?_
  obtain ⟨x2, ex2, h⟩ := bnd h
  refine pw_get (pc := 5) F 0 1 143 (by decide) (by decide) g_d843082af2 inl_0 0 rfl dX3_bitsOfAsk_5 ex2 ?_
  obtain ⟨x3, ex3, h⟩ := bnd h
  refine pw_aald (pc := 8) F 6 (by decide) dX3_bitsOfAsk_8 ex3 ?_
  obtain ⟨x4, ex4, h⟩ := bnd h
  refine pw_get (pc := 9) F 5 0 134 (by decide) (by decide) g_fae99af0fd inl_5 0 rfl dX3_bitsOfAsk_9 ex4 ?_
  refine pw_iconst (pc := 12) F 1 dX3_bitsOfAsk_12 (by decide) ?_
  refine pw_icmp_ne (pc := 13) F 20 dX3_bitsOfAsk_13 (by decide) (fun hc => ?_) (fun hc => ?_)
  · have h := iteT hc h
    refine pw_iconst (pc := 20) F 0 dX3_bitsOfAsk_20 (by decide) ?_
    exact pw_mask [false, true, true, true, true, true, true, true] (ls' := [none, some (vr a1), some (vr a2), some (vi a3), none, none, none, none]) rfl (jX3_bitsOfAsk_21_ok F q hn hf hl a1 a2 a3 0 H h)
  · have h := iteF hc h
    refine pw_iconst (pc := 16) F 1 dX3_bitsOfAsk_16 (by decide) ?_
    refine pw_goto (pc := 17) F 21 dX3_bitsOfAsk_17 (by decide) ?_
    exact pw_mask [false, true, true, true, true, true, true, true] (ls' := [none, some (vr a1), some (vr a2), some (vi a3), none, none, none, none]) rfl (jX3_bitsOfAsk_21_ok F q hn hf hl a1 a2 a3 1 H h)
/-! HouseholdVault$Form.makeTruths(LHouseholdVault$Household;I)V -/
theorem dX3_makeTruths_0 : decode cX3_makeTruths 0 = .ok (.aload_n 0, 1) := by decide +kernel
theorem dX3_makeTruths_1 : decode cX3_makeTruths 1 = .ok (.getfield 19, 3) := by decide +kernel
theorem dX3_makeTruths_4 : decode cX3_makeTruths 4 = .ok (.iload_n 2, 1) := by decide +kernel
theorem dX3_makeTruths_5 : decode cX3_makeTruths 5 = .ok (.aaload, 1) := by decide +kernel
theorem dX3_makeTruths_6 : decode cX3_makeTruths 6 = .ok (.astore_n 3, 1) := by decide +kernel
theorem dX3_makeTruths_7 : decode cX3_makeTruths 7 = .ok (.aload_n 1, 1) := by decide +kernel
theorem dX3_makeTruths_8 : decode cX3_makeTruths 8 = .ok (.getfield 71, 3) := by decide +kernel
theorem dX3_makeTruths_11 : decode cX3_makeTruths 11 = .ok (.aload_n 3, 1) := by decide +kernel
theorem dX3_makeTruths_12 : decode cX3_makeTruths 12 = .ok (.getfield 137, 3) := by decide +kernel
theorem dX3_makeTruths_15 : decode cX3_makeTruths 15 = .ok (.invokestatic 109, 3) := by decide +kernel
theorem dX3_makeTruths_18 : decode cX3_makeTruths 18 = .ok (.istore 4, 2) := by decide +kernel
theorem dX3_makeTruths_20 : decode cX3_makeTruths 20 = .ok (.iconst 1, 1) := by decide +kernel
theorem dX3_makeTruths_21 : decode cX3_makeTruths 21 = .ok (.iload 4, 2) := by decide +kernel
theorem dX3_makeTruths_23 : decode cX3_makeTruths 23 = .ok (.ishl, 1) := by decide +kernel
theorem dX3_makeTruths_24 : decode cX3_makeTruths 24 = .ok (.iconst 1, 1) := by decide +kernel
theorem dX3_makeTruths_25 : decode cX3_makeTruths 25 = .ok (.isub, 1) := by decide +kernel
theorem dX3_makeTruths_26 : decode cX3_makeTruths 26 = .ok (.istore 5, 2) := by decide +kernel
theorem dX3_makeTruths_28 : decode cX3_makeTruths 28 = .ok (.aload_n 3, 1) := by decide +kernel
theorem dX3_makeTruths_29 : decode cX3_makeTruths 29 = .ok (.getfield 140, 3) := by decide +kernel
theorem dX3_makeTruths_32 : decode cX3_makeTruths 32 = .ok (.tableswitch 154 4 7 #[32, 64, 96, 119], 32) := by decide +kernel
theorem dX3_makeTruths_64 : decode cX3_makeTruths 64 = .ok (.aload_n 1, 1) := by decide +kernel
theorem dX3_makeTruths_65 : decode cX3_makeTruths 65 = .ok (.getfield 89, 3) := by decide +kernel
theorem dX3_makeTruths_68 : decode cX3_makeTruths 68 = .ok (.iload_n 2, 1) := by decide +kernel
theorem dX3_makeTruths_69 : decode cX3_makeTruths 69 = .ok (.aload_n 0, 1) := by decide +kernel
theorem dX3_makeTruths_70 : decode cX3_makeTruths 70 = .ok (.aload_n 1, 1) := by decide +kernel
theorem dX3_makeTruths_71 : decode cX3_makeTruths 71 = .ok (.aload_n 3, 1) := by decide +kernel
theorem dX3_makeTruths_72 : decode cX3_makeTruths 72 = .ok (.getfield 143, 3) := by decide +kernel
theorem dX3_makeTruths_75 : decode cX3_makeTruths 75 = .ok (.iload 5, 2) := by decide +kernel
theorem dX3_makeTruths_77 : decode cX3_makeTruths 77 = .ok (.invokevirtual 146, 3) := by decide +kernel
theorem dX3_makeTruths_80 : decode cX3_makeTruths 80 = .ok (.aload_n 0, 1) := by decide +kernel
theorem dX3_makeTruths_81 : decode cX3_makeTruths 81 = .ok (.aload_n 1, 1) := by decide +kernel
theorem dX3_makeTruths_82 : decode cX3_makeTruths 82 = .ok (.aload_n 3, 1) := by decide +kernel
theorem dX3_makeTruths_83 : decode cX3_makeTruths 83 = .ok (.getfield 150, 3) := by decide +kernel
theorem dX3_makeTruths_86 : decode cX3_makeTruths 86 = .ok (.iload 5, 2) := by decide +kernel
theorem dX3_makeTruths_88 : decode cX3_makeTruths 88 = .ok (.invokevirtual 146, 3) := by decide +kernel
theorem dX3_makeTruths_91 : decode cX3_makeTruths 91 = .ok (.iand, 1) := by decide +kernel
theorem dX3_makeTruths_92 : decode cX3_makeTruths 92 = .ok (.iastore, 1) := by decide +kernel
theorem dX3_makeTruths_93 : decode cX3_makeTruths 93 = .ok (.goto 110, 3) := by decide +kernel
theorem dX3_makeTruths_96 : decode cX3_makeTruths 96 = .ok (.aload_n 1, 1) := by decide +kernel
theorem dX3_makeTruths_97 : decode cX3_makeTruths 97 = .ok (.getfield 89, 3) := by decide +kernel
theorem dX3_makeTruths_100 : decode cX3_makeTruths 100 = .ok (.iload_n 2, 1) := by decide +kernel
theorem dX3_makeTruths_101 : decode cX3_makeTruths 101 = .ok (.aload_n 0, 1) := by decide +kernel
theorem dX3_makeTruths_102 : decode cX3_makeTruths 102 = .ok (.aload_n 1, 1) := by decide +kernel
theorem dX3_makeTruths_103 : decode cX3_makeTruths 103 = .ok (.aload_n 3, 1) := by decide +kernel
theorem dX3_makeTruths_104 : decode cX3_makeTruths 104 = .ok (.getfield 143, 3) := by decide +kernel
theorem dX3_makeTruths_107 : decode cX3_makeTruths 107 = .ok (.iload 5, 2) := by decide +kernel
theorem dX3_makeTruths_109 : decode cX3_makeTruths 109 = .ok (.invokevirtual 146, 3) := by decide +kernel
theorem dX3_makeTruths_112 : decode cX3_makeTruths 112 = .ok (.aload_n 0, 1) := by decide +kernel
theorem dX3_makeTruths_113 : decode cX3_makeTruths 113 = .ok (.aload_n 1, 1) := by decide +kernel
theorem dX3_makeTruths_114 : decode cX3_makeTruths 114 = .ok (.aload_n 3, 1) := by decide +kernel
theorem dX3_makeTruths_115 : decode cX3_makeTruths 115 = .ok (.getfield 150, 3) := by decide +kernel
theorem dX3_makeTruths_118 : decode cX3_makeTruths 118 = .ok (.iload 5, 2) := by decide +kernel
theorem dX3_makeTruths_120 : decode cX3_makeTruths 120 = .ok (.invokevirtual 146, 3) := by decide +kernel
theorem dX3_makeTruths_123 : decode cX3_makeTruths 123 = .ok (.ior, 1) := by decide +kernel
theorem dX3_makeTruths_124 : decode cX3_makeTruths 124 = .ok (.iastore, 1) := by decide +kernel
theorem dX3_makeTruths_125 : decode cX3_makeTruths 125 = .ok (.goto 78, 3) := by decide +kernel
theorem dX3_makeTruths_128 : decode cX3_makeTruths 128 = .ok (.aload_n 1, 1) := by decide +kernel
theorem dX3_makeTruths_129 : decode cX3_makeTruths 129 = .ok (.getfield 89, 3) := by decide +kernel
theorem dX3_makeTruths_132 : decode cX3_makeTruths 132 = .ok (.iload_n 2, 1) := by decide +kernel
theorem dX3_makeTruths_133 : decode cX3_makeTruths 133 = .ok (.iload 5, 2) := by decide +kernel
theorem dX3_makeTruths_135 : decode cX3_makeTruths 135 = .ok (.aload_n 1, 1) := by decide +kernel
theorem dX3_makeTruths_136 : decode cX3_makeTruths 136 = .ok (.getfield 89, 3) := by decide +kernel
theorem dX3_makeTruths_139 : decode cX3_makeTruths 139 = .ok (.aload_n 3, 1) := by decide +kernel
theorem dX3_makeTruths_140 : decode cX3_makeTruths 140 = .ok (.getfield 143, 3) := by decide +kernel
theorem dX3_makeTruths_143 : decode cX3_makeTruths 143 = .ok (.iaload, 1) := by decide +kernel
theorem dX3_makeTruths_144 : decode cX3_makeTruths 144 = .ok (.iconst (-1), 1) := by decide +kernel
theorem dX3_makeTruths_145 : decode cX3_makeTruths 145 = .ok (.ixor, 1) := by decide +kernel
theorem dX3_makeTruths_146 : decode cX3_makeTruths 146 = .ok (.iand, 1) := by decide +kernel
theorem dX3_makeTruths_147 : decode cX3_makeTruths 147 = .ok (.iastore, 1) := by decide +kernel
theorem dX3_makeTruths_148 : decode cX3_makeTruths 148 = .ok (.goto 55, 3) := by decide +kernel
theorem dX3_makeTruths_151 : decode cX3_makeTruths 151 = .ok (.aload_n 1, 1) := by decide +kernel
theorem dX3_makeTruths_152 : decode cX3_makeTruths 152 = .ok (.getfield 89, 3) := by decide +kernel
theorem dX3_makeTruths_155 : decode cX3_makeTruths 155 = .ok (.iload_n 2, 1) := by decide +kernel
theorem dX3_makeTruths_156 : decode cX3_makeTruths 156 = .ok (.aload_n 1, 1) := by decide +kernel
theorem dX3_makeTruths_157 : decode cX3_makeTruths 157 = .ok (.getfield 89, 3) := by decide +kernel
theorem dX3_makeTruths_160 : decode cX3_makeTruths 160 = .ok (.aload_n 3, 1) := by decide +kernel
theorem dX3_makeTruths_161 : decode cX3_makeTruths 161 = .ok (.getfield 143, 3) := by decide +kernel
theorem dX3_makeTruths_164 : decode cX3_makeTruths 164 = .ok (.iaload, 1) := by decide +kernel
theorem dX3_makeTruths_165 : decode cX3_makeTruths 165 = .ok (.invokestatic 95, 3) := by decide +kernel
theorem dX3_makeTruths_168 : decode cX3_makeTruths 168 = .ok (.i2l, 1) := by decide +kernel
theorem dX3_makeTruths_169 : decode cX3_makeTruths 169 = .ok (.aload_n 3, 1) := by decide +kernel
theorem dX3_makeTruths_170 : decode cX3_makeTruths 170 = .ok (.getfield 153, 3) := by decide +kernel
theorem dX3_makeTruths_173 : decode cX3_makeTruths 173 = .ok (.lcmp, 1) := by decide +kernel
theorem dX3_makeTruths_174 : decode cX3_makeTruths 174 = .ok (.ifCond .lt 7, 3) := by decide +kernel
theorem dX3_makeTruths_177 : decode cX3_makeTruths 177 = .ok (.iconst 1, 1) := by decide +kernel
theorem dX3_makeTruths_178 : decode cX3_makeTruths 178 = .ok (.goto 4, 3) := by decide +kernel
theorem dX3_makeTruths_181 : decode cX3_makeTruths 181 = .ok (.iconst 0, 1) := by decide +kernel
theorem dX3_makeTruths_182 : decode cX3_makeTruths 182 = .ok (.iastore, 1) := by decide +kernel
theorem dX3_makeTruths_183 : decode cX3_makeTruths 183 = .ok (.goto 20, 3) := by decide +kernel
theorem dX3_makeTruths_186 : decode cX3_makeTruths 186 = .ok (.aload_n 1, 1) := by decide +kernel
theorem dX3_makeTruths_187 : decode cX3_makeTruths 187 = .ok (.getfield 89, 3) := by decide +kernel
theorem dX3_makeTruths_190 : decode cX3_makeTruths 190 = .ok (.iload_n 2, 1) := by decide +kernel
theorem dX3_makeTruths_191 : decode cX3_makeTruths 191 = .ok (.aload_n 0, 1) := by decide +kernel
theorem dX3_makeTruths_192 : decode cX3_makeTruths 192 = .ok (.aload_n 1, 1) := by decide +kernel
theorem dX3_makeTruths_193 : decode cX3_makeTruths 193 = .ok (.getfield 71, 3) := by decide +kernel
theorem dX3_makeTruths_196 : decode cX3_makeTruths 196 = .ok (.aload_n 3, 1) := by decide +kernel
theorem dX3_makeTruths_197 : decode cX3_makeTruths 197 = .ok (.iload 4, 2) := by decide +kernel
theorem dX3_makeTruths_199 : decode cX3_makeTruths 199 = .ok (.invokevirtual 157, 3) := by decide +kernel
theorem dX3_makeTruths_202 : decode cX3_makeTruths 202 = .ok (.iastore, 1) := by decide +kernel
theorem dX3_makeTruths_203 : decode cX3_makeTruths 203 = .ok (.return_, 1) := by decide +kernel
def jX3_makeTruths_182 (s0 s1 s2 : Int) (H : PH) : RO :=
  (stv 0 H s0 s1 s2).bind fun H1 => some (0, H1)
set_option maxHeartbeats 4000000 in
theorem jX3_makeTruths_182_ok {E : PE} {rr : Int} {HH : PH} (F : FX E cX3_makeTruths RX3) (q : QE E none HH none) (hn : nLof E = 6) (hf : (roomOf E).frames = 3) (hl : (roomOf E).locals = 63) (s0 s1 s2 : Int) (H : PH) (h : jX3_makeTruths_182 s0 s1 s2 H = some (rr, HH)) : PW E 182 [none, none, none, none, none, none] [vi s2, vi s1, vr s0] H := by
  unfold jX3_makeTruths_182 at h
  obtain ⟨H1, eH1, h⟩ := bnd h
  refine pw_iast (pc := 182) F dX3_makeTruths_182 eH1 ?_
  refine pw_goto (pc := 183) F 203 dX3_makeTruths_183 (by decide) ?_
  cases h
  exact pw_vret (pc := 203) F q dX3_makeTruths_203
def f_X3_makeTruths (a0 a1 a2 : Int) (H : PH) : RO := vm 3 a0 H <|
  (ld 19 H a0 2).bind fun x1 => (ld 3 H x1 a2).bind fun x2 => (ld 20 H a1 0).bind fun x3 => (ld 16 H x2 4).bind fun x4 => (f_X8_placesOf x3 x4 H).bind fun z5 => (ld 16 z5.2 x2 0).bind fun x6 => (if x6 < 4 ∨ 7 < x6 then (ld 20 z5.2 a1 1).bind fun x7 => (ld 20 z5.2 a1 0).bind fun x8 => (f_X3_bitsOfAsk a0 x8 x2 z5.1 z5.2).bind fun z9 => (stv 0 z9.2 x7 a2 z9.1).bind fun H10 => some (0, H10)
  else List.getD [(ld 20 z5.2 a1 1).bind fun x11 => (ld 16 z5.2 x2 1).bind fun x12 => (f_X3_spread a0 a1 x12 (w32 ((i_shl 1 z5.1) - 1)) z5.2).bind fun z13 => (ld 16 z13.2 x2 2).bind fun x14 => (f_X3_spread a0 a1 x14 (w32 ((i_shl 1 z5.1) - 1)) z13.2).bind fun z15 => (stv 0 z15.2 x11 a2 (i_and z13.1 z15.1)).bind fun H16 => some (0, H16), (ld 20 z5.2 a1 1).bind fun x17 => (ld 16 z5.2 x2 1).bind fun x18 => (f_X3_spread a0 a1 x18 (w32 ((i_shl 1 z5.1) - 1)) z5.2).bind fun z19 => (ld 16 z19.2 x2 2).bind fun x20 => (f_X3_spread a0 a1 x20 (w32 ((i_shl 1 z5.1) - 1)) z19.2).bind fun z21 => (stv 0 z21.2 x17 a2 (i_or z19.1 z21.1)).bind fun H22 => some (0, H22), (ld 20 z5.2 a1 1).bind fun x23 => (ld 20 z5.2 a1 1).bind fun x24 => (ld 16 z5.2 x2 1).bind fun x25 => (ld 0 z5.2 x24 x25).bind fun x26 => (stv 0 z5.2 x23 a2 (i_and (w32 ((i_shl 1 z5.1) - 1)) (i_xor x26 (-1)))).bind fun H27 => some (0, H27), (ld 20 z5.2 a1 1).bind fun x28 => (ld 20 z5.2 a1 1).bind fun x29 => (ld 16 z5.2 x2 1).bind fun x30 => (ld 0 z5.2 x29 x30).bind fun x31 => (f_J6_bitCount_0f7a4 x31 z5.2).bind fun z32 => (ld 16 z32.2 x2 3).bind fun x33 => (if (lc z32.1 x33) < 0 then jX3_makeTruths_182 x28 a2 0 z32.2
  else jX3_makeTruths_182 x28 a2 1 z32.2)] (x6 - 4).toNat none)
set_option maxHeartbeats 4000000 in
theorem m_X3_makeTruths (l : Launch) (a0 a1 a2 : Int) (H : PH) (rr : Int) (HH : PH) (h : f_X3_makeTruths a0 a1 a2 H = some (rr, HH)) : CT l yX3_makeTruths cX3_makeTruths 6 none 3 63 [vr a0, vr a1, vi a2] H none HH := by
  refine CT.of RX3 (by decide) rfl [some (vr a0), some (vr a1), some (vi a2), none, none, none] rfl rfl ?_
  intro E F q hn hf hl hm
  unfold f_X3_makeTruths at h
  obtain ⟨hv, h⟩ := vm_spec h
  refine pw_aload_n (pc := 0) F dX3_makeTruths_0 rfl ?_
  obtain ⟨x1, ex1, h⟩ := bnd h
  refine pw_get (pc := 1) F 3 2 19 (by decide) (by decide) g_5bdd928727 inl_3 2 rfl dX3_makeTruths_1 ex1 ?_
  refine pw_iload_n (pc := 4) F dX3_makeTruths_4 rfl ?_
  obtain ⟨x2, ex2, h⟩ := bnd h
  refine pw_aald (pc := 5) F 3 (by decide) dX3_makeTruths_5 ex2 ?_
  refine pw_astore_n (pc := 6) F dX3_makeTruths_6 (lt_nl hn (by decide)) [some (vr a0), some (vr a1), some (vi a2), some (vr x2), none, none] rfl ?_
  refine pw_aload_n (pc := 7) F dX3_makeTruths_7 rfl ?_
  obtain ⟨x3, ex3, h⟩ := bnd h
  refine pw_get (pc := 8) F 4 0 71 (by decide) (by decide) g_393e23b85c inl_4 2 rfl dX3_makeTruths_8 ex3 ?_
  refine pw_aload_n (pc := 11) F dX3_makeTruths_11 rfl ?_
  obtain ⟨x4, ex4, h⟩ := bnd h
  refine pw_get (pc := 12) F 0 4 137 (by decide) (by decide) g_2531f3ea29 inl_0 0 rfl dX3_makeTruths_12 ex4 ?_
  obtain ⟨z5, ez5, h⟩ := bnd h
  refine pw_callSN (pc := 15) (as := [vr x3, vi x4]) (st := []) (r := (some (vi z5.1))) F 109 RX8 (fun l => m_X8_placesOf l x3 x4 H z5.1 z5.2 ez5) (fun _ _ _ h => h.2.2.2.2.1) g_4eaddf5732 g_99e03e18e2 g_b1b540d8aa hd_X8_placesOf (rm_ok hf hl (by decide) (by decide)) rfl dX3_makeTruths_15 rfl (stk' := [vi z5.1]) rfl ?_
  refine pw_istore (pc := 18) F dX3_makeTruths_18 (lt_nl hn (by decide)) [some (vr a0), some (vr a1), some (vi a2), some (vr x2), some (vi z5.1), none] rfl ?_
  refine pw_iconst (pc := 20) F 1 dX3_makeTruths_20 (by decide) ?_
  refine pw_iload (pc := 21) F dX3_makeTruths_21 rfl ?_
  refine pw_ishl (pc := 23) F dX3_makeTruths_23 ?_
  refine pw_iconst (pc := 24) F 1 dX3_makeTruths_24 (by decide) ?_
  refine pw_isub (pc := 25) F dX3_makeTruths_25 ?_
  refine pw_istore (pc := 26) F dX3_makeTruths_26 (lt_nl hn (by decide)) [some (vr a0), some (vr a1), some (vi a2), some (vr x2), some (vi z5.1), some (vi (w32 ((i_shl 1 z5.1) - 1)))] rfl ?_
  refine pw_aload_n (pc := 28) F dX3_makeTruths_28 rfl ?_
  obtain ⟨x6, ex6, h⟩ := bnd h
  refine pw_get (pc := 29) F 0 0 140 (by decide) (by decide) g_85fcf40116 inl_0 0 rfl dX3_makeTruths_29 ex6 ?_
  refine pw_table (pc := 32) F dX3_makeTruths_32 186 (by decide) [64, 96, 128, 151] (by decide) (by decide) (fun hc => ?_) (fun i t ht ha => ?_)
  · have h := iteT hc h
    refine pw_aload_n (pc := 186) F dX3_makeTruths_186 rfl ?_
    obtain ⟨x7, ex7, h⟩ := bnd h
    refine pw_get (pc := 187) F 4 1 89 (by decide) (by decide) g_55662c9da8 inl_4 2 rfl dX3_makeTruths_187 ex7 ?_
    refine pw_iload_n (pc := 190) F dX3_makeTruths_190 rfl ?_
    refine pw_aload_n (pc := 191) F dX3_makeTruths_191 rfl ?_
    refine pw_aload_n (pc := 192) F dX3_makeTruths_192 rfl ?_
    obtain ⟨x8, ex8, h⟩ := bnd h
    refine pw_get (pc := 193) F 4 0 71 (by decide) (by decide) g_393e23b85c inl_4 2 rfl dX3_makeTruths_193 ex8 ?_
    refine pw_aload_n (pc := 196) F dX3_makeTruths_196 rfl ?_
    refine pw_iload (pc := 197) F dX3_makeTruths_197 rfl ?_
    obtain ⟨z9, ez9, h⟩ := bnd h
    refine pw_callV (pc := 199) (as := [vr x8, vr x2, vi z5.1]) (st := [vi a2, vr x7]) (r := (some (vi z9.1))) F 157 3 (by decide) rfl (fun l => m_X3_bitsOfAsk l a0 x8 x2 z5.1 z5.2 z9.1 z9.2 ez9) g_c360cb407d g_a3a7179899 g_69bd7c1dd9 g_106b72596f g_7190d6430a hd_X3_bitsOfAsk (rm_ok hf hl (by decide) (by decide)) rfl (vm_spec ez9).1 dX3_makeTruths_199 rfl (stk' := [vi z9.1, vi a2, vr x7]) rfl ?_
    obtain ⟨H10, eH10, h⟩ := bnd h
    refine pw_iast (pc := 202) F dX3_makeTruths_202 eH10 ?_
    cases h
    exact pw_vret (pc := 203) F q dX3_makeTruths_203
  · have hc : ¬ (x6 < 4 ∨ 7 < x6) := sw_in 4 ht ha (by decide) (by decide)
    have h := iteF hc h
    have h := sw_at ha h
    match i, ht, h with
    | 0, ht, h =>
      obtain rfl : 64 = t := Option.some.inj ht
      have h : ((ld 20 z5.2 a1 1).bind fun x11 => (ld 16 z5.2 x2 1).bind fun x12 => (f_X3_spread a0 a1 x12 (w32 ((i_shl 1 z5.1) - 1)) z5.2).bind fun z13 => (ld 16 z13.2 x2 2).bind fun x14 => (f_X3_spread a0 a1 x14 (w32 ((i_shl 1 z5.1) - 1)) z13.2).bind fun z15 => (stv 0 z15.2 x11 a2 (i_and z13.1 z15.1)).bind fun H16 => some (0, H16) : RO) = some (rr, HH) := h
      refine pw_aload_n (pc := 64) F dX3_makeTruths_64 rfl ?_
      obtain ⟨x11, ex11, h⟩ := bnd h
      refine pw_get (pc := 65) F 4 1 89 (by decide) (by decide) g_55662c9da8 inl_4 2 rfl dX3_makeTruths_65 ex11 ?_
      refine pw_iload_n (pc := 68) F dX3_makeTruths_68 rfl ?_
      refine pw_aload_n (pc := 69) F dX3_makeTruths_69 rfl ?_
      refine pw_aload_n (pc := 70) F dX3_makeTruths_70 rfl ?_
      refine pw_aload_n (pc := 71) F dX3_makeTruths_71 rfl ?_
      obtain ⟨x12, ex12, h⟩ := bnd h
      refine pw_get (pc := 72) F 0 1 143 (by decide) (by decide) g_d843082af2 inl_0 0 rfl dX3_makeTruths_72 ex12 ?_
      refine pw_iload (pc := 75) F dX3_makeTruths_75 rfl ?_
      obtain ⟨z13, ez13, h⟩ := bnd h
      refine pw_callV (pc := 77) (as := [vr a1, vi x12, vi (w32 ((i_shl 1 z5.1) - 1))]) (st := [vi a2, vr x11]) (r := (some (vi z13.1))) F 146 3 (by decide) rfl (fun l => m_X3_spread l a0 a1 x12 (w32 ((i_shl 1 z5.1) - 1)) z5.2 z13.1 z13.2 ez13) g_a203b9fae5 g_f3800f0198 g_43aa712652 g_106b72596f g_92266c1923 hd_X3_spread (rm_ok hf hl (by decide) (by decide)) rfl (vm_spec ez13).1 dX3_makeTruths_77 rfl (stk' := [vi z13.1, vi a2, vr x11]) rfl ?_
      refine pw_aload_n (pc := 80) F dX3_makeTruths_80 rfl ?_
      refine pw_aload_n (pc := 81) F dX3_makeTruths_81 rfl ?_
      refine pw_aload_n (pc := 82) F dX3_makeTruths_82 rfl ?_
      obtain ⟨x14, ex14, h⟩ := bnd h
      refine pw_get (pc := 83) F 0 2 150 (by decide) (by decide) g_6a7cc6d20e inl_0 0 rfl dX3_makeTruths_83 ex14 ?_
      refine pw_iload (pc := 86) F dX3_makeTruths_86 rfl ?_
      obtain ⟨z15, ez15, h⟩ := bnd h
      refine pw_callV (pc := 88) (as := [vr a1, vi x14, vi (w32 ((i_shl 1 z5.1) - 1))]) (st := [vi z13.1, vi a2, vr x11]) (r := (some (vi z15.1))) F 146 3 (by decide) rfl (fun l => m_X3_spread l a0 a1 x14 (w32 ((i_shl 1 z5.1) - 1)) z13.2 z15.1 z15.2 ez15) g_a203b9fae5 g_f3800f0198 g_43aa712652 g_106b72596f g_92266c1923 hd_X3_spread (rm_ok hf hl (by decide) (by decide)) rfl (vm_spec ez15).1 dX3_makeTruths_88 rfl (stk' := [vi z15.1, vi z13.1, vi a2, vr x11]) rfl ?_
      refine pw_iand (pc := 91) F dX3_makeTruths_91 ?_
      obtain ⟨H16, eH16, h⟩ := bnd h
      refine pw_iast (pc := 92) F dX3_makeTruths_92 eH16 ?_
      refine pw_goto (pc := 93) F 203 dX3_makeTruths_93 (by decide) ?_
      cases h
      exact pw_vret (pc := 203) F q dX3_makeTruths_203
    | 1, ht, h =>
      obtain rfl : 96 = t := Option.some.inj ht
      have h : ((ld 20 z5.2 a1 1).bind fun x17 => (ld 16 z5.2 x2 1).bind fun x18 => (f_X3_spread a0 a1 x18 (w32 ((i_shl 1 z5.1) - 1)) z5.2).bind fun z19 => (ld 16 z19.2 x2 2).bind fun x20 => (f_X3_spread a0 a1 x20 (w32 ((i_shl 1 z5.1) - 1)) z19.2).bind fun z21 => (stv 0 z21.2 x17 a2 (i_or z19.1 z21.1)).bind fun H22 => some (0, H22) : RO) = some (rr, HH) := h
      refine pw_aload_n (pc := 96) F dX3_makeTruths_96 rfl ?_
      obtain ⟨x17, ex17, h⟩ := bnd h
      refine pw_get (pc := 97) F 4 1 89 (by decide) (by decide) g_55662c9da8 inl_4 2 rfl dX3_makeTruths_97 ex17 ?_
      refine pw_iload_n (pc := 100) F dX3_makeTruths_100 rfl ?_
      refine pw_aload_n (pc := 101) F dX3_makeTruths_101 rfl ?_
      refine pw_aload_n (pc := 102) F dX3_makeTruths_102 rfl ?_
      refine pw_aload_n (pc := 103) F dX3_makeTruths_103 rfl ?_
      obtain ⟨x18, ex18, h⟩ := bnd h
      refine pw_get (pc := 104) F 0 1 143 (by decide) (by decide) g_d843082af2 inl_0 0 rfl dX3_makeTruths_104 ex18 ?_
      refine pw_iload (pc := 107) F dX3_makeTruths_107 rfl ?_
      obtain ⟨z19, ez19, h⟩ := bnd h
      refine pw_callV (pc := 109) (as := [vr a1, vi x18, vi (w32 ((i_shl 1 z5.1) - 1))]) (st := [vi a2, vr x17]) (r := (some (vi z19.1))) F 146 3 (by decide) rfl (fun l => m_X3_spread l a0 a1 x18 (w32 ((i_shl 1 z5.1) - 1)) z5.2 z19.1 z19.2 ez19) g_a203b9fae5 g_f3800f0198 g_43aa712652 g_106b72596f g_92266c1923 hd_X3_spread (rm_ok hf hl (by decide) (by decide)) rfl (vm_spec ez19).1 dX3_makeTruths_109 rfl (stk' := [vi z19.1, vi a2, vr x17]) rfl ?_
      refine pw_aload_n (pc := 112) F dX3_makeTruths_112 rfl ?_
      refine pw_aload_n (pc := 113) F dX3_makeTruths_113 rfl ?_
      refine pw_aload_n (pc := 114) F dX3_makeTruths_114 rfl ?_
      obtain ⟨x20, ex20, h⟩ := bnd h
      refine pw_get (pc := 115) F 0 2 150 (by decide) (by decide) g_6a7cc6d20e inl_0 0 rfl dX3_makeTruths_115 ex20 ?_
      refine pw_iload (pc := 118) F dX3_makeTruths_118 rfl ?_
      obtain ⟨z21, ez21, h⟩ := bnd h
      refine pw_callV (pc := 120) (as := [vr a1, vi x20, vi (w32 ((i_shl 1 z5.1) - 1))]) (st := [vi z19.1, vi a2, vr x17]) (r := (some (vi z21.1))) F 146 3 (by decide) rfl (fun l => m_X3_spread l a0 a1 x20 (w32 ((i_shl 1 z5.1) - 1)) z19.2 z21.1 z21.2 ez21) g_a203b9fae5 g_f3800f0198 g_43aa712652 g_106b72596f g_92266c1923 hd_X3_spread (rm_ok hf hl (by decide) (by decide)) rfl (vm_spec ez21).1 dX3_makeTruths_120 rfl (stk' := [vi z21.1, vi z19.1, vi a2, vr x17]) rfl ?_
      refine pw_ior (pc := 123) F dX3_makeTruths_123 ?_
      obtain ⟨H22, eH22, h⟩ := bnd h
      refine pw_iast (pc := 124) F dX3_makeTruths_124 eH22 ?_
      refine pw_goto (pc := 125) F 203 dX3_makeTruths_125 (by decide) ?_
      cases h
      exact pw_vret (pc := 203) F q dX3_makeTruths_203
    | 2, ht, h =>
      obtain rfl : 128 = t := Option.some.inj ht
      have h : ((ld 20 z5.2 a1 1).bind fun x23 => (ld 20 z5.2 a1 1).bind fun x24 => (ld 16 z5.2 x2 1).bind fun x25 => (ld 0 z5.2 x24 x25).bind fun x26 => (stv 0 z5.2 x23 a2 (i_and (w32 ((i_shl 1 z5.1) - 1)) (i_xor x26 (-1)))).bind fun H27 => some (0, H27) : RO) = some (rr, HH) := h
      refine pw_aload_n (pc := 128) F dX3_makeTruths_128 rfl ?_
      obtain ⟨x23, ex23, h⟩ := bnd h
      refine pw_get (pc := 129) F 4 1 89 (by decide) (by decide) g_55662c9da8 inl_4 2 rfl dX3_makeTruths_129 ex23 ?_
      refine pw_iload_n (pc := 132) F dX3_makeTruths_132 rfl ?_
      refine pw_iload (pc := 133) F dX3_makeTruths_133 rfl ?_
      refine pw_aload_n (pc := 135) F dX3_makeTruths_135 rfl ?_
      obtain ⟨x24, ex24, h⟩ := bnd h
      refine pw_get (pc := 136) F 4 1 89 (by decide) (by decide) g_55662c9da8 inl_4 2 rfl dX3_makeTruths_136 ex24 ?_
      refine pw_aload_n (pc := 139) F dX3_makeTruths_139 rfl ?_
      obtain ⟨x25, ex25, h⟩ := bnd h
      refine pw_get (pc := 140) F 0 1 143 (by decide) (by decide) g_d843082af2 inl_0 0 rfl dX3_makeTruths_140 ex25 ?_
      obtain ⟨x26, ex26, h⟩ := bnd h
      refine pw_iald (pc := 143) F dX3_makeTruths_143 ex26 ?_
      refine pw_iconst (pc := 144) F (-1) dX3_makeTruths_144 (by decide) ?_
      refine pw_ixor (pc := 145) F dX3_makeTruths_145 ?_
      refine pw_iand (pc := 146) F dX3_makeTruths_146 ?_
      obtain ⟨H27, eH27, h⟩ := bnd h
      refine pw_iast (pc := 147) F dX3_makeTruths_147 eH27 ?_
      refine pw_goto (pc := 148) F 203 dX3_makeTruths_148 (by decide) ?_
      cases h
      exact pw_vret (pc := 203) F q dX3_makeTruths_203
    | 3, ht, h =>
      obtain rfl : 151 = t := Option.some.inj ht
      have h : ((ld 20 z5.2 a1 1).bind fun x28 => (ld 20 z5.2 a1 1).bind fun x29 => (ld 16 z5.2 x2 1).bind fun x30 => (ld 0 z5.2 x29 x30).bind fun x31 => (f_J6_bitCount_0f7a4 x31 z5.2).bind fun z32 => (ld 16 z32.2 x2 3).bind fun x33 => (if (lc z32.1 x33) < 0 then jX3_makeTruths_182 x28 a2 0 z32.2
  else jX3_makeTruths_182 x28 a2 1 z32.2) : RO) = some (rr, HH) := h
      refine pw_aload_n (pc := 151) F dX3_makeTruths_151 rfl ?_
      obtain ⟨x28, ex28, h⟩ := bnd h
      refine pw_get (pc := 152) F 4 1 89 (by decide) (by decide) g_55662c9da8 inl_4 2 rfl dX3_makeTruths_152 ex28 ?_
      refine pw_iload_n (pc := 155) F dX3_makeTruths_155 rfl ?_
      refine pw_aload_n (pc := 156) F dX3_makeTruths_156 rfl ?_
      obtain ⟨x29, ex29, h⟩ := bnd h
      refine pw_get (pc := 157) F 4 1 89 (by decide) (by decide) g_55662c9da8 inl_4 2 rfl dX3_makeTruths_157 ex29 ?_
      refine pw_aload_n (pc := 160) F dX3_makeTruths_160 rfl ?_
      obtain ⟨x30, ex30, h⟩ := bnd h
      refine pw_get (pc := 161) F 0 1 143 (by decide) (by decide) g_d843082af2 inl_0 0 rfl dX3_makeTruths_161 ex30 ?_
      obtain ⟨x31, ex31, h⟩ := bnd h
      refine pw_iald (pc := 164) F dX3_makeTruths_164 ex31 ?_
      obtain ⟨z32, ez32, h⟩ := bnd h
      refine pw_callS (pc := 165) (as := [vi x31]) (st := [vi a2, vr x28]) (r := (some (vi z32.1))) F 95 (fun l => m_J6_bitCount_0f7a4 l x31 z5.2 z32.1 z32.2 ez32) g_100318fa4f g_d625a12f10 g_adf3f26831 g_723f897fba hd_J6_bitCount_0f7a4 (rm_ok hf hl (by decide) (by decide)) rfl dX3_makeTruths_165 rfl (stk' := [vi z32.1, vi a2, vr x28]) rfl ?_
      refine pw_i2l (pc := 168) F dX3_makeTruths_168 ?_
      refine pw_aload_n (pc := 169) F dX3_makeTruths_169 rfl ?_
      obtain ⟨x33, ex33, h⟩ := bnd h
      refine pw_get (pc := 170) F 0 3 153 (by decide) (by decide) g_6b7e3560a7 inl_0 1 rfl dX3_makeTruths_170 ex33 ?_
      refine pw_lcmp (pc := 173) F dX3_makeTruths_173 ?_
      refine pw_if_lt (pc := 174) F 181 dX3_makeTruths_174 (by decide) (fun hc => ?_) (fun hc => ?_)
      · have h := iteT hc h
        refine pw_iconst (pc := 181) F 0 dX3_makeTruths_181 (by decide) ?_
        exact pw_mask [false, false, false, false, false, false] (ls' := [none, none, none, none, none, none]) rfl (jX3_makeTruths_182_ok F q hn hf hl x28 a2 0 z32.2 h)
      · have h := iteF hc h
        refine pw_iconst (pc := 177) F 1 dX3_makeTruths_177 (by decide) ?_
        refine pw_goto (pc := 178) F 182 dX3_makeTruths_178 (by decide) ?_
        exact pw_mask [false, false, false, false, false, false] (ls' := [none, none, none, none, none, none]) rfl (jX3_makeTruths_182_ok F q hn hf hl x28 a2 1 z32.2 h)
    | i + 4, ht, h => simp at ht
/-! HouseholdVault$Question.rowAround(J)I -/
theorem dX5_rowAround_0 : decode cX5_rowAround 0 = .ok (.iconst 0, 1) := by decide +kernel
theorem dX5_rowAround_1 : decode cX5_rowAround 1 = .ok (.istore_n 3, 1) := by decide +kernel
theorem dX5_rowAround_2 : decode cX5_rowAround 2 = .ok (.iload_n 3, 1) := by decide +kernel
theorem dX5_rowAround_3 : decode cX5_rowAround 3 = .ok (.aload_n 0, 1) := by decide +kernel
theorem dX5_rowAround_4 : decode cX5_rowAround 4 = .ok (.getfield 44, 3) := by decide +kernel
theorem dX5_rowAround_7 : decode cX5_rowAround 7 = .ok (.if_icmp .ge 33, 3) := by decide +kernel
theorem dX5_rowAround_10 : decode cX5_rowAround 10 = .ok (.aload_n 0, 1) := by decide +kernel
theorem dX5_rowAround_11 : decode cX5_rowAround 11 = .ok (.getfield 28, 3) := by decide +kernel
theorem dX5_rowAround_14 : decode cX5_rowAround 14 = .ok (.iload_n 3, 1) := by decide +kernel
theorem dX5_rowAround_15 : decode cX5_rowAround 15 = .ok (.laload, 1) := by decide +kernel
theorem dX5_rowAround_16 : decode cX5_rowAround 16 = .ok (.lload_n 1, 1) := by decide +kernel
theorem dX5_rowAround_17 : decode cX5_rowAround 17 = .ok (.lcmp, 1) := by decide +kernel
theorem dX5_rowAround_18 : decode cX5_rowAround 18 = .ok (.ifCond .gt 16, 3) := by decide +kernel
theorem dX5_rowAround_21 : decode cX5_rowAround 21 = .ok (.lload_n 1, 1) := by decide +kernel
theorem dX5_rowAround_22 : decode cX5_rowAround 22 = .ok (.aload_n 0, 1) := by decide +kernel
theorem dX5_rowAround_23 : decode cX5_rowAround 23 = .ok (.getfield 32, 3) := by decide +kernel
theorem dX5_rowAround_26 : decode cX5_rowAround 26 = .ok (.iload_n 3, 1) := by decide +kernel
theorem dX5_rowAround_27 : decode cX5_rowAround 27 = .ok (.laload, 1) := by decide +kernel
theorem dX5_rowAround_28 : decode cX5_rowAround 28 = .ok (.lcmp, 1) := by decide +kernel
theorem dX5_rowAround_29 : decode cX5_rowAround 29 = .ok (.ifCond .gt 5, 3) := by decide +kernel
theorem dX5_rowAround_32 : decode cX5_rowAround 32 = .ok (.iload_n 3, 1) := by decide +kernel
theorem dX5_rowAround_33 : decode cX5_rowAround 33 = .ok (.ireturn, 1) := by decide +kernel
theorem dX5_rowAround_34 : decode cX5_rowAround 34 = .ok (.iinc 3 1, 3) := by decide +kernel
theorem dX5_rowAround_37 : decode cX5_rowAround 37 = .ok (.goto (-35), 3) := by decide +kernel
theorem dX5_rowAround_40 : decode cX5_rowAround 40 = .ok (.iconst (-1), 1) := by decide +kernel
theorem dX5_rowAround_41 : decode cX5_rowAround 41 = .ok (.ireturn, 1) := by decide +kernel
def jX5_rowAround_34 (self2 : Int → PH → RO) (p0 p1 p3 : Int) (H : PH) : RO :=
  self2 (w32 (p3 + 1)) H
set_option maxHeartbeats 4000000 in
theorem jX5_rowAround_34_ok {E : PE} {rr : Int} {HH : PH} (F : FX E cX5_rowAround RX5) (q : QE E (some (vi rr)) HH (some .int)) (hn : nLof E = 4) (hf : (roomOf E).frames = 0) (hl : (roomOf E).locals = 0) (self2 : Int → PH → RO) (p0 p1 p3 : Int) (H : PH) (ih2 : ∀ (v3 : Int) (HV : PH), self2 v3 HV = some (rr, HH) → PW E 2 [some (vr p0), some (vl p1), none, some (vi v3)] [] HV) (h : jX5_rowAround_34 self2 p0 p1 p3 H = some (rr, HH)) : PW E 34 [some (vr p0), some (vl p1), none, some (vi p3)] [] H := by
  unfold jX5_rowAround_34 at h
  refine pw_iinc (pc := 34) F dX5_rowAround_34 rfl (lt_nl hn (by decide)) [some (vr p0), some (vl p1), none, some (vi (w32 (p3 + 1)))] rfl (by decide) ?_
  refine pw_goto (pc := 37) F 2 dX5_rowAround_37 (by decide) ?_
  exact pw_mask [true, true, true, true] (ls' := [some (vr p0), some (vl p1), none, some (vi (w32 (p3 + 1)))]) rfl (ih2 (w32 (p3 + 1)) H h)
def lX5_rowAround_2 (p0 p1 : Int) (self2 : Int → PH → RO) (p3 : Int) (H : PH) : RO :=
  (ld 21 H p0 9).bind fun x1 => (if p3 ≥ x1 then some ((-1), H)
  else (ld 21 H p0 6).bind fun x2 => (ld 1 H x2 p3).bind fun x3 => (if (lc x3 p1) > 0 then jX5_rowAround_34 self2 p0 p1 p3 H
  else (ld 21 H p0 7).bind fun x4 => (ld 1 H x4 p3).bind fun x5 => (if (lc p1 x5) > 0 then jX5_rowAround_34 self2 p0 p1 p3 H
  else some (p3, H))))
set_option maxHeartbeats 4000000 in
theorem lX5_rowAround_2_ok {E : PE} {rr : Int} {HH : PH} (F : FX E cX5_rowAround RX5) (q : QE E (some (vi rr)) HH (some .int)) (hn : nLof E = 4) (hf : (roomOf E).frames = 0) (hl : (roomOf E).locals = 0) (p0 p1 : Int) : ∀ (n : Nat) (p3 : Int) (H : PH), lq1 (lX5_rowAround_2 p0 p1) n p3 H = some (rr, HH) → PW E 2 [some (vr p0), some (vl p1), none, some (vi p3)] [] H := by
  refine lq1_ind (P := fun p3 H => PW E 2 [some (vr p0), some (vl p1), none, some (vi p3)] [] H) ?_
  intro self2 ih2 p3 H h
  unfold lX5_rowAround_2 at h
  refine pw_iload_n (pc := 2) F dX5_rowAround_2 rfl ?_
  refine pw_aload_n (pc := 3) F dX5_rowAround_3 rfl ?_
  obtain ⟨x1, ex1, h⟩ := bnd h
  refine pw_get (pc := 4) F 5 9 44 (by decide) (by decide) g_c27b71773b inl_5 0 rfl dX5_rowAround_4 ex1 ?_
  refine pw_icmp_ge (pc := 7) F 40 dX5_rowAround_7 (by decide) (fun hc => ?_) (fun hc => ?_)
  · have h := iteT hc h
    refine pw_iconst (pc := 40) F (-1) dX5_rowAround_40 (by decide) ?_
    cases h
    exact pw_iret (pc := 41) F q dX5_rowAround_41
  · have h := iteF hc h
    refine pw_aload_n (pc := 10) F dX5_rowAround_10 rfl ?_
    obtain ⟨x2, ex2, h⟩ := bnd h
    refine pw_get (pc := 11) F 5 6 28 (by decide) (by decide) g_50634ba720 inl_5 2 rfl dX5_rowAround_11 ex2 ?_
    refine pw_iload_n (pc := 14) F dX5_rowAround_14 rfl ?_
    obtain ⟨x3, ex3, h⟩ := bnd h
    refine pw_lald (pc := 15) F dX5_rowAround_15 ex3 ?_
    refine pw_lload_n (pc := 16) F dX5_rowAround_16 rfl ?_
    refine pw_lcmp (pc := 17) F dX5_rowAround_17 ?_
    refine pw_if_gt (pc := 18) F 34 dX5_rowAround_18 (by decide) (fun hc => ?_) (fun hc => ?_)
    · have h := iteT hc h
      exact pw_mask [true, true, true, true] (ls' := [some (vr p0), some (vl p1), none, some (vi p3)]) rfl (jX5_rowAround_34_ok F q hn hf hl self2 p0 p1 p3 H ih2 h)
    · have h := iteF hc h
      refine pw_lload_n (pc := 21) F dX5_rowAround_21 rfl ?_
      refine pw_aload_n (pc := 22) F dX5_rowAround_22 rfl ?_
      obtain ⟨x4, ex4, h⟩ := bnd h
      refine pw_get (pc := 23) F 5 7 32 (by decide) (by decide) g_568b27af1b inl_5 2 rfl dX5_rowAround_23 ex4 ?_
      refine pw_iload_n (pc := 26) F dX5_rowAround_26 rfl ?_
      obtain ⟨x5, ex5, h⟩ := bnd h
      refine pw_lald (pc := 27) F dX5_rowAround_27 ex5 ?_
      refine pw_lcmp (pc := 28) F dX5_rowAround_28 ?_
      refine pw_if_gt (pc := 29) F 34 dX5_rowAround_29 (by decide) (fun hc => ?_) (fun hc => ?_)
      · have h := iteT hc h
        exact pw_mask [true, true, true, true] (ls' := [some (vr p0), some (vl p1), none, some (vi p3)]) rfl (jX5_rowAround_34_ok F q hn hf hl self2 p0 p1 p3 H ih2 h)
      · have h := iteF hc h
        refine pw_iload_n (pc := 32) F dX5_rowAround_32 rfl ?_
        cases h
        exact pw_iret (pc := 33) F q dX5_rowAround_33
def f_X5_rowAround (a0 a1 : Int) (H : PH) : RO := vm 5 a0 H <|
  lq1 (lX5_rowAround_2 a0 a1) 6000 0 H
set_option maxHeartbeats 4000000 in
theorem m_X5_rowAround (l : Launch) (a0 a1 : Int) (H : PH) (rr : Int) (HH : PH) (h : f_X5_rowAround a0 a1 H = some (rr, HH)) : CT l yX5_rowAround cX5_rowAround 4 (some .int) 0 0 [vr a0, vl a1] H (some (vi rr)) HH := by
  refine CT.of RX5 (by decide) rfl [some (vr a0), some (vl a1), none, none] rfl rfl ?_
  intro E F q hn hf hl hm
  unfold f_X5_rowAround at h
  obtain ⟨hv, h⟩ := vm_spec h
  refine pw_iconst (pc := 0) F 0 dX5_rowAround_0 (by decide) ?_
  refine pw_istore_n (pc := 1) F dX5_rowAround_1 (lt_nl hn (by decide)) [some (vr a0), some (vl a1), none, some (vi 0)] rfl ?_
  exact pw_mask [true, true, true, true] (ls' := [some (vr a0), some (vl a1), none, some (vi 0)]) rfl (lX5_rowAround_2_ok F q hn hf hl a0 a1  6000 0 H h)
/-! HouseholdVault$Sheet.lack(II)V -/
theorem dX6_lack_0 : decode cX6_lack 0 = .ok (.aload_n 0, 1) := by decide +kernel
theorem dX6_lack_1 : decode cX6_lack 1 = .ok (.getfield 9, 3) := by decide +kernel
theorem dX6_lack_4 : decode cX6_lack 4 = .ok (.iload_n 1, 1) := by decide +kernel
theorem dX6_lack_5 : decode cX6_lack 5 = .ok (.lconst 0, 1) := by decide +kernel
theorem dX6_lack_6 : decode cX6_lack 6 = .ok (.lastore, 1) := by decide +kernel
theorem dX6_lack_7 : decode cX6_lack 7 = .ok (.aload_n 0, 1) := by decide +kernel
theorem dX6_lack_8 : decode cX6_lack 8 = .ok (.getfield 15, 3) := by decide +kernel
theorem dX6_lack_11 : decode cX6_lack 11 = .ok (.iload_n 1, 1) := by decide +kernel
theorem dX6_lack_12 : decode cX6_lack 12 = .ok (.iload_n 2, 1) := by decide +kernel
theorem dX6_lack_13 : decode cX6_lack 13 = .ok (.iastore, 1) := by decide +kernel
theorem dX6_lack_14 : decode cX6_lack 14 = .ok (.return_, 1) := by decide +kernel
def f_X6_lack (a0 a1 a2 : Int) (H : PH) : RO := vm 6 a0 H <|
  (ld 22 H a0 0).bind fun x1 => (stv 1 H x1 a1 0).bind fun H2 => (ld 22 H2 a0 1).bind fun x3 => (stv 0 H2 x3 a1 a2).bind fun H4 => some (0, H4)
set_option maxHeartbeats 4000000 in
theorem m_X6_lack (l : Launch) (a0 a1 a2 : Int) (H : PH) (rr : Int) (HH : PH) (h : f_X6_lack a0 a1 a2 H = some (rr, HH)) : CT l yX6_lack cX6_lack 3 none 0 0 [vr a0, vi a1, vi a2] H none HH := by
  refine CT.of RX6 (by decide) rfl [some (vr a0), some (vi a1), some (vi a2)] rfl rfl ?_
  intro E F q hn hf hl hm
  unfold f_X6_lack at h
  obtain ⟨hv, h⟩ := vm_spec h
  refine pw_aload_n (pc := 0) F dX6_lack_0 rfl ?_
  obtain ⟨x1, ex1, h⟩ := bnd h
  refine pw_get (pc := 1) F 6 0 9 (by decide) (by decide) g_72f7a14260 inl_6 2 rfl dX6_lack_1 ex1 ?_
  refine pw_iload_n (pc := 4) F dX6_lack_4 rfl ?_
  refine pw_lconst (pc := 5) F 0 dX6_lack_5 (by decide) ?_
  obtain ⟨H2, eH2, h⟩ := bnd h
  refine pw_last (pc := 6) F dX6_lack_6 eH2 ?_
  refine pw_aload_n (pc := 7) F dX6_lack_7 rfl ?_
  obtain ⟨x3, ex3, h⟩ := bnd h
  refine pw_get (pc := 8) F 6 1 15 (by decide) (by decide) g_89df54ea64 inl_6 2 rfl dX6_lack_8 ex3 ?_
  refine pw_iload_n (pc := 11) F dX6_lack_11 rfl ?_
  refine pw_iload_n (pc := 12) F dX6_lack_12 rfl ?_
  obtain ⟨H4, eH4, h⟩ := bnd h
  refine pw_iast (pc := 13) F dX6_lack_13 eH4 ?_
  cases h
  exact pw_vret (pc := 14) F q dX6_lack_14
/-! HouseholdVault$Sheet.put(IJ)V -/
theorem dX6_put_0 : decode cX6_put 0 = .ok (.aload_n 0, 1) := by decide +kernel
theorem dX6_put_1 : decode cX6_put 1 = .ok (.getfield 9, 3) := by decide +kernel
theorem dX6_put_4 : decode cX6_put 4 = .ok (.iload_n 1, 1) := by decide +kernel
theorem dX6_put_5 : decode cX6_put 5 = .ok (.lload_n 2, 1) := by decide +kernel
theorem dX6_put_6 : decode cX6_put 6 = .ok (.lastore, 1) := by decide +kernel
theorem dX6_put_7 : decode cX6_put 7 = .ok (.aload_n 0, 1) := by decide +kernel
theorem dX6_put_8 : decode cX6_put 8 = .ok (.getfield 15, 3) := by decide +kernel
theorem dX6_put_11 : decode cX6_put 11 = .ok (.iload_n 1, 1) := by decide +kernel
theorem dX6_put_12 : decode cX6_put 12 = .ok (.iconst 0, 1) := by decide +kernel
theorem dX6_put_13 : decode cX6_put 13 = .ok (.iastore, 1) := by decide +kernel
theorem dX6_put_14 : decode cX6_put 14 = .ok (.return_, 1) := by decide +kernel
def f_X6_put (a0 a1 a2 : Int) (H : PH) : RO := vm 6 a0 H <|
  (ld 22 H a0 0).bind fun x1 => (stv 1 H x1 a1 a2).bind fun H2 => (ld 22 H2 a0 1).bind fun x3 => (stv 0 H2 x3 a1 0).bind fun H4 => some (0, H4)
set_option maxHeartbeats 4000000 in
theorem m_X6_put (l : Launch) (a0 a1 a2 : Int) (H : PH) (rr : Int) (HH : PH) (h : f_X6_put a0 a1 a2 H = some (rr, HH)) : CT l yX6_put cX6_put 4 none 0 0 [vr a0, vi a1, vl a2] H none HH := by
  refine CT.of RX6 (by decide) rfl [some (vr a0), some (vi a1), some (vl a2), none] rfl rfl ?_
  intro E F q hn hf hl hm
  unfold f_X6_put at h
  obtain ⟨hv, h⟩ := vm_spec h
  refine pw_aload_n (pc := 0) F dX6_put_0 rfl ?_
  obtain ⟨x1, ex1, h⟩ := bnd h
  refine pw_get (pc := 1) F 6 0 9 (by decide) (by decide) g_72f7a14260 inl_6 2 rfl dX6_put_1 ex1 ?_
  refine pw_iload_n (pc := 4) F dX6_put_4 rfl ?_
  refine pw_lload_n (pc := 5) F dX6_put_5 rfl ?_
  obtain ⟨H2, eH2, h⟩ := bnd h
  refine pw_last (pc := 6) F dX6_put_6 eH2 ?_
  refine pw_aload_n (pc := 7) F dX6_put_7 rfl ?_
  obtain ⟨x3, ex3, h⟩ := bnd h
  refine pw_get (pc := 8) F 6 1 15 (by decide) (by decide) g_89df54ea64 inl_6 2 rfl dX6_put_8 ex3 ?_
  refine pw_iload_n (pc := 11) F dX6_put_11 rfl ?_
  refine pw_iconst (pc := 12) F 0 dX6_put_12 (by decide) ?_
  obtain ⟨H4, eH4, h⟩ := bnd h
  refine pw_iast (pc := 13) F dX6_put_13 eH4 ?_
  cases h
  exact pw_vret (pc := 14) F q dX6_put_14
/-! HouseholdVault$Form.makeMapped(LHouseholdVault$Sheet;I)V -/
theorem dX3_makeMapped_0 : decode cX3_makeMapped 0 = .ok (.aload_n 0, 1) := by decide +kernel
theorem dX3_makeMapped_1 : decode cX3_makeMapped 1 = .ok (.getfield 11, 3) := by decide +kernel
theorem dX3_makeMapped_4 : decode cX3_makeMapped 4 = .ok (.iload_n 2, 1) := by decide +kernel
theorem dX3_makeMapped_5 : decode cX3_makeMapped 5 = .ok (.aaload, 1) := by decide +kernel
theorem dX3_makeMapped_6 : decode cX3_makeMapped 6 = .ok (.astore_n 3, 1) := by decide +kernel
theorem dX3_makeMapped_7 : decode cX3_makeMapped 7 = .ok (.aload_n 1, 1) := by decide +kernel
theorem dX3_makeMapped_8 : decode cX3_makeMapped 8 = .ok (.aload_n 3, 1) := by decide +kernel
theorem dX3_makeMapped_9 : decode cX3_makeMapped 9 = .ok (.getfield 106, 3) := by decide +kernel
theorem dX3_makeMapped_12 : decode cX3_makeMapped 12 = .ok (.invokestatic 109, 3) := by decide +kernel
theorem dX3_makeMapped_15 : decode cX3_makeMapped 15 = .ok (.istore 4, 2) := by decide +kernel
theorem dX3_makeMapped_17 : decode cX3_makeMapped 17 = .ok (.iconst 0, 1) := by decide +kernel
theorem dX3_makeMapped_18 : decode cX3_makeMapped 18 = .ok (.istore 5, 2) := by decide +kernel
theorem dX3_makeMapped_20 : decode cX3_makeMapped 20 = .ok (.iload 5, 2) := by decide +kernel
theorem dX3_makeMapped_22 : decode cX3_makeMapped 22 = .ok (.iload 4, 2) := by decide +kernel
theorem dX3_makeMapped_24 : decode cX3_makeMapped 24 = .ok (.if_icmp .ge 97, 3) := by decide +kernel
theorem dX3_makeMapped_27 : decode cX3_makeMapped 27 = .ok (.aload_n 3, 1) := by decide +kernel
theorem dX3_makeMapped_28 : decode cX3_makeMapped 28 = .ok (.getfield 92, 3) := by decide +kernel
theorem dX3_makeMapped_31 : decode cX3_makeMapped 31 = .ok (.iload 5, 2) := by decide +kernel
theorem dX3_makeMapped_33 : decode cX3_makeMapped 33 = .ok (.invokestatic 85, 3) := by decide +kernel
theorem dX3_makeMapped_36 : decode cX3_makeMapped 36 = .ok (.istore 6, 2) := by decide +kernel
theorem dX3_makeMapped_38 : decode cX3_makeMapped 38 = .ok (.iload_n 2, 1) := by decide +kernel
theorem dX3_makeMapped_39 : decode cX3_makeMapped 39 = .ok (.iload 5, 2) := by decide +kernel
theorem dX3_makeMapped_41 : decode cX3_makeMapped 41 = .ok (.invokestatic 85, 3) := by decide +kernel
theorem dX3_makeMapped_44 : decode cX3_makeMapped 44 = .ok (.istore 7, 2) := by decide +kernel
theorem dX3_makeMapped_46 : decode cX3_makeMapped 46 = .ok (.aload_n 3, 1) := by decide +kernel
theorem dX3_makeMapped_47 : decode cX3_makeMapped 47 = .ok (.aload_n 1, 1) := by decide +kernel
theorem dX3_makeMapped_48 : decode cX3_makeMapped 48 = .ok (.getfield 113, 3) := by decide +kernel
theorem dX3_makeMapped_51 : decode cX3_makeMapped 51 = .ok (.iload 6, 2) := by decide +kernel
theorem dX3_makeMapped_53 : decode cX3_makeMapped 53 = .ok (.laload, 1) := by decide +kernel
theorem dX3_makeMapped_54 : decode cX3_makeMapped 54 = .ok (.invokevirtual 117, 3) := by decide +kernel
theorem dX3_makeMapped_57 : decode cX3_makeMapped 57 = .ok (.istore 8, 2) := by decide +kernel
theorem dX3_makeMapped_59 : decode cX3_makeMapped 59 = .ok (.aload_n 1, 1) := by decide +kernel
theorem dX3_makeMapped_60 : decode cX3_makeMapped 60 = .ok (.getfield 121, 3) := by decide +kernel
theorem dX3_makeMapped_63 : decode cX3_makeMapped 63 = .ok (.iload 6, 2) := by decide +kernel
theorem dX3_makeMapped_65 : decode cX3_makeMapped 65 = .ok (.iaload, 1) := by decide +kernel
theorem dX3_makeMapped_66 : decode cX3_makeMapped 66 = .ok (.ifCond .eq 19, 3) := by decide +kernel
theorem dX3_makeMapped_69 : decode cX3_makeMapped 69 = .ok (.aload_n 1, 1) := by decide +kernel
theorem dX3_makeMapped_70 : decode cX3_makeMapped 70 = .ok (.iload 7, 2) := by decide +kernel
theorem dX3_makeMapped_72 : decode cX3_makeMapped 72 = .ok (.aload_n 1, 1) := by decide +kernel
theorem dX3_makeMapped_73 : decode cX3_makeMapped 73 = .ok (.getfield 121, 3) := by decide +kernel
theorem dX3_makeMapped_76 : decode cX3_makeMapped 76 = .ok (.iload 6, 2) := by decide +kernel
theorem dX3_makeMapped_78 : decode cX3_makeMapped 78 = .ok (.iaload, 1) := by decide +kernel
theorem dX3_makeMapped_79 : decode cX3_makeMapped 79 = .ok (.invokevirtual 124, 3) := by decide +kernel
theorem dX3_makeMapped_82 : decode cX3_makeMapped 82 = .ok (.goto 33, 3) := by decide +kernel
theorem dX3_makeMapped_85 : decode cX3_makeMapped 85 = .ok (.iload 8, 2) := by decide +kernel
theorem dX3_makeMapped_87 : decode cX3_makeMapped 87 = .ok (.iconst (-1), 1) := by decide +kernel
theorem dX3_makeMapped_88 : decode cX3_makeMapped 88 = .ok (.if_icmp .ne 13, 3) := by decide +kernel
theorem dX3_makeMapped_91 : decode cX3_makeMapped 91 = .ok (.aload_n 1, 1) := by decide +kernel
theorem dX3_makeMapped_92 : decode cX3_makeMapped 92 = .ok (.iload 7, 2) := by decide +kernel
theorem dX3_makeMapped_94 : decode cX3_makeMapped 94 = .ok (.iconst 4, 1) := by decide +kernel
theorem dX3_makeMapped_95 : decode cX3_makeMapped 95 = .ok (.invokevirtual 124, 3) := by decide +kernel
theorem dX3_makeMapped_98 : decode cX3_makeMapped 98 = .ok (.goto 17, 3) := by decide +kernel
theorem dX3_makeMapped_101 : decode cX3_makeMapped 101 = .ok (.aload_n 1, 1) := by decide +kernel
theorem dX3_makeMapped_102 : decode cX3_makeMapped 102 = .ok (.iload 7, 2) := by decide +kernel
theorem dX3_makeMapped_104 : decode cX3_makeMapped 104 = .ok (.aload_n 3, 1) := by decide +kernel
theorem dX3_makeMapped_105 : decode cX3_makeMapped 105 = .ok (.getfield 128, 3) := by decide +kernel
theorem dX3_makeMapped_108 : decode cX3_makeMapped 108 = .ok (.iload 8, 2) := by decide +kernel
theorem dX3_makeMapped_110 : decode cX3_makeMapped 110 = .ok (.iaload, 1) := by decide +kernel
theorem dX3_makeMapped_111 : decode cX3_makeMapped 111 = .ok (.i2l, 1) := by decide +kernel
theorem dX3_makeMapped_112 : decode cX3_makeMapped 112 = .ok (.invokevirtual 100, 3) := by decide +kernel
theorem dX3_makeMapped_115 : decode cX3_makeMapped 115 = .ok (.iinc 5 1, 3) := by decide +kernel
theorem dX3_makeMapped_118 : decode cX3_makeMapped 118 = .ok (.goto (-98), 3) := by decide +kernel
theorem dX3_makeMapped_121 : decode cX3_makeMapped 121 = .ok (.return_, 1) := by decide +kernel
def jX3_makeMapped_115 (self20 : Int → PH → RO) (p1 p2 p3 p4 p5 : Int) (H : PH) : RO :=
  self20 (w32 (p5 + 1)) H
set_option maxHeartbeats 4000000 in
theorem jX3_makeMapped_115_ok {E : PE} {rr : Int} {HH : PH} (F : FX E cX3_makeMapped RX3) (q : QE E none HH none) (hn : nLof E = 9) (hf : (roomOf E).frames = 3) (hl : (roomOf E).locals = 63) (self20 : Int → PH → RO) (p1 p2 p3 p4 p5 : Int) (H : PH) (ih20 : ∀ (v5 : Int) (HV : PH), self20 v5 HV = some (rr, HH) → PW E 20 [none, some (vr p1), some (vi p2), some (vr p3), some (vi p4), some (vi v5), none, none, none] [] HV) (h : jX3_makeMapped_115 self20 p1 p2 p3 p4 p5 H = some (rr, HH)) : PW E 115 [none, some (vr p1), some (vi p2), some (vr p3), some (vi p4), some (vi p5), none, none, none] [] H := by
  unfold jX3_makeMapped_115 at h
  refine pw_iinc (pc := 115) F dX3_makeMapped_115 rfl (lt_nl hn (by decide)) [none, some (vr p1), some (vi p2), some (vr p3), some (vi p4), some (vi (w32 (p5 + 1))), none, none, none] rfl (by decide) ?_
  refine pw_goto (pc := 118) F 20 dX3_makeMapped_118 (by decide) ?_
  exact pw_mask [true, true, true, true, true, true, true, true, true] (ls' := [none, some (vr p1), some (vi p2), some (vr p3), some (vi p4), some (vi (w32 (p5 + 1))), none, none, none]) rfl (ih20 (w32 (p5 + 1)) H h)
def lX3_makeMapped_20 (p1 p2 p3 p4 : Int) (self20 : Int → PH → RO) (p5 : Int) (H : PH) : RO :=
  (if p5 ≥ p4 then some (0, H)
  else (ld 21 H p3 3).bind fun x1 => (f_X8_spot x1 p5 H).bind fun z2 => (f_X8_spot p2 p5 z2.2).bind fun z3 => (ld 22 z3.2 p1 0).bind fun x4 => (ld 1 z3.2 x4 z2.1).bind fun x5 => (f_X5_rowAround p3 x5 z3.2).bind fun z6 => (ld 22 z6.2 p1 1).bind fun x7 => (ld 0 z6.2 x7 z2.1).bind fun x8 => (if x8 = 0 then (if z6.1 ≠ (-1) then (ld 21 z6.2 p3 8).bind fun x9 => (ld 0 z6.2 x9 z6.1).bind fun x10 => (f_X6_put p1 z3.1 x10 z6.2).bind fun z11 => jX3_makeMapped_115 self20 p1 p2 p3 p4 p5 z11.2
  else (f_X6_lack p1 z3.1 4 z6.2).bind fun z12 => jX3_makeMapped_115 self20 p1 p2 p3 p4 p5 z12.2)
  else (ld 22 z6.2 p1 1).bind fun x13 => (ld 0 z6.2 x13 z2.1).bind fun x14 => (f_X6_lack p1 z3.1 x14 z6.2).bind fun z15 => jX3_makeMapped_115 self20 p1 p2 p3 p4 p5 z15.2))
set_option maxHeartbeats 4000000 in
theorem lX3_makeMapped_20_ok {E : PE} {rr : Int} {HH : PH} (F : FX E cX3_makeMapped RX3) (q : QE E none HH none) (hn : nLof E = 9) (hf : (roomOf E).frames = 3) (hl : (roomOf E).locals = 63) (p1 p2 p3 p4 : Int) : ∀ (n : Nat) (p5 : Int) (H : PH), lq1 (lX3_makeMapped_20 p1 p2 p3 p4) n p5 H = some (rr, HH) → PW E 20 [none, some (vr p1), some (vi p2), some (vr p3), some (vi p4), some (vi p5), none, none, none] [] H := by
  refine lq1_ind (P := fun p5 H => PW E 20 [none, some (vr p1), some (vi p2), some (vr p3), some (vi p4), some (vi p5), none, none, none] [] H) ?_
  intro self20 ih20 p5 H h
  unfold lX3_makeMapped_20 at h
  refine pw_iload (pc := 20) F dX3_makeMapped_20 rfl ?_
  refine pw_iload (pc := 22) F dX3_makeMapped_22 rfl ?_
  refine pw_icmp_ge (pc := 24) F 121 dX3_makeMapped_24 (by decide) (fun hc => ?_) (fun hc => ?_)
  · have h := iteT hc h
    cases h
    exact pw_vret (pc := 121) F q dX3_makeMapped_121
  · have h := iteF hc h
    refine pw_aload_n (pc := 27) F dX3_makeMapped_27 rfl ?_
    obtain ⟨x1, ex1, h⟩ := bnd h
    refine pw_get (pc := 28) F 5 3 92 (by decide) (by decide) g_304c2d7096 inl_5 0 rfl dX3_makeMapped_28 ex1 ?_
    refine pw_iload (pc := 31) F dX3_makeMapped_31 rfl ?_
    obtain ⟨z2, ez2, h⟩ := bnd h
    refine pw_callSN (pc := 33) (as := [vi x1, vi p5]) (st := []) (r := (some (vi z2.1))) F 85 RX8 (fun l => m_X8_spot l x1 p5 H z2.1 z2.2 ez2) (fun _ _ _ h => h.2.2.2.2.2.1) g_aa0997f699 g_99e03e18e2 g_0d0469f624 hd_X8_spot (rm_ok hf hl (by decide) (by decide)) rfl dX3_makeMapped_33 rfl (stk' := [vi z2.1]) rfl ?_
    refine pw_istore (pc := 36) F dX3_makeMapped_36 (lt_nl hn (by decide)) [none, some (vr p1), some (vi p2), some (vr p3), some (vi p4), some (vi p5), some (vi z2.1), none, none] rfl ?_
    refine pw_iload_n (pc := 38) F dX3_makeMapped_38 rfl ?_
    refine pw_iload (pc := 39) F dX3_makeMapped_39 rfl ?_
    obtain ⟨z3, ez3, h⟩ := bnd h
    refine pw_callSN (pc := 41) (as := [vi p2, vi p5]) (st := []) (r := (some (vi z3.1))) F 85 RX8 (fun l => m_X8_spot l p2 p5 z2.2 z3.1 z3.2 ez3) (fun _ _ _ h => h.2.2.2.2.2.1) g_aa0997f699 g_99e03e18e2 g_0d0469f624 hd_X8_spot (rm_ok hf hl (by decide) (by decide)) rfl dX3_makeMapped_41 rfl (stk' := [vi z3.1]) rfl ?_
    refine pw_istore (pc := 44) F dX3_makeMapped_44 (lt_nl hn (by decide)) [none, some (vr p1), some (vi p2), some (vr p3), some (vi p4), some (vi p5), some (vi z2.1), some (vi z3.1), none] rfl ?_
    refine pw_aload_n (pc := 46) F dX3_makeMapped_46 rfl ?_
    refine pw_aload_n (pc := 47) F dX3_makeMapped_47 rfl ?_
    obtain ⟨x4, ex4, h⟩ := bnd h
    refine pw_get (pc := 48) F 6 0 113 (by decide) (by decide) g_0a429a6f3f inl_6 2 rfl dX3_makeMapped_48 ex4 ?_
    refine pw_iload (pc := 51) F dX3_makeMapped_51 rfl ?_
    obtain ⟨x5, ex5, h⟩ := bnd h
    refine pw_lald (pc := 53) F dX3_makeMapped_53 ex5 ?_
    obtain ⟨z6, ez6, h⟩ := bnd h
    refine pw_callV (pc := 54) (as := [vl x5]) (st := []) (r := (some (vi z6.1))) F 117 5 (by decide) rfl (fun l => m_X5_rowAround l p3 x5 z3.2 z6.1 z6.2 ez6) g_4419968c03 g_2f635507d2 g_c793f7111e g_5f14f7581a g_87d6814636 hd_X5_rowAround (rm_ok hf hl (by decide) (by decide)) rfl (vm_spec ez6).1 dX3_makeMapped_54 rfl (stk' := [vi z6.1]) rfl ?_
    refine pw_istore (pc := 57) F dX3_makeMapped_57 (lt_nl hn (by decide)) [none, some (vr p1), some (vi p2), some (vr p3), some (vi p4), some (vi p5), some (vi z2.1), some (vi z3.1), some (vi z6.1)] rfl ?_
    refine pw_aload_n (pc := 59) F dX3_makeMapped_59 rfl ?_
    obtain ⟨x7, ex7, h⟩ := bnd h
    refine pw_get (pc := 60) F 6 1 121 (by decide) (by decide) g_a70b9a2a57 inl_6 2 rfl dX3_makeMapped_60 ex7 ?_
    refine pw_iload (pc := 63) F dX3_makeMapped_63 rfl ?_
    obtain ⟨x8, ex8, h⟩ := bnd h
    refine pw_iald (pc := 65) F dX3_makeMapped_65 ex8 ?_
    refine pw_if_eq (pc := 66) F 85 dX3_makeMapped_66 (by decide) (fun hc => ?_) (fun hc => ?_)
    · have h := iteT hc h
      refine pw_iload (pc := 85) F dX3_makeMapped_85 rfl ?_
      refine pw_iconst (pc := 87) F (-1) dX3_makeMapped_87 (by decide) ?_
      refine pw_icmp_ne (pc := 88) F 101 dX3_makeMapped_88 (by decide) (fun hc => ?_) (fun hc => ?_)
      · have h := iteT hc h
        refine pw_aload_n (pc := 101) F dX3_makeMapped_101 rfl ?_
        refine pw_iload (pc := 102) F dX3_makeMapped_102 rfl ?_
        refine pw_aload_n (pc := 104) F dX3_makeMapped_104 rfl ?_
        obtain ⟨x9, ex9, h⟩ := bnd h
        refine pw_get (pc := 105) F 5 8 128 (by decide) (by decide) g_c56130afe4 inl_5 2 rfl dX3_makeMapped_105 ex9 ?_
        refine pw_iload (pc := 108) F dX3_makeMapped_108 rfl ?_
        obtain ⟨x10, ex10, h⟩ := bnd h
        refine pw_iald (pc := 110) F dX3_makeMapped_110 ex10 ?_
        refine pw_i2l (pc := 111) F dX3_makeMapped_111 ?_
        obtain ⟨z11, ez11, h⟩ := bnd h
        refine pw_callV (pc := 112) (as := [vi z3.1, vl x10]) (st := []) (r := none) F 100 6 (by decide) rfl (fun l => m_X6_put l p1 z3.1 x10 z6.2 z11.1 z11.2 ez11) g_4ab4df0845 g_a4f482ed8e g_a6da26925e g_6d91b6d2eb g_5239673ccb hd_X6_put (rm_ok hf hl (by decide) (by decide)) rfl (vm_spec ez11).1 dX3_makeMapped_112 rfl (stk' := []) rfl ?_
        exact pw_mask [true, true, true, true, true, true, false, false, false] (ls' := [none, some (vr p1), some (vi p2), some (vr p3), some (vi p4), some (vi p5), none, none, none]) rfl (jX3_makeMapped_115_ok F q hn hf hl self20 p1 p2 p3 p4 p5 z11.2 ih20 h)
      · have h := iteF hc h
        refine pw_aload_n (pc := 91) F dX3_makeMapped_91 rfl ?_
        refine pw_iload (pc := 92) F dX3_makeMapped_92 rfl ?_
        refine pw_iconst (pc := 94) F 4 dX3_makeMapped_94 (by decide) ?_
        obtain ⟨z12, ez12, h⟩ := bnd h
        refine pw_callV (pc := 95) (as := [vi z3.1, vi 4]) (st := []) (r := none) F 124 6 (by decide) rfl (fun l => m_X6_lack l p1 z3.1 4 z6.2 z12.1 z12.2 ez12) g_4d052febd2 g_003e5e4580 g_33f4dd9f6c g_6d91b6d2eb g_27df96ccd7 hd_X6_lack (rm_ok hf hl (by decide) (by decide)) rfl (vm_spec ez12).1 dX3_makeMapped_95 rfl (stk' := []) rfl ?_
        refine pw_goto (pc := 98) F 115 dX3_makeMapped_98 (by decide) ?_
        exact pw_mask [true, true, true, true, true, true, false, false, false] (ls' := [none, some (vr p1), some (vi p2), some (vr p3), some (vi p4), some (vi p5), none, none, none]) rfl (jX3_makeMapped_115_ok F q hn hf hl self20 p1 p2 p3 p4 p5 z12.2 ih20 h)
    · have h := iteF hc h
      refine pw_aload_n (pc := 69) F dX3_makeMapped_69 rfl ?_
      refine pw_iload (pc := 70) F dX3_makeMapped_70 rfl ?_
      refine pw_aload_n (pc := 72) F dX3_makeMapped_72 rfl ?_
      obtain ⟨x13, ex13, h⟩ := bnd h
      refine pw_get (pc := 73) F 6 1 121 (by decide) (by decide) g_a70b9a2a57 inl_6 2 rfl dX3_makeMapped_73 ex13 ?_
      refine pw_iload (pc := 76) F dX3_makeMapped_76 rfl ?_
      obtain ⟨x14, ex14, h⟩ := bnd h
      refine pw_iald (pc := 78) F dX3_makeMapped_78 ex14 ?_
      obtain ⟨z15, ez15, h⟩ := bnd h
      refine pw_callV (pc := 79) (as := [vi z3.1, vi x14]) (st := []) (r := none) F 124 6 (by decide) rfl (fun l => m_X6_lack l p1 z3.1 x14 z6.2 z15.1 z15.2 ez15) g_4d052febd2 g_003e5e4580 g_33f4dd9f6c g_6d91b6d2eb g_27df96ccd7 hd_X6_lack (rm_ok hf hl (by decide) (by decide)) rfl (vm_spec ez15).1 dX3_makeMapped_79 rfl (stk' := []) rfl ?_
      refine pw_goto (pc := 82) F 115 dX3_makeMapped_82 (by decide) ?_
      exact pw_mask [true, true, true, true, true, true, false, false, false] (ls' := [none, some (vr p1), some (vi p2), some (vr p3), some (vi p4), some (vi p5), none, none, none]) rfl (jX3_makeMapped_115_ok F q hn hf hl self20 p1 p2 p3 p4 p5 z15.2 ih20 h)
def f_X3_makeMapped (a0 a1 a2 : Int) (H : PH) : RO := vm 3 a0 H <|
  (ld 19 H a0 0).bind fun x1 => (ld 6 H x1 a2).bind fun x2 => (ld 21 H x2 1).bind fun x3 => (f_X8_placesOf a1 x3 H).bind fun z4 => lq1 (lX3_makeMapped_20 a1 a2 x2 z4.1) 6000 0 z4.2
set_option maxHeartbeats 4000000 in
theorem m_X3_makeMapped (l : Launch) (a0 a1 a2 : Int) (H : PH) (rr : Int) (HH : PH) (h : f_X3_makeMapped a0 a1 a2 H = some (rr, HH)) : CT l yX3_makeMapped cX3_makeMapped 9 none 3 63 [vr a0, vr a1, vi a2] H none HH := by
  refine CT.of RX3 (by decide) rfl [some (vr a0), some (vr a1), some (vi a2), none, none, none, none, none, none] rfl rfl ?_
  intro E F q hn hf hl hm
  unfold f_X3_makeMapped at h
  obtain ⟨hv, h⟩ := vm_spec h
  refine pw_aload_n (pc := 0) F dX3_makeMapped_0 rfl ?_
  obtain ⟨x1, ex1, h⟩ := bnd h
  refine pw_get (pc := 1) F 3 0 11 (by decide) (by decide) g_b400760f80 inl_3 2 rfl dX3_makeMapped_1 ex1 ?_
  refine pw_iload_n (pc := 4) F dX3_makeMapped_4 rfl ?_
  obtain ⟨x2, ex2, h⟩ := bnd h
  refine pw_aald (pc := 5) F 6 (by decide) dX3_makeMapped_5 ex2 ?_
  refine pw_astore_n (pc := 6) F dX3_makeMapped_6 (lt_nl hn (by decide)) [some (vr a0), some (vr a1), some (vi a2), some (vr x2), none, none, none, none, none] rfl ?_
  refine pw_aload_n (pc := 7) F dX3_makeMapped_7 rfl ?_
  refine pw_aload_n (pc := 8) F dX3_makeMapped_8 rfl ?_
  obtain ⟨x3, ex3, h⟩ := bnd h
  refine pw_get (pc := 9) F 5 1 106 (by decide) (by decide) g_f9f49b6d42 inl_5 0 rfl dX3_makeMapped_9 ex3 ?_
  obtain ⟨z4, ez4, h⟩ := bnd h
  refine pw_callSN (pc := 12) (as := [vr a1, vi x3]) (st := []) (r := (some (vi z4.1))) F 109 RX8 (fun l => m_X8_placesOf l a1 x3 H z4.1 z4.2 ez4) (fun _ _ _ h => h.2.2.2.2.1) g_4eaddf5732 g_99e03e18e2 g_b1b540d8aa hd_X8_placesOf (rm_ok hf hl (by decide) (by decide)) rfl dX3_makeMapped_12 rfl (stk' := [vi z4.1]) rfl ?_
  refine pw_istore (pc := 15) F dX3_makeMapped_15 (lt_nl hn (by decide)) [some (vr a0), some (vr a1), some (vi a2), some (vr x2), some (vi z4.1), none, none, none, none] rfl ?_
  refine pw_iconst (pc := 17) F 0 dX3_makeMapped_17 (by decide) ?_
  refine pw_istore (pc := 18) F dX3_makeMapped_18 (lt_nl hn (by decide)) [some (vr a0), some (vr a1), some (vi a2), some (vr x2), some (vi z4.1), some (vi 0), none, none, none] rfl ?_
  exact pw_mask [false, true, true, true, true, true, true, true, true] (ls' := [none, some (vr a1), some (vi a2), some (vr x2), some (vi z4.1), some (vi 0), none, none, none]) rfl (lX3_makeMapped_20_ok F q hn hf hl a1 a2 x2 z4.1  6000 0 z4.2 h)
