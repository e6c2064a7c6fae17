/-! HouseholdVault.row(IJJI)I -/
theorem dX8_row_0 : decode cX8_row 0 = .ok (.aload_n 0, 1) := by decide +kernel
theorem dX8_row_1 : decode cX8_row 1 = .ok (.getfield 12, 3) := by decide +kernel
theorem dX8_row_4 : decode cX8_row 4 = .ok (.iload_n 1, 1) := by decide +kernel
theorem dX8_row_5 : decode cX8_row 5 = .ok (.invokevirtual 46, 3) := by decide +kernel
theorem dX8_row_8 : decode cX8_row 8 = .ok (.astore 7, 2) := by decide +kernel
theorem dX8_row_10 : decode cX8_row 10 = .ok (.aload 7, 2) := by decide +kernel
theorem dX8_row_12 : decode cX8_row 12 = .ok (.ifnull 18, 3) := by decide +kernel
theorem dX8_row_15 : decode cX8_row 15 = .ok (.lload_n 2, 1) := by decide +kernel
theorem dX8_row_16 : decode cX8_row 16 = .ok (.lload 4, 2) := by decide +kernel
theorem dX8_row_18 : decode cX8_row 18 = .ok (.lcmp, 1) := by decide +kernel
theorem dX8_row_19 : decode cX8_row 19 = .ok (.ifCond .gt 11, 3) := by decide +kernel
theorem dX8_row_22 : decode cX8_row 22 = .ok (.iload 6, 2) := by decide +kernel
theorem dX8_row_24 : decode cX8_row 24 = .ok (.invokestatic 71, 3) := by decide +kernel
theorem dX8_row_27 : decode cX8_row 27 = .ok (.ifCond .ne 5, 3) := by decide +kernel
theorem dX8_row_30 : decode cX8_row 30 = .ok (.iconst (-1), 1) := by decide +kernel
theorem dX8_row_31 : decode cX8_row 31 = .ok (.ireturn, 1) := by decide +kernel
theorem dX8_row_32 : decode cX8_row 32 = .ok (.aload 7, 2) := by decide +kernel
theorem dX8_row_34 : decode cX8_row 34 = .ok (.getfield 75, 3) := by decide +kernel
theorem dX8_row_37 : decode cX8_row 37 = .ok (.iconst 1, 1) := by decide +kernel
theorem dX8_row_38 : decode cX8_row 38 = .ok (.if_icmp .eq 6, 3) := by decide +kernel
theorem dX8_row_41 : decode cX8_row 41 = .ok (.bipush (-2), 2) := by decide +kernel
theorem dX8_row_43 : decode cX8_row 43 = .ok (.ireturn, 1) := by decide +kernel
theorem dX8_row_44 : decode cX8_row 44 = .ok (.aload 7, 2) := by decide +kernel
theorem dX8_row_46 : decode cX8_row 46 = .ok (.getfield 91, 3) := by decide +kernel
theorem dX8_row_49 : decode cX8_row 49 = .ok (.bipush 8, 2) := by decide +kernel
theorem dX8_row_51 : decode cX8_row 51 = .ok (.if_icmp .lt 6, 3) := by decide +kernel
theorem dX8_row_54 : decode cX8_row 54 = .ok (.bipush (-4), 2) := by decide +kernel
theorem dX8_row_56 : decode cX8_row 56 = .ok (.ireturn, 1) := by decide +kernel
theorem dX8_row_57 : decode cX8_row 57 = .ok (.aload 7, 2) := by decide +kernel
theorem dX8_row_59 : decode cX8_row 59 = .ok (.lload_n 2, 1) := by decide +kernel
theorem dX8_row_60 : decode cX8_row 60 = .ok (.lload 4, 2) := by decide +kernel
theorem dX8_row_62 : decode cX8_row 62 = .ok (.iload 6, 2) := by decide +kernel
theorem dX8_row_64 : decode cX8_row 64 = .ok (.invokevirtual 94, 3) := by decide +kernel
theorem dX8_row_67 : decode cX8_row 67 = .ok (.iconst 0, 1) := by decide +kernel
theorem dX8_row_68 : decode cX8_row 68 = .ok (.istore 8, 2) := by decide +kernel
theorem dX8_row_70 : decode cX8_row 70 = .ok (.iload 8, 2) := by decide +kernel
theorem dX8_row_72 : decode cX8_row 72 = .ok (.aload_n 0, 1) := by decide +kernel
theorem dX8_row_73 : decode cX8_row 73 = .ok (.getfield 98, 3) := by decide +kernel
theorem dX8_row_76 : decode cX8_row 76 = .ok (.if_icmp .ge 24, 3) := by decide +kernel
theorem dX8_row_79 : decode cX8_row 79 = .ok (.aload_n 0, 1) := by decide +kernel
theorem dX8_row_80 : decode cX8_row 80 = .ok (.getfield 18, 3) := by decide +kernel
theorem dX8_row_83 : decode cX8_row 83 = .ok (.iload 8, 2) := by decide +kernel
theorem dX8_row_85 : decode cX8_row 85 = .ok (.aaload, 1) := by decide +kernel
theorem dX8_row_86 : decode cX8_row 86 = .ok (.aload 7, 2) := by decide +kernel
theorem dX8_row_88 : decode cX8_row 88 = .ok (.getfield 101, 3) := by decide +kernel
theorem dX8_row_91 : decode cX8_row 91 = .ok (.invokevirtual 104, 3) := by decide +kernel
theorem dX8_row_94 : decode cX8_row 94 = .ok (.iinc 8 1, 3) := by decide +kernel
theorem dX8_row_97 : decode cX8_row 97 = .ok (.goto (-27), 3) := by decide +kernel
theorem dX8_row_100 : decode cX8_row 100 = .ok (.aload 7, 2) := by decide +kernel
theorem dX8_row_102 : decode cX8_row 102 = .ok (.getfield 91, 3) := by decide +kernel
theorem dX8_row_105 : decode cX8_row 105 = .ok (.ireturn, 1) := by decide +kernel
def lX8_row_70 (p0 p7 : Int) (self70 : Int → PH → RO) (p8 : Int) (H : PH) : RO :=
  (ld 24 H p0 2).bind fun x1 => (if p8 ≥ x1 then (ld 21 H p7 9).bind fun x2 => some (x2, H)
  else (ld 24 H p0 1).bind fun x3 => (ld 5 H x3 p8).bind fun x4 => (ld 21 H p7 12).bind fun x5 => (f_X4_unsettle x4 x5 H).bind fun z6 => self70 (w32 (p8 + 1)) z6.2)
set_option maxHeartbeats 4000000 in
theorem lX8_row_70_ok {E : PE} {rr : Int} {HH : PH} (F : FX E cX8_row RX8) (q : QE E (some (vi rr)) HH (some .int)) (hn : nLof E = 9) (hf : (roomOf E).frames = 2) (hl : (roomOf E).locals = 48) (p0 p7 : Int) : ∀ (n : Nat) (p8 : Int) (H : PH), lq1 (lX8_row_70 p0 p7) n p8 H = some (rr, HH) → PW E 70 [some (vr p0), none, none, none, none, none, none, some (vr p7), some (vi p8)] [] H := by
  refine lq1_ind (P := fun p8 H => PW E 70 [some (vr p0), none, none, none, none, none, none, some (vr p7), some (vi p8)] [] H) ?_
  intro self70 ih70 p8 H h
  unfold lX8_row_70 at h
  refine pw_iload (pc := 70) F dX8_row_70 rfl ?_
  refine pw_aload_n (pc := 72) F dX8_row_72 rfl ?_
  obtain ⟨x1, ex1, h⟩ := bnd h
  refine pw_get (pc := 73) F 8 2 98 (by decide) (by decide) g_51d983fb79 inl_8 0 rfl dX8_row_73 ex1 ?_
  refine pw_icmp_ge (pc := 76) F 100 dX8_row_76 (by decide) (fun hc => ?_) (fun hc => ?_)
  · have h := iteT hc h
    refine pw_aload (pc := 100) F dX8_row_100 rfl ?_
    obtain ⟨x2, ex2, h⟩ := bnd h
    refine pw_get (pc := 102) F 5 9 91 (by decide) (by decide) g_ff15e3ab08 inl_5 0 rfl dX8_row_102 ex2 ?_
    cases h
    exact pw_iret (pc := 105) F q dX8_row_105
  · have h := iteF hc h
    refine pw_aload_n (pc := 79) F dX8_row_79 rfl ?_
    obtain ⟨x3, ex3, h⟩ := bnd h
    refine pw_get (pc := 80) F 8 1 18 (by decide) (by decide) g_0efda17134 inl_8 2 rfl dX8_row_80 ex3 ?_
    refine pw_iload (pc := 83) F dX8_row_83 rfl ?_
    obtain ⟨x4, ex4, h⟩ := bnd h
    refine pw_aald (pc := 85) F 5 (by decide) dX8_row_85 ex4 ?_
    refine pw_aload (pc := 86) F dX8_row_86 rfl ?_
    obtain ⟨x5, ex5, h⟩ := bnd h
    refine pw_get (pc := 88) F 5 12 101 (by decide) (by decide) g_5354ba0caf inl_5 0 rfl dX8_row_88 ex5 ?_
    obtain ⟨z6, ez6, h⟩ := bnd h
    refine pw_callV (pc := 91) (as := [vi x5]) (st := []) (r := none) F 104 4 (by decide) rfl (fun l => m_X4_unsettle l x4 x5 H z6.1 z6.2 ez6) g_a6698af361 g_a3e941320c g_eeee0fdaa6 g_2b384744dc g_23d9030154 hd_X4_unsettle (rm_ok hf hl (by decide) (by decide)) rfl (vm_spec ez6).1 dX8_row_91 rfl (stk' := []) rfl ?_
    refine pw_iinc (pc := 94) F dX8_row_94 rfl (lt_nl hn (by decide)) [some (vr p0), none, none, none, none, none, none, some (vr p7), some (vi (w32 (p8 + 1)))] rfl (by decide) ?_
    refine pw_goto (pc := 97) F 70 dX8_row_97 (by decide) ?_
    exact pw_mask [true, true, true, true, true, true, true, true, true] (ls' := [some (vr p0), none, none, none, none, none, none, some (vr p7), some (vi (w32 (p8 + 1)))]) rfl (ih70 (w32 (p8 + 1)) z6.2 h)
def f_X8_row (a0 a1 a2 a3 a4 : Int) (H : PH) : RO := vm 8 a0 H <|
  (ld 24 H a0 0).bind fun x1 => (f_X3_questionOf x1 a1 H).bind fun z2 => (if z2.1 = -1 then some ((-1), z2.2)
  else (if (lc a2 a3) > 0 then some ((-1), z2.2)
  else (f_X8_isCode a4 z2.2).bind fun z3 => (if z3.1 ≠ 0 then (ld 21 z3.2 z2.1 2).bind fun x4 => (if x4 = 1 then (ld 21 z3.2 z2.1 9).bind fun x5 => (if x5 < 8 then (f_X5_addRow z2.1 a2 a3 a4 z3.2).bind fun z6 => lq1 (lX8_row_70 a0 z2.1) 6000 0 z6.2
  else some ((-4), z3.2))
  else some ((-2), z3.2))
  else some ((-1), z3.2))))
set_option maxHeartbeats 4000000 in
theorem m_X8_row (l : Launch) (a0 a1 a2 a3 a4 : Int) (H : PH) (rr : Int) (HH : PH) (h : f_X8_row a0 a1 a2 a3 a4 H = some (rr, HH)) : CT l yX8_row cX8_row 9 (some .int) 2 48 [vr a0, vi a1, vl a2, vl a3, vi a4] H (some (vi rr)) HH := by
  refine CT.of RX8 (by decide) rfl [some (vr a0), some (vi a1), some (vl a2), none, some (vl a3), none, some (vi a4), none, none] rfl rfl ?_
  intro E F q hn hf hl hm
  unfold f_X8_row at h
  obtain ⟨hv, h⟩ := vm_spec h
  refine pw_aload_n (pc := 0) F dX8_row_0 rfl ?_
  obtain ⟨x1, ex1, h⟩ := bnd h
  refine pw_get (pc := 1) F 8 0 12 (by decide) (by decide) g_955d9610dc inl_8 2 rfl dX8_row_1 ex1 ?_
  refine pw_iload_n (pc := 4) F dX8_row_4 rfl ?_
  obtain ⟨z2, ez2, h⟩ := bnd h
  refine pw_callV (pc := 5) (as := [vi a1]) (st := []) (r := (some (vr z2.1))) F 46 3 (by decide) rfl (fun l => m_X3_questionOf l x1 a1 H z2.1 z2.2 ez2) g_babc17a83a g_e6ef547307 g_4b42450d0b g_106b72596f g_1cf8e31489 hd_X3_questionOf (rm_ok hf hl (by decide) (by decide)) rfl (vm_spec ez2).1 dX8_row_5 rfl (stk' := [vr z2.1]) rfl ?_
  refine pw_astore (pc := 8) F dX8_row_8 (lt_nl hn (by decide)) [some (vr a0), some (vi a1), some (vl a2), none, some (vl a3), none, some (vi a4), some (vr z2.1), none] rfl ?_
  refine pw_aload (pc := 10) F dX8_row_10 rfl ?_
  refine pw_ifnull (pc := 12) F 30 dX8_row_12 (by decide) (fun hc => ?_) (fun hc => ?_)
  · have h := iteT hc h
    refine pw_iconst (pc := 30) F (-1) dX8_row_30 (by decide) ?_
    cases h
    exact pw_iret (pc := 31) F q dX8_row_31
  · have h := iteF hc h
    refine pw_lload_n (pc := 15) F dX8_row_15 rfl ?_
    refine pw_lload (pc := 16) F dX8_row_16 rfl ?_
    refine pw_lcmp (pc := 18) F dX8_row_18 ?_
    refine pw_if_gt (pc := 19) F 30 dX8_row_19 (by decide) (fun hc => ?_) (fun hc => ?_)
    · have h := iteT hc h
      refine pw_iconst (pc := 30) F (-1) dX8_row_30 (by decide) ?_
      cases h
      exact pw_iret (pc := 31) F q dX8_row_31
    · have h := iteF hc h
      refine pw_iload (pc := 22) F dX8_row_22 rfl ?_
      obtain ⟨z3, ez3, h⟩ := bnd h
      refine pw_callS (pc := 24) (as := [vi a4]) (st := []) (r := (some (vi z3.1))) F 71 (fun l => m_X8_isCode l a4 z2.2 z3.1 z3.2 ez3) g_36d17fe2e4 g_25b5f5ffb4 g_99e03e18e2 g_bb8df22d4a hd_X8_isCode (rm_ok hf hl (by decide) (by decide)) rfl dX8_row_24 rfl (stk' := [vi z3.1]) rfl ?_
      refine pw_if_ne (pc := 27) F 32 dX8_row_27 (by decide) (fun hc => ?_) (fun hc => ?_)
      · have h := iteT hc h
        refine pw_aload (pc := 32) F dX8_row_32 rfl ?_
        obtain ⟨x4, ex4, h⟩ := bnd h
        refine pw_get (pc := 34) F 5 2 75 (by decide) (by decide) g_3884a6eb9d inl_5 0 rfl dX8_row_34 ex4 ?_
        refine pw_iconst (pc := 37) F 1 dX8_row_37 (by decide) ?_
        refine pw_icmp_eq (pc := 38) F 44 dX8_row_38 (by decide) (fun hc => ?_) (fun hc => ?_)
        · have h := iteT hc h
          refine pw_aload (pc := 44) F dX8_row_44 rfl ?_
          obtain ⟨x5, ex5, h⟩ := bnd h
          refine pw_get (pc := 46) F 5 9 91 (by decide) (by decide) g_ff15e3ab08 inl_5 0 rfl dX8_row_46 ex5 ?_
          refine pw_bipush (pc := 49) F 8 dX8_row_49 (by decide) ?_
          refine pw_icmp_lt (pc := 51) F 57 dX8_row_51 (by decide) (fun hc => ?_) (fun hc => ?_)
          · have h := iteT hc h
            refine pw_aload (pc := 57) F dX8_row_57 rfl ?_
            refine pw_lload_n (pc := 59) F dX8_row_59 rfl ?_
            refine pw_lload (pc := 60) F dX8_row_60 rfl ?_
            refine pw_iload (pc := 62) F dX8_row_62 rfl ?_
            obtain ⟨z6, ez6, h⟩ := bnd h
            refine pw_callV (pc := 64) (as := [vl a2, vl a3, vi a4]) (st := []) (r := none) F 94 5 (by decide) rfl (fun l => m_X5_addRow l z2.1 a2 a3 a4 z3.2 z6.1 z6.2 ez6) g_8030ffb268 g_5f04ca034a g_bbbbf10086 g_5f14f7581a g_e8eb7fc96d hd_X5_addRow (rm_ok hf hl (by decide) (by decide)) rfl (vm_spec ez6).1 dX8_row_64 rfl (stk' := []) rfl ?_
            refine pw_iconst (pc := 67) F 0 dX8_row_67 (by decide) ?_
            refine pw_istore (pc := 68) F dX8_row_68 (lt_nl hn (by decide)) [some (vr a0), some (vi a1), some (vl a2), none, some (vl a3), none, some (vi a4), some (vr z2.1), some (vi 0)] rfl ?_
            exact pw_mask [true, false, false, true, false, true, false, true, true] (ls' := [some (vr a0), none, none, none, none, none, none, some (vr z2.1), some (vi 0)]) rfl (lX8_row_70_ok F q hn hf hl a0 z2.1  6000 0 z6.2 h)
          · have h := iteF hc h
            refine pw_bipush (pc := 54) F (-4) dX8_row_54 (by decide) ?_
            cases h
            exact pw_iret (pc := 56) F q dX8_row_56
        · have h := iteF hc h
          refine pw_bipush (pc := 41) F (-2) dX8_row_41 (by decide) ?_
          cases h
          exact pw_iret (pc := 43) F q dX8_row_43
      · have h := iteF hc h
        refine pw_iconst (pc := 30) F (-1) dX8_row_30 (by decide) ?_
        cases h
        exact pw_iret (pc := 31) F q dX8_row_31
/-! HouseholdVault.howMany(II)I -/
theorem dX8_howMany_0 : decode cX8_howMany 0 = .ok (.aload_n 0, 1) := by decide +kernel
theorem dX8_howMany_1 : decode cX8_howMany 1 = .ok (.getfield 12, 3) := by decide +kernel
theorem dX8_howMany_4 : decode cX8_howMany 4 = .ok (.iload_n 1, 1) := by decide +kernel
theorem dX8_howMany_5 : decode cX8_howMany 5 = .ok (.invokevirtual 46, 3) := by decide +kernel
theorem dX8_howMany_8 : decode cX8_howMany 8 = .ok (.astore_n 3, 1) := by decide +kernel
theorem dX8_howMany_9 : decode cX8_howMany 9 = .ok (.aload_n 0, 1) := by decide +kernel
theorem dX8_howMany_10 : decode cX8_howMany 10 = .ok (.getfield 12, 3) := by decide +kernel
theorem dX8_howMany_13 : decode cX8_howMany 13 = .ok (.iload_n 2, 1) := by decide +kernel
theorem dX8_howMany_14 : decode cX8_howMany 14 = .ok (.invokevirtual 107, 3) := by decide +kernel
theorem dX8_howMany_17 : decode cX8_howMany 17 = .ok (.astore 4, 2) := by decide +kernel
theorem dX8_howMany_19 : decode cX8_howMany 19 = .ok (.aload_n 3, 1) := by decide +kernel
theorem dX8_howMany_20 : decode cX8_howMany 20 = .ok (.ifnull 8, 3) := by decide +kernel
theorem dX8_howMany_23 : decode cX8_howMany 23 = .ok (.aload 4, 2) := by decide +kernel
theorem dX8_howMany_25 : decode cX8_howMany 25 = .ok (.ifnonnull 5, 3) := by decide +kernel
theorem dX8_howMany_28 : decode cX8_howMany 28 = .ok (.iconst (-1), 1) := by decide +kernel
theorem dX8_howMany_29 : decode cX8_howMany 29 = .ok (.ireturn, 1) := by decide +kernel
theorem dX8_howMany_30 : decode cX8_howMany 30 = .ok (.aload_n 3, 1) := by decide +kernel
theorem dX8_howMany_31 : decode cX8_howMany 31 = .ok (.getfield 50, 3) := by decide +kernel
theorem dX8_howMany_34 : decode cX8_howMany 34 = .ok (.iconst 5, 1) := by decide +kernel
theorem dX8_howMany_35 : decode cX8_howMany 35 = .ok (.if_icmp .ne 12, 3) := by decide +kernel
theorem dX8_howMany_38 : decode cX8_howMany 38 = .ok (.aload 4, 2) := by decide +kernel
theorem dX8_howMany_40 : decode cX8_howMany 40 = .ok (.getfield 111, 3) := by decide +kernel
theorem dX8_howMany_43 : decode cX8_howMany 43 = .ok (.iload_n 1, 1) := by decide +kernel
theorem dX8_howMany_44 : decode cX8_howMany 44 = .ok (.if_icmp .eq 6, 3) := by decide +kernel
theorem dX8_howMany_47 : decode cX8_howMany 47 = .ok (.bipush (-2), 2) := by decide +kernel
theorem dX8_howMany_49 : decode cX8_howMany 49 = .ok (.ireturn, 1) := by decide +kernel
theorem dX8_howMany_50 : decode cX8_howMany 50 = .ok (.aload_n 0, 1) := by decide +kernel
theorem dX8_howMany_51 : decode cX8_howMany 51 = .ok (.getfield 12, 3) := by decide +kernel
theorem dX8_howMany_54 : decode cX8_howMany 54 = .ok (.invokevirtual 56, 3) := by decide +kernel
theorem dX8_howMany_57 : decode cX8_howMany 57 = .ok (.ifCond .eq 6, 3) := by decide +kernel
theorem dX8_howMany_60 : decode cX8_howMany 60 = .ok (.bipush (-4), 2) := by decide +kernel
theorem dX8_howMany_62 : decode cX8_howMany 62 = .ok (.ireturn, 1) := by decide +kernel
theorem dX8_howMany_63 : decode cX8_howMany 63 = .ok (.aload_n 0, 1) := by decide +kernel
theorem dX8_howMany_64 : decode cX8_howMany 64 = .ok (.getfield 12, 3) := by decide +kernel
theorem dX8_howMany_67 : decode cX8_howMany 67 = .ok (.new 51, 3) := by decide +kernel
theorem dX8_howMany_70 : decode cX8_howMany 70 = .ok (.dup, 1) := by decide +kernel
theorem dX8_howMany_71 : decode cX8_howMany 71 = .ok (.iconst 2, 1) := by decide +kernel
theorem dX8_howMany_72 : decode cX8_howMany 72 = .ok (.iconst (-1), 1) := by decide +kernel
theorem dX8_howMany_73 : decode cX8_howMany 73 = .ok (.iconst 2, 1) := by decide +kernel
theorem dX8_howMany_74 : decode cX8_howMany 74 = .ok (.iload_n 2, 1) := by decide +kernel
theorem dX8_howMany_75 : decode cX8_howMany 75 = .ok (.invokespecial 60, 3) := by decide +kernel
theorem dX8_howMany_78 : decode cX8_howMany 78 = .ok (.invokevirtual 63, 3) := by decide +kernel
theorem dX8_howMany_81 : decode cX8_howMany 81 = .ok (.ireturn, 1) := by decide +kernel
def f_X8_howMany (a0 a1 a2 : Int) (H : PH) : RO := vm 8 a0 H <|
  (ld 24 H a0 0).bind fun x1 => (f_X3_questionOf x1 a1 H).bind fun z2 => (ld 24 z2.2 a0 0).bind fun x3 => (f_X3_conditionOf x3 a2 z2.2).bind fun z4 => (if z2.1 = -1 then some ((-1), z4.2)
  else (if z4.1 ≠ -1 then (ld 21 z4.2 z2.1 0).bind fun x5 => (if x5 ≠ 5 then some ((-2), z4.2)
  else (ld 16 z4.2 z4.1 4).bind fun x6 => (if x6 = a1 then (ld 24 z4.2 a0 0).bind fun x7 => (f_X3_questionsAreFull x7 z4.2).bind fun z8 => (if z8.1 = 0 then (ld 24 z8.2 a0 0).bind fun x9 => (newo 5 z8.2).bind fun z10 => (f_X5_init z10.1 2 (-1) 2 a2 z10.2).bind fun z11 => (f_X3_addQuestion x9 z10.1 z11.2).bind fun z12 => some (z12.1, z12.2)
  else some ((-4), z8.2))
  else some ((-2), z4.2)))
  else some ((-1), z4.2)))
set_option maxHeartbeats 4000000 in
theorem m_X8_howMany (l : Launch) (a0 a1 a2 : Int) (H : PH) (rr : Int) (HH : PH) (h : f_X8_howMany a0 a1 a2 H = some (rr, HH)) : CT l yX8_howMany cX8_howMany 5 (some .int) 2 42 [vr a0, vi a1, vi a2] H (some (vi rr)) HH := by
  refine CT.of RX8 (by decide) rfl [some (vr a0), some (vi a1), some (vi a2), none, none] rfl rfl ?_
  intro E F q hn hf hl hm
  unfold f_X8_howMany at h
  obtain ⟨hv, h⟩ := vm_spec h
  refine pw_aload_n (pc := 0) F dX8_howMany_0 rfl ?_
  obtain ⟨x1, ex1, h⟩ := bnd h
  refine pw_get (pc := 1) F 8 0 12 (by decide) (by decide) g_955d9610dc inl_8 2 rfl dX8_howMany_1 ex1 ?_
  refine pw_iload_n (pc := 4) F dX8_howMany_4 rfl ?_
  obtain ⟨z2, ez2, h⟩ := bnd h
  refine pw_callV (pc := 5) (as := [vi a1]) (st := []) (r := (some (vr z2.1))) F 46 3 (by decide) rfl (fun l => m_X3_questionOf l x1 a1 H z2.1 z2.2 ez2) g_babc17a83a g_e6ef547307 g_4b42450d0b g_106b72596f g_1cf8e31489 hd_X3_questionOf (rm_ok hf hl (by decide) (by decide)) rfl (vm_spec ez2).1 dX8_howMany_5 rfl (stk' := [vr z2.1]) rfl ?_
  refine pw_astore_n (pc := 8) F dX8_howMany_8 (lt_nl hn (by decide)) [some (vr a0), some (vi a1), some (vi a2), some (vr z2.1), none] rfl ?_
  refine pw_aload_n (pc := 9) F dX8_howMany_9 rfl ?_
  obtain ⟨x3, ex3, h⟩ := bnd h
  refine pw_get (pc := 10) F 8 0 12 (by decide) (by decide) g_955d9610dc inl_8 2 rfl dX8_howMany_10 ex3 ?_
  refine pw_iload_n (pc := 13) F dX8_howMany_13 rfl ?_
  obtain ⟨z4, ez4, h⟩ := bnd h
  refine pw_callV (pc := 14) (as := [vi a2]) (st := []) (r := (some (vr z4.1))) F 107 3 (by decide) rfl (fun l => m_X3_conditionOf l x3 a2 z2.2 z4.1 z4.2 ez4) g_49928f6725 g_b00562ac61 g_8e73955a14 g_106b72596f g_f065878191 hd_X3_conditionOf (rm_ok hf hl (by decide) (by decide)) rfl (vm_spec ez4).1 dX8_howMany_14 rfl (stk' := [vr z4.1]) rfl ?_
  refine pw_astore (pc := 17) F dX8_howMany_17 (lt_nl hn (by decide)) [some (vr a0), some (vi a1), some (vi a2), some (vr z2.1), some (vr z4.1)] rfl ?_
  refine pw_aload_n (pc := 19) F dX8_howMany_19 rfl ?_
  refine pw_ifnull (pc := 20) F 28 dX8_howMany_20 (by decide) (fun hc => ?_) (fun hc => ?_)
  · have h := iteT hc h
    refine pw_iconst (pc := 28) F (-1) dX8_howMany_28 (by decide) ?_
    cases h
    exact pw_iret (pc := 29) F q dX8_howMany_29
  · have h := iteF hc h
    refine pw_aload (pc := 23) F dX8_howMany_23 rfl ?_
    refine pw_ifnonnull (pc := 25) F 30 dX8_howMany_25 (by decide) (fun hc => ?_) (fun hc => ?_)
    · have h := iteT hc h
      refine pw_aload_n (pc := 30) F dX8_howMany_30 rfl ?_
      obtain ⟨x5, ex5, h⟩ := bnd h
      refine pw_get (pc := 31) F 5 0 50 (by decide) (by decide) g_89512a4092 inl_5 0 rfl dX8_howMany_31 ex5 ?_
      refine pw_iconst (pc := 34) F 5 dX8_howMany_34 (by decide) ?_
      refine pw_icmp_ne (pc := 35) F 47 dX8_howMany_35 (by decide) (fun hc => ?_) (fun hc => ?_)
      · have h := iteT hc h
        refine pw_bipush (pc := 47) F (-2) dX8_howMany_47 (by decide) ?_
        cases h
        exact pw_iret (pc := 49) F q dX8_howMany_49
      · have h := iteF hc h
        refine pw_aload (pc := 38) F dX8_howMany_38 rfl ?_
        obtain ⟨x6, ex6, h⟩ := bnd h
        refine pw_get (pc := 40) F 0 4 111 (by decide) (by decide) g_1ba1e534e4 inl_0 0 rfl dX8_howMany_40 ex6 ?_
        refine pw_iload_n (pc := 43) F dX8_howMany_43 rfl ?_
        refine pw_icmp_eq (pc := 44) F 50 dX8_howMany_44 (by decide) (fun hc => ?_) (fun hc => ?_)
        · have h := iteT hc h
          refine pw_aload_n (pc := 50) F dX8_howMany_50 rfl ?_
          obtain ⟨x7, ex7, h⟩ := bnd h
          refine pw_get (pc := 51) F 8 0 12 (by decide) (by decide) g_955d9610dc inl_8 2 rfl dX8_howMany_51 ex7 ?_
          obtain ⟨z8, ez8, h⟩ := bnd h
          refine pw_callV (pc := 54) (as := []) (st := []) (r := (some (vi z8.1))) F 56 3 (by decide) rfl (fun l => m_X3_questionsAreFull l x7 z4.2 z8.1 z8.2 ez8) g_c1adf85407 g_ce784a9137 g_0604d5dbe4 g_106b72596f g_78e42c8fc4 hd_X3_questionsAreFull (rm_ok hf hl (by decide) (by decide)) rfl (vm_spec ez8).1 dX8_howMany_54 rfl (stk' := [vi z8.1]) rfl ?_
          refine pw_if_eq (pc := 57) F 63 dX8_howMany_57 (by decide) (fun hc => ?_) (fun hc => ?_)
          · have h := iteT hc h
            refine pw_aload_n (pc := 63) F dX8_howMany_63 rfl ?_
            obtain ⟨x9, ex9, h⟩ := bnd h
            refine pw_get (pc := 64) F 8 0 12 (by decide) (by decide) g_955d9610dc inl_8 2 rfl dX8_howMany_64 ex9 ?_
            obtain ⟨z10, ez10, h⟩ := bnd h
            refine pw_new (pc := 67) F 5 51 (by decide) g_011bfacd25 g_67734e73bb g_4c9cf21b63 inl_5 dX8_howMany_67 ez10 ?_
            refine pw_dup (pc := 70) F dX8_howMany_70 (pvne rfl) ?_
            refine pw_iconst (pc := 71) F 2 dX8_howMany_71 (by decide) ?_
            refine pw_iconst (pc := 72) F (-1) dX8_howMany_72 (by decide) ?_
            refine pw_iconst (pc := 73) F 2 dX8_howMany_73 (by decide) ?_
            refine pw_iload_n (pc := 74) F dX8_howMany_74 rfl ?_
            obtain ⟨z11, ez11, h⟩ := bnd h
            refine pw_callI (pc := 75) (as := [vi 2, vi (-1), vi 2, vi a2]) (st := [vr z10.1, vr x9]) F 60 (vm_nn (vm_spec ez11).1) (fun l => m_X5_init l z10.1 2 (-1) 2 a2 z10.2 z11.1 z11.2 ez11) rfl g_943deb2f8c g_055bdb828c g_5f14f7581a g_c34f2ef9c5 hd_X5_init (rm_ok hf hl (by decide) (by decide)) rfl dX8_howMany_75 rfl ?_
            obtain ⟨z12, ez12, h⟩ := bnd h
            refine pw_callV (pc := 78) (as := [vr z10.1]) (st := []) (r := (some (vi z12.1))) F 63 3 (by decide) rfl (fun l => m_X3_addQuestion l x9 z10.1 z11.2 z12.1 z12.2 ez12) g_2f6f4a7b3d g_3ac20f9694 g_a19cc73e1c g_106b72596f g_70a600b6d9 hd_X3_addQuestion (rm_ok hf hl (by decide) (by decide)) rfl (vm_spec ez12).1 dX8_howMany_78 rfl (stk' := [vi z12.1]) rfl ?_
            cases h
            exact pw_iret (pc := 81) F q dX8_howMany_81
          · have h := iteF hc h
            refine pw_bipush (pc := 60) F (-4) dX8_howMany_60 (by decide) ?_
            cases h
            exact pw_iret (pc := 62) F q dX8_howMany_62
        · have h := iteF hc h
          refine pw_bipush (pc := 47) F (-2) dX8_howMany_47 (by decide) ?_
          cases h
          exact pw_iret (pc := 49) F q dX8_howMany_49
    · have h := iteF hc h
      refine pw_iconst (pc := 28) F (-1) dX8_howMany_28 (by decide) ?_
      cases h
      exact pw_iret (pc := 29) F q dX8_howMany_29
/-! HouseholdVault.sum(I)I -/
theorem dX8_sum_0 : decode cX8_sum 0 = .ok (.aload_n 0, 1) := by decide +kernel
theorem dX8_sum_1 : decode cX8_sum 1 = .ok (.getfield 12, 3) := by decide +kernel
theorem dX8_sum_4 : decode cX8_sum 4 = .ok (.iload_n 1, 1) := by decide +kernel
theorem dX8_sum_5 : decode cX8_sum 5 = .ok (.invokevirtual 46, 3) := by decide +kernel
theorem dX8_sum_8 : decode cX8_sum 8 = .ok (.astore_n 2, 1) := by decide +kernel
theorem dX8_sum_9 : decode cX8_sum 9 = .ok (.aload_n 2, 1) := by decide +kernel
theorem dX8_sum_10 : decode cX8_sum 10 = .ok (.ifnonnull 5, 3) := by decide +kernel
theorem dX8_sum_13 : decode cX8_sum 13 = .ok (.iconst (-1), 1) := by decide +kernel
theorem dX8_sum_14 : decode cX8_sum 14 = .ok (.ireturn, 1) := by decide +kernel
theorem dX8_sum_15 : decode cX8_sum 15 = .ok (.aload_n 2, 1) := by decide +kernel
theorem dX8_sum_16 : decode cX8_sum 16 = .ok (.getfield 88, 3) := by decide +kernel
theorem dX8_sum_19 : decode cX8_sum 19 = .ok (.iconst (-1), 1) := by decide +kernel
theorem dX8_sum_20 : decode cX8_sum 20 = .ok (.if_icmp .eq 19, 3) := by decide +kernel
theorem dX8_sum_23 : decode cX8_sum 23 = .ok (.aload_n 2, 1) := by decide +kernel
theorem dX8_sum_24 : decode cX8_sum 24 = .ok (.getfield 50, 3) := by decide +kernel
theorem dX8_sum_27 : decode cX8_sum 27 = .ok (.iconst 2, 1) := by decide +kernel
theorem dX8_sum_28 : decode cX8_sum 28 = .ok (.if_icmp .eq 14, 3) := by decide +kernel
theorem dX8_sum_31 : decode cX8_sum 31 = .ok (.aload_n 2, 1) := by decide +kernel
theorem dX8_sum_32 : decode cX8_sum 32 = .ok (.getfield 50, 3) := by decide +kernel
theorem dX8_sum_35 : decode cX8_sum 35 = .ok (.iconst 3, 1) := by decide +kernel
theorem dX8_sum_36 : decode cX8_sum 36 = .ok (.if_icmp .eq 6, 3) := by decide +kernel
theorem dX8_sum_39 : decode cX8_sum 39 = .ok (.bipush (-2), 2) := by decide +kernel
theorem dX8_sum_41 : decode cX8_sum 41 = .ok (.ireturn, 1) := by decide +kernel
theorem dX8_sum_42 : decode cX8_sum 42 = .ok (.aload_n 0, 1) := by decide +kernel
theorem dX8_sum_43 : decode cX8_sum 43 = .ok (.getfield 12, 3) := by decide +kernel
theorem dX8_sum_46 : decode cX8_sum 46 = .ok (.invokevirtual 56, 3) := by decide +kernel
theorem dX8_sum_49 : decode cX8_sum 49 = .ok (.ifCond .eq 6, 3) := by decide +kernel
theorem dX8_sum_52 : decode cX8_sum 52 = .ok (.bipush (-4), 2) := by decide +kernel
theorem dX8_sum_54 : decode cX8_sum 54 = .ok (.ireturn, 1) := by decide +kernel
theorem dX8_sum_55 : decode cX8_sum 55 = .ok (.aload_n 0, 1) := by decide +kernel
theorem dX8_sum_56 : decode cX8_sum 56 = .ok (.getfield 12, 3) := by decide +kernel
theorem dX8_sum_59 : decode cX8_sum 59 = .ok (.new 51, 3) := by decide +kernel
theorem dX8_sum_62 : decode cX8_sum 62 = .ok (.dup, 1) := by decide +kernel
theorem dX8_sum_63 : decode cX8_sum 63 = .ok (.aload_n 2, 1) := by decide +kernel
theorem dX8_sum_64 : decode cX8_sum 64 = .ok (.getfield 50, 3) := by decide +kernel
theorem dX8_sum_67 : decode cX8_sum 67 = .ok (.iconst (-1), 1) := by decide +kernel
theorem dX8_sum_68 : decode cX8_sum 68 = .ok (.iconst 3, 1) := by decide +kernel
theorem dX8_sum_69 : decode cX8_sum 69 = .ok (.iload_n 1, 1) := by decide +kernel
theorem dX8_sum_70 : decode cX8_sum 70 = .ok (.invokespecial 60, 3) := by decide +kernel
theorem dX8_sum_73 : decode cX8_sum 73 = .ok (.invokevirtual 63, 3) := by decide +kernel
theorem dX8_sum_76 : decode cX8_sum 76 = .ok (.ireturn, 1) := by decide +kernel
def jX8_sum_42 (p0 p1 p2 : Int) (H : PH) : RO :=
  (ld 24 H p0 0).bind fun x1 => (f_X3_questionsAreFull x1 H).bind fun z2 => (if z2.1 = 0 then (ld 24 z2.2 p0 0).bind fun x3 => (newo 5 z2.2).bind fun z4 => (ld 21 z4.2 p2 0).bind fun x5 => (f_X5_init z4.1 x5 (-1) 3 p1 z4.2).bind fun z6 => (f_X3_addQuestion x3 z4.1 z6.2).bind fun z7 => some (z7.1, z7.2)
  else some ((-4), z2.2))
set_option maxHeartbeats 4000000 in
theorem jX8_sum_42_ok {E : PE} {rr : Int} {HH : PH} (F : FX E cX8_sum RX8) (q : QE E (some (vi rr)) HH (some .int)) (hn : nLof E = 3) (hf : (roomOf E).frames = 2) (hl : (roomOf E).locals = 42) (p0 p1 p2 : Int) (H : PH) (h : jX8_sum_42 p0 p1 p2 H = some (rr, HH)) : PW E 42 [some (vr p0), some (vi p1), some (vr p2)] [] H := by
  unfold jX8_sum_42 at h
  refine pw_aload_n (pc := 42) F dX8_sum_42 rfl ?_
  obtain ⟨x1, ex1, h⟩ := bnd h
  refine pw_get (pc := 43) F 8 0 12 (by decide) (by decide) g_955d9610dc inl_8 2 rfl dX8_sum_43 ex1 ?_
  obtain ⟨z2, ez2, h⟩ := bnd h
  refine pw_callV (pc := 46) (as := []) (st := []) (r := (some (vi z2.1))) F 56 3 (by decide) rfl (fun l => m_X3_questionsAreFull l x1 H z2.1 z2.2 ez2) g_c1adf85407 g_ce784a9137 g_0604d5dbe4 g_106b72596f g_78e42c8fc4 hd_X3_questionsAreFull (rm_ok hf hl (by decide) (by decide)) rfl (vm_spec ez2).1 dX8_sum_46 rfl (stk' := [vi z2.1]) rfl ?_
  refine pw_if_eq (pc := 49) F 55 dX8_sum_49 (by decide) (fun hc => ?_) (fun hc => ?_)
  · have h := iteT hc h
    refine pw_aload_n (pc := 55) F dX8_sum_55 rfl ?_
    obtain ⟨x3, ex3, h⟩ := bnd h
    refine pw_get (pc := 56) F 8 0 12 (by decide) (by decide) g_955d9610dc inl_8 2 rfl dX8_sum_56 ex3 ?_
    obtain ⟨z4, ez4, h⟩ := bnd h
    refine pw_new (pc := 59) F 5 51 (by decide) g_011bfacd25 g_67734e73bb g_4c9cf21b63 inl_5 dX8_sum_59 ez4 ?_
    refine pw_dup (pc := 62) F dX8_sum_62 (pvne rfl) ?_
    refine pw_aload_n (pc := 63) F dX8_sum_63 rfl ?_
    obtain ⟨x5, ex5, h⟩ := bnd h
    refine pw_get (pc := 64) F 5 0 50 (by decide) (by decide) g_89512a4092 inl_5 0 rfl dX8_sum_64 ex5 ?_
    refine pw_iconst (pc := 67) F (-1) dX8_sum_67 (by decide) ?_
    refine pw_iconst (pc := 68) F 3 dX8_sum_68 (by decide) ?_
    refine pw_iload_n (pc := 69) F dX8_sum_69 rfl ?_
    obtain ⟨z6, ez6, h⟩ := bnd h
    refine pw_callI (pc := 70) (as := [vi x5, vi (-1), vi 3, vi p1]) (st := [vr z4.1, vr x3]) F 60 (vm_nn (vm_spec ez6).1) (fun l => m_X5_init l z4.1 x5 (-1) 3 p1 z4.2 z6.1 z6.2 ez6) rfl g_943deb2f8c g_055bdb828c g_5f14f7581a g_c34f2ef9c5 hd_X5_init (rm_ok hf hl (by decide) (by decide)) rfl dX8_sum_70 rfl ?_
    obtain ⟨z7, ez7, h⟩ := bnd h
    refine pw_callV (pc := 73) (as := [vr z4.1]) (st := []) (r := (some (vi z7.1))) F 63 3 (by decide) rfl (fun l => m_X3_addQuestion l x3 z4.1 z6.2 z7.1 z7.2 ez7) g_2f6f4a7b3d g_3ac20f9694 g_a19cc73e1c g_106b72596f g_70a600b6d9 hd_X3_addQuestion (rm_ok hf hl (by decide) (by decide)) rfl (vm_spec ez7).1 dX8_sum_73 rfl (stk' := [vi z7.1]) rfl ?_
    cases h
    exact pw_iret (pc := 76) F q dX8_sum_76
  · have h := iteF hc h
    refine pw_bipush (pc := 52) F (-4) dX8_sum_52 (by decide) ?_
    cases h
    exact pw_iret (pc := 54) F q dX8_sum_54
def f_X8_sum (a0 a1 : Int) (H : PH) : RO := vm 8 a0 H <|
  (ld 24 H a0 0).bind fun x1 => (f_X3_questionOf x1 a1 H).bind fun z2 => (if z2.1 ≠ -1 then (ld 21 z2.2 z2.1 1).bind fun x3 => (if x3 = (-1) then some ((-2), z2.2)
  else (ld 21 z2.2 z2.1 0).bind fun x4 => (if x4 = 2 then jX8_sum_42 a0 a1 z2.1 z2.2
  else (ld 21 z2.2 z2.1 0).bind fun x5 => (if x5 = 3 then jX8_sum_42 a0 a1 z2.1 z2.2
  else some ((-2), z2.2))))
  else some ((-1), z2.2))
set_option maxHeartbeats 4000000 in
theorem m_X8_sum (l : Launch) (a0 a1 : Int) (H : PH) (rr : Int) (HH : PH) (h : f_X8_sum a0 a1 H = some (rr, HH)) : CT l yX8_sum cX8_sum 3 (some .int) 2 42 [vr a0, vi a1] H (some (vi rr)) HH := by
  refine CT.of RX8 (by decide) rfl [some (vr a0), some (vi a1), none] rfl rfl ?_
  intro E F q hn hf hl hm
  unfold f_X8_sum at h
  obtain ⟨hv, h⟩ := vm_spec h
  refine pw_aload_n (pc := 0) F dX8_sum_0 rfl ?_
  obtain ⟨x1, ex1, h⟩ := bnd h
  refine pw_get (pc := 1) F 8 0 12 (by decide) (by decide) g_955d9610dc inl_8 2 rfl dX8_sum_1 ex1 ?_
  refine pw_iload_n (pc := 4) F dX8_sum_4 rfl ?_
  obtain ⟨z2, ez2, h⟩ := bnd h
  refine pw_callV (pc := 5) (as := [vi a1]) (st := []) (r := (some (vr z2.1))) F 46 3 (by decide) rfl (fun l => m_X3_questionOf l x1 a1 H z2.1 z2.2 ez2) g_babc17a83a g_e6ef547307 g_4b42450d0b g_106b72596f g_1cf8e31489 hd_X3_questionOf (rm_ok hf hl (by decide) (by decide)) rfl (vm_spec ez2).1 dX8_sum_5 rfl (stk' := [vr z2.1]) rfl ?_
  refine pw_astore_n (pc := 8) F dX8_sum_8 (lt_nl hn (by decide)) [some (vr a0), some (vi a1), some (vr z2.1)] rfl ?_
  refine pw_aload_n (pc := 9) F dX8_sum_9 rfl ?_
  refine pw_ifnonnull (pc := 10) F 15 dX8_sum_10 (by decide) (fun hc => ?_) (fun hc => ?_)
  · have h := iteT hc h
    refine pw_aload_n (pc := 15) F dX8_sum_15 rfl ?_
    obtain ⟨x3, ex3, h⟩ := bnd h
    refine pw_get (pc := 16) F 5 1 88 (by decide) (by decide) g_3644918d03 inl_5 0 rfl dX8_sum_16 ex3 ?_
    refine pw_iconst (pc := 19) F (-1) dX8_sum_19 (by decide) ?_
    refine pw_icmp_eq (pc := 20) F 39 dX8_sum_20 (by decide) (fun hc => ?_) (fun hc => ?_)
    · have h := iteT hc h
      refine pw_bipush (pc := 39) F (-2) dX8_sum_39 (by decide) ?_
      cases h
      exact pw_iret (pc := 41) F q dX8_sum_41
    · have h := iteF hc h
      refine pw_aload_n (pc := 23) F dX8_sum_23 rfl ?_
      obtain ⟨x4, ex4, h⟩ := bnd h
      refine pw_get (pc := 24) F 5 0 50 (by decide) (by decide) g_89512a4092 inl_5 0 rfl dX8_sum_24 ex4 ?_
      refine pw_iconst (pc := 27) F 2 dX8_sum_27 (by decide) ?_
      refine pw_icmp_eq (pc := 28) F 42 dX8_sum_28 (by decide) (fun hc => ?_) (fun hc => ?_)
      · have h := iteT hc h
        exact pw_mask [true, true, true] (ls' := [some (vr a0), some (vi a1), some (vr z2.1)]) rfl (jX8_sum_42_ok F q hn hf hl a0 a1 z2.1 z2.2 h)
      · have h := iteF hc h
        refine pw_aload_n (pc := 31) F dX8_sum_31 rfl ?_
        obtain ⟨x5, ex5, h⟩ := bnd h
        refine pw_get (pc := 32) F 5 0 50 (by decide) (by decide) g_89512a4092 inl_5 0 rfl dX8_sum_32 ex5 ?_
        refine pw_iconst (pc := 35) F 3 dX8_sum_35 (by decide) ?_
        refine pw_icmp_eq (pc := 36) F 42 dX8_sum_36 (by decide) (fun hc => ?_) (fun hc => ?_)
        · have h := iteT hc h
          exact pw_mask [true, true, true] (ls' := [some (vr a0), some (vi a1), some (vr z2.1)]) rfl (jX8_sum_42_ok F q hn hf hl a0 a1 z2.1 z2.2 h)
        · have h := iteF hc h
          refine pw_bipush (pc := 39) F (-2) dX8_sum_39 (by decide) ?_
          cases h
          exact pw_iret (pc := 41) F q dX8_sum_41
  · have h := iteF hc h
    refine pw_iconst (pc := 13) F (-1) dX8_sum_13 (by decide) ?_
    cases h
    exact pw_iret (pc := 14) F q dX8_sum_14
/-! HouseholdVault.of(II)I -/
theorem dX8_of_0 : decode cX8_of 0 = .ok (.aload_n 0, 1) := by decide +kernel
theorem dX8_of_1 : decode cX8_of 1 = .ok (.getfield 12, 3) := by decide +kernel
theorem dX8_of_4 : decode cX8_of 4 = .ok (.iload_n 1, 1) := by decide +kernel
theorem dX8_of_5 : decode cX8_of 5 = .ok (.invokevirtual 46, 3) := by decide +kernel
theorem dX8_of_8 : decode cX8_of 8 = .ok (.astore_n 3, 1) := by decide +kernel
theorem dX8_of_9 : decode cX8_of 9 = .ok (.aload_n 3, 1) := by decide +kernel
theorem dX8_of_10 : decode cX8_of 10 = .ok (.ifnonnull 5, 3) := by decide +kernel
theorem dX8_of_13 : decode cX8_of 13 = .ok (.iconst (-1), 1) := by decide +kernel
theorem dX8_of_14 : decode cX8_of 14 = .ok (.ireturn, 1) := by decide +kernel
theorem dX8_of_15 : decode cX8_of 15 = .ok (.iload_n 2, 1) := by decide +kernel
theorem dX8_of_16 : decode cX8_of 16 = .ok (.tableswitch 78 0 5 #[40, 45, 50, 55, 60, 65], 40) := by decide +kernel
theorem dX8_of_56 : decode cX8_of 56 = .ok (.aload_n 3, 1) := by decide +kernel
theorem dX8_of_57 : decode cX8_of 57 = .ok (.getfield 50, 3) := by decide +kernel
theorem dX8_of_60 : decode cX8_of 60 = .ok (.ireturn, 1) := by decide +kernel
theorem dX8_of_61 : decode cX8_of 61 = .ok (.aload_n 3, 1) := by decide +kernel
theorem dX8_of_62 : decode cX8_of 62 = .ok (.getfield 88, 3) := by decide +kernel
theorem dX8_of_65 : decode cX8_of 65 = .ok (.ireturn, 1) := by decide +kernel
theorem dX8_of_66 : decode cX8_of 66 = .ok (.aload_n 3, 1) := by decide +kernel
theorem dX8_of_67 : decode cX8_of 67 = .ok (.getfield 82, 3) := by decide +kernel
theorem dX8_of_70 : decode cX8_of 70 = .ok (.ireturn, 1) := by decide +kernel
theorem dX8_of_71 : decode cX8_of 71 = .ok (.aload_n 3, 1) := by decide +kernel
theorem dX8_of_72 : decode cX8_of 72 = .ok (.getfield 75, 3) := by decide +kernel
theorem dX8_of_75 : decode cX8_of 75 = .ok (.ireturn, 1) := by decide +kernel
theorem dX8_of_76 : decode cX8_of 76 = .ok (.aload_n 3, 1) := by decide +kernel
theorem dX8_of_77 : decode cX8_of 77 = .ok (.getfield 116, 3) := by decide +kernel
theorem dX8_of_80 : decode cX8_of 80 = .ok (.ireturn, 1) := by decide +kernel
theorem dX8_of_81 : decode cX8_of 81 = .ok (.aload_n 3, 1) := by decide +kernel
theorem dX8_of_82 : decode cX8_of 82 = .ok (.getfield 119, 3) := by decide +kernel
theorem dX8_of_85 : decode cX8_of 85 = .ok (.ifCond .eq 7, 3) := by decide +kernel
theorem dX8_of_88 : decode cX8_of 88 = .ok (.iconst 1, 1) := by decide +kernel
theorem dX8_of_89 : decode cX8_of 89 = .ok (.goto 4, 3) := by decide +kernel
theorem dX8_of_92 : decode cX8_of 92 = .ok (.iconst 0, 1) := by decide +kernel
theorem dX8_of_93 : decode cX8_of 93 = .ok (.ireturn, 1) := by decide +kernel
theorem dX8_of_94 : decode cX8_of 94 = .ok (.iconst (-1), 1) := by decide +kernel
theorem dX8_of_95 : decode cX8_of 95 = .ok (.ireturn, 1) := by decide +kernel
def f_X8_of (a0 a1 a2 : Int) (H : PH) : RO := vm 8 a0 H <|
  (ld 24 H a0 0).bind fun x1 => (f_X3_questionOf x1 a1 H).bind fun z2 => (if z2.1 ≠ -1 then (if a2 < 0 ∨ 5 < a2 then some ((-1), z2.2)
  else List.getD [(ld 21 z2.2 z2.1 0).bind fun x3 => some (x3, z2.2), (ld 21 z2.2 z2.1 1).bind fun x4 => some (x4, z2.2), (ld 21 z2.2 z2.1 5).bind fun x5 => some (x5, z2.2), (ld 21 z2.2 z2.1 2).bind fun x6 => some (x6, z2.2), (ld 21 z2.2 z2.1 10).bind fun x7 => some (x7, z2.2), (ld 21 z2.2 z2.1 11).bind fun x8 => (if x8 = 0 then some (0, z2.2)
  else some (1, z2.2))] (a2 - 0).toNat none)
  else some ((-1), z2.2))
set_option maxHeartbeats 4000000 in
theorem m_X8_of (l : Launch) (a0 a1 a2 : Int) (H : PH) (rr : Int) (HH : PH) (h : f_X8_of a0 a1 a2 H = some (rr, HH)) : CT l yX8_of cX8_of 4 (some .int) 1 21 [vr a0, vi a1, vi a2] H (some (vi rr)) HH := by
  refine CT.of RX8 (by decide) rfl [some (vr a0), some (vi a1), some (vi a2), none] rfl rfl ?_
  intro E F q hn hf hl hm
  unfold f_X8_of at h
  obtain ⟨hv, h⟩ := vm_spec h
  refine pw_aload_n (pc := 0) F dX8_of_0 rfl ?_
  obtain ⟨x1, ex1, h⟩ := bnd h
  refine pw_get (pc := 1) F 8 0 12 (by decide) (by decide) g_955d9610dc inl_8 2 rfl dX8_of_1 ex1 ?_
  refine pw_iload_n (pc := 4) F dX8_of_4 rfl ?_
  obtain ⟨z2, ez2, h⟩ := bnd h
  refine pw_callV (pc := 5) (as := [vi a1]) (st := []) (r := (some (vr z2.1))) F 46 3 (by decide) rfl (fun l => m_X3_questionOf l x1 a1 H z2.1 z2.2 ez2) g_babc17a83a g_e6ef547307 g_4b42450d0b g_106b72596f g_1cf8e31489 hd_X3_questionOf (rm_ok hf hl (by decide) (by decide)) rfl (vm_spec ez2).1 dX8_of_5 rfl (stk' := [vr z2.1]) rfl ?_
  refine pw_astore_n (pc := 8) F dX8_of_8 (lt_nl hn (by decide)) [some (vr a0), some (vi a1), some (vi a2), some (vr z2.1)] rfl ?_
  refine pw_aload_n (pc := 9) F dX8_of_9 rfl ?_
  refine pw_ifnonnull (pc := 10) F 15 dX8_of_10 (by decide) (fun hc => ?_) (fun hc => ?_)
  · have h := iteT hc h
    refine pw_iload_n (pc := 15) F dX8_of_15 rfl ?_
    refine pw_table (pc := 16) F dX8_of_16 94 (by decide) [56, 61, 66, 71, 76, 81] (by decide) (by decide) (fun hc => ?_) (fun i t ht ha => ?_)
    · have h := iteT hc h
      refine pw_iconst (pc := 94) F (-1) dX8_of_94 (by decide) ?_
      cases h
      exact pw_iret (pc := 95) F q dX8_of_95
    · have hc : ¬ (a2 < 0 ∨ 5 < a2) := sw_in 6 ht ha (by decide) (by decide)
      have h := iteF hc h
      have h := sw_at ha h
      match i, ht, h with
      | 0, ht, h =>
        obtain rfl : 56 = t := Option.some.inj ht
        have h : ((ld 21 z2.2 z2.1 0).bind fun x3 => some (x3, z2.2) : RO) = some (rr, HH) := h
        refine pw_aload_n (pc := 56) F dX8_of_56 rfl ?_
        obtain ⟨x3, ex3, h⟩ := bnd h
        refine pw_get (pc := 57) F 5 0 50 (by decide) (by decide) g_89512a4092 inl_5 0 rfl dX8_of_57 ex3 ?_
        cases h
        exact pw_iret (pc := 60) F q dX8_of_60
      | 1, ht, h =>
        obtain rfl : 61 = t := Option.some.inj ht
        have h : ((ld 21 z2.2 z2.1 1).bind fun x4 => some (x4, z2.2) : RO) = some (rr, HH) := h
        refine pw_aload_n (pc := 61) F dX8_of_61 rfl ?_
        obtain ⟨x4, ex4, h⟩ := bnd h
        refine pw_get (pc := 62) F 5 1 88 (by decide) (by decide) g_3644918d03 inl_5 0 rfl dX8_of_62 ex4 ?_
        cases h
        exact pw_iret (pc := 65) F q dX8_of_65
      | 2, ht, h =>
        obtain rfl : 66 = t := Option.some.inj ht
        have h : ((ld 21 z2.2 z2.1 5).bind fun x5 => some (x5, z2.2) : RO) = some (rr, HH) := h
        refine pw_aload_n (pc := 66) F dX8_of_66 rfl ?_
        obtain ⟨x5, ex5, h⟩ := bnd h
        refine pw_get (pc := 67) F 5 5 82 (by decide) (by decide) g_64ca63fe2f inl_5 0 rfl dX8_of_67 ex5 ?_
        cases h
        exact pw_iret (pc := 70) F q dX8_of_70
      | 3, ht, h =>
        obtain rfl : 71 = t := Option.some.inj ht
        have h : ((ld 21 z2.2 z2.1 2).bind fun x6 => some (x6, z2.2) : RO) = some (rr, HH) := h
        refine pw_aload_n (pc := 71) F dX8_of_71 rfl ?_
        obtain ⟨x6, ex6, h⟩ := bnd h
        refine pw_get (pc := 72) F 5 2 75 (by decide) (by decide) g_3884a6eb9d inl_5 0 rfl dX8_of_72 ex6 ?_
        cases h
        exact pw_iret (pc := 75) F q dX8_of_75
      | 4, ht, h =>
        obtain rfl : 76 = t := Option.some.inj ht
        have h : ((ld 21 z2.2 z2.1 10).bind fun x7 => some (x7, z2.2) : RO) = some (rr, HH) := h
        refine pw_aload_n (pc := 76) F dX8_of_76 rfl ?_
        obtain ⟨x7, ex7, h⟩ := bnd h
        refine pw_get (pc := 77) F 5 10 116 (by decide) (by decide) g_490b7fc7fe inl_5 0 rfl dX8_of_77 ex7 ?_
        cases h
        exact pw_iret (pc := 80) F q dX8_of_80
      | 5, ht, h =>
        obtain rfl : 81 = t := Option.some.inj ht
        have h : ((ld 21 z2.2 z2.1 11).bind fun x8 => (if x8 = 0 then some (0, z2.2)
  else some (1, z2.2)) : RO) = some (rr, HH) := h
        refine pw_aload_n (pc := 81) F dX8_of_81 rfl ?_
        obtain ⟨x8, ex8, h⟩ := bnd h
        refine pw_get (pc := 82) F 5 11 119 (by decide) (by decide) g_5d7d6be57f inl_5 0 rfl dX8_of_82 ex8 ?_
        refine pw_if_eq (pc := 85) F 92 dX8_of_85 (by decide) (fun hc => ?_) (fun hc => ?_)
        · have h := iteT hc h
          refine pw_iconst (pc := 92) F 0 dX8_of_92 (by decide) ?_
          cases h
          exact pw_iret (pc := 93) F q dX8_of_93
        · have h := iteF hc h
          refine pw_iconst (pc := 88) F 1 dX8_of_88 (by decide) ?_
          refine pw_goto (pc := 89) F 93 dX8_of_89 (by decide) ?_
          cases h
          exact pw_iret (pc := 93) F q dX8_of_93
      | i + 6, ht, h => simp at ht
  · have h := iteF hc h
    refine pw_iconst (pc := 13) F (-1) dX8_of_13 (by decide) ?_
    cases h
    exact pw_iret (pc := 14) F q dX8_of_14
/-! HouseholdVault.codeAt(II)I -/
theorem dX8_codeAt_0 : decode cX8_codeAt 0 = .ok (.aload_n 0, 1) := by decide +kernel
theorem dX8_codeAt_1 : decode cX8_codeAt 1 = .ok (.getfield 12, 3) := by decide +kernel
theorem dX8_codeAt_4 : decode cX8_codeAt 4 = .ok (.iload_n 1, 1) := by decide +kernel
theorem dX8_codeAt_5 : decode cX8_codeAt 5 = .ok (.invokevirtual 46, 3) := by decide +kernel
theorem dX8_codeAt_8 : decode cX8_codeAt 8 = .ok (.astore_n 3, 1) := by decide +kernel
theorem dX8_codeAt_9 : decode cX8_codeAt 9 = .ok (.aload_n 3, 1) := by decide +kernel
theorem dX8_codeAt_10 : decode cX8_codeAt 10 = .ok (.ifnull 15, 3) := by decide +kernel
theorem dX8_codeAt_13 : decode cX8_codeAt 13 = .ok (.iload_n 2, 1) := by decide +kernel
theorem dX8_codeAt_14 : decode cX8_codeAt 14 = .ok (.ifCond .lt 11, 3) := by decide +kernel
theorem dX8_codeAt_17 : decode cX8_codeAt 17 = .ok (.iload_n 2, 1) := by decide +kernel
theorem dX8_codeAt_18 : decode cX8_codeAt 18 = .ok (.aload_n 3, 1) := by decide +kernel
theorem dX8_codeAt_19 : decode cX8_codeAt 19 = .ok (.getfield 82, 3) := by decide +kernel
theorem dX8_codeAt_22 : decode cX8_codeAt 22 = .ok (.if_icmp .lt 7, 3) := by decide +kernel
theorem dX8_codeAt_25 : decode cX8_codeAt 25 = .ok (.sipush 1000, 3) := by decide +kernel
theorem dX8_codeAt_28 : decode cX8_codeAt 28 = .ok (.ireturn, 1) := by decide +kernel
theorem dX8_codeAt_29 : decode cX8_codeAt 29 = .ok (.aload_n 3, 1) := by decide +kernel
theorem dX8_codeAt_30 : decode cX8_codeAt 30 = .ok (.getfield 123, 3) := by decide +kernel
theorem dX8_codeAt_33 : decode cX8_codeAt 33 = .ok (.iload_n 2, 1) := by decide +kernel
theorem dX8_codeAt_34 : decode cX8_codeAt 34 = .ok (.iaload, 1) := by decide +kernel
theorem dX8_codeAt_35 : decode cX8_codeAt 35 = .ok (.ireturn, 1) := by decide +kernel
def f_X8_codeAt (a0 a1 a2 : Int) (H : PH) : RO := vm 8 a0 H <|
  (ld 24 H a0 0).bind fun x1 => (f_X3_questionOf x1 a1 H).bind fun z2 => (if z2.1 = -1 then some (1000, z2.2)
  else (if a2 < 0 then some (1000, z2.2)
  else (ld 21 z2.2 z2.1 5).bind fun x3 => (if a2 < x3 then (ld 21 z2.2 z2.1 4).bind fun x4 => (ld 0 z2.2 x4 a2).bind fun x5 => some (x5, z2.2)
  else some (1000, z2.2))))
set_option maxHeartbeats 4000000 in
theorem m_X8_codeAt (l : Launch) (a0 a1 a2 : Int) (H : PH) (rr : Int) (HH : PH) (h : f_X8_codeAt a0 a1 a2 H = some (rr, HH)) : CT l yX8_codeAt cX8_codeAt 4 (some .int) 1 21 [vr a0, vi a1, vi a2] H (some (vi rr)) HH := by
  refine CT.of RX8 (by decide) rfl [some (vr a0), some (vi a1), some (vi a2), none] rfl rfl ?_
  intro E F q hn hf hl hm
  unfold f_X8_codeAt at h
  obtain ⟨hv, h⟩ := vm_spec h
  refine pw_aload_n (pc := 0) F dX8_codeAt_0 rfl ?_
  obtain ⟨x1, ex1, h⟩ := bnd h
  refine pw_get (pc := 1) F 8 0 12 (by decide) (by decide) g_955d9610dc inl_8 2 rfl dX8_codeAt_1 ex1 ?_
  refine pw_iload_n (pc := 4) F dX8_codeAt_4 rfl ?_
  obtain ⟨z2, ez2, h⟩ := bnd h
  refine pw_callV (pc := 5) (as := [vi a1]) (st := []) (r := (some (vr z2.1))) F 46 3 (by decide) rfl (fun l => m_X3_questionOf l x1 a1 H z2.1 z2.2 ez2) g_babc17a83a g_e6ef547307 g_4b42450d0b g_106b72596f g_1cf8e31489 hd_X3_questionOf (rm_ok hf hl (by decide) (by decide)) rfl (vm_spec ez2).1 dX8_codeAt_5 rfl (stk' := [vr z2.1]) rfl ?_
  refine pw_astore_n (pc := 8) F dX8_codeAt_8 (lt_nl hn (by decide)) [some (vr a0), some (vi a1), some (vi a2), some (vr z2.1)] rfl ?_
  refine pw_aload_n (pc := 9) F dX8_codeAt_9 rfl ?_
  refine pw_ifnull (pc := 10) F 25 dX8_codeAt_10 (by decide) (fun hc => ?_) (fun hc => ?_)
  · have h := iteT hc h
    refine pw_sipush (pc := 25) F 1000 dX8_codeAt_25 (by decide) ?_
    cases h
    exact pw_iret (pc := 28) F q dX8_codeAt_28
  · have h := iteF hc h
    refine pw_iload_n (pc := 13) F dX8_codeAt_13 rfl ?_
    refine pw_if_lt (pc := 14) F 25 dX8_codeAt_14 (by decide) (fun hc => ?_) (fun hc => ?_)
    · have h := iteT hc h
      refine pw_sipush (pc := 25) F 1000 dX8_codeAt_25 (by decide) ?_
      cases h
      exact pw_iret (pc := 28) F q dX8_codeAt_28
    · have h := iteF hc h
      refine pw_iload_n (pc := 17) F dX8_codeAt_17 rfl ?_
      refine pw_aload_n (pc := 18) F dX8_codeAt_18 rfl ?_
      obtain ⟨x3, ex3, h⟩ := bnd h
      refine pw_get (pc := 19) F 5 5 82 (by decide) (by decide) g_64ca63fe2f inl_5 0 rfl dX8_codeAt_19 ex3 ?_
      refine pw_icmp_lt (pc := 22) F 29 dX8_codeAt_22 (by decide) (fun hc => ?_) (fun hc => ?_)
      · have h := iteT hc h
        refine pw_aload_n (pc := 29) F dX8_codeAt_29 rfl ?_
        obtain ⟨x4, ex4, h⟩ := bnd h
        refine pw_get (pc := 30) F 5 4 123 (by decide) (by decide) g_bc74ea0fed inl_5 2 rfl dX8_codeAt_30 ex4 ?_
        refine pw_iload_n (pc := 33) F dX8_codeAt_33 rfl ?_
        obtain ⟨x5, ex5, h⟩ := bnd h
        refine pw_iald (pc := 34) F dX8_codeAt_34 ex5 ?_
        cases h
        exact pw_iret (pc := 35) F q dX8_codeAt_35
      · have h := iteF hc h
        refine pw_sipush (pc := 25) F 1000 dX8_codeAt_25 (by decide) ?_
        cases h
        exact pw_iret (pc := 28) F q dX8_codeAt_28
/-! HouseholdVault.household()I -/
theorem dX8_household_0 : decode cX8_household 0 = .ok (.aload_n 0, 1) := by decide +kernel
theorem dX8_household_1 : decode cX8_household 1 = .ok (.getfield 98, 3) := by decide +kernel
theorem dX8_household_4 : decode cX8_household 4 = .ok (.bipush 40, 2) := by decide +kernel
theorem dX8_household_6 : decode cX8_household 6 = .ok (.if_icmp .lt 6, 3) := by decide +kernel
theorem dX8_household_9 : decode cX8_household 9 = .ok (.bipush (-4), 2) := by decide +kernel
theorem dX8_household_11 : decode cX8_household 11 = .ok (.ireturn, 1) := by decide +kernel
theorem dX8_household_12 : decode cX8_household 12 = .ok (.new 16, 3) := by decide +kernel
theorem dX8_household_15 : decode cX8_household 15 = .ok (.dup, 1) := by decide +kernel
theorem dX8_household_16 : decode cX8_household 16 = .ok (.invokespecial 140, 3) := by decide +kernel
theorem dX8_household_19 : decode cX8_household 19 = .ok (.astore_n 1, 1) := by decide +kernel
theorem dX8_household_20 : decode cX8_household 20 = .ok (.iconst 0, 1) := by decide +kernel
theorem dX8_household_21 : decode cX8_household 21 = .ok (.istore_n 2, 1) := by decide +kernel
theorem dX8_household_22 : decode cX8_household 22 = .ok (.iload_n 2, 1) := by decide +kernel
theorem dX8_household_23 : decode cX8_household 23 = .ok (.aload_n 0, 1) := by decide +kernel
theorem dX8_household_24 : decode cX8_household 24 = .ok (.getfield 12, 3) := by decide +kernel
theorem dX8_household_27 : decode cX8_household 27 = .ok (.getfield 141, 3) := by decide +kernel
theorem dX8_household_30 : decode cX8_household 30 = .ok (.if_icmp .ge 38, 3) := by decide +kernel
theorem dX8_household_33 : decode cX8_household 33 = .ok (.aload_n 0, 1) := by decide +kernel
theorem dX8_household_34 : decode cX8_household 34 = .ok (.getfield 12, 3) := by decide +kernel
theorem dX8_household_37 : decode cX8_household 37 = .ok (.getfield 144, 3) := by decide +kernel
theorem dX8_household_40 : decode cX8_household 40 = .ok (.iload_n 2, 1) := by decide +kernel
theorem dX8_household_41 : decode cX8_household 41 = .ok (.aaload, 1) := by decide +kernel
theorem dX8_household_42 : decode cX8_household 42 = .ok (.getfield 50, 3) := by decide +kernel
theorem dX8_household_45 : decode cX8_household 45 = .ok (.iconst 5, 1) := by decide +kernel
theorem dX8_household_46 : decode cX8_household 46 = .ok (.if_icmp .ne 16, 3) := by decide +kernel
theorem dX8_household_49 : decode cX8_household 49 = .ok (.aload_n 1, 1) := by decide +kernel
theorem dX8_household_50 : decode cX8_household 50 = .ok (.getfield 126, 3) := by decide +kernel
theorem dX8_household_53 : decode cX8_household 53 = .ok (.iload_n 2, 1) := by decide +kernel
theorem dX8_household_54 : decode cX8_household 54 = .ok (.iconst (-1), 1) := by decide +kernel
theorem dX8_household_55 : decode cX8_household 55 = .ok (.invokestatic 130, 3) := by decide +kernel
theorem dX8_household_58 : decode cX8_household 58 = .ok (.lconst 0, 1) := by decide +kernel
theorem dX8_household_59 : decode cX8_household 59 = .ok (.invokevirtual 134, 3) := by decide +kernel
theorem dX8_household_62 : decode cX8_household 62 = .ok (.iinc 2 1, 3) := by decide +kernel
theorem dX8_household_65 : decode cX8_household 65 = .ok (.goto (-43), 3) := by decide +kernel
theorem dX8_household_68 : decode cX8_household 68 = .ok (.aload_n 0, 1) := by decide +kernel
theorem dX8_household_69 : decode cX8_household 69 = .ok (.getfield 18, 3) := by decide +kernel
theorem dX8_household_72 : decode cX8_household 72 = .ok (.aload_n 0, 1) := by decide +kernel
theorem dX8_household_73 : decode cX8_household 73 = .ok (.getfield 98, 3) := by decide +kernel
theorem dX8_household_76 : decode cX8_household 76 = .ok (.aload_n 1, 1) := by decide +kernel
theorem dX8_household_77 : decode cX8_household 77 = .ok (.aastore, 1) := by decide +kernel
theorem dX8_household_78 : decode cX8_household 78 = .ok (.aload_n 0, 1) := by decide +kernel
theorem dX8_household_79 : decode cX8_household 79 = .ok (.dup, 1) := by decide +kernel
theorem dX8_household_80 : decode cX8_household 80 = .ok (.getfield 98, 3) := by decide +kernel
theorem dX8_household_83 : decode cX8_household 83 = .ok (.iconst 1, 1) := by decide +kernel
theorem dX8_household_84 : decode cX8_household 84 = .ok (.iadd, 1) := by decide +kernel
theorem dX8_household_85 : decode cX8_household 85 = .ok (.putfield 98, 3) := by decide +kernel
theorem dX8_household_88 : decode cX8_household 88 = .ok (.aload_n 0, 1) := by decide +kernel
theorem dX8_household_89 : decode cX8_household 89 = .ok (.getfield 98, 3) := by decide +kernel
theorem dX8_household_92 : decode cX8_household 92 = .ok (.iconst 1, 1) := by decide +kernel
theorem dX8_household_93 : decode cX8_household 93 = .ok (.isub, 1) := by decide +kernel
theorem dX8_household_94 : decode cX8_household 94 = .ok (.ireturn, 1) := by decide +kernel
def jX8_household_62 (self22 : Int → PH → RO) (p0 p1 p2 : Int) (H : PH) : RO :=
  self22 (w32 (p2 + 1)) H
set_option maxHeartbeats 4000000 in
theorem jX8_household_62_ok {E : PE} {rr : Int} {HH : PH} (F : FX E cX8_household RX8) (q : QE E (some (vi rr)) HH (some .int)) (hn : nLof E = 3) (hf : (roomOf E).frames = 3) (hl : (roomOf E).locals = 63) (self22 : Int → PH → RO) (p0 p1 p2 : Int) (H : PH) (ih22 : ∀ (v2 : Int) (HV : PH), self22 v2 HV = some (rr, HH) → PW E 22 [some (vr p0), some (vr p1), some (vi v2)] [] HV) (h : jX8_household_62 self22 p0 p1 p2 H = some (rr, HH)) : PW E 62 [some (vr p0), some (vr p1), some (vi p2)] [] H := by
  unfold jX8_household_62 at h
  refine pw_iinc (pc := 62) F dX8_household_62 rfl (lt_nl hn (by decide)) [some (vr p0), some (vr p1), some (vi (w32 (p2 + 1)))] rfl (by decide) ?_
  refine pw_goto (pc := 65) F 22 dX8_household_65 (by decide) ?_
  exact pw_mask [true, true, true] (ls' := [some (vr p0), some (vr p1), some (vi (w32 (p2 + 1)))]) rfl (ih22 (w32 (p2 + 1)) H h)
def lX8_household_22 (p0 p1 : Int) (self22 : Int → PH → RO) (p2 : Int) (H : PH) : RO :=
  (ld 24 H p0 0).bind fun x1 => (ld 19 H x1 1).bind fun x2 => (if p2 ≥ x2 then (ld 24 H p0 1).bind fun x3 => (ld 24 H p0 2).bind fun x4 => (sta 5 4 H x3 x4 p1).bind fun H5 => (ld 24 H5 p0 2).bind fun x6 => (stv 24 H5 p0 2 (w32 (x6 + 1))).bind fun H7 => (ld 24 H7 p0 2).bind fun x8 => some ((w32 (x8 - 1)), H7)
  else (ld 24 H p0 0).bind fun x9 => (ld 19 H x9 0).bind fun x10 => (ld 6 H x10 p2).bind fun x11 => (ld 21 H x11 0).bind fun x12 => (if x12 ≠ 5 then jX8_household_62 self22 p0 p1 p2 H
  else (ld 20 H p1 0).bind fun x13 => (f_X8_spot p2 (-1) H).bind fun z14 => (f_X6_put x13 z14.1 0 z14.2).bind fun z15 => jX8_household_62 self22 p0 p1 p2 z15.2))
set_option maxHeartbeats 4000000 in
theorem lX8_household_22_ok {E : PE} {rr : Int} {HH : PH} (F : FX E cX8_household RX8) (q : QE E (some (vi rr)) HH (some .int)) (hn : nLof E = 3) (hf : (roomOf E).frames = 3) (hl : (roomOf E).locals = 63) (p0 p1 : Int) : ∀ (n : Nat) (p2 : Int) (H : PH), lq1 (lX8_household_22 p0 p1) n p2 H = some (rr, HH) → PW E 22 [some (vr p0), some (vr p1), some (vi p2)] [] H := by
  refine lq1_ind (P := fun p2 H => PW E 22 [some (vr p0), some (vr p1), some (vi p2)] [] H) ?_
  intro self22 ih22 p2 H h
  unfold lX8_household_22 at h
  refine pw_iload_n (pc := 22) F dX8_household_22 rfl ?_
  refine pw_aload_n (pc := 23) F dX8_household_23 rfl ?_
  obtain ⟨x1, ex1, h⟩ := bnd h
  refine pw_get (pc := 24) F 8 0 12 (by decide) (by decide) g_955d9610dc inl_8 2 rfl dX8_household_24 ex1 ?_
  obtain ⟨x2, ex2, h⟩ := bnd h
  refine pw_get (pc := 27) F 3 1 141 (by decide) (by decide) g_4a788c66ef inl_3 0 rfl dX8_household_27 ex2 ?_
  refine pw_icmp_ge (pc := 30) F 68 dX8_household_30 (by decide) (fun hc => ?_) (fun hc => ?_)
  · have h := iteT hc h
    refine pw_aload_n (pc := 68) F dX8_household_68 rfl ?_
    obtain ⟨x3, ex3, h⟩ := bnd h
    refine pw_get (pc := 69) F 8 1 18 (by decide) (by decide) g_0efda17134 inl_8 2 rfl dX8_household_69 ex3 ?_
    refine pw_aload_n (pc := 72) F dX8_household_72 rfl ?_
    obtain ⟨x4, ex4, h⟩ := bnd h
    refine pw_get (pc := 73) F 8 2 98 (by decide) (by decide) g_51d983fb79 inl_8 0 rfl dX8_household_73 ex4 ?_
    refine pw_aload_n (pc := 76) F dX8_household_76 rfl ?_
    obtain ⟨H5, eH5, h⟩ := bnd h
    refine pw_aast (pc := 77) F 5 4 (by decide) ⟨rfl, by decide⟩ dX8_household_77 (sta_spec eH5).2 (sta_spec eH5).1 ?_
    refine pw_aload_n (pc := 78) F dX8_household_78 rfl ?_
    refine pw_dup (pc := 79) F dX8_household_79 (pvne rfl) ?_
    obtain ⟨x6, ex6, h⟩ := bnd h
    refine pw_get (pc := 80) F 8 2 98 (by decide) (by decide) g_51d983fb79 inl_8 0 rfl dX8_household_80 ex6 ?_
    refine pw_iconst (pc := 83) F 1 dX8_household_83 (by decide) ?_
    refine pw_iadd (pc := 84) F dX8_household_84 ?_
    obtain ⟨H7, eH7, h⟩ := bnd h
    refine pw_put (pc := 85) F 8 2 98 (by decide) (by decide) g_51d983fb79 inl_8 rfl 0 rfl dX8_household_85 trivial eH7 ?_
    refine pw_aload_n (pc := 88) F dX8_household_88 rfl ?_
    obtain ⟨x8, ex8, h⟩ := bnd h
    refine pw_get (pc := 89) F 8 2 98 (by decide) (by decide) g_51d983fb79 inl_8 0 rfl dX8_household_89 ex8 ?_
    refine pw_iconst (pc := 92) F 1 dX8_household_92 (by decide) ?_
    refine pw_isub (pc := 93) F dX8_household_93 ?_
    cases h
    exact pw_iret (pc := 94) F q dX8_household_94
  · have h := iteF hc h
    refine pw_aload_n (pc := 33) F dX8_household_33 rfl ?_
    obtain ⟨x9, ex9, h⟩ := bnd h
    refine pw_get (pc := 34) F 8 0 12 (by decide) (by decide) g_955d9610dc inl_8 2 rfl dX8_household_34 ex9 ?_
    obtain ⟨x10, ex10, h⟩ := bnd h
    refine pw_get (pc := 37) F 3 0 144 (by decide) (by decide) g_78df9fc092 inl_3 2 rfl dX8_household_37 ex10 ?_
    refine pw_iload_n (pc := 40) F dX8_household_40 rfl ?_
    obtain ⟨x11, ex11, h⟩ := bnd h
    refine pw_aald (pc := 41) F 6 (by decide) dX8_household_41 ex11 ?_
    obtain ⟨x12, ex12, h⟩ := bnd h
    refine pw_get (pc := 42) F 5 0 50 (by decide) (by decide) g_89512a4092 inl_5 0 rfl dX8_household_42 ex12 ?_
    refine pw_iconst (pc := 45) F 5 dX8_household_45 (by decide) ?_
    refine pw_icmp_ne (pc := 46) F 62 dX8_household_46 (by decide) (fun hc => ?_) (fun hc => ?_)
    · have h := iteT hc h
      exact pw_mask [true, true, true] (ls' := [some (vr p0), some (vr p1), some (vi p2)]) rfl (jX8_household_62_ok F q hn hf hl self22 p0 p1 p2 H ih22 h)
    · have h := iteF hc h
      refine pw_aload_n (pc := 49) F dX8_household_49 rfl ?_
      obtain ⟨x13, ex13, h⟩ := bnd h
      refine pw_get (pc := 50) F 4 0 126 (by decide) (by decide) g_8ec333b1d7 inl_4 2 rfl dX8_household_50 ex13 ?_
      refine pw_iload_n (pc := 53) F dX8_household_53 rfl ?_
      refine pw_iconst (pc := 54) F (-1) dX8_household_54 (by decide) ?_
      obtain ⟨z14, ez14, h⟩ := bnd h
      refine pw_callS (pc := 55) (as := [vi p2, vi (-1)]) (st := [vr x13]) (r := (some (vi z14.1))) F 130 (fun l => m_X8_spot l p2 (-1) H z14.1 z14.2 ez14) g_3d0f1a9b86 g_aa0997f699 g_99e03e18e2 g_0d0469f624 hd_X8_spot (rm_ok hf hl (by decide) (by decide)) rfl dX8_household_55 rfl (stk' := [vi z14.1, vr x13]) rfl ?_
      refine pw_lconst (pc := 58) F 0 dX8_household_58 (by decide) ?_
      obtain ⟨z15, ez15, h⟩ := bnd h
      refine pw_callV (pc := 59) (as := [vi z14.1, vl 0]) (st := []) (r := none) F 134 6 (by decide) rfl (fun l => m_X6_put l x13 z14.1 0 z14.2 z15.1 z15.2 ez15) g_3522351f4b g_a4f482ed8e g_a6da26925e g_6d91b6d2eb g_5239673ccb hd_X6_put (rm_ok hf hl (by decide) (by decide)) rfl (vm_spec ez15).1 dX8_household_59 rfl (stk' := []) rfl ?_
      exact pw_mask [true, true, true] (ls' := [some (vr p0), some (vr p1), some (vi p2)]) rfl (jX8_household_62_ok F q hn hf hl self22 p0 p1 p2 z15.2 ih22 h)
def f_X8_household (a0 : Int) (H : PH) : RO := vm 8 a0 H <|
  (ld 24 H a0 2).bind fun x1 => (if x1 < 40 then (newo 4 H).bind fun z2 => (f_X4_init z2.1 z2.2).bind fun z3 => lq1 (lX8_household_22 a0 z2.1) 6000 0 z3.2
  else some ((-4), H))
set_option maxHeartbeats 4000000 in
theorem m_X8_household (l : Launch) (a0 : Int) (H : PH) (rr : Int) (HH : PH) (h : f_X8_household a0 H = some (rr, HH)) : CT l yX8_household cX8_household 3 (some .int) 3 63 [vr a0] H (some (vi rr)) HH := by
  refine CT.of RX8 (by decide) rfl [some (vr a0), none, none] rfl rfl ?_
  intro E F q hn hf hl hm
  unfold f_X8_household at h
  obtain ⟨hv, h⟩ := vm_spec h
  refine pw_aload_n (pc := 0) F dX8_household_0 rfl ?_
  obtain ⟨x1, ex1, h⟩ := bnd h
  refine pw_get (pc := 1) F 8 2 98 (by decide) (by decide) g_51d983fb79 inl_8 0 rfl dX8_household_1 ex1 ?_
  refine pw_bipush (pc := 4) F 40 dX8_household_4 (by decide) ?_
  refine pw_icmp_lt (pc := 6) F 12 dX8_household_6 (by decide) (fun hc => ?_) (fun hc => ?_)
  · have h := iteT hc h
    obtain ⟨z2, ez2, h⟩ := bnd h
    refine pw_new (pc := 12) F 4 16 (by decide) g_1acbc022bb g_ccc6ed48b6 g_375e6c049d inl_4 dX8_household_12 ez2 ?_
    refine pw_dup (pc := 15) F dX8_household_15 (pvne rfl) ?_
    obtain ⟨z3, ez3, h⟩ := bnd h
    refine pw_callI (pc := 16) (as := []) (st := [vr z2.1]) F 140 (vm_nn (vm_spec ez3).1) (fun l => m_X4_init l z2.1 z2.2 z3.1 z3.2 ez3) rfl g_10e2a65101 g_2b51a23556 g_2b384744dc g_550b83d2f3 hd_X4_init (rm_ok hf hl (by decide) (by decide)) rfl dX8_household_16 rfl ?_
    refine pw_astore_n (pc := 19) F dX8_household_19 (lt_nl hn (by decide)) [some (vr a0), some (vr z2.1), none] rfl ?_
    refine pw_iconst (pc := 20) F 0 dX8_household_20 (by decide) ?_
    refine pw_istore_n (pc := 21) F dX8_household_21 (lt_nl hn (by decide)) [some (vr a0), some (vr z2.1), some (vi 0)] rfl ?_
    exact pw_mask [true, true, true] (ls' := [some (vr a0), some (vr z2.1), some (vi 0)]) rfl (lX8_household_22_ok F q hn hf hl a0 z2.1  6000 0 z3.2 h)
  · have h := iteF hc h
    refine pw_bipush (pc := 9) F (-4) dX8_household_9 (by decide) ?_
    cases h
    exact pw_iret (pc := 11) F q dX8_household_11
/-! HouseholdVault.homeOf(I)LHouseholdVault$Household; -/
theorem dX8_homeOf_0 : decode cX8_homeOf 0 = .ok (.iload_n 1, 1) := by decide +kernel
theorem dX8_homeOf_1 : decode cX8_homeOf 1 = .ok (.ifCond .lt 20, 3) := by decide +kernel
theorem dX8_homeOf_4 : decode cX8_homeOf 4 = .ok (.iload_n 1, 1) := by decide +kernel
theorem dX8_homeOf_5 : decode cX8_homeOf 5 = .ok (.aload_n 0, 1) := by decide +kernel
theorem dX8_homeOf_6 : decode cX8_homeOf 6 = .ok (.getfield 98, 3) := by decide +kernel
theorem dX8_homeOf_9 : decode cX8_homeOf 9 = .ok (.if_icmp .ge 12, 3) := by decide +kernel
theorem dX8_homeOf_12 : decode cX8_homeOf 12 = .ok (.aload_n 0, 1) := by decide +kernel
theorem dX8_homeOf_13 : decode cX8_homeOf 13 = .ok (.getfield 18, 3) := by decide +kernel
theorem dX8_homeOf_16 : decode cX8_homeOf 16 = .ok (.iload_n 1, 1) := by decide +kernel
theorem dX8_homeOf_17 : decode cX8_homeOf 17 = .ok (.aaload, 1) := by decide +kernel
theorem dX8_homeOf_18 : decode cX8_homeOf 18 = .ok (.goto 4, 3) := by decide +kernel
theorem dX8_homeOf_21 : decode cX8_homeOf 21 = .ok (.aconst_null, 1) := by decide +kernel
theorem dX8_homeOf_22 : decode cX8_homeOf 22 = .ok (.areturn, 1) := by decide +kernel
def f_X8_homeOf (a0 a1 : Int) (H : PH) : RO := vm 8 a0 H <|
  (if a1 < 0 then some ((-1), H)
  else (ld 24 H a0 2).bind fun x1 => (if a1 ≥ x1 then some ((-1), H)
  else (ld 24 H a0 1).bind fun x2 => (ld 5 H x2 a1).bind fun x3 => some (x3, H)))
set_option maxHeartbeats 4000000 in
theorem m_X8_homeOf (l : Launch) (a0 a1 : Int) (H : PH) (rr : Int) (HH : PH) (h : f_X8_homeOf a0 a1 H = some (rr, HH)) : CT l yX8_homeOf cX8_homeOf 2 (some (.object "HouseholdVault$Household")) 0 0 [vr a0, vi a1] H (some (vr rr)) HH := by
  refine CT.of RX8 (by decide) rfl [some (vr a0), some (vi a1)] rfl rfl ?_
  intro E F q hn hf hl hm
  unfold f_X8_homeOf at h
  obtain ⟨hv, h⟩ := vm_spec h
  refine pw_iload_n (pc := 0) F dX8_homeOf_0 rfl ?_
  refine pw_if_lt (pc := 1) F 21 dX8_homeOf_1 (by decide) (fun hc => ?_) (fun hc => ?_)
  · have h := iteT hc h
    refine pw_null (pc := 21) F dX8_homeOf_21 ?_
    cases h
    exact pw_aret (pc := 22) F (Or.inl ⟨_, rfl⟩) q dX8_homeOf_22
  · have h := iteF hc h
    refine pw_iload_n (pc := 4) F dX8_homeOf_4 rfl ?_
    refine pw_aload_n (pc := 5) F dX8_homeOf_5 rfl ?_
    obtain ⟨x1, ex1, h⟩ := bnd h
    refine pw_get (pc := 6) F 8 2 98 (by decide) (by decide) g_51d983fb79 inl_8 0 rfl dX8_homeOf_6 ex1 ?_
    refine pw_icmp_ge (pc := 9) F 21 dX8_homeOf_9 (by decide) (fun hc => ?_) (fun hc => ?_)
    · have h := iteT hc h
      refine pw_null (pc := 21) F dX8_homeOf_21 ?_
      cases h
      exact pw_aret (pc := 22) F (Or.inl ⟨_, rfl⟩) q dX8_homeOf_22
    · have h := iteF hc h
      refine pw_aload_n (pc := 12) F dX8_homeOf_12 rfl ?_
      obtain ⟨x2, ex2, h⟩ := bnd h
      refine pw_get (pc := 13) F 8 1 18 (by decide) (by decide) g_0efda17134 inl_8 2 rfl dX8_homeOf_13 ex2 ?_
      refine pw_iload_n (pc := 16) F dX8_homeOf_16 rfl ?_
      obtain ⟨x3, ex3, h⟩ := bnd h
      refine pw_aald (pc := 17) F 5 (by decide) dX8_homeOf_17 ex3 ?_
      refine pw_goto (pc := 18) F 22 dX8_homeOf_18 (by decide) ?_
      cases h
      exact pw_aret (pc := 22) F (Or.inl ⟨_, rfl⟩) q dX8_homeOf_22
/-! HouseholdVault.isPlace(LHouseholdVault$Sheet;II)Z -/
theorem dX8_isPlace_0 : decode cX8_isPlace 0 = .ok (.iload_n 1, 1) := by decide +kernel
theorem dX8_isPlace_1 : decode cX8_isPlace 1 = .ok (.iconst (-1), 1) := by decide +kernel
theorem dX8_isPlace_2 : decode cX8_isPlace 2 = .ok (.if_icmp .ne 14, 3) := by decide +kernel
theorem dX8_isPlace_5 : decode cX8_isPlace 5 = .ok (.iload_n 2, 1) := by decide +kernel
theorem dX8_isPlace_6 : decode cX8_isPlace 6 = .ok (.iconst (-1), 1) := by decide +kernel
theorem dX8_isPlace_7 : decode cX8_isPlace 7 = .ok (.if_icmp .ne 7, 3) := by decide +kernel
theorem dX8_isPlace_10 : decode cX8_isPlace 10 = .ok (.iconst 1, 1) := by decide +kernel
theorem dX8_isPlace_11 : decode cX8_isPlace 11 = .ok (.goto 4, 3) := by decide +kernel
theorem dX8_isPlace_14 : decode cX8_isPlace 14 = .ok (.iconst 0, 1) := by decide +kernel
theorem dX8_isPlace_15 : decode cX8_isPlace 15 = .ok (.ireturn, 1) := by decide +kernel
theorem dX8_isPlace_16 : decode cX8_isPlace 16 = .ok (.iload_n 2, 1) := by decide +kernel
theorem dX8_isPlace_17 : decode cX8_isPlace 17 = .ok (.ifCond .lt 16, 3) := by decide +kernel
theorem dX8_isPlace_20 : decode cX8_isPlace 20 = .ok (.iload_n 2, 1) := by decide +kernel
theorem dX8_isPlace_21 : decode cX8_isPlace 21 = .ok (.aload_n 0, 1) := by decide +kernel
theorem dX8_isPlace_22 : decode cX8_isPlace 22 = .ok (.iload_n 1, 1) := by decide +kernel
theorem dX8_isPlace_23 : decode cX8_isPlace 23 = .ok (.invokevirtual 183, 3) := by decide +kernel
theorem dX8_isPlace_26 : decode cX8_isPlace 26 = .ok (.if_icmp .ge 7, 3) := by decide +kernel
theorem dX8_isPlace_29 : decode cX8_isPlace 29 = .ok (.iconst 1, 1) := by decide +kernel
theorem dX8_isPlace_30 : decode cX8_isPlace 30 = .ok (.goto 4, 3) := by decide +kernel
theorem dX8_isPlace_33 : decode cX8_isPlace 33 = .ok (.iconst 0, 1) := by decide +kernel
theorem dX8_isPlace_34 : decode cX8_isPlace 34 = .ok (.ireturn, 1) := by decide +kernel
def f_X8_isPlace (a0 a1 a2 : Int) (H : PH) : RO :=
  (if a1 ≠ (-1) then (if a2 < 0 then some (0, H)
  else (f_X6_persons a0 a1 H).bind fun z1 => (if a2 ≥ z1.1 then some (0, z1.2)
  else some (1, z1.2)))
  else (if a2 ≠ (-1) then some (0, H)
  else some (1, H)))
set_option maxHeartbeats 4000000 in
theorem m_X8_isPlace (l : Launch) (a0 a1 a2 : Int) (H : PH) (rr : Int) (HH : PH) (h : f_X8_isPlace a0 a1 a2 H = some (rr, HH)) : CT l yX8_isPlace cX8_isPlace 3 (some .boolean) 2 42 [vr a0, vi a1, vi a2] H (some (vi rr)) HH := by
  refine CT.of RX8 (by decide) rfl [some (vr a0), some (vi a1), some (vi a2)] rfl rfl ?_
  intro E F q hn hf hl hm
  unfold f_X8_isPlace at h
  refine pw_iload_n (pc := 0) F dX8_isPlace_0 rfl ?_
  refine pw_iconst (pc := 1) F (-1) dX8_isPlace_1 (by decide) ?_
  refine pw_icmp_ne (pc := 2) F 16 dX8_isPlace_2 (by decide) (fun hc => ?_) (fun hc => ?_)
  · have h := iteT hc h
    refine pw_iload_n (pc := 16) F dX8_isPlace_16 rfl ?_
    refine pw_if_lt (pc := 17) F 33 dX8_isPlace_17 (by decide) (fun hc => ?_) (fun hc => ?_)
    · have h := iteT hc h
      refine pw_iconst (pc := 33) F 0 dX8_isPlace_33 (by decide) ?_
      cases h
      exact pw_zret (pc := 34) F q (by decide) dX8_isPlace_34
    · have h := iteF hc h
      refine pw_iload_n (pc := 20) F dX8_isPlace_20 rfl ?_
      refine pw_aload_n (pc := 21) F dX8_isPlace_21 rfl ?_
      refine pw_iload_n (pc := 22) F dX8_isPlace_22 rfl ?_
      obtain ⟨z1, ez1, h⟩ := bnd h
      refine pw_callV (pc := 23) (as := [vi a1]) (st := [vi a2]) (r := (some (vi z1.1))) F 183 6 (by decide) rfl (fun l => m_X6_persons l a0 a1 H z1.1 z1.2 ez1) g_da7a44ffd1 g_57e4f7bfca g_eafb5ccad4 g_6d91b6d2eb g_7de7b516aa hd_X6_persons (rm_ok hf hl (by decide) (by decide)) rfl (vm_spec ez1).1 dX8_isPlace_23 rfl (stk' := [vi z1.1, vi a2]) rfl ?_
      refine pw_icmp_ge (pc := 26) F 33 dX8_isPlace_26 (by decide) (fun hc => ?_) (fun hc => ?_)
      · have h := iteT hc h
        refine pw_iconst (pc := 33) F 0 dX8_isPlace_33 (by decide) ?_
        cases h
        exact pw_zret (pc := 34) F q (by decide) dX8_isPlace_34
      · have h := iteF hc h
        refine pw_iconst (pc := 29) F 1 dX8_isPlace_29 (by decide) ?_
        refine pw_goto (pc := 30) F 34 dX8_isPlace_30 (by decide) ?_
        cases h
        exact pw_zret (pc := 34) F q (by decide) dX8_isPlace_34
  · have h := iteF hc h
    refine pw_iload_n (pc := 5) F dX8_isPlace_5 rfl ?_
    refine pw_iconst (pc := 6) F (-1) dX8_isPlace_6 (by decide) ?_
    refine pw_icmp_ne (pc := 7) F 14 dX8_isPlace_7 (by decide) (fun hc => ?_) (fun hc => ?_)
    · have h := iteT hc h
      refine pw_iconst (pc := 14) F 0 dX8_isPlace_14 (by decide) ?_
      cases h
      exact pw_zret (pc := 15) F q (by decide) dX8_isPlace_15
    · have h := iteF hc h
      refine pw_iconst (pc := 10) F 1 dX8_isPlace_10 (by decide) ?_
      refine pw_goto (pc := 11) F 15 dX8_isPlace_11 (by decide) ?_
      cases h
      exact pw_zret (pc := 15) F q (by decide) dX8_isPlace_15
/-! HouseholdVault.dropPersons(LHouseholdVault$Sheet;II)V -/
theorem dX8_dropPersons_0 : decode cX8_dropPersons 0 = .ok (.iconst 0, 1) := by decide +kernel
theorem dX8_dropPersons_1 : decode cX8_dropPersons 1 = .ok (.istore 4, 2) := by decide +kernel
theorem dX8_dropPersons_3 : decode cX8_dropPersons 3 = .ok (.iload 4, 2) := by decide +kernel
theorem dX8_dropPersons_5 : decode cX8_dropPersons 5 = .ok (.aload_n 0, 1) := by decide +kernel
theorem dX8_dropPersons_6 : decode cX8_dropPersons 6 = .ok (.getfield 12, 3) := by decide +kernel
theorem dX8_dropPersons_9 : decode cX8_dropPersons 9 = .ok (.getfield 141, 3) := by decide +kernel
theorem dX8_dropPersons_12 : decode cX8_dropPersons 12 = .ok (.if_icmp .ge 56, 3) := by decide +kernel
theorem dX8_dropPersons_15 : decode cX8_dropPersons 15 = .ok (.aload_n 0, 1) := by decide +kernel
theorem dX8_dropPersons_16 : decode cX8_dropPersons 16 = .ok (.getfield 12, 3) := by decide +kernel
theorem dX8_dropPersons_19 : decode cX8_dropPersons 19 = .ok (.getfield 144, 3) := by decide +kernel
theorem dX8_dropPersons_22 : decode cX8_dropPersons 22 = .ok (.iload 4, 2) := by decide +kernel
theorem dX8_dropPersons_24 : decode cX8_dropPersons 24 = .ok (.aaload, 1) := by decide +kernel
theorem dX8_dropPersons_25 : decode cX8_dropPersons 25 = .ok (.getfield 88, 3) := by decide +kernel
theorem dX8_dropPersons_28 : decode cX8_dropPersons 28 = .ok (.iload_n 2, 1) := by decide +kernel
theorem dX8_dropPersons_29 : decode cX8_dropPersons 29 = .ok (.if_icmp .eq 6, 3) := by decide +kernel
theorem dX8_dropPersons_32 : decode cX8_dropPersons 32 = .ok (.goto 30, 3) := by decide +kernel
theorem dX8_dropPersons_35 : decode cX8_dropPersons 35 = .ok (.iload_n 3, 1) := by decide +kernel
theorem dX8_dropPersons_36 : decode cX8_dropPersons 36 = .ok (.istore 5, 2) := by decide +kernel
theorem dX8_dropPersons_38 : decode cX8_dropPersons 38 = .ok (.iload 5, 2) := by decide +kernel
theorem dX8_dropPersons_40 : decode cX8_dropPersons 40 = .ok (.iconst 5, 1) := by decide +kernel
theorem dX8_dropPersons_41 : decode cX8_dropPersons 41 = .ok (.if_icmp .ge 21, 3) := by decide +kernel
theorem dX8_dropPersons_44 : decode cX8_dropPersons 44 = .ok (.aload_n 1, 1) := by decide +kernel
theorem dX8_dropPersons_45 : decode cX8_dropPersons 45 = .ok (.iload 4, 2) := by decide +kernel
theorem dX8_dropPersons_47 : decode cX8_dropPersons 47 = .ok (.iload 5, 2) := by decide +kernel
theorem dX8_dropPersons_49 : decode cX8_dropPersons 49 = .ok (.invokestatic 130, 3) := by decide +kernel
theorem dX8_dropPersons_52 : decode cX8_dropPersons 52 = .ok (.iconst 1, 1) := by decide +kernel
theorem dX8_dropPersons_53 : decode cX8_dropPersons 53 = .ok (.invokevirtual 164, 3) := by decide +kernel
theorem dX8_dropPersons_56 : decode cX8_dropPersons 56 = .ok (.iinc 5 1, 3) := by decide +kernel
theorem dX8_dropPersons_59 : decode cX8_dropPersons 59 = .ok (.goto (-21), 3) := by decide +kernel
theorem dX8_dropPersons_62 : decode cX8_dropPersons 62 = .ok (.iinc 4 1, 3) := by decide +kernel
theorem dX8_dropPersons_65 : decode cX8_dropPersons 65 = .ok (.goto (-62), 3) := by decide +kernel
theorem dX8_dropPersons_68 : decode cX8_dropPersons 68 = .ok (.return_, 1) := by decide +kernel
def jX8_dropPersons_62 (self3 : Int → PH → RO) (p0 p1 p2 p3 p4 : Int) (H : PH) : RO :=
  self3 (w32 (p4 + 1)) H
set_option maxHeartbeats 4000000 in
theorem jX8_dropPersons_62_ok {E : PE} {rr : Int} {HH : PH} (F : FX E cX8_dropPersons RX8) (q : QE E none HH none) (hn : nLof E = 6) (hf : (roomOf E).frames = 1) (hl : (roomOf E).locals = 22) (self3 : Int → PH → RO) (p0 p1 p2 p3 p4 : Int) (H : PH) (ih3 : ∀ (v4 : Int) (HV : PH), self3 v4 HV = some (rr, HH) → PW E 3 [some (vr p0), some (vr p1), some (vi p2), some (vi p3), some (vi v4), none] [] HV) (h : jX8_dropPersons_62 self3 p0 p1 p2 p3 p4 H = some (rr, HH)) : PW E 62 [some (vr p0), some (vr p1), some (vi p2), some (vi p3), some (vi p4), none] [] H := by
  unfold jX8_dropPersons_62 at h
  refine pw_iinc (pc := 62) F dX8_dropPersons_62 rfl (lt_nl hn (by decide)) [some (vr p0), some (vr p1), some (vi p2), some (vi p3), some (vi (w32 (p4 + 1))), none] rfl (by decide) ?_
  refine pw_goto (pc := 65) F 3 dX8_dropPersons_65 (by decide) ?_
  exact pw_mask [true, true, true, true, true, true] (ls' := [some (vr p0), some (vr p1), some (vi p2), some (vi p3), some (vi (w32 (p4 + 1))), none]) rfl (ih3 (w32 (p4 + 1)) H h)
def lX8_dropPersons_38 (self3 : Int → PH → RO) (p0 p1 p2 p3 p4 : Int) (self38 : Int → PH → RO) (p5 : Int) (H : PH) : RO :=
  (if p5 ≥ 5 then jX8_dropPersons_62 self3 p0 p1 p2 p3 p4 H
  else (f_X8_spot p4 p5 H).bind fun z1 => (f_X6_lack p1 z1.1 1 z1.2).bind fun z2 => self38 (w32 (p5 + 1)) z2.2)
set_option maxHeartbeats 4000000 in
theorem lX8_dropPersons_38_ok {E : PE} {rr : Int} {HH : PH} (F : FX E cX8_dropPersons RX8) (q : QE E none HH none) (hn : nLof E = 6) (hf : (roomOf E).frames = 1) (hl : (roomOf E).locals = 22) (self3 : Int → PH → RO) (p0 p1 p2 p3 p4 : Int) (ih3 : ∀ (v4 : Int) (HV : PH), self3 v4 HV = some (rr, HH) → PW E 3 [some (vr p0), some (vr p1), some (vi p2), some (vi p3), some (vi v4), none] [] HV) : ∀ (n : Nat) (p5 : Int) (H : PH), lq1 (lX8_dropPersons_38 self3 p0 p1 p2 p3 p4) n p5 H = some (rr, HH) → PW E 38 [some (vr p0), some (vr p1), some (vi p2), some (vi p3), some (vi p4), some (vi p5)] [] H := by
  refine lq1_ind (P := fun p5 H => PW E 38 [some (vr p0), some (vr p1), some (vi p2), some (vi p3), some (vi p4), some (vi p5)] [] H) ?_
  intro self38 ih38 p5 H h
  unfold lX8_dropPersons_38 at h
  refine pw_iload (pc := 38) F dX8_dropPersons_38 rfl ?_
  refine pw_iconst (pc := 40) F 5 dX8_dropPersons_40 (by decide) ?_
  refine pw_icmp_ge (pc := 41) F 62 dX8_dropPersons_41 (by decide) (fun hc => ?_) (fun hc => ?_)
  · have h := iteT hc h
    exact pw_mask [true, true, true, true, true, false] (ls' := [some (vr p0), some (vr p1), some (vi p2), some (vi p3), some (vi p4), none]) rfl (jX8_dropPersons_62_ok F q hn hf hl self3 p0 p1 p2 p3 p4 H ih3 h)
  · have h := iteF hc h
    refine pw_aload_n (pc := 44) F dX8_dropPersons_44 rfl ?_
    refine pw_iload (pc := 45) F dX8_dropPersons_45 rfl ?_
    refine pw_iload (pc := 47) F dX8_dropPersons_47 rfl ?_
    obtain ⟨z1, ez1, h⟩ := bnd h
    refine pw_callS (pc := 49) (as := [vi p4, vi p5]) (st := [vr p1]) (r := (some (vi z1.1))) F 130 (fun l => m_X8_spot l p4 p5 H z1.1 z1.2 ez1) g_3d0f1a9b86 g_aa0997f699 g_99e03e18e2 g_0d0469f624 hd_X8_spot (rm_ok hf hl (by decide) (by decide)) rfl dX8_dropPersons_49 rfl (stk' := [vi z1.1, vr p1]) rfl ?_
    refine pw_iconst (pc := 52) F 1 dX8_dropPersons_52 (by decide) ?_
    obtain ⟨z2, ez2, h⟩ := bnd h
    refine pw_callV (pc := 53) (as := [vi z1.1, vi 1]) (st := []) (r := none) F 164 6 (by decide) rfl (fun l => m_X6_lack l p1 z1.1 1 z1.2 z2.1 z2.2 ez2) g_583d81acf8 g_003e5e4580 g_33f4dd9f6c g_6d91b6d2eb g_27df96ccd7 hd_X6_lack (rm_ok hf hl (by decide) (by decide)) rfl (vm_spec ez2).1 dX8_dropPersons_53 rfl (stk' := []) rfl ?_
    refine pw_iinc (pc := 56) F dX8_dropPersons_56 rfl (lt_nl hn (by decide)) [some (vr p0), some (vr p1), some (vi p2), some (vi p3), some (vi p4), some (vi (w32 (p5 + 1)))] rfl (by decide) ?_
    refine pw_goto (pc := 59) F 38 dX8_dropPersons_59 (by decide) ?_
    exact pw_mask [true, true, true, true, true, true] (ls' := [some (vr p0), some (vr p1), some (vi p2), some (vi p3), some (vi p4), some (vi (w32 (p5 + 1)))]) rfl (ih38 (w32 (p5 + 1)) z2.2 h)
def lX8_dropPersons_3 (p0 p1 p2 p3 : Int) (self3 : Int → PH → RO) (p4 : Int) (H : PH) : RO :=
  (ld 24 H p0 0).bind fun x1 => (ld 19 H x1 1).bind fun x2 => (if p4 ≥ x2 then some (0, H)
  else (ld 24 H p0 0).bind fun x3 => (ld 19 H x3 0).bind fun x4 => (ld 6 H x4 p4).bind fun x5 => (ld 21 H x5 1).bind fun x6 => (if x6 = p2 then lq1 (lX8_dropPersons_38 self3 p0 p1 p2 p3 p4) 6000 p3 H
  else jX8_dropPersons_62 self3 p0 p1 p2 p3 p4 H))
set_option maxHeartbeats 4000000 in
theorem lX8_dropPersons_3_ok {E : PE} {rr : Int} {HH : PH} (F : FX E cX8_dropPersons RX8) (q : QE E none HH none) (hn : nLof E = 6) (hf : (roomOf E).frames = 1) (hl : (roomOf E).locals = 22) (p0 p1 p2 p3 : Int) : ∀ (n : Nat) (p4 : Int) (H : PH), lq1 (lX8_dropPersons_3 p0 p1 p2 p3) n p4 H = some (rr, HH) → PW E 3 [some (vr p0), some (vr p1), some (vi p2), some (vi p3), some (vi p4), none] [] H := by
  refine lq1_ind (P := fun p4 H => PW E 3 [some (vr p0), some (vr p1), some (vi p2), some (vi p3), some (vi p4), none] [] H) ?_
  intro self3 ih3 p4 H h
  unfold lX8_dropPersons_3 at h
  refine pw_iload (pc := 3) F dX8_dropPersons_3 rfl ?_
  refine pw_aload_n (pc := 5) F dX8_dropPersons_5 rfl ?_
  obtain ⟨x1, ex1, h⟩ := bnd h
  refine pw_get (pc := 6) F 8 0 12 (by decide) (by decide) g_955d9610dc inl_8 2 rfl dX8_dropPersons_6 ex1 ?_
  obtain ⟨x2, ex2, h⟩ := bnd h
  refine pw_get (pc := 9) F 3 1 141 (by decide) (by decide) g_4a788c66ef inl_3 0 rfl dX8_dropPersons_9 ex2 ?_
  refine pw_icmp_ge (pc := 12) F 68 dX8_dropPersons_12 (by decide) (fun hc => ?_) (fun hc => ?_)
  · have h := iteT hc h
    cases h
    exact pw_vret (pc := 68) F q dX8_dropPersons_68
  · have h := iteF hc h
    refine pw_aload_n (pc := 15) F dX8_dropPersons_15 rfl ?_
    obtain ⟨x3, ex3, h⟩ := bnd h
    refine pw_get (pc := 16) F 8 0 12 (by decide) (by decide) g_955d9610dc inl_8 2 rfl dX8_dropPersons_16 ex3 ?_
    obtain ⟨x4, ex4, h⟩ := bnd h
    refine pw_get (pc := 19) F 3 0 144 (by decide) (by decide) g_78df9fc092 inl_3 2 rfl dX8_dropPersons_19 ex4 ?_
    refine pw_iload (pc := 22) F dX8_dropPersons_22 rfl ?_
    obtain ⟨x5, ex5, h⟩ := bnd h
    refine pw_aald (pc := 24) F 6 (by decide) dX8_dropPersons_24 ex5 ?_
    obtain ⟨x6, ex6, h⟩ := bnd h
    refine pw_get (pc := 25) F 5 1 88 (by decide) (by decide) g_3644918d03 inl_5 0 rfl dX8_dropPersons_25 ex6 ?_
    refine pw_iload_n (pc := 28) F dX8_dropPersons_28 rfl ?_
    refine pw_icmp_eq (pc := 29) F 35 dX8_dropPersons_29 (by decide) (fun hc => ?_) (fun hc => ?_)
    · have h := iteT hc h
      refine pw_iload_n (pc := 35) F dX8_dropPersons_35 rfl ?_
      refine pw_istore (pc := 36) F dX8_dropPersons_36 (lt_nl hn (by decide)) [some (vr p0), some (vr p1), some (vi p2), some (vi p3), some (vi p4), some (vi p3)] rfl ?_
      exact pw_mask [true, true, true, true, true, true] (ls' := [some (vr p0), some (vr p1), some (vi p2), some (vi p3), some (vi p4), some (vi p3)]) rfl (lX8_dropPersons_38_ok F q hn hf hl self3 p0 p1 p2 p3 p4 ih3  6000 p3 H h)
    · have h := iteF hc h
      refine pw_goto (pc := 32) F 62 dX8_dropPersons_32 (by decide) ?_
      exact pw_mask [true, true, true, true, true, true] (ls' := [some (vr p0), some (vr p1), some (vi p2), some (vi p3), some (vi p4), none]) rfl (jX8_dropPersons_62_ok F q hn hf hl self3 p0 p1 p2 p3 p4 H ih3 h)
def f_X8_dropPersons (a0 a1 a2 a3 : Int) (H : PH) : RO := vm 8 a0 H <|
  lq1 (lX8_dropPersons_3 a0 a1 a2 a3) 6000 0 H
set_option maxHeartbeats 4000000 in
theorem m_X8_dropPersons (l : Launch) (a0 a1 a2 a3 : Int) (H : PH) (rr : Int) (HH : PH) (h : f_X8_dropPersons a0 a1 a2 a3 H = some (rr, HH)) : CT l yX8_dropPersons cX8_dropPersons 6 none 1 22 [vr a0, vr a1, vi a2, vi a3] H none HH := by
  refine CT.of RX8 (by decide) rfl [some (vr a0), some (vr a1), some (vi a2), some (vi a3), none, none] rfl rfl ?_
  intro E F q hn hf hl hm
  unfold f_X8_dropPersons at h
  obtain ⟨hv, h⟩ := vm_spec h
  refine pw_iconst (pc := 0) F 0 dX8_dropPersons_0 (by decide) ?_
  refine pw_istore (pc := 1) F dX8_dropPersons_1 (lt_nl hn (by decide)) [some (vr a0), some (vr a1), some (vi a2), some (vi a3), some (vi 0), none] rfl ?_
  exact pw_mask [true, true, true, true, true, true] (ls' := [some (vr a0), some (vr a1), some (vi a2), some (vi a3), some (vi 0), none]) rfl (lX8_dropPersons_3_ok F q hn hf hl a0 a1 a2 a3  6000 0 H h)
/-! HouseholdVault.answer(IIIJ)I -/
theorem dX8_answer_0 : decode cX8_answer 0 = .ok (.aload_n 0, 1) := by decide +kernel
theorem dX8_answer_1 : decode cX8_answer 1 = .ok (.iload_n 1, 1) := by decide +kernel
theorem dX8_answer_2 : decode cX8_answer 2 = .ok (.invokevirtual 148, 3) := by decide +kernel
theorem dX8_answer_5 : decode cX8_answer 5 = .ok (.astore 6, 2) := by decide +kernel
theorem dX8_answer_7 : decode cX8_answer 7 = .ok (.aload_n 0, 1) := by decide +kernel
theorem dX8_answer_8 : decode cX8_answer 8 = .ok (.getfield 12, 3) := by decide +kernel
theorem dX8_answer_11 : decode cX8_answer 11 = .ok (.iload_n 2, 1) := by decide +kernel
theorem dX8_answer_12 : decode cX8_answer 12 = .ok (.invokevirtual 46, 3) := by decide +kernel
theorem dX8_answer_15 : decode cX8_answer 15 = .ok (.astore 7, 2) := by decide +kernel
theorem dX8_answer_17 : decode cX8_answer 17 = .ok (.aload 6, 2) := by decide +kernel
theorem dX8_answer_19 : decode cX8_answer 19 = .ok (.ifnull 25, 3) := by decide +kernel
theorem dX8_answer_22 : decode cX8_answer 22 = .ok (.aload 7, 2) := by decide +kernel
theorem dX8_answer_24 : decode cX8_answer 24 = .ok (.ifnull 20, 3) := by decide +kernel
theorem dX8_answer_27 : decode cX8_answer 27 = .ok (.aload 6, 2) := by decide +kernel
theorem dX8_answer_29 : decode cX8_answer 29 = .ok (.getfield 126, 3) := by decide +kernel
theorem dX8_answer_32 : decode cX8_answer 32 = .ok (.aload 7, 2) := by decide +kernel
theorem dX8_answer_34 : decode cX8_answer 34 = .ok (.getfield 88, 3) := by decide +kernel
theorem dX8_answer_37 : decode cX8_answer 37 = .ok (.iload_n 3, 1) := by decide +kernel
theorem dX8_answer_38 : decode cX8_answer 38 = .ok (.invokestatic 152, 3) := by decide +kernel
theorem dX8_answer_41 : decode cX8_answer 41 = .ok (.ifCond .ne 5, 3) := by decide +kernel
theorem dX8_answer_44 : decode cX8_answer 44 = .ok (.iconst (-1), 1) := by decide +kernel
theorem dX8_answer_45 : decode cX8_answer 45 = .ok (.ireturn, 1) := by decide +kernel
theorem dX8_answer_46 : decode cX8_answer 46 = .ok (.aload 7, 2) := by decide +kernel
theorem dX8_answer_48 : decode cX8_answer 48 = .ok (.getfield 75, 3) := by decide +kernel
theorem dX8_answer_51 : decode cX8_answer 51 = .ok (.ifCond .eq 6, 3) := by decide +kernel
theorem dX8_answer_54 : decode cX8_answer 54 = .ok (.bipush (-2), 2) := by decide +kernel
theorem dX8_answer_56 : decode cX8_answer 56 = .ok (.ireturn, 1) := by decide +kernel
theorem dX8_answer_57 : decode cX8_answer 57 = .ok (.aload 7, 2) := by decide +kernel
theorem dX8_answer_59 : decode cX8_answer 59 = .ok (.lload 4, 2) := by decide +kernel
theorem dX8_answer_61 : decode cX8_answer 61 = .ok (.invokevirtual 156, 3) := by decide +kernel
theorem dX8_answer_64 : decode cX8_answer 64 = .ok (.ifCond .ne 5, 3) := by decide +kernel
theorem dX8_answer_67 : decode cX8_answer 67 = .ok (.iconst (-1), 1) := by decide +kernel
theorem dX8_answer_68 : decode cX8_answer 68 = .ok (.ireturn, 1) := by decide +kernel
theorem dX8_answer_69 : decode cX8_answer 69 = .ok (.aload 6, 2) := by decide +kernel
theorem dX8_answer_71 : decode cX8_answer 71 = .ok (.getfield 126, 3) := by decide +kernel
theorem dX8_answer_74 : decode cX8_answer 74 = .ok (.iload_n 2, 1) := by decide +kernel
theorem dX8_answer_75 : decode cX8_answer 75 = .ok (.iload_n 3, 1) := by decide +kernel
theorem dX8_answer_76 : decode cX8_answer 76 = .ok (.invokestatic 130, 3) := by decide +kernel
theorem dX8_answer_79 : decode cX8_answer 79 = .ok (.lload 4, 2) := by decide +kernel
theorem dX8_answer_81 : decode cX8_answer 81 = .ok (.invokevirtual 134, 3) := by decide +kernel
theorem dX8_answer_84 : decode cX8_answer 84 = .ok (.aload 7, 2) := by decide +kernel
theorem dX8_answer_86 : decode cX8_answer 86 = .ok (.getfield 50, 3) := by decide +kernel
theorem dX8_answer_89 : decode cX8_answer 89 = .ok (.iconst 5, 1) := by decide +kernel
theorem dX8_answer_90 : decode cX8_answer 90 = .ok (.if_icmp .ne 16, 3) := by decide +kernel
theorem dX8_answer_93 : decode cX8_answer 93 = .ok (.aload_n 0, 1) := by decide +kernel
theorem dX8_answer_94 : decode cX8_answer 94 = .ok (.aload 6, 2) := by decide +kernel
theorem dX8_answer_96 : decode cX8_answer 96 = .ok (.getfield 126, 3) := by decide +kernel
theorem dX8_answer_99 : decode cX8_answer 99 = .ok (.iload_n 2, 1) := by decide +kernel
theorem dX8_answer_100 : decode cX8_answer 100 = .ok (.lload 4, 2) := by decide +kernel
theorem dX8_answer_102 : decode cX8_answer 102 = .ok (.l2i, 1) := by decide +kernel
theorem dX8_answer_103 : decode cX8_answer 103 = .ok (.invokevirtual 160, 3) := by decide +kernel
theorem dX8_answer_106 : decode cX8_answer 106 = .ok (.aload 6, 2) := by decide +kernel
theorem dX8_answer_108 : decode cX8_answer 108 = .ok (.iconst 0, 1) := by decide +kernel
theorem dX8_answer_109 : decode cX8_answer 109 = .ok (.invokevirtual 104, 3) := by decide +kernel
theorem dX8_answer_112 : decode cX8_answer 112 = .ok (.iconst 1, 1) := by decide +kernel
theorem dX8_answer_113 : decode cX8_answer 113 = .ok (.ireturn, 1) := by decide +kernel
def jX8_answer_106 (p6 : Int) (H : PH) : RO :=
  (f_X4_unsettle p6 0 H).bind fun z1 => some (1, z1.2)
set_option maxHeartbeats 4000000 in
theorem jX8_answer_106_ok {E : PE} {rr : Int} {HH : PH} (F : FX E cX8_answer RX8) (q : QE E (some (vi rr)) HH (some .int)) (hn : nLof E = 8) (hf : (roomOf E).frames = 3) (hl : (roomOf E).locals = 64) (p6 : Int) (H : PH) (h : jX8_answer_106 p6 H = some (rr, HH)) : PW E 106 [none, none, none, none, none, none, some (vr p6), none] [] H := by
  unfold jX8_answer_106 at h
  refine pw_aload (pc := 106) F dX8_answer_106 rfl ?_
  refine pw_iconst (pc := 108) F 0 dX8_answer_108 (by decide) ?_
  obtain ⟨z1, ez1, h⟩ := bnd h
  refine pw_callV (pc := 109) (as := [vi 0]) (st := []) (r := none) F 104 4 (by decide) rfl (fun l => m_X4_unsettle l p6 0 H z1.1 z1.2 ez1) g_a6698af361 g_a3e941320c g_eeee0fdaa6 g_2b384744dc g_23d9030154 hd_X4_unsettle (rm_ok hf hl (by decide) (by decide)) rfl (vm_spec ez1).1 dX8_answer_109 rfl (stk' := []) rfl ?_
  refine pw_iconst (pc := 112) F 1 dX8_answer_112 (by decide) ?_
  cases h
  exact pw_iret (pc := 113) F q dX8_answer_113
def f_X8_answer (a0 a1 a2 a3 a4 : Int) (H : PH) : RO := vm 8 a0 H <|
  (f_X8_homeOf a0 a1 H).bind fun z1 => (ld 24 z1.2 a0 0).bind fun x2 => (f_X3_questionOf x2 a2 z1.2).bind fun z3 => (if z1.1 = -1 then some ((-1), z3.2)
  else (if z3.1 = -1 then some ((-1), z3.2)
  else (ld 20 z3.2 z1.1 0).bind fun x4 => (ld 21 z3.2 z3.1 1).bind fun x5 => (f_X8_isPlace x4 x5 a3 z3.2).bind fun z6 => (if z6.1 ≠ 0 then (ld 21 z6.2 z3.1 2).bind fun x7 => (if x7 = 0 then (f_X5_takes z3.1 a4 z6.2).bind fun z8 => (if z8.1 ≠ 0 then (ld 20 z8.2 z1.1 0).bind fun x9 => (f_X8_spot a2 a3 z8.2).bind fun z10 => (f_X6_put x9 z10.1 a4 z10.2).bind fun z11 => (ld 21 z11.2 z3.1 0).bind fun x12 => (if x12 ≠ 5 then jX8_answer_106 z1.1 z11.2
  else (ld 20 z11.2 z1.1 0).bind fun x13 => (f_X8_dropPersons a0 x13 a2 (w32 a4) z11.2).bind fun z14 => jX8_answer_106 z1.1 z14.2)
  else some ((-1), z8.2))
  else some ((-2), z6.2))
  else some ((-1), z6.2))))
set_option maxHeartbeats 4000000 in
theorem m_X8_answer (l : Launch) (a0 a1 a2 a3 a4 : Int) (H : PH) (rr : Int) (HH : PH) (h : f_X8_answer a0 a1 a2 a3 a4 H = some (rr, HH)) : CT l yX8_answer cX8_answer 8 (some .int) 3 64 [vr a0, vi a1, vi a2, vi a3, vl a4] H (some (vi rr)) HH := by
  refine CT.of RX8 (by decide) rfl [some (vr a0), some (vi a1), some (vi a2), some (vi a3), some (vl a4), none, none, none] rfl rfl ?_
  intro E F q hn hf hl hm
  unfold f_X8_answer at h
  obtain ⟨hv, h⟩ := vm_spec h
  refine pw_aload_n (pc := 0) F dX8_answer_0 rfl ?_
  refine pw_iload_n (pc := 1) F dX8_answer_1 rfl ?_
  obtain ⟨z1, ez1, h⟩ := bnd h
  refine pw_callV (pc := 2) (as := [vi a1]) (st := []) (r := (some (vr z1.1))) F 148 8 (by decide) rfl (fun l => m_X8_homeOf l a0 a1 H z1.1 z1.2 ez1) g_71dc4d703e g_171138aae7 g_757aa7485e g_99e03e18e2 g_d22af8c66c hd_X8_homeOf (rm_ok hf hl (by decide) (by decide)) rfl (vm_spec ez1).1 dX8_answer_2 rfl (stk' := [vr z1.1]) rfl ?_
  refine pw_astore (pc := 5) F dX8_answer_5 (lt_nl hn (by decide)) [some (vr a0), some (vi a1), some (vi a2), some (vi a3), some (vl a4), none, some (vr z1.1), none] rfl ?_
  refine pw_aload_n (pc := 7) F dX8_answer_7 rfl ?_
  obtain ⟨x2, ex2, h⟩ := bnd h
  refine pw_get (pc := 8) F 8 0 12 (by decide) (by decide) g_955d9610dc inl_8 2 rfl dX8_answer_8 ex2 ?_
  refine pw_iload_n (pc := 11) F dX8_answer_11 rfl ?_
  obtain ⟨z3, ez3, h⟩ := bnd h
  refine pw_callV (pc := 12) (as := [vi a2]) (st := []) (r := (some (vr z3.1))) F 46 3 (by decide) rfl (fun l => m_X3_questionOf l x2 a2 z1.2 z3.1 z3.2 ez3) g_babc17a83a g_e6ef547307 g_4b42450d0b g_106b72596f g_1cf8e31489 hd_X3_questionOf (rm_ok hf hl (by decide) (by decide)) rfl (vm_spec ez3).1 dX8_answer_12 rfl (stk' := [vr z3.1]) rfl ?_
  refine pw_astore (pc := 15) F dX8_answer_15 (lt_nl hn (by decide)) [some (vr a0), some (vi a1), some (vi a2), some (vi a3), some (vl a4), none, some (vr z1.1), some (vr z3.1)] rfl ?_
  refine pw_aload (pc := 17) F dX8_answer_17 rfl ?_
  refine pw_ifnull (pc := 19) F 44 dX8_answer_19 (by decide) (fun hc => ?_) (fun hc => ?_)
  · have h := iteT hc h
    refine pw_iconst (pc := 44) F (-1) dX8_answer_44 (by decide) ?_
    cases h
    exact pw_iret (pc := 45) F q dX8_answer_45
  · have h := iteF hc h
    refine pw_aload (pc := 22) F dX8_answer_22 rfl ?_
    refine pw_ifnull (pc := 24) F 44 dX8_answer_24 (by decide) (fun hc => ?_) (fun hc => ?_)
    · have h := iteT hc h
      refine pw_iconst (pc := 44) F (-1) dX8_answer_44 (by decide) ?_
      cases h
      exact pw_iret (pc := 45) F q dX8_answer_45
    · have h := iteF hc h
      refine pw_aload (pc := 27) F dX8_answer_27 rfl ?_
      obtain ⟨x4, ex4, h⟩ := bnd h
      refine pw_get (pc := 29) F 4 0 126 (by decide) (by decide) g_8ec333b1d7 inl_4 2 rfl dX8_answer_29 ex4 ?_
      refine pw_aload (pc := 32) F dX8_answer_32 rfl ?_
      obtain ⟨x5, ex5, h⟩ := bnd h
      refine pw_get (pc := 34) F 5 1 88 (by decide) (by decide) g_3644918d03 inl_5 0 rfl dX8_answer_34 ex5 ?_
      refine pw_iload_n (pc := 37) F dX8_answer_37 rfl ?_
      obtain ⟨z6, ez6, h⟩ := bnd h
      refine pw_callS (pc := 38) (as := [vr x4, vi x5, vi a3]) (st := []) (r := (some (vi z6.1))) F 152 (fun l => m_X8_isPlace l x4 x5 a3 z3.2 z6.1 z6.2 ez6) g_f22e7a095c g_0137baa7bf g_99e03e18e2 g_4c36b6c4cd hd_X8_isPlace (rm_ok hf hl (by decide) (by decide)) rfl dX8_answer_38 rfl (stk' := [vi z6.1]) rfl ?_
      refine pw_if_ne (pc := 41) F 46 dX8_answer_41 (by decide) (fun hc => ?_) (fun hc => ?_)
      · have h := iteT hc h
        refine pw_aload (pc := 46) F dX8_answer_46 rfl ?_
        obtain ⟨x7, ex7, h⟩ := bnd h
        refine pw_get (pc := 48) F 5 2 75 (by decide) (by decide) g_3884a6eb9d inl_5 0 rfl dX8_answer_48 ex7 ?_
        refine pw_if_eq (pc := 51) F 57 dX8_answer_51 (by decide) (fun hc => ?_) (fun hc => ?_)
        · have h := iteT hc h
          refine pw_aload (pc := 57) F dX8_answer_57 rfl ?_
          refine pw_lload (pc := 59) F dX8_answer_59 rfl ?_
          obtain ⟨z8, ez8, h⟩ := bnd h
          refine pw_callV (pc := 61) (as := [vl a4]) (st := []) (r := (some (vi z8.1))) F 156 5 (by decide) rfl (fun l => m_X5_takes l z3.1 a4 z6.2 z8.1 z8.2 ez8) g_2ff6f54256 g_cdc5529348 g_575de87ca7 g_5f14f7581a g_0ceb28062e hd_X5_takes (rm_ok hf hl (by decide) (by decide)) rfl (vm_spec ez8).1 dX8_answer_61 rfl (stk' := [vi z8.1]) rfl ?_
          refine pw_if_ne (pc := 64) F 69 dX8_answer_64 (by decide) (fun hc => ?_) (fun hc => ?_)
          · have h := iteT hc h
            refine pw_aload (pc := 69) F dX8_answer_69 rfl ?_
            obtain ⟨x9, ex9, h⟩ := bnd h
            refine pw_get (pc := 71) F 4 0 126 (by decide) (by decide) g_8ec333b1d7 inl_4 2 rfl dX8_answer_71 ex9 ?_
            refine pw_iload_n (pc := 74) F dX8_answer_74 rfl ?_
            refine pw_iload_n (pc := 75) F dX8_answer_75 rfl ?_
            obtain ⟨z10, ez10, h⟩ := bnd h
            refine pw_callS (pc := 76) (as := [vi a2, vi a3]) (st := [vr x9]) (r := (some (vi z10.1))) F 130 (fun l => m_X8_spot l a2 a3 z8.2 z10.1 z10.2 ez10) g_3d0f1a9b86 g_aa0997f699 g_99e03e18e2 g_0d0469f624 hd_X8_spot (rm_ok hf hl (by decide) (by decide)) rfl dX8_answer_76 rfl (stk' := [vi z10.1, vr x9]) rfl ?_
            refine pw_lload (pc := 79) F dX8_answer_79 rfl ?_
            obtain ⟨z11, ez11, h⟩ := bnd h
            refine pw_callV (pc := 81) (as := [vi z10.1, vl a4]) (st := []) (r := none) F 134 6 (by decide) rfl (fun l => m_X6_put l x9 z10.1 a4 z10.2 z11.1 z11.2 ez11) g_3522351f4b g_a4f482ed8e g_a6da26925e g_6d91b6d2eb g_5239673ccb hd_X6_put (rm_ok hf hl (by decide) (by decide)) rfl (vm_spec ez11).1 dX8_answer_81 rfl (stk' := []) rfl ?_
            refine pw_aload (pc := 84) F dX8_answer_84 rfl ?_
            obtain ⟨x12, ex12, h⟩ := bnd h
            refine pw_get (pc := 86) F 5 0 50 (by decide) (by decide) g_89512a4092 inl_5 0 rfl dX8_answer_86 ex12 ?_
            refine pw_iconst (pc := 89) F 5 dX8_answer_89 (by decide) ?_
            refine pw_icmp_ne (pc := 90) F 106 dX8_answer_90 (by decide) (fun hc => ?_) (fun hc => ?_)
            · have h := iteT hc h
              exact pw_mask [false, false, false, false, false, true, true, false] (ls' := [none, none, none, none, none, none, some (vr z1.1), none]) rfl (jX8_answer_106_ok F q hn hf hl z1.1 z11.2 h)
            · have h := iteF hc h
              refine pw_aload_n (pc := 93) F dX8_answer_93 rfl ?_
              refine pw_aload (pc := 94) F dX8_answer_94 rfl ?_
              obtain ⟨x13, ex13, h⟩ := bnd h
              refine pw_get (pc := 96) F 4 0 126 (by decide) (by decide) g_8ec333b1d7 inl_4 2 rfl dX8_answer_96 ex13 ?_
              refine pw_iload_n (pc := 99) F dX8_answer_99 rfl ?_
              refine pw_lload (pc := 100) F dX8_answer_100 rfl ?_
              refine pw_l2i (pc := 102) F dX8_answer_102 ?_
              obtain ⟨z14, ez14, h⟩ := bnd h
              refine pw_callV (pc := 103) (as := [vr x13, vi a2, vi (w32 a4)]) (st := []) (r := none) F 160 8 (by decide) rfl (fun l => m_X8_dropPersons l a0 x13 a2 (w32 a4) z11.2 z14.1 z14.2 ez14) g_9d6678be1e g_86556c4e24 g_c43c9371fe g_99e03e18e2 g_c69c822bd1 hd_X8_dropPersons (rm_ok hf hl (by decide) (by decide)) rfl (vm_spec ez14).1 dX8_answer_103 rfl (stk' := []) rfl ?_
              exact pw_mask [false, false, false, false, false, true, true, false] (ls' := [none, none, none, none, none, none, some (vr z1.1), none]) rfl (jX8_answer_106_ok F q hn hf hl z1.1 z14.2 h)
          · have h := iteF hc h
            refine pw_iconst (pc := 67) F (-1) dX8_answer_67 (by decide) ?_
            cases h
            exact pw_iret (pc := 68) F q dX8_answer_68
        · have h := iteF hc h
          refine pw_bipush (pc := 54) F (-2) dX8_answer_54 (by decide) ?_
          cases h
          exact pw_iret (pc := 56) F q dX8_answer_56
      · have h := iteF hc h
        refine pw_iconst (pc := 44) F (-1) dX8_answer_44 (by decide) ?_
        cases h
        exact pw_iret (pc := 45) F q dX8_answer_45
/-! HouseholdVault.missing(IIII)I -/
theorem dX8_missing_0 : decode cX8_missing 0 = .ok (.aload_n 0, 1) := by decide +kernel
theorem dX8_missing_1 : decode cX8_missing 1 = .ok (.iload_n 1, 1) := by decide +kernel
theorem dX8_missing_2 : decode cX8_missing 2 = .ok (.invokevirtual 148, 3) := by decide +kernel
theorem dX8_missing_5 : decode cX8_missing 5 = .ok (.astore 5, 2) := by decide +kernel
theorem dX8_missing_7 : decode cX8_missing 7 = .ok (.aload_n 0, 1) := by decide +kernel
theorem dX8_missing_8 : decode cX8_missing 8 = .ok (.getfield 12, 3) := by decide +kernel
theorem dX8_missing_11 : decode cX8_missing 11 = .ok (.iload_n 2, 1) := by decide +kernel
theorem dX8_missing_12 : decode cX8_missing 12 = .ok (.invokevirtual 46, 3) := by decide +kernel
theorem dX8_missing_15 : decode cX8_missing 15 = .ok (.astore 6, 2) := by decide +kernel
theorem dX8_missing_17 : decode cX8_missing 17 = .ok (.aload 5, 2) := by decide +kernel
theorem dX8_missing_19 : decode cX8_missing 19 = .ok (.ifnull 25, 3) := by decide +kernel
theorem dX8_missing_22 : decode cX8_missing 22 = .ok (.aload 6, 2) := by decide +kernel
theorem dX8_missing_24 : decode cX8_missing 24 = .ok (.ifnull 20, 3) := by decide +kernel
theorem dX8_missing_27 : decode cX8_missing 27 = .ok (.aload 5, 2) := by decide +kernel
theorem dX8_missing_29 : decode cX8_missing 29 = .ok (.getfield 126, 3) := by decide +kernel
theorem dX8_missing_32 : decode cX8_missing 32 = .ok (.aload 6, 2) := by decide +kernel
theorem dX8_missing_34 : decode cX8_missing 34 = .ok (.getfield 88, 3) := by decide +kernel
theorem dX8_missing_37 : decode cX8_missing 37 = .ok (.iload_n 3, 1) := by decide +kernel
theorem dX8_missing_38 : decode cX8_missing 38 = .ok (.invokestatic 152, 3) := by decide +kernel
theorem dX8_missing_41 : decode cX8_missing 41 = .ok (.ifCond .ne 5, 3) := by decide +kernel
theorem dX8_missing_44 : decode cX8_missing 44 = .ok (.iconst (-1), 1) := by decide +kernel
theorem dX8_missing_45 : decode cX8_missing 45 = .ok (.ireturn, 1) := by decide +kernel
theorem dX8_missing_46 : decode cX8_missing 46 = .ok (.iload 4, 2) := by decide +kernel
theorem dX8_missing_48 : decode cX8_missing 48 = .ok (.iconst 1, 1) := by decide +kernel
theorem dX8_missing_49 : decode cX8_missing 49 = .ok (.if_icmp .lt 9, 3) := by decide +kernel
theorem dX8_missing_52 : decode cX8_missing 52 = .ok (.iload 4, 2) := by decide +kernel
theorem dX8_missing_54 : decode cX8_missing 54 = .ok (.iconst 5, 1) := by decide +kernel
theorem dX8_missing_55 : decode cX8_missing 55 = .ok (.if_icmp .le 5, 3) := by decide +kernel
theorem dX8_missing_58 : decode cX8_missing 58 = .ok (.iconst (-1), 1) := by decide +kernel
theorem dX8_missing_59 : decode cX8_missing 59 = .ok (.ireturn, 1) := by decide +kernel
theorem dX8_missing_60 : decode cX8_missing 60 = .ok (.aload 6, 2) := by decide +kernel
theorem dX8_missing_62 : decode cX8_missing 62 = .ok (.getfield 75, 3) := by decide +kernel
theorem dX8_missing_65 : decode cX8_missing 65 = .ok (.ifCond .ne 12, 3) := by decide +kernel
theorem dX8_missing_68 : decode cX8_missing 68 = .ok (.aload 6, 2) := by decide +kernel
theorem dX8_missing_70 : decode cX8_missing 70 = .ok (.getfield 50, 3) := by decide +kernel
theorem dX8_missing_73 : decode cX8_missing 73 = .ok (.iconst 5, 1) := by decide +kernel
theorem dX8_missing_74 : decode cX8_missing 74 = .ok (.if_icmp .ne 6, 3) := by decide +kernel
theorem dX8_missing_77 : decode cX8_missing 77 = .ok (.bipush (-2), 2) := by decide +kernel
theorem dX8_missing_79 : decode cX8_missing 79 = .ok (.ireturn, 1) := by decide +kernel
theorem dX8_missing_80 : decode cX8_missing 80 = .ok (.aload 5, 2) := by decide +kernel
theorem dX8_missing_82 : decode cX8_missing 82 = .ok (.getfield 126, 3) := by decide +kernel
theorem dX8_missing_85 : decode cX8_missing 85 = .ok (.iload_n 2, 1) := by decide +kernel
theorem dX8_missing_86 : decode cX8_missing 86 = .ok (.iload_n 3, 1) := by decide +kernel
theorem dX8_missing_87 : decode cX8_missing 87 = .ok (.invokestatic 130, 3) := by decide +kernel
theorem dX8_missing_90 : decode cX8_missing 90 = .ok (.iload 4, 2) := by decide +kernel
theorem dX8_missing_92 : decode cX8_missing 92 = .ok (.invokevirtual 164, 3) := by decide +kernel
theorem dX8_missing_95 : decode cX8_missing 95 = .ok (.aload 5, 2) := by decide +kernel
theorem dX8_missing_97 : decode cX8_missing 97 = .ok (.iconst 0, 1) := by decide +kernel
theorem dX8_missing_98 : decode cX8_missing 98 = .ok (.invokevirtual 104, 3) := by decide +kernel
theorem dX8_missing_101 : decode cX8_missing 101 = .ok (.iconst 1, 1) := by decide +kernel
theorem dX8_missing_102 : decode cX8_missing 102 = .ok (.ireturn, 1) := by decide +kernel
def f_X8_missing (a0 a1 a2 a3 a4 : Int) (H : PH) : RO := vm 8 a0 H <|
  (f_X8_homeOf a0 a1 H).bind fun z1 => (ld 24 z1.2 a0 0).bind fun x2 => (f_X3_questionOf x2 a2 z1.2).bind fun z3 => (if z1.1 = -1 then some ((-1), z3.2)
  else (if z3.1 = -1 then some ((-1), z3.2)
  else (ld 20 z3.2 z1.1 0).bind fun x4 => (ld 21 z3.2 z3.1 1).bind fun x5 => (f_X8_isPlace x4 x5 a3 z3.2).bind fun z6 => (if z6.1 ≠ 0 then (if a4 < 1 then some ((-1), z6.2)
  else (if a4 ≤ 5 then (ld 21 z6.2 z3.1 2).bind fun x7 => (if x7 ≠ 0 then some ((-2), z6.2)
  else (ld 21 z6.2 z3.1 0).bind fun x8 => (if x8 ≠ 5 then (ld 20 z6.2 z1.1 0).bind fun x9 => (f_X8_spot a2 a3 z6.2).bind fun z10 => (f_X6_lack x9 z10.1 a4 z10.2).bind fun z11 => (f_X4_unsettle z1.1 0 z11.2).bind fun z12 => some (1, z12.2)
  else some ((-2), z6.2)))
  else some ((-1), z6.2)))
  else some ((-1), z6.2))))
set_option maxHeartbeats 4000000 in
theorem m_X8_missing (l : Launch) (a0 a1 a2 a3 a4 : Int) (H : PH) (rr : Int) (HH : PH) (h : f_X8_missing a0 a1 a2 a3 a4 H = some (rr, HH)) : CT l yX8_missing cX8_missing 7 (some .int) 3 64 [vr a0, vi a1, vi a2, vi a3, vi a4] H (some (vi rr)) HH := by
  refine CT.of RX8 (by decide) rfl [some (vr a0), some (vi a1), some (vi a2), some (vi a3), some (vi a4), none, none] rfl rfl ?_
  intro E F q hn hf hl hm
  unfold f_X8_missing at h
  obtain ⟨hv, h⟩ := vm_spec h
  refine pw_aload_n (pc := 0) F dX8_missing_0 rfl ?_
  refine pw_iload_n (pc := 1) F dX8_missing_1 rfl ?_
  obtain ⟨z1, ez1, h⟩ := bnd h
  refine pw_callV (pc := 2) (as := [vi a1]) (st := []) (r := (some (vr z1.1))) F 148 8 (by decide) rfl (fun l => m_X8_homeOf l a0 a1 H z1.1 z1.2 ez1) g_71dc4d703e g_171138aae7 g_757aa7485e g_99e03e18e2 g_d22af8c66c hd_X8_homeOf (rm_ok hf hl (by decide) (by decide)) rfl (vm_spec ez1).1 dX8_missing_2 rfl (stk' := [vr z1.1]) rfl ?_
  refine pw_astore (pc := 5) F dX8_missing_5 (lt_nl hn (by decide)) [some (vr a0), some (vi a1), some (vi a2), some (vi a3), some (vi a4), some (vr z1.1), none] rfl ?_
  refine pw_aload_n (pc := 7) F dX8_missing_7 rfl ?_
  obtain ⟨x2, ex2, h⟩ := bnd h
  refine pw_get (pc := 8) F 8 0 12 (by decide) (by decide) g_955d9610dc inl_8 2 rfl dX8_missing_8 ex2 ?_
  refine pw_iload_n (pc := 11) F dX8_missing_11 rfl ?_
  obtain ⟨z3, ez3, h⟩ := bnd h
  refine pw_callV (pc := 12) (as := [vi a2]) (st := []) (r := (some (vr z3.1))) F 46 3 (by decide) rfl (fun l => m_X3_questionOf l x2 a2 z1.2 z3.1 z3.2 ez3) g_babc17a83a g_e6ef547307 g_4b42450d0b g_106b72596f g_1cf8e31489 hd_X3_questionOf (rm_ok hf hl (by decide) (by decide)) rfl (vm_spec ez3).1 dX8_missing_12 rfl (stk' := [vr z3.1]) rfl ?_
  refine pw_astore (pc := 15) F dX8_missing_15 (lt_nl hn (by decide)) [some (vr a0), some (vi a1), some (vi a2), some (vi a3), some (vi a4), some (vr z1.1), some (vr z3.1)] rfl ?_
  refine pw_aload (pc := 17) F dX8_missing_17 rfl ?_
  refine pw_ifnull (pc := 19) F 44 dX8_missing_19 (by decide) (fun hc => ?_) (fun hc => ?_)
  · have h := iteT hc h
    refine pw_iconst (pc := 44) F (-1) dX8_missing_44 (by decide) ?_
    cases h
    exact pw_iret (pc := 45) F q dX8_missing_45
  · have h := iteF hc h
    refine pw_aload (pc := 22) F dX8_missing_22 rfl ?_
    refine pw_ifnull (pc := 24) F 44 dX8_missing_24 (by decide) (fun hc => ?_) (fun hc => ?_)
    · have h := iteT hc h
      refine pw_iconst (pc := 44) F (-1) dX8_missing_44 (by decide) ?_
      cases h
      exact pw_iret (pc := 45) F q dX8_missing_45
    · have h := iteF hc h
      refine pw_aload (pc := 27) F dX8_missing_27 rfl ?_
      obtain ⟨x4, ex4, h⟩ := bnd h
      refine pw_get (pc := 29) F 4 0 126 (by decide) (by decide) g_8ec333b1d7 inl_4 2 rfl dX8_missing_29 ex4 ?_
      refine pw_aload (pc := 32) F dX8_missing_32 rfl ?_
      obtain ⟨x5, ex5, h⟩ := bnd h
      refine pw_get (pc := 34) F 5 1 88 (by decide) (by decide) g_3644918d03 inl_5 0 rfl dX8_missing_34 ex5 ?_
      refine pw_iload_n (pc := 37) F dX8_missing_37 rfl ?_
      obtain ⟨z6, ez6, h⟩ := bnd h
      refine pw_callS (pc := 38) (as := [vr x4, vi x5, vi a3]) (st := []) (r := (some (vi z6.1))) F 152 (fun l => m_X8_isPlace l x4 x5 a3 z3.2 z6.1 z6.2 ez6) g_f22e7a095c g_0137baa7bf g_99e03e18e2 g_4c36b6c4cd hd_X8_isPlace (rm_ok hf hl (by decide) (by decide)) rfl dX8_missing_38 rfl (stk' := [vi z6.1]) rfl ?_
      refine pw_if_ne (pc := 41) F 46 dX8_missing_41 (by decide) (fun hc => ?_) (fun hc => ?_)
      · have h := iteT hc h
        refine pw_iload (pc := 46) F dX8_missing_46 rfl ?_
        refine pw_iconst (pc := 48) F 1 dX8_missing_48 (by decide) ?_
        refine pw_icmp_lt (pc := 49) F 58 dX8_missing_49 (by decide) (fun hc => ?_) (fun hc => ?_)
        · have h := iteT hc h
          refine pw_iconst (pc := 58) F (-1) dX8_missing_58 (by decide) ?_
          cases h
          exact pw_iret (pc := 59) F q dX8_missing_59
        · have h := iteF hc h
          refine pw_iload (pc := 52) F dX8_missing_52 rfl ?_
          refine pw_iconst (pc := 54) F 5 dX8_missing_54 (by decide) ?_
          refine pw_icmp_le (pc := 55) F 60 dX8_missing_55 (by decide) (fun hc => ?_) (fun hc => ?_)
          · have h := iteT hc h
            refine pw_aload (pc := 60) F dX8_missing_60 rfl ?_
            obtain ⟨x7, ex7, h⟩ := bnd h
            refine pw_get (pc := 62) F 5 2 75 (by decide) (by decide) g_3884a6eb9d inl_5 0 rfl dX8_missing_62 ex7 ?_
            refine pw_if_ne (pc := 65) F 77 dX8_missing_65 (by decide) (fun hc => ?_) (fun hc => ?_)
            · have h := iteT hc h
              refine pw_bipush (pc := 77) F (-2) dX8_missing_77 (by decide) ?_
              cases h
              exact pw_iret (pc := 79) F q dX8_missing_79
            · have h := iteF hc h
              refine pw_aload (pc := 68) F dX8_missing_68 rfl ?_
              obtain ⟨x8, ex8, h⟩ := bnd h
              refine pw_get (pc := 70) F 5 0 50 (by decide) (by decide) g_89512a4092 inl_5 0 rfl dX8_missing_70 ex8 ?_
              refine pw_iconst (pc := 73) F 5 dX8_missing_73 (by decide) ?_
              refine pw_icmp_ne (pc := 74) F 80 dX8_missing_74 (by decide) (fun hc => ?_) (fun hc => ?_)
              · have h := iteT hc h
                refine pw_aload (pc := 80) F dX8_missing_80 rfl ?_
                obtain ⟨x9, ex9, h⟩ := bnd h
                refine pw_get (pc := 82) F 4 0 126 (by decide) (by decide) g_8ec333b1d7 inl_4 2 rfl dX8_missing_82 ex9 ?_
                refine pw_iload_n (pc := 85) F dX8_missing_85 rfl ?_
                refine pw_iload_n (pc := 86) F dX8_missing_86 rfl ?_
                obtain ⟨z10, ez10, h⟩ := bnd h
                refine pw_callS (pc := 87) (as := [vi a2, vi a3]) (st := [vr x9]) (r := (some (vi z10.1))) F 130 (fun l => m_X8_spot l a2 a3 z6.2 z10.1 z10.2 ez10) g_3d0f1a9b86 g_aa0997f699 g_99e03e18e2 g_0d0469f624 hd_X8_spot (rm_ok hf hl (by decide) (by decide)) rfl dX8_missing_87 rfl (stk' := [vi z10.1, vr x9]) rfl ?_
                refine pw_iload (pc := 90) F dX8_missing_90 rfl ?_
                obtain ⟨z11, ez11, h⟩ := bnd h
                refine pw_callV (pc := 92) (as := [vi z10.1, vi a4]) (st := []) (r := none) F 164 6 (by decide) rfl (fun l => m_X6_lack l x9 z10.1 a4 z10.2 z11.1 z11.2 ez11) g_583d81acf8 g_003e5e4580 g_33f4dd9f6c g_6d91b6d2eb g_27df96ccd7 hd_X6_lack (rm_ok hf hl (by decide) (by decide)) rfl (vm_spec ez11).1 dX8_missing_92 rfl (stk' := []) rfl ?_
                refine pw_aload (pc := 95) F dX8_missing_95 rfl ?_
                refine pw_iconst (pc := 97) F 0 dX8_missing_97 (by decide) ?_
                obtain ⟨z12, ez12, h⟩ := bnd h
                refine pw_callV (pc := 98) (as := [vi 0]) (st := []) (r := none) F 104 4 (by decide) rfl (fun l => m_X4_unsettle l z1.1 0 z11.2 z12.1 z12.2 ez12) g_a6698af361 g_a3e941320c g_eeee0fdaa6 g_2b384744dc g_23d9030154 hd_X4_unsettle (rm_ok hf hl (by decide) (by decide)) rfl (vm_spec ez12).1 dX8_missing_98 rfl (stk' := []) rfl ?_
                refine pw_iconst (pc := 101) F 1 dX8_missing_101 (by decide) ?_
                cases h
                exact pw_iret (pc := 102) F q dX8_missing_102
              · have h := iteF hc h
                refine pw_bipush (pc := 77) F (-2) dX8_missing_77 (by decide) ?_
                cases h
                exact pw_iret (pc := 79) F q dX8_missing_79
          · have h := iteF hc h
            refine pw_iconst (pc := 58) F (-1) dX8_missing_58 (by decide) ?_
            cases h
            exact pw_iret (pc := 59) F q dX8_missing_59
      · have h := iteF hc h
        refine pw_iconst (pc := 44) F (-1) dX8_missing_44 (by decide) ?_
        cases h
        exact pw_iret (pc := 45) F q dX8_missing_45
/-! HouseholdVault.settledSheet(III)LHouseholdVault$Sheet; -/
theorem dX8_settledSheet_0 : decode cX8_settledSheet 0 = .ok (.aload_n 0, 1) := by decide +kernel
theorem dX8_settledSheet_1 : decode cX8_settledSheet 1 = .ok (.iload_n 1, 1) := by decide +kernel
theorem dX8_settledSheet_2 : decode cX8_settledSheet 2 = .ok (.invokevirtual 148, 3) := by decide +kernel
theorem dX8_settledSheet_5 : decode cX8_settledSheet 5 = .ok (.astore 4, 2) := by decide +kernel
theorem dX8_settledSheet_7 : decode cX8_settledSheet 7 = .ok (.aload_n 0, 1) := by decide +kernel
theorem dX8_settledSheet_8 : decode cX8_settledSheet 8 = .ok (.getfield 12, 3) := by decide +kernel
theorem dX8_settledSheet_11 : decode cX8_settledSheet 11 = .ok (.iload_n 2, 1) := by decide +kernel
theorem dX8_settledSheet_12 : decode cX8_settledSheet 12 = .ok (.invokevirtual 46, 3) := by decide +kernel
theorem dX8_settledSheet_15 : decode cX8_settledSheet 15 = .ok (.astore 5, 2) := by decide +kernel
theorem dX8_settledSheet_17 : decode cX8_settledSheet 17 = .ok (.aload 4, 2) := by decide +kernel
theorem dX8_settledSheet_19 : decode cX8_settledSheet 19 = .ok (.ifnull 25, 3) := by decide +kernel
theorem dX8_settledSheet_22 : decode cX8_settledSheet 22 = .ok (.aload 5, 2) := by decide +kernel
theorem dX8_settledSheet_24 : decode cX8_settledSheet 24 = .ok (.ifnull 20, 3) := by decide +kernel
theorem dX8_settledSheet_27 : decode cX8_settledSheet 27 = .ok (.aload 4, 2) := by decide +kernel
theorem dX8_settledSheet_29 : decode cX8_settledSheet 29 = .ok (.getfield 126, 3) := by decide +kernel
theorem dX8_settledSheet_32 : decode cX8_settledSheet 32 = .ok (.aload 5, 2) := by decide +kernel
theorem dX8_settledSheet_34 : decode cX8_settledSheet 34 = .ok (.getfield 88, 3) := by decide +kernel
theorem dX8_settledSheet_37 : decode cX8_settledSheet 37 = .ok (.iload_n 3, 1) := by decide +kernel
theorem dX8_settledSheet_38 : decode cX8_settledSheet 38 = .ok (.invokestatic 152, 3) := by decide +kernel
theorem dX8_settledSheet_41 : decode cX8_settledSheet 41 = .ok (.ifCond .ne 5, 3) := by decide +kernel
theorem dX8_settledSheet_44 : decode cX8_settledSheet 44 = .ok (.aconst_null, 1) := by decide +kernel
theorem dX8_settledSheet_45 : decode cX8_settledSheet 45 = .ok (.areturn, 1) := by decide +kernel
theorem dX8_settledSheet_46 : decode cX8_settledSheet 46 = .ok (.aload_n 0, 1) := by decide +kernel
theorem dX8_settledSheet_47 : decode cX8_settledSheet 47 = .ok (.getfield 12, 3) := by decide +kernel
theorem dX8_settledSheet_50 : decode cX8_settledSheet 50 = .ok (.aload 4, 2) := by decide +kernel
theorem dX8_settledSheet_52 : decode cX8_settledSheet 52 = .ok (.invokevirtual 179, 3) := by decide +kernel
theorem dX8_settledSheet_55 : decode cX8_settledSheet 55 = .ok (.aload 4, 2) := by decide +kernel
theorem dX8_settledSheet_57 : decode cX8_settledSheet 57 = .ok (.getfield 126, 3) := by decide +kernel
theorem dX8_settledSheet_60 : decode cX8_settledSheet 60 = .ok (.areturn, 1) := by decide +kernel
def f_X8_settledSheet (a0 a1 a2 a3 : Int) (H : PH) : RO := vm 8 a0 H <|
  (f_X8_homeOf a0 a1 H).bind fun z1 => (ld 24 z1.2 a0 0).bind fun x2 => (f_X3_questionOf x2 a2 z1.2).bind fun z3 => (if z1.1 = -1 then some ((-1), z3.2)
  else (if z3.1 = -1 then some ((-1), z3.2)
  else (ld 20 z3.2 z1.1 0).bind fun x4 => (ld 21 z3.2 z3.1 1).bind fun x5 => (f_X8_isPlace x4 x5 a3 z3.2).bind fun z6 => (if z6.1 ≠ 0 then (ld 24 z6.2 a0 0).bind fun x7 => (f_X3_settle x7 z1.1 z6.2).bind fun z8 => (ld 20 z8.2 z1.1 0).bind fun x9 => some (x9, z8.2)
  else some ((-1), z6.2))))
set_option maxHeartbeats 4000000 in
theorem m_X8_settledSheet (l : Launch) (a0 a1 a2 a3 : Int) (H : PH) (rr : Int) (HH : PH) (h : f_X8_settledSheet a0 a1 a2 a3 H = some (rr, HH)) : CT l yX8_settledSheet cX8_settledSheet 6 (some (.object "HouseholdVault$Sheet")) 5 114 [vr a0, vi a1, vi a2, vi a3] H (some (vr rr)) HH := by
  refine CT.of RX8 (by decide) rfl [some (vr a0), some (vi a1), some (vi a2), some (vi a3), none, none] rfl rfl ?_
  intro E F q hn hf hl hm
  unfold f_X8_settledSheet at h
  obtain ⟨hv, h⟩ := vm_spec h
  refine pw_aload_n (pc := 0) F dX8_settledSheet_0 rfl ?_
  refine pw_iload_n (pc := 1) F dX8_settledSheet_1 rfl ?_
  obtain ⟨z1, ez1, h⟩ := bnd h
  refine pw_callV (pc := 2) (as := [vi a1]) (st := []) (r := (some (vr z1.1))) F 148 8 (by decide) rfl (fun l => m_X8_homeOf l a0 a1 H z1.1 z1.2 ez1) g_71dc4d703e g_171138aae7 g_757aa7485e g_99e03e18e2 g_d22af8c66c hd_X8_homeOf (rm_ok hf hl (by decide) (by decide)) rfl (vm_spec ez1).1 dX8_settledSheet_2 rfl (stk' := [vr z1.1]) rfl ?_
  refine pw_astore (pc := 5) F dX8_settledSheet_5 (lt_nl hn (by decide)) [some (vr a0), some (vi a1), some (vi a2), some (vi a3), some (vr z1.1), none] rfl ?_
  refine pw_aload_n (pc := 7) F dX8_settledSheet_7 rfl ?_
  obtain ⟨x2, ex2, h⟩ := bnd h
  refine pw_get (pc := 8) F 8 0 12 (by decide) (by decide) g_955d9610dc inl_8 2 rfl dX8_settledSheet_8 ex2 ?_
  refine pw_iload_n (pc := 11) F dX8_settledSheet_11 rfl ?_
  obtain ⟨z3, ez3, h⟩ := bnd h
  refine pw_callV (pc := 12) (as := [vi a2]) (st := []) (r := (some (vr z3.1))) F 46 3 (by decide) rfl (fun l => m_X3_questionOf l x2 a2 z1.2 z3.1 z3.2 ez3) g_babc17a83a g_e6ef547307 g_4b42450d0b g_106b72596f g_1cf8e31489 hd_X3_questionOf (rm_ok hf hl (by decide) (by decide)) rfl (vm_spec ez3).1 dX8_settledSheet_12 rfl (stk' := [vr z3.1]) rfl ?_
  refine pw_astore (pc := 15) F dX8_settledSheet_15 (lt_nl hn (by decide)) [some (vr a0), some (vi a1), some (vi a2), some (vi a3), some (vr z1.1), some (vr z3.1)] rfl ?_
  refine pw_aload (pc := 17) F dX8_settledSheet_17 rfl ?_
  refine pw_ifnull (pc := 19) F 44 dX8_settledSheet_19 (by decide) (fun hc => ?_) (fun hc => ?_)
  · have h := iteT hc h
    refine pw_null (pc := 44) F dX8_settledSheet_44 ?_
    cases h
    exact pw_aret (pc := 45) F (Or.inl ⟨_, rfl⟩) q dX8_settledSheet_45
  · have h := iteF hc h
    refine pw_aload (pc := 22) F dX8_settledSheet_22 rfl ?_
    refine pw_ifnull (pc := 24) F 44 dX8_settledSheet_24 (by decide) (fun hc => ?_) (fun hc => ?_)
    · have h := iteT hc h
      refine pw_null (pc := 44) F dX8_settledSheet_44 ?_
      cases h
      exact pw_aret (pc := 45) F (Or.inl ⟨_, rfl⟩) q dX8_settledSheet_45
    · have h := iteF hc h
      refine pw_aload (pc := 27) F dX8_settledSheet_27 rfl ?_
      obtain ⟨x4, ex4, h⟩ := bnd h
      refine pw_get (pc := 29) F 4 0 126 (by decide) (by decide) g_8ec333b1d7 inl_4 2 rfl dX8_settledSheet_29 ex4 ?_
      refine pw_aload (pc := 32) F dX8_settledSheet_32 rfl ?_
      obtain ⟨x5, ex5, h⟩ := bnd h
      refine pw_get (pc := 34) F 5 1 88 (by decide) (by decide) g_3644918d03 inl_5 0 rfl dX8_settledSheet_34 ex5 ?_
      refine pw_iload_n (pc := 37) F dX8_settledSheet_37 rfl ?_
      obtain ⟨z6, ez6, h⟩ := bnd h
      refine pw_callS (pc := 38) (as := [vr x4, vi x5, vi a3]) (st := []) (r := (some (vi z6.1))) F 152 (fun l => m_X8_isPlace l x4 x5 a3 z3.2 z6.1 z6.2 ez6) g_f22e7a095c g_0137baa7bf g_99e03e18e2 g_4c36b6c4cd hd_X8_isPlace (rm_ok hf hl (by decide) (by decide)) rfl dX8_settledSheet_38 rfl (stk' := [vi z6.1]) rfl ?_
      refine pw_if_ne (pc := 41) F 46 dX8_settledSheet_41 (by decide) (fun hc => ?_) (fun hc => ?_)
      · have h := iteT hc h
        refine pw_aload_n (pc := 46) F dX8_settledSheet_46 rfl ?_
        obtain ⟨x7, ex7, h⟩ := bnd h
        refine pw_get (pc := 47) F 8 0 12 (by decide) (by decide) g_955d9610dc inl_8 2 rfl dX8_settledSheet_47 ex7 ?_
        refine pw_aload (pc := 50) F dX8_settledSheet_50 rfl ?_
        obtain ⟨z8, ez8, h⟩ := bnd h
        refine pw_callV (pc := 52) (as := [vr z1.1]) (st := []) (r := none) F 179 3 (by decide) rfl (fun l => m_X3_settle l x7 z1.1 z6.2 z8.1 z8.2 ez8) g_9494b7b84e g_25b0bd7147 g_67c8dc0219 g_106b72596f g_d1a08fcf56 hd_X3_settle (rm_ok hf hl (by decide) (by decide)) rfl (vm_spec ez8).1 dX8_settledSheet_52 rfl (stk' := []) rfl ?_
        refine pw_aload (pc := 55) F dX8_settledSheet_55 rfl ?_
        obtain ⟨x9, ex9, h⟩ := bnd h
        refine pw_get (pc := 57) F 4 0 126 (by decide) (by decide) g_8ec333b1d7 inl_4 2 rfl dX8_settledSheet_57 ex9 ?_
        cases h
        exact pw_aret (pc := 60) F (Or.inl ⟨_, rfl⟩) q dX8_settledSheet_60
      · have h := iteF hc h
        refine pw_null (pc := 44) F dX8_settledSheet_44 ?_
        cases h
        exact pw_aret (pc := 45) F (Or.inl ⟨_, rfl⟩) q dX8_settledSheet_45
/-! HouseholdVault.value(III)J -/
theorem dX8_value_0 : decode cX8_value 0 = .ok (.aload_n 0, 1) := by decide +kernel
theorem dX8_value_1 : decode cX8_value 1 = .ok (.iload_n 1, 1) := by decide +kernel
theorem dX8_value_2 : decode cX8_value 2 = .ok (.iload_n 2, 1) := by decide +kernel
theorem dX8_value_3 : decode cX8_value 3 = .ok (.iload_n 3, 1) := by decide +kernel
theorem dX8_value_4 : decode cX8_value 4 = .ok (.invokevirtual 168, 3) := by decide +kernel
theorem dX8_value_7 : decode cX8_value 7 = .ok (.astore 4, 2) := by decide +kernel
theorem dX8_value_9 : decode cX8_value 9 = .ok (.aload 4, 2) := by decide +kernel
theorem dX8_value_11 : decode cX8_value 11 = .ok (.ifnonnull 7, 3) := by decide +kernel
theorem dX8_value_14 : decode cX8_value 14 = .ok (.lconst 0, 1) := by decide +kernel
theorem dX8_value_15 : decode cX8_value 15 = .ok (.goto 14, 3) := by decide +kernel
theorem dX8_value_18 : decode cX8_value 18 = .ok (.aload 4, 2) := by decide +kernel
theorem dX8_value_20 : decode cX8_value 20 = .ok (.getfield 172, 3) := by decide +kernel
theorem dX8_value_23 : decode cX8_value 23 = .ok (.iload_n 2, 1) := by decide +kernel
theorem dX8_value_24 : decode cX8_value 24 = .ok (.iload_n 3, 1) := by decide +kernel
theorem dX8_value_25 : decode cX8_value 25 = .ok (.invokestatic 130, 3) := by decide +kernel
theorem dX8_value_28 : decode cX8_value 28 = .ok (.laload, 1) := by decide +kernel
theorem dX8_value_29 : decode cX8_value 29 = .ok (.lreturn, 1) := by decide +kernel
def f_X8_value (a0 a1 a2 a3 : Int) (H : PH) : RO := vm 8 a0 H <|
  (f_X8_settledSheet a0 a1 a2 a3 H).bind fun z1 => (if z1.1 ≠ -1 then (ld 22 z1.2 z1.1 0).bind fun x2 => (f_X8_spot a2 a3 z1.2).bind fun z3 => (ld 1 z3.2 x2 z3.1).bind fun x4 => some (x4, z3.2)
  else some (0, z1.2))
set_option maxHeartbeats 4000000 in
theorem m_X8_value (l : Launch) (a0 a1 a2 a3 : Int) (H : PH) (rr : Int) (HH : PH) (h : f_X8_value a0 a1 a2 a3 H = some (rr, HH)) : CT l yX8_value cX8_value 5 (some .long) 6 139 [vr a0, vi a1, vi a2, vi a3] H (some (vl rr)) HH := by
  refine CT.of RX8 (by decide) rfl [some (vr a0), some (vi a1), some (vi a2), some (vi a3), none] rfl rfl ?_
  intro E F q hn hf hl hm
  unfold f_X8_value at h
  obtain ⟨hv, h⟩ := vm_spec h
  refine pw_aload_n (pc := 0) F dX8_value_0 rfl ?_
  refine pw_iload_n (pc := 1) F dX8_value_1 rfl ?_
  refine pw_iload_n (pc := 2) F dX8_value_2 rfl ?_
  refine pw_iload_n (pc := 3) F dX8_value_3 rfl ?_
  obtain ⟨z1, ez1, h⟩ := bnd h
  refine pw_callV (pc := 4) (as := [vi a1, vi a2, vi a3]) (st := []) (r := (some (vr z1.1))) F 168 8 (by decide) rfl (fun l => m_X8_settledSheet l a0 a1 a2 a3 H z1.1 z1.2 ez1) g_da1cdf0dad g_b1533c37ef g_ca3a699852 g_99e03e18e2 g_c220954495 hd_X8_settledSheet (rm_ok hf hl (by decide) (by decide)) rfl (vm_spec ez1).1 dX8_value_4 rfl (stk' := [vr z1.1]) rfl ?_
  refine pw_astore (pc := 7) F dX8_value_7 (lt_nl hn (by decide)) [some (vr a0), some (vi a1), some (vi a2), some (vi a3), some (vr z1.1)] rfl ?_
  refine pw_aload (pc := 9) F dX8_value_9 rfl ?_
  refine pw_ifnonnull (pc := 11) F 18 dX8_value_11 (by decide) (fun hc => ?_) (fun hc => ?_)
  · have h := iteT hc h
    refine pw_aload (pc := 18) F dX8_value_18 rfl ?_
    obtain ⟨x2, ex2, h⟩ := bnd h
    refine pw_get (pc := 20) F 6 0 172 (by decide) (by decide) g_6a853c1f58 inl_6 2 rfl dX8_value_20 ex2 ?_
    refine pw_iload_n (pc := 23) F dX8_value_23 rfl ?_
    refine pw_iload_n (pc := 24) F dX8_value_24 rfl ?_
    obtain ⟨z3, ez3, h⟩ := bnd h
    refine pw_callS (pc := 25) (as := [vi a2, vi a3]) (st := [vr x2]) (r := (some (vi z3.1))) F 130 (fun l => m_X8_spot l a2 a3 z1.2 z3.1 z3.2 ez3) g_3d0f1a9b86 g_aa0997f699 g_99e03e18e2 g_0d0469f624 hd_X8_spot (rm_ok hf hl (by decide) (by decide)) rfl dX8_value_25 rfl (stk' := [vi z3.1, vr x2]) rfl ?_
    obtain ⟨x4, ex4, h⟩ := bnd h
    refine pw_lald (pc := 28) F dX8_value_28 ex4 ?_
    cases h
    exact pw_lret (pc := 29) F q dX8_value_29
  · have h := iteF hc h
    refine pw_lconst (pc := 14) F 0 dX8_value_14 (by decide) ?_
    refine pw_goto (pc := 15) F 29 dX8_value_15 (by decide) ?_
    cases h
    exact pw_lret (pc := 29) F q dX8_value_29
/-! HouseholdVault.reason(III)I -/
theorem dX8_reason_0 : decode cX8_reason 0 = .ok (.aload_n 0, 1) := by decide +kernel
theorem dX8_reason_1 : decode cX8_reason 1 = .ok (.iload_n 1, 1) := by decide +kernel
theorem dX8_reason_2 : decode cX8_reason 2 = .ok (.iload_n 2, 1) := by decide +kernel
theorem dX8_reason_3 : decode cX8_reason 3 = .ok (.iload_n 3, 1) := by decide +kernel
theorem dX8_reason_4 : decode cX8_reason 4 = .ok (.invokevirtual 168, 3) := by decide +kernel
theorem dX8_reason_7 : decode cX8_reason 7 = .ok (.astore 4, 2) := by decide +kernel
theorem dX8_reason_9 : decode cX8_reason 9 = .ok (.aload 4, 2) := by decide +kernel
theorem dX8_reason_11 : decode cX8_reason 11 = .ok (.ifnonnull 7, 3) := by decide +kernel
theorem dX8_reason_14 : decode cX8_reason 14 = .ok (.iconst (-1), 1) := by decide +kernel
theorem dX8_reason_15 : decode cX8_reason 15 = .ok (.goto 14, 3) := by decide +kernel
theorem dX8_reason_18 : decode cX8_reason 18 = .ok (.aload 4, 2) := by decide +kernel
theorem dX8_reason_20 : decode cX8_reason 20 = .ok (.getfield 176, 3) := by decide +kernel
theorem dX8_reason_23 : decode cX8_reason 23 = .ok (.iload_n 2, 1) := by decide +kernel
theorem dX8_reason_24 : decode cX8_reason 24 = .ok (.iload_n 3, 1) := by decide +kernel
theorem dX8_reason_25 : decode cX8_reason 25 = .ok (.invokestatic 130, 3) := by decide +kernel
theorem dX8_reason_28 : decode cX8_reason 28 = .ok (.iaload, 1) := by decide +kernel
theorem dX8_reason_29 : decode cX8_reason 29 = .ok (.ireturn, 1) := by decide +kernel
def f_X8_reason (a0 a1 a2 a3 : Int) (H : PH) : RO := vm 8 a0 H <|
  (f_X8_settledSheet a0 a1 a2 a3 H).bind fun z1 => (if z1.1 ≠ -1 then (ld 22 z1.2 z1.1 1).bind fun x2 => (f_X8_spot a2 a3 z1.2).bind fun z3 => (ld 0 z3.2 x2 z3.1).bind fun x4 => some (x4, z3.2)
  else some ((-1), z1.2))
set_option maxHeartbeats 4000000 in
theorem m_X8_reason (l : Launch) (a0 a1 a2 a3 : Int) (H : PH) (rr : Int) (HH : PH) (h : f_X8_reason a0 a1 a2 a3 H = some (rr, HH)) : CT l yX8_reason cX8_reason 5 (some .int) 6 139 [vr a0, vi a1, vi a2, vi a3] H (some (vi rr)) HH := by
  refine CT.of RX8 (by decide) rfl [some (vr a0), some (vi a1), some (vi a2), some (vi a3), none] rfl rfl ?_
  intro E F q hn hf hl hm
  unfold f_X8_reason at h
  obtain ⟨hv, h⟩ := vm_spec h
  refine pw_aload_n (pc := 0) F dX8_reason_0 rfl ?_
  refine pw_iload_n (pc := 1) F dX8_reason_1 rfl ?_
  refine pw_iload_n (pc := 2) F dX8_reason_2 rfl ?_
  refine pw_iload_n (pc := 3) F dX8_reason_3 rfl ?_
  obtain ⟨z1, ez1, h⟩ := bnd h
  refine pw_callV (pc := 4) (as := [vi a1, vi a2, vi a3]) (st := []) (r := (some (vr z1.1))) F 168 8 (by decide) rfl (fun l => m_X8_settledSheet l a0 a1 a2 a3 H z1.1 z1.2 ez1) g_da1cdf0dad g_b1533c37ef g_ca3a699852 g_99e03e18e2 g_c220954495 hd_X8_settledSheet (rm_ok hf hl (by decide) (by decide)) rfl (vm_spec ez1).1 dX8_reason_4 rfl (stk' := [vr z1.1]) rfl ?_
  refine pw_astore (pc := 7) F dX8_reason_7 (lt_nl hn (by decide)) [some (vr a0), some (vi a1), some (vi a2), some (vi a3), some (vr z1.1)] rfl ?_
  refine pw_aload (pc := 9) F dX8_reason_9 rfl ?_
  refine pw_ifnonnull (pc := 11) F 18 dX8_reason_11 (by decide) (fun hc => ?_) (fun hc => ?_)
  · have h := iteT hc h
    refine pw_aload (pc := 18) F dX8_reason_18 rfl ?_
    obtain ⟨x2, ex2, h⟩ := bnd h
    refine pw_get (pc := 20) F 6 1 176 (by decide) (by decide) g_47f3fc4b56 inl_6 2 rfl dX8_reason_20 ex2 ?_
    refine pw_iload_n (pc := 23) F dX8_reason_23 rfl ?_
    refine pw_iload_n (pc := 24) F dX8_reason_24 rfl ?_
    obtain ⟨z3, ez3, h⟩ := bnd h
    refine pw_callS (pc := 25) (as := [vi a2, vi a3]) (st := [vr x2]) (r := (some (vi z3.1))) F 130 (fun l => m_X8_spot l a2 a3 z1.2 z3.1 z3.2 ez3) g_3d0f1a9b86 g_aa0997f699 g_99e03e18e2 g_0d0469f624 hd_X8_spot (rm_ok hf hl (by decide) (by decide)) rfl dX8_reason_25 rfl (stk' := [vi z3.1, vr x2]) rfl ?_
    obtain ⟨x4, ex4, h⟩ := bnd h
    refine pw_iald (pc := 28) F dX8_reason_28 ex4 ?_
    cases h
    exact pw_iret (pc := 29) F q dX8_reason_29
  · have h := iteF hc h
    refine pw_iconst (pc := 14) F (-1) dX8_reason_14 (by decide) ?_
    refine pw_goto (pc := 15) F 29 dX8_reason_15 (by decide) ?_
    cases h
    exact pw_iret (pc := 29) F q dX8_reason_29
/-! HouseholdVault.personOf(II)I -/
theorem dX8_personOf_0 : decode cX8_personOf 0 = .ok (.iload_n 0, 1) := by decide +kernel
theorem dX8_personOf_1 : decode cX8_personOf 1 = .ok (.iconst (-1), 1) := by decide +kernel
theorem dX8_personOf_2 : decode cX8_personOf 2 = .ok (.if_icmp .ne 7, 3) := by decide +kernel
theorem dX8_personOf_5 : decode cX8_personOf 5 = .ok (.iconst (-1), 1) := by decide +kernel
theorem dX8_personOf_6 : decode cX8_personOf 6 = .ok (.goto 4, 3) := by decide +kernel
theorem dX8_personOf_9 : decode cX8_personOf 9 = .ok (.iload_n 1, 1) := by decide +kernel
theorem dX8_personOf_10 : decode cX8_personOf 10 = .ok (.ireturn, 1) := by decide +kernel
def f_X8_personOf (a0 a1 : Int) (H : PH) : RO :=
  (if a0 ≠ (-1) then some (a1, H)
  else some ((-1), H))
set_option maxHeartbeats 4000000 in
theorem m_X8_personOf (l : Launch) (a0 a1 : Int) (H : PH) (rr : Int) (HH : PH) (h : f_X8_personOf a0 a1 H = some (rr, HH)) : CT l yX8_personOf cX8_personOf 2 (some .int) 0 0 [vi a0, vi a1] H (some (vi rr)) HH := by
  refine CT.of RX8 (by decide) rfl [some (vi a0), some (vi a1)] rfl rfl ?_
  intro E F q hn hf hl hm
  unfold f_X8_personOf at h
  refine pw_iload_n (pc := 0) F dX8_personOf_0 rfl ?_
  refine pw_iconst (pc := 1) F (-1) dX8_personOf_1 (by decide) ?_
  refine pw_icmp_ne (pc := 2) F 9 dX8_personOf_2 (by decide) (fun hc => ?_) (fun hc => ?_)
  · have h := iteT hc h
    refine pw_iload_n (pc := 9) F dX8_personOf_9 rfl ?_
    cases h
    exact pw_iret (pc := 10) F q dX8_personOf_10
  · have h := iteF hc h
    refine pw_iconst (pc := 5) F (-1) dX8_personOf_5 (by decide) ?_
    refine pw_goto (pc := 6) F 10 dX8_personOf_6 (by decide) ?_
    cases h
    exact pw_iret (pc := 10) F q dX8_personOf_10
/-! HouseholdVault.ask(IIJ)I -/
theorem dX8_ask_0 : decode cX8_ask 0 = .ok (.aload_n 0, 1) := by decide +kernel
theorem dX8_ask_1 : decode cX8_ask 1 = .ok (.getfield 12, 3) := by decide +kernel
theorem dX8_ask_4 : decode cX8_ask 4 = .ok (.iload_n 2, 1) := by decide +kernel
theorem dX8_ask_5 : decode cX8_ask 5 = .ok (.invokevirtual 46, 3) := by decide +kernel
theorem dX8_ask_8 : decode cX8_ask 8 = .ok (.astore 5, 2) := by decide +kernel
theorem dX8_ask_10 : decode cX8_ask 10 = .ok (.iload_n 1, 1) := by decide +kernel
theorem dX8_ask_11 : decode cX8_ask 11 = .ok (.ifCond .lt 13, 3) := by decide +kernel
theorem dX8_ask_14 : decode cX8_ask 14 = .ok (.iload_n 1, 1) := by decide +kernel
theorem dX8_ask_15 : decode cX8_ask 15 = .ok (.iconst 3, 1) := by decide +kernel
theorem dX8_ask_16 : decode cX8_ask 16 = .ok (.if_icmp .gt 8, 3) := by decide +kernel
theorem dX8_ask_19 : decode cX8_ask 19 = .ok (.aload 5, 2) := by decide +kernel
theorem dX8_ask_21 : decode cX8_ask 21 = .ok (.ifnonnull 5, 3) := by decide +kernel
theorem dX8_ask_24 : decode cX8_ask 24 = .ok (.iconst (-1), 1) := by decide +kernel
theorem dX8_ask_25 : decode cX8_ask 25 = .ok (.ireturn, 1) := by decide +kernel
theorem dX8_ask_26 : decode cX8_ask 26 = .ok (.iload_n 1, 1) := by decide +kernel
theorem dX8_ask_27 : decode cX8_ask 27 = .ok (.ifCond .ne 28, 3) := by decide +kernel
theorem dX8_ask_30 : decode cX8_ask 30 = .ok (.aload 5, 2) := by decide +kernel
theorem dX8_ask_32 : decode cX8_ask 32 = .ok (.getfield 50, 3) := by decide +kernel
theorem dX8_ask_35 : decode cX8_ask 35 = .ok (.iconst 1, 1) := by decide +kernel
theorem dX8_ask_36 : decode cX8_ask 36 = .ok (.if_icmp .ne 19, 3) := by decide +kernel
theorem dX8_ask_39 : decode cX8_ask 39 = .ok (.lload_n 3, 1) := by decide +kernel
theorem dX8_ask_40 : decode cX8_ask 40 = .ok (.lconst 0, 1) := by decide +kernel
theorem dX8_ask_41 : decode cX8_ask 41 = .ok (.lcmp, 1) := by decide +kernel
theorem dX8_ask_42 : decode cX8_ask 42 = .ok (.ifCond .lt 11, 3) := by decide +kernel
theorem dX8_ask_45 : decode cX8_ask 45 = .ok (.lload_n 3, 1) := by decide +kernel
theorem dX8_ask_46 : decode cX8_ask 46 = .ok (.ldc2_w 187, 3) := by decide +kernel
theorem dX8_ask_49 : decode cX8_ask 49 = .ok (.lcmp, 1) := by decide +kernel
theorem dX8_ask_50 : decode cX8_ask 50 = .ok (.ifCond .lt 5, 3) := by decide +kernel
theorem dX8_ask_53 : decode cX8_ask 53 = .ok (.iconst (-1), 1) := by decide +kernel
theorem dX8_ask_54 : decode cX8_ask 54 = .ok (.ireturn, 1) := by decide +kernel
theorem dX8_ask_55 : decode cX8_ask 55 = .ok (.iload_n 1, 1) := by decide +kernel
theorem dX8_ask_56 : decode cX8_ask 56 = .ok (.iconst 1, 1) := by decide +kernel
theorem dX8_ask_57 : decode cX8_ask 57 = .ok (.if_icmp .eq 8, 3) := by decide +kernel
theorem dX8_ask_60 : decode cX8_ask 60 = .ok (.iload_n 1, 1) := by decide +kernel
theorem dX8_ask_61 : decode cX8_ask 61 = .ok (.iconst 2, 1) := by decide +kernel
theorem dX8_ask_62 : decode cX8_ask 62 = .ok (.if_icmp .ne 15, 3) := by decide +kernel
theorem dX8_ask_65 : decode cX8_ask 65 = .ok (.aload 5, 2) := by decide +kernel
theorem dX8_ask_67 : decode cX8_ask 67 = .ok (.getfield 50, 3) := by decide +kernel
theorem dX8_ask_70 : decode cX8_ask 70 = .ok (.iconst 1, 1) := by decide +kernel
theorem dX8_ask_71 : decode cX8_ask 71 = .ok (.if_icmp .gt 6, 3) := by decide +kernel
theorem dX8_ask_74 : decode cX8_ask 74 = .ok (.bipush (-2), 2) := by decide +kernel
theorem dX8_ask_76 : decode cX8_ask 76 = .ok (.ireturn, 1) := by decide +kernel
theorem dX8_ask_77 : decode cX8_ask 77 = .ok (.aload_n 0, 1) := by decide +kernel
theorem dX8_ask_78 : decode cX8_ask 78 = .ok (.getfield 12, 3) := by decide +kernel
theorem dX8_ask_81 : decode cX8_ask 81 = .ok (.iconst 1, 1) := by decide +kernel
theorem dX8_ask_82 : decode cX8_ask 82 = .ok (.invokevirtual 189, 3) := by decide +kernel
theorem dX8_ask_85 : decode cX8_ask 85 = .ok (.ifCond .eq 6, 3) := by decide +kernel
theorem dX8_ask_88 : decode cX8_ask 88 = .ok (.bipush (-4), 2) := by decide +kernel
theorem dX8_ask_90 : decode cX8_ask 90 = .ok (.ireturn, 1) := by decide +kernel
theorem dX8_ask_91 : decode cX8_ask 91 = .ok (.aload_n 0, 1) := by decide +kernel
theorem dX8_ask_92 : decode cX8_ask 92 = .ok (.getfield 12, 3) := by decide +kernel
theorem dX8_ask_95 : decode cX8_ask 95 = .ok (.new 112, 3) := by decide +kernel
theorem dX8_ask_98 : decode cX8_ask 98 = .ok (.dup, 1) := by decide +kernel
theorem dX8_ask_99 : decode cX8_ask 99 = .ok (.iload_n 1, 1) := by decide +kernel
theorem dX8_ask_100 : decode cX8_ask 100 = .ok (.iload_n 2, 1) := by decide +kernel
theorem dX8_ask_101 : decode cX8_ask 101 = .ok (.iconst (-1), 1) := by decide +kernel
theorem dX8_ask_102 : decode cX8_ask 102 = .ok (.lload_n 3, 1) := by decide +kernel
theorem dX8_ask_103 : decode cX8_ask 103 = .ok (.aload 5, 2) := by decide +kernel
theorem dX8_ask_105 : decode cX8_ask 105 = .ok (.getfield 88, 3) := by decide +kernel
theorem dX8_ask_108 : decode cX8_ask 108 = .ok (.iconst 1, 1) := by decide +kernel
theorem dX8_ask_109 : decode cX8_ask 109 = .ok (.iload_n 2, 1) := by decide +kernel
theorem dX8_ask_110 : decode cX8_ask 110 = .ok (.invokespecial 192, 3) := by decide +kernel
theorem dX8_ask_113 : decode cX8_ask 113 = .ok (.invokevirtual 195, 3) := by decide +kernel
theorem dX8_ask_116 : decode cX8_ask 116 = .ok (.ireturn, 1) := by decide +kernel
def jX8_ask_77 (p0 p1 p2 p3 p5 : Int) (H : PH) : RO :=
  (ld 24 H p0 0).bind fun x1 => (f_X3_conditionsAreFull x1 1 H).bind fun z2 => (if z2.1 = 0 then (ld 24 z2.2 p0 0).bind fun x3 => (newo 0 z2.2).bind fun z4 => (ld 21 z4.2 p5 1).bind fun x5 => (f_X0_init z4.1 p1 p2 (-1) p3 x5 1 p2 z4.2).bind fun z6 => (f_X3_addCondition x3 z4.1 z6.2).bind fun z7 => some (z7.1, z7.2)
  else some ((-4), z2.2))
set_option maxHeartbeats 4000000 in
theorem jX8_ask_77_ok {E : PE} {rr : Int} {HH : PH} (F : FX E cX8_ask RX8) (q : QE E (some (vi rr)) HH (some .int)) (hn : nLof E = 6) (hf : (roomOf E).frames = 2) (hl : (roomOf E).locals = 42) (p0 p1 p2 p3 p5 : Int) (H : PH) (h : jX8_ask_77 p0 p1 p2 p3 p5 H = some (rr, HH)) : PW E 77 [some (vr p0), some (vi p1), some (vi p2), some (vl p3), none, some (vr p5)] [] H := by
  unfold jX8_ask_77 at h
  refine pw_aload_n (pc := 77) F dX8_ask_77 rfl ?_
  obtain ⟨x1, ex1, h⟩ := bnd h
  refine pw_get (pc := 78) F 8 0 12 (by decide) (by decide) g_955d9610dc inl_8 2 rfl dX8_ask_78 ex1 ?_
  refine pw_iconst (pc := 81) F 1 dX8_ask_81 (by decide) ?_
  obtain ⟨z2, ez2, h⟩ := bnd h
  refine pw_callV (pc := 82) (as := [vi 1]) (st := []) (r := (some (vi z2.1))) F 189 3 (by decide) rfl (fun l => m_X3_conditionsAreFull l x1 1 H z2.1 z2.2 ez2) g_7417c9af48 g_bb5e9f492c g_c1a0ce728c g_106b72596f g_018437c032 hd_X3_conditionsAreFull (rm_ok hf hl (by decide) (by decide)) rfl (vm_spec ez2).1 dX8_ask_82 rfl (stk' := [vi z2.1]) rfl ?_
  refine pw_if_eq (pc := 85) F 91 dX8_ask_85 (by decide) (fun hc => ?_) (fun hc => ?_)
  · have h := iteT hc h
    refine pw_aload_n (pc := 91) F dX8_ask_91 rfl ?_
    obtain ⟨x3, ex3, h⟩ := bnd h
    refine pw_get (pc := 92) F 8 0 12 (by decide) (by decide) g_955d9610dc inl_8 2 rfl dX8_ask_92 ex3 ?_
    obtain ⟨z4, ez4, h⟩ := bnd h
    refine pw_new (pc := 95) F 0 112 (by decide) g_4523d8d8bf g_854bb96d1c g_ef07f9ccec inl_0 dX8_ask_95 ez4 ?_
    refine pw_dup (pc := 98) F dX8_ask_98 (pvne rfl) ?_
    refine pw_iload_n (pc := 99) F dX8_ask_99 rfl ?_
    refine pw_iload_n (pc := 100) F dX8_ask_100 rfl ?_
    refine pw_iconst (pc := 101) F (-1) dX8_ask_101 (by decide) ?_
    refine pw_lload_n (pc := 102) F dX8_ask_102 rfl ?_
    refine pw_aload (pc := 103) F dX8_ask_103 rfl ?_
    obtain ⟨x5, ex5, h⟩ := bnd h
    refine pw_get (pc := 105) F 5 1 88 (by decide) (by decide) g_3644918d03 inl_5 0 rfl dX8_ask_105 ex5 ?_
    refine pw_iconst (pc := 108) F 1 dX8_ask_108 (by decide) ?_
    refine pw_iload_n (pc := 109) F dX8_ask_109 rfl ?_
    obtain ⟨z6, ez6, h⟩ := bnd h
    refine pw_callI (pc := 110) (as := [vi p1, vi p2, vi (-1), vl p3, vi x5, vi 1, vi p2]) (st := [vr z4.1, vr x3]) F 192 (vm_nn (vm_spec ez6).1) (fun l => m_X0_init l z4.1 p1 p2 (-1) p3 x5 1 p2 z4.2 z6.1 z6.2 ez6) rfl g_4a4e33672b g_203a6b265c g_82b0ef516c g_d8fbc76a87 hd_X0_init (rm_ok hf hl (by decide) (by decide)) rfl dX8_ask_110 rfl ?_
    obtain ⟨z7, ez7, h⟩ := bnd h
    refine pw_callV (pc := 113) (as := [vr z4.1]) (st := []) (r := (some (vi z7.1))) F 195 3 (by decide) rfl (fun l => m_X3_addCondition l x3 z4.1 z6.2 z7.1 z7.2 ez7) g_cb4e5a548a g_63018e7056 g_d894aaa55a g_106b72596f g_e04be68bc8 hd_X3_addCondition (rm_ok hf hl (by decide) (by decide)) rfl (vm_spec ez7).1 dX8_ask_113 rfl (stk' := [vi z7.1]) rfl ?_
    cases h
    exact pw_iret (pc := 116) F q dX8_ask_116
  · have h := iteF hc h
    refine pw_bipush (pc := 88) F (-4) dX8_ask_88 (by decide) ?_
    cases h
    exact pw_iret (pc := 90) F q dX8_ask_90
def jX8_ask_65 (p0 p1 p2 p3 p5 : Int) (H : PH) : RO :=
  (ld 21 H p5 0).bind fun x1 => (if x1 > 1 then jX8_ask_77 p0 p1 p2 p3 p5 H
  else some ((-2), H))
set_option maxHeartbeats 4000000 in
theorem jX8_ask_65_ok {E : PE} {rr : Int} {HH : PH} (F : FX E cX8_ask RX8) (q : QE E (some (vi rr)) HH (some .int)) (hn : nLof E = 6) (hf : (roomOf E).frames = 2) (hl : (roomOf E).locals = 42) (p0 p1 p2 p3 p5 : Int) (H : PH) (h : jX8_ask_65 p0 p1 p2 p3 p5 H = some (rr, HH)) : PW E 65 [some (vr p0), some (vi p1), some (vi p2), some (vl p3), none, some (vr p5)] [] H := by
  unfold jX8_ask_65 at h
  refine pw_aload (pc := 65) F dX8_ask_65 rfl ?_
  obtain ⟨x1, ex1, h⟩ := bnd h
  refine pw_get (pc := 67) F 5 0 50 (by decide) (by decide) g_89512a4092 inl_5 0 rfl dX8_ask_67 ex1 ?_
  refine pw_iconst (pc := 70) F 1 dX8_ask_70 (by decide) ?_
  refine pw_icmp_gt (pc := 71) F 77 dX8_ask_71 (by decide) (fun hc => ?_) (fun hc => ?_)
  · have h := iteT hc h
    exact pw_mask [true, true, true, true, true, true] (ls' := [some (vr p0), some (vi p1), some (vi p2), some (vl p3), none, some (vr p5)]) rfl (jX8_ask_77_ok F q hn hf hl p0 p1 p2 p3 p5 H h)
  · have h := iteF hc h
    refine pw_bipush (pc := 74) F (-2) dX8_ask_74 (by decide) ?_
    cases h
    exact pw_iret (pc := 76) F q dX8_ask_76
def jX8_ask_55 (p0 p1 p2 p3 p5 : Int) (H : PH) : RO :=
  (if p1 = 1 then jX8_ask_65 p0 p1 p2 p3 p5 H
  else (if p1 ≠ 2 then jX8_ask_77 p0 p1 p2 p3 p5 H
  else jX8_ask_65 p0 p1 p2 p3 p5 H))
set_option maxHeartbeats 4000000 in
theorem jX8_ask_55_ok {E : PE} {rr : Int} {HH : PH} (F : FX E cX8_ask RX8) (q : QE E (some (vi rr)) HH (some .int)) (hn : nLof E = 6) (hf : (roomOf E).frames = 2) (hl : (roomOf E).locals = 42) (p0 p1 p2 p3 p5 : Int) (H : PH) (h : jX8_ask_55 p0 p1 p2 p3 p5 H = some (rr, HH)) : PW E 55 [some (vr p0), some (vi p1), some (vi p2), some (vl p3), none, some (vr p5)] [] H := by
  unfold jX8_ask_55 at h
  refine pw_iload_n (pc := 55) F dX8_ask_55 rfl ?_
  refine pw_iconst (pc := 56) F 1 dX8_ask_56 (by decide) ?_
  refine pw_icmp_eq (pc := 57) F 65 dX8_ask_57 (by decide) (fun hc => ?_) (fun hc => ?_)
  · have h := iteT hc h
    exact pw_mask [true, true, true, true, true, true] (ls' := [some (vr p0), some (vi p1), some (vi p2), some (vl p3), none, some (vr p5)]) rfl (jX8_ask_65_ok F q hn hf hl p0 p1 p2 p3 p5 H h)
  · have h := iteF hc h
    refine pw_iload_n (pc := 60) F dX8_ask_60 rfl ?_
    refine pw_iconst (pc := 61) F 2 dX8_ask_61 (by decide) ?_
    refine pw_icmp_ne (pc := 62) F 77 dX8_ask_62 (by decide) (fun hc => ?_) (fun hc => ?_)
    · have h := iteT hc h
      exact pw_mask [true, true, true, true, true, true] (ls' := [some (vr p0), some (vi p1), some (vi p2), some (vl p3), none, some (vr p5)]) rfl (jX8_ask_77_ok F q hn hf hl p0 p1 p2 p3 p5 H h)
    · have h := iteF hc h
      exact pw_mask [true, true, true, true, true, true] (ls' := [some (vr p0), some (vi p1), some (vi p2), some (vl p3), none, some (vr p5)]) rfl (jX8_ask_65_ok F q hn hf hl p0 p1 p2 p3 p5 H h)
def f_X8_ask (a0 a1 a2 a3 : Int) (H : PH) : RO := vm 8 a0 H <|
  (ld 24 H a0 0).bind fun x1 => (f_X3_questionOf x1 a2 H).bind fun z2 => (if a1 < 0 then some ((-1), z2.2)
  else (if a1 > 3 then some ((-1), z2.2)
  else (if z2.1 ≠ -1 then (if a1 ≠ 0 then jX8_ask_55 a0 a1 a2 a3 z2.1 z2.2
  else (ld 21 z2.2 z2.1 0).bind fun x3 => (if x3 ≠ 1 then jX8_ask_55 a0 a1 a2 a3 z2.1 z2.2
  else (if (lc a3 0) < 0 then some ((-1), z2.2)
  else (if (lc a3 8) < 0 then jX8_ask_55 a0 a1 a2 a3 z2.1 z2.2
  else some ((-1), z2.2)))))
  else some ((-1), z2.2))))
set_option maxHeartbeats 4000000 in
theorem m_X8_ask (l : Launch) (a0 a1 a2 a3 : Int) (H : PH) (rr : Int) (HH : PH) (h : f_X8_ask a0 a1 a2 a3 H = some (rr, HH)) : CT l yX8_ask cX8_ask 6 (some .int) 2 42 [vr a0, vi a1, vi a2, vl a3] H (some (vi rr)) HH := by
  refine CT.of RX8 (by decide) rfl [some (vr a0), some (vi a1), some (vi a2), some (vl a3), none, none] rfl rfl ?_
  intro E F q hn hf hl hm
  unfold f_X8_ask at h
  obtain ⟨hv, h⟩ := vm_spec h
  refine pw_aload_n (pc := 0) F dX8_ask_0 rfl ?_
  obtain ⟨x1, ex1, h⟩ := bnd h
  refine pw_get (pc := 1) F 8 0 12 (by decide) (by decide) g_955d9610dc inl_8 2 rfl dX8_ask_1 ex1 ?_
  refine pw_iload_n (pc := 4) F dX8_ask_4 rfl ?_
  obtain ⟨z2, ez2, h⟩ := bnd h
  refine pw_callV (pc := 5) (as := [vi a2]) (st := []) (r := (some (vr z2.1))) F 46 3 (by decide) rfl (fun l => m_X3_questionOf l x1 a2 H z2.1 z2.2 ez2) g_babc17a83a g_e6ef547307 g_4b42450d0b g_106b72596f g_1cf8e31489 hd_X3_questionOf (rm_ok hf hl (by decide) (by decide)) rfl (vm_spec ez2).1 dX8_ask_5 rfl (stk' := [vr z2.1]) rfl ?_
  refine pw_astore (pc := 8) F dX8_ask_8 (lt_nl hn (by decide)) [some (vr a0), some (vi a1), some (vi a2), some (vl a3), none, some (vr z2.1)] rfl ?_
  refine pw_iload_n (pc := 10) F dX8_ask_10 rfl ?_
  refine pw_if_lt (pc := 11) F 24 dX8_ask_11 (by decide) (fun hc => ?_) (fun hc => ?_)
  · have h := iteT hc h
    refine pw_iconst (pc := 24) F (-1) dX8_ask_24 (by decide) ?_
    cases h
    exact pw_iret (pc := 25) F q dX8_ask_25
  · have h := iteF hc h
    refine pw_iload_n (pc := 14) F dX8_ask_14 rfl ?_
    refine pw_iconst (pc := 15) F 3 dX8_ask_15 (by decide) ?_
    refine pw_icmp_gt (pc := 16) F 24 dX8_ask_16 (by decide) (fun hc => ?_) (fun hc => ?_)
    · have h := iteT hc h
      refine pw_iconst (pc := 24) F (-1) dX8_ask_24 (by decide) ?_
      cases h
      exact pw_iret (pc := 25) F q dX8_ask_25
    · have h := iteF hc h
      refine pw_aload (pc := 19) F dX8_ask_19 rfl ?_
      refine pw_ifnonnull (pc := 21) F 26 dX8_ask_21 (by decide) (fun hc => ?_) (fun hc => ?_)
      · have h := iteT hc h
        refine pw_iload_n (pc := 26) F dX8_ask_26 rfl ?_
        refine pw_if_ne (pc := 27) F 55 dX8_ask_27 (by decide) (fun hc => ?_) (fun hc => ?_)
        · have h := iteT hc h
          exact pw_mask [true, true, true, true, true, true] (ls' := [some (vr a0), some (vi a1), some (vi a2), some (vl a3), none, some (vr z2.1)]) rfl (jX8_ask_55_ok F q hn hf hl a0 a1 a2 a3 z2.1 z2.2 h)
        · have h := iteF hc h
          refine pw_aload (pc := 30) F dX8_ask_30 rfl ?_
          obtain ⟨x3, ex3, h⟩ := bnd h
          refine pw_get (pc := 32) F 5 0 50 (by decide) (by decide) g_89512a4092 inl_5 0 rfl dX8_ask_32 ex3 ?_
          refine pw_iconst (pc := 35) F 1 dX8_ask_35 (by decide) ?_
          refine pw_icmp_ne (pc := 36) F 55 dX8_ask_36 (by decide) (fun hc => ?_) (fun hc => ?_)
          · have h := iteT hc h
            exact pw_mask [true, true, true, true, true, true] (ls' := [some (vr a0), some (vi a1), some (vi a2), some (vl a3), none, some (vr z2.1)]) rfl (jX8_ask_55_ok F q hn hf hl a0 a1 a2 a3 z2.1 z2.2 h)
          · have h := iteF hc h
            refine pw_lload_n (pc := 39) F dX8_ask_39 rfl ?_
            refine pw_lconst (pc := 40) F 0 dX8_ask_40 (by decide) ?_
            refine pw_lcmp (pc := 41) F dX8_ask_41 ?_
            refine pw_if_lt (pc := 42) F 53 dX8_ask_42 (by decide) (fun hc => ?_) (fun hc => ?_)
            · have h := iteT hc h
              refine pw_iconst (pc := 53) F (-1) dX8_ask_53 (by decide) ?_
              cases h
              exact pw_iret (pc := 54) F q dX8_ask_54
            · have h := iteF hc h
              refine pw_lload_n (pc := 45) F dX8_ask_45 rfl ?_
              refine pw_ldc2 (pc := 46) F 8 g_1618d8a62f dX8_ask_46 (by decide) ?_
              refine pw_lcmp (pc := 49) F dX8_ask_49 ?_
              refine pw_if_lt (pc := 50) F 55 dX8_ask_50 (by decide) (fun hc => ?_) (fun hc => ?_)
              · have h := iteT hc h
                exact pw_mask [true, true, true, true, true, true] (ls' := [some (vr a0), some (vi a1), some (vi a2), some (vl a3), none, some (vr z2.1)]) rfl (jX8_ask_55_ok F q hn hf hl a0 a1 a2 a3 z2.1 z2.2 h)
              · have h := iteF hc h
                refine pw_iconst (pc := 53) F (-1) dX8_ask_53 (by decide) ?_
                cases h
                exact pw_iret (pc := 54) F q dX8_ask_54
      · have h := iteF hc h
        refine pw_iconst (pc := 24) F (-1) dX8_ask_24 (by decide) ?_
        cases h
        exact pw_iret (pc := 25) F q dX8_ask_25
