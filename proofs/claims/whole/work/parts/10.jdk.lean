/-! java/lang/Integer.bitCount(I)I -/
theorem dJ6_bitCount_0f7a4_0 : decode cJ6_bitCount_0f7a4 0 = .ok (.iload_n 0, 1) := by decide +kernel
theorem dJ6_bitCount_0f7a4_1 : decode cJ6_bitCount_0f7a4 1 = .ok (.iload_n 0, 1) := by decide +kernel
theorem dJ6_bitCount_0f7a4_2 : decode cJ6_bitCount_0f7a4 2 = .ok (.iconst 1, 1) := by decide +kernel
theorem dJ6_bitCount_0f7a4_3 : decode cJ6_bitCount_0f7a4 3 = .ok (.iushr, 1) := by decide +kernel
theorem dJ6_bitCount_0f7a4_4 : decode cJ6_bitCount_0f7a4 4 = .ok (.ldc_w 265, 3) := by decide +kernel
theorem dJ6_bitCount_0f7a4_7 : decode cJ6_bitCount_0f7a4 7 = .ok (.iand, 1) := by decide +kernel
theorem dJ6_bitCount_0f7a4_8 : decode cJ6_bitCount_0f7a4 8 = .ok (.isub, 1) := by decide +kernel
theorem dJ6_bitCount_0f7a4_9 : decode cJ6_bitCount_0f7a4 9 = .ok (.istore_n 0, 1) := by decide +kernel
theorem dJ6_bitCount_0f7a4_10 : decode cJ6_bitCount_0f7a4 10 = .ok (.iload_n 0, 1) := by decide +kernel
theorem dJ6_bitCount_0f7a4_11 : decode cJ6_bitCount_0f7a4 11 = .ok (.ldc_w 266, 3) := by decide +kernel
theorem dJ6_bitCount_0f7a4_14 : decode cJ6_bitCount_0f7a4 14 = .ok (.iand, 1) := by decide +kernel
theorem dJ6_bitCount_0f7a4_15 : decode cJ6_bitCount_0f7a4 15 = .ok (.iload_n 0, 1) := by decide +kernel
theorem dJ6_bitCount_0f7a4_16 : decode cJ6_bitCount_0f7a4 16 = .ok (.iconst 2, 1) := by decide +kernel
theorem dJ6_bitCount_0f7a4_17 : decode cJ6_bitCount_0f7a4 17 = .ok (.iushr, 1) := by decide +kernel
theorem dJ6_bitCount_0f7a4_18 : decode cJ6_bitCount_0f7a4 18 = .ok (.ldc_w 266, 3) := by decide +kernel
theorem dJ6_bitCount_0f7a4_21 : decode cJ6_bitCount_0f7a4 21 = .ok (.iand, 1) := by decide +kernel
theorem dJ6_bitCount_0f7a4_22 : decode cJ6_bitCount_0f7a4 22 = .ok (.iadd, 1) := by decide +kernel
theorem dJ6_bitCount_0f7a4_23 : decode cJ6_bitCount_0f7a4 23 = .ok (.istore_n 0, 1) := by decide +kernel
theorem dJ6_bitCount_0f7a4_24 : decode cJ6_bitCount_0f7a4 24 = .ok (.iload_n 0, 1) := by decide +kernel
theorem dJ6_bitCount_0f7a4_25 : decode cJ6_bitCount_0f7a4 25 = .ok (.iload_n 0, 1) := by decide +kernel
theorem dJ6_bitCount_0f7a4_26 : decode cJ6_bitCount_0f7a4 26 = .ok (.iconst 4, 1) := by decide +kernel
theorem dJ6_bitCount_0f7a4_27 : decode cJ6_bitCount_0f7a4 27 = .ok (.iushr, 1) := by decide +kernel
theorem dJ6_bitCount_0f7a4_28 : decode cJ6_bitCount_0f7a4 28 = .ok (.iadd, 1) := by decide +kernel
theorem dJ6_bitCount_0f7a4_29 : decode cJ6_bitCount_0f7a4 29 = .ok (.ldc_w 267, 3) := by decide +kernel
theorem dJ6_bitCount_0f7a4_32 : decode cJ6_bitCount_0f7a4 32 = .ok (.iand, 1) := by decide +kernel
theorem dJ6_bitCount_0f7a4_33 : decode cJ6_bitCount_0f7a4 33 = .ok (.istore_n 0, 1) := by decide +kernel
theorem dJ6_bitCount_0f7a4_34 : decode cJ6_bitCount_0f7a4 34 = .ok (.iload_n 0, 1) := by decide +kernel
theorem dJ6_bitCount_0f7a4_35 : decode cJ6_bitCount_0f7a4 35 = .ok (.iload_n 0, 1) := by decide +kernel
theorem dJ6_bitCount_0f7a4_36 : decode cJ6_bitCount_0f7a4 36 = .ok (.bipush 8, 2) := by decide +kernel
theorem dJ6_bitCount_0f7a4_38 : decode cJ6_bitCount_0f7a4 38 = .ok (.iushr, 1) := by decide +kernel
theorem dJ6_bitCount_0f7a4_39 : decode cJ6_bitCount_0f7a4 39 = .ok (.iadd, 1) := by decide +kernel
theorem dJ6_bitCount_0f7a4_40 : decode cJ6_bitCount_0f7a4 40 = .ok (.istore_n 0, 1) := by decide +kernel
theorem dJ6_bitCount_0f7a4_41 : decode cJ6_bitCount_0f7a4 41 = .ok (.iload_n 0, 1) := by decide +kernel
theorem dJ6_bitCount_0f7a4_42 : decode cJ6_bitCount_0f7a4 42 = .ok (.iload_n 0, 1) := by decide +kernel
theorem dJ6_bitCount_0f7a4_43 : decode cJ6_bitCount_0f7a4 43 = .ok (.bipush 16, 2) := by decide +kernel
theorem dJ6_bitCount_0f7a4_45 : decode cJ6_bitCount_0f7a4 45 = .ok (.iushr, 1) := by decide +kernel
theorem dJ6_bitCount_0f7a4_46 : decode cJ6_bitCount_0f7a4 46 = .ok (.iadd, 1) := by decide +kernel
theorem dJ6_bitCount_0f7a4_47 : decode cJ6_bitCount_0f7a4 47 = .ok (.istore_n 0, 1) := by decide +kernel
theorem dJ6_bitCount_0f7a4_48 : decode cJ6_bitCount_0f7a4 48 = .ok (.iload_n 0, 1) := by decide +kernel
theorem dJ6_bitCount_0f7a4_49 : decode cJ6_bitCount_0f7a4 49 = .ok (.bipush 63, 2) := by decide +kernel
theorem dJ6_bitCount_0f7a4_51 : decode cJ6_bitCount_0f7a4 51 = .ok (.iand, 1) := by decide +kernel
theorem dJ6_bitCount_0f7a4_52 : decode cJ6_bitCount_0f7a4 52 = .ok (.ireturn, 1) := by decide +kernel
def f_J6_bitCount_0f7a4 (a0 : Int) (H : PH) : RO :=
  some ((i_and (w32 ((w32 ((i_and (w32 ((w32 ((i_and (w32 (a0 - (i_and (i_ushr a0 1) 1431655765))) 858993459) + (i_and (i_ushr (w32 (a0 - (i_and (i_ushr a0 1) 1431655765))) 2) 858993459))) + (i_ushr (w32 ((i_and (w32 (a0 - (i_and (i_ushr a0 1) 1431655765))) 858993459) + (i_and (i_ushr (w32 (a0 - (i_and (i_ushr a0 1) 1431655765))) 2) 858993459))) 4))) 252645135) + (i_ushr (i_and (w32 ((w32 ((i_and (w32 (a0 - (i_and (i_ushr a0 1) 1431655765))) 858993459) + (i_and (i_ushr (w32 (a0 - (i_and (i_ushr a0 1) 1431655765))) 2) 858993459))) + (i_ushr (w32 ((i_and (w32 (a0 - (i_and (i_ushr a0 1) 1431655765))) 858993459) + (i_and (i_ushr (w32 (a0 - (i_and (i_ushr a0 1) 1431655765))) 2) 858993459))) 4))) 252645135) 8))) + (i_ushr (w32 ((i_and (w32 ((w32 ((i_and (w32 (a0 - (i_and (i_ushr a0 1) 1431655765))) 858993459) + (i_and (i_ushr (w32 (a0 - (i_and (i_ushr a0 1) 1431655765))) 2) 858993459))) + (i_ushr (w32 ((i_and (w32 (a0 - (i_and (i_ushr a0 1) 1431655765))) 858993459) + (i_and (i_ushr (w32 (a0 - (i_and (i_ushr a0 1) 1431655765))) 2) 858993459))) 4))) 252645135) + (i_ushr (i_and (w32 ((w32 ((i_and (w32 (a0 - (i_and (i_ushr a0 1) 1431655765))) 858993459) + (i_and (i_ushr (w32 (a0 - (i_and (i_ushr a0 1) 1431655765))) 2) 858993459))) + (i_ushr (w32 ((i_and (w32 (a0 - (i_and (i_ushr a0 1) 1431655765))) 858993459) + (i_and (i_ushr (w32 (a0 - (i_and (i_ushr a0 1) 1431655765))) 2) 858993459))) 4))) 252645135) 8))) 16))) 63), H)
set_option maxHeartbeats 4000000 in
theorem m_J6_bitCount_0f7a4 (l : Launch) (a0 : Int) (H : PH) (rr : Int) (HH : PH) (h : f_J6_bitCount_0f7a4 a0 H = some (rr, HH)) : CT l yJ6_bitCount_0f7a4 cJ6_bitCount_0f7a4 1 (some .int) 0 0 [vi a0] H (some (vi rr)) HH := by
  refine CT.of RJ6 (by decide) rfl [some (vi a0)] rfl rfl ?_
  intro E F q hn hf hl hm
  unfold f_J6_bitCount_0f7a4 at h
  refine pw_iload_n (pc := 0) F dJ6_bitCount_0f7a4_0 rfl ?_
  refine pw_iload_n (pc := 1) F dJ6_bitCount_0f7a4_1 rfl ?_
  refine pw_iconst (pc := 2) F 1 dJ6_bitCount_0f7a4_2 (by decide) ?_
  refine pw_iushr (pc := 3) F dJ6_bitCount_0f7a4_3 ?_
  refine pw_ldcw (pc := 4) F 1431655765 g_72a371778f dJ6_bitCount_0f7a4_4 (by decide) ?_
  refine pw_iand (pc := 7) F dJ6_bitCount_0f7a4_7 ?_
  refine pw_isub (pc := 8) F dJ6_bitCount_0f7a4_8 ?_
  refine pw_istore_n (pc := 9) F dJ6_bitCount_0f7a4_9 (lt_nl hn (by decide)) [some (vi (w32 (a0 - (i_and (i_ushr a0 1) 1431655765))))] rfl ?_
  refine pw_iload_n (pc := 10) F dJ6_bitCount_0f7a4_10 rfl ?_
  refine pw_ldcw (pc := 11) F 858993459 g_09cd821eef dJ6_bitCount_0f7a4_11 (by decide) ?_
  refine pw_iand (pc := 14) F dJ6_bitCount_0f7a4_14 ?_
  refine pw_iload_n (pc := 15) F dJ6_bitCount_0f7a4_15 rfl ?_
  refine pw_iconst (pc := 16) F 2 dJ6_bitCount_0f7a4_16 (by decide) ?_
  refine pw_iushr (pc := 17) F dJ6_bitCount_0f7a4_17 ?_
  refine pw_ldcw (pc := 18) F 858993459 g_09cd821eef dJ6_bitCount_0f7a4_18 (by decide) ?_
  refine pw_iand (pc := 21) F dJ6_bitCount_0f7a4_21 ?_
  refine pw_iadd (pc := 22) F dJ6_bitCount_0f7a4_22 ?_
  refine pw_istore_n (pc := 23) F dJ6_bitCount_0f7a4_23 (lt_nl hn (by decide)) [some (vi (w32 ((i_and (w32 (a0 - (i_and (i_ushr a0 1) 1431655765))) 858993459) + (i_and (i_ushr (w32 (a0 - (i_and (i_ushr a0 1) 1431655765))) 2) 858993459))))] rfl ?_
  refine pw_iload_n (pc := 24) F dJ6_bitCount_0f7a4_24 rfl ?_
  refine pw_iload_n (pc := 25) F dJ6_bitCount_0f7a4_25 rfl ?_
  refine pw_iconst (pc := 26) F 4 dJ6_bitCount_0f7a4_26 (by decide) ?_
  refine pw_iushr (pc := 27) F dJ6_bitCount_0f7a4_27 ?_
  refine pw_iadd (pc := 28) F dJ6_bitCount_0f7a4_28 ?_
  refine pw_ldcw (pc := 29) F 252645135 g_412cf73e67 dJ6_bitCount_0f7a4_29 (by decide) ?_
  refine pw_iand (pc := 32) F dJ6_bitCount_0f7a4_32 ?_
  refine pw_istore_n (pc := 33) F dJ6_bitCount_0f7a4_33 (lt_nl hn (by decide)) [some (vi (i_and (w32 ((w32 ((i_and (w32 (a0 - (i_and (i_ushr a0 1) 1431655765))) 858993459) + (i_and (i_ushr (w32 (a0 - (i_and (i_ushr a0 1) 1431655765))) 2) 858993459))) + (i_ushr (w32 ((i_and (w32 (a0 - (i_and (i_ushr a0 1) 1431655765))) 858993459) + (i_and (i_ushr (w32 (a0 - (i_and (i_ushr a0 1) 1431655765))) 2) 858993459))) 4))) 252645135))] rfl ?_
  refine pw_iload_n (pc := 34) F dJ6_bitCount_0f7a4_34 rfl ?_
  refine pw_iload_n (pc := 35) F dJ6_bitCount_0f7a4_35 rfl ?_
  refine pw_bipush (pc := 36) F 8 dJ6_bitCount_0f7a4_36 (by decide) ?_
  refine pw_iushr (pc := 38) F dJ6_bitCount_0f7a4_38 ?_
  refine pw_iadd (pc := 39) F dJ6_bitCount_0f7a4_39 ?_
  refine pw_istore_n (pc := 40) F dJ6_bitCount_0f7a4_40 (lt_nl hn (by decide)) [some (vi (w32 ((i_and (w32 ((w32 ((i_and (w32 (a0 - (i_and (i_ushr a0 1) 1431655765))) 858993459) + (i_and (i_ushr (w32 (a0 - (i_and (i_ushr a0 1) 1431655765))) 2) 858993459))) + (i_ushr (w32 ((i_and (w32 (a0 - (i_and (i_ushr a0 1) 1431655765))) 858993459) + (i_and (i_ushr (w32 (a0 - (i_and (i_ushr a0 1) 1431655765))) 2) 858993459))) 4))) 252645135) + (i_ushr (i_and (w32 ((w32 ((i_and (w32 (a0 - (i_and (i_ushr a0 1) 1431655765))) 858993459) + (i_and (i_ushr (w32 (a0 - (i_and (i_ushr a0 1) 1431655765))) 2) 858993459))) + (i_ushr (w32 ((i_and (w32 (a0 - (i_and (i_ushr a0 1) 1431655765))) 858993459) + (i_and (i_ushr (w32 (a0 - (i_and (i_ushr a0 1) 1431655765))) 2) 858993459))) 4))) 252645135) 8))))] rfl ?_
  refine pw_iload_n (pc := 41) F dJ6_bitCount_0f7a4_41 rfl ?_
  refine pw_iload_n (pc := 42) F dJ6_bitCount_0f7a4_42 rfl ?_
  refine pw_bipush (pc := 43) F 16 dJ6_bitCount_0f7a4_43 (by decide) ?_
  refine pw_iushr (pc := 45) F dJ6_bitCount_0f7a4_45 ?_
  refine pw_iadd (pc := 46) F dJ6_bitCount_0f7a4_46 ?_
  refine pw_istore_n (pc := 47) F dJ6_bitCount_0f7a4_47 (lt_nl hn (by decide)) [some (vi (w32 ((w32 ((i_and (w32 ((w32 ((i_and (w32 (a0 - (i_and (i_ushr a0 1) 1431655765))) 858993459) + (i_and (i_ushr (w32 (a0 - (i_and (i_ushr a0 1) 1431655765))) 2) 858993459))) + (i_ushr (w32 ((i_and (w32 (a0 - (i_and (i_ushr a0 1) 1431655765))) 858993459) + (i_and (i_ushr (w32 (a0 - (i_and (i_ushr a0 1) 1431655765))) 2) 858993459))) 4))) 252645135) + (i_ushr (i_and (w32 ((w32 ((i_and (w32 (a0 - (i_and (i_ushr a0 1) 1431655765))) 858993459) + (i_and (i_ushr (w32 (a0 - (i_and (i_ushr a0 1) 1431655765))) 2) 858993459))) + (i_ushr (w32 ((i_and (w32 (a0 - (i_and (i_ushr a0 1) 1431655765))) 858993459) + (i_and (i_ushr (w32 (a0 - (i_and (i_ushr a0 1) 1431655765))) 2) 858993459))) 4))) 252645135) 8))) + (i_ushr (w32 ((i_and (w32 ((w32 ((i_and (w32 (a0 - (i_and (i_ushr a0 1) 1431655765))) 858993459) + (i_and (i_ushr (w32 (a0 - (i_and (i_ushr a0 1) 1431655765))) 2) 858993459))) + (i_ushr (w32 ((i_and (w32 (a0 - (i_and (i_ushr a0 1) 1431655765))) 858993459) + (i_and (i_ushr (w32 (a0 - (i_and (i_ushr a0 1) 1431655765))) 2) 858993459))) 4))) 252645135) + (i_ushr (i_and (w32 ((w32 ((i_and (w32 (a0 - (i_and (i_ushr a0 1) 1431655765))) 858993459) + (i_and (i_ushr (w32 (a0 - (i_and (i_ushr a0 1) 1431655765))) 2) 858993459))) + (i_ushr (w32 ((i_and (w32 (a0 - (i_and (i_ushr a0 1) 1431655765))) 858993459) + (i_and (i_ushr (w32 (a0 - (i_and (i_ushr a0 1) 1431655765))) 2) 858993459))) 4))) 252645135) 8))) 16))))] rfl ?_
  refine pw_iload_n (pc := 48) F dJ6_bitCount_0f7a4_48 rfl ?_
  refine pw_bipush (pc := 49) F 63 dJ6_bitCount_0f7a4_49 (by decide) ?_
  refine pw_iand (pc := 51) F dJ6_bitCount_0f7a4_51 ?_
  cases h
  exact pw_iret (pc := 52) F q dJ6_bitCount_0f7a4_52
/-! java/util/Arrays.fill([II)V -/
theorem dJ7_fill_53178_0 : decode cJ7_fill_53178 0 = .ok (.iconst 0, 1) := by decide +kernel
theorem dJ7_fill_53178_1 : decode cJ7_fill_53178 1 = .ok (.istore_n 2, 1) := by decide +kernel
theorem dJ7_fill_53178_2 : decode cJ7_fill_53178 2 = .ok (.aload_n 0, 1) := by decide +kernel
theorem dJ7_fill_53178_3 : decode cJ7_fill_53178 3 = .ok (.arraylength, 1) := by decide +kernel
theorem dJ7_fill_53178_4 : decode cJ7_fill_53178 4 = .ok (.istore_n 3, 1) := by decide +kernel
theorem dJ7_fill_53178_5 : decode cJ7_fill_53178 5 = .ok (.iload_n 2, 1) := by decide +kernel
theorem dJ7_fill_53178_6 : decode cJ7_fill_53178 6 = .ok (.iload_n 3, 1) := by decide +kernel
theorem dJ7_fill_53178_7 : decode cJ7_fill_53178 7 = .ok (.if_icmp .ge 13, 3) := by decide +kernel
theorem dJ7_fill_53178_10 : decode cJ7_fill_53178 10 = .ok (.aload_n 0, 1) := by decide +kernel
theorem dJ7_fill_53178_11 : decode cJ7_fill_53178 11 = .ok (.iload_n 2, 1) := by decide +kernel
theorem dJ7_fill_53178_12 : decode cJ7_fill_53178 12 = .ok (.iload_n 1, 1) := by decide +kernel
theorem dJ7_fill_53178_13 : decode cJ7_fill_53178 13 = .ok (.iastore, 1) := by decide +kernel
theorem dJ7_fill_53178_14 : decode cJ7_fill_53178 14 = .ok (.iinc 2 1, 3) := by decide +kernel
theorem dJ7_fill_53178_17 : decode cJ7_fill_53178 17 = .ok (.goto (-12), 3) := by decide +kernel
theorem dJ7_fill_53178_20 : decode cJ7_fill_53178 20 = .ok (.return_, 1) := by decide +kernel
def lJ7_fill_53178_5 (p0 p1 p3 : Int) (self5 : Int → PH → RO) (p2 : Int) (H : PH) : RO :=
  (if p2 ≥ p3 then some (0, H)
  else (stv 0 H p0 p2 p1).bind fun H1 => self5 (w32 (p2 + 1)) H1)
set_option maxHeartbeats 4000000 in
theorem lJ7_fill_53178_5_ok {E : PE} {rr : Int} {HH : PH} (F : FX E cJ7_fill_53178 RJ7) (q : QE E none HH none) (hn : nLof E = 4) (hf : (roomOf E).frames = 0) (hl : (roomOf E).locals = 0) (p0 p1 p3 : Int) : ∀ (n : Nat) (p2 : Int) (H : PH), lq1 (lJ7_fill_53178_5 p0 p1 p3) n p2 H = some (rr, HH) → PW E 5 [some (vr p0), some (vi p1), some (vi p2), some (vi p3)] [] H := by
  refine lq1_ind (P := fun p2 H => PW E 5 [some (vr p0), some (vi p1), some (vi p2), some (vi p3)] [] H) ?_
  intro self5 ih5 p2 H h
  unfold lJ7_fill_53178_5 at h
  refine pw_iload_n (pc := 5) F dJ7_fill_53178_5 rfl ?_
  refine pw_iload_n (pc := 6) F dJ7_fill_53178_6 rfl ?_
  refine pw_icmp_ge (pc := 7) F 20 dJ7_fill_53178_7 (by decide) (fun hc => ?_) (fun hc => ?_)
  · have h := iteT hc h
    cases h
    exact pw_vret (pc := 20) F q dJ7_fill_53178_20
  · have h := iteF hc h
    refine pw_aload_n (pc := 10) F dJ7_fill_53178_10 rfl ?_
    refine pw_iload_n (pc := 11) F dJ7_fill_53178_11 rfl ?_
    refine pw_iload_n (pc := 12) F dJ7_fill_53178_12 rfl ?_
    obtain ⟨H1, eH1, h⟩ := bnd h
    refine pw_iast (pc := 13) F dJ7_fill_53178_13 eH1 ?_
    refine pw_iinc (pc := 14) F dJ7_fill_53178_14 rfl (lt_nl hn (by decide)) [some (vr p0), some (vi p1), some (vi (w32 (p2 + 1))), some (vi p3)] rfl (by decide) ?_
    refine pw_goto (pc := 17) F 5 dJ7_fill_53178_17 (by decide) ?_
    exact pw_mask [true, true, true, true] (ls' := [some (vr p0), some (vi p1), some (vi (w32 (p2 + 1))), some (vi p3)]) rfl (ih5 (w32 (p2 + 1)) H1 h)
def f_J7_fill_53178 (a0 a1 : Int) (H : PH) : RO :=
  (alen H a0).bind fun x1 => lq1 (lJ7_fill_53178_5 a0 a1 x1) 6000 0 H
set_option maxHeartbeats 4000000 in
theorem m_J7_fill_53178 (l : Launch) (a0 a1 : Int) (H : PH) (rr : Int) (HH : PH) (h : f_J7_fill_53178 a0 a1 H = some (rr, HH)) : CT l yJ7_fill_53178 cJ7_fill_53178 4 none 0 0 [vr a0, vi a1] H none HH := by
  refine CT.of RJ7 (by decide) rfl [some (vr a0), some (vi a1), none, none] rfl rfl ?_
  intro E F q hn hf hl hm
  unfold f_J7_fill_53178 at h
  refine pw_iconst (pc := 0) F 0 dJ7_fill_53178_0 (by decide) ?_
  refine pw_istore_n (pc := 1) F dJ7_fill_53178_1 (lt_nl hn (by decide)) [some (vr a0), some (vi a1), some (vi 0), none] rfl ?_
  refine pw_aload_n (pc := 2) F dJ7_fill_53178_2 rfl ?_
  obtain ⟨x1, ex1, h⟩ := bnd h
  refine pw_alen (pc := 3) F dJ7_fill_53178_3 ex1 ?_
  refine pw_istore_n (pc := 4) F dJ7_fill_53178_4 (lt_nl hn (by decide)) [some (vr a0), some (vi a1), some (vi 0), some (vi x1)] rfl ?_
  exact pw_mask [true, true, true, true] (ls' := [some (vr a0), some (vi a1), some (vi 0), some (vi x1)]) rfl (lJ7_fill_53178_5_ok F q hn hf hl a0 a1 x1  6000 0 H h)
/-! java/util/Arrays.fill([JJ)V -/
theorem dJ7_fill_d0a16_0 : decode cJ7_fill_d0a16 0 = .ok (.iconst 0, 1) := by decide +kernel
theorem dJ7_fill_d0a16_1 : decode cJ7_fill_d0a16 1 = .ok (.istore_n 3, 1) := by decide +kernel
theorem dJ7_fill_d0a16_2 : decode cJ7_fill_d0a16 2 = .ok (.aload_n 0, 1) := by decide +kernel
theorem dJ7_fill_d0a16_3 : decode cJ7_fill_d0a16 3 = .ok (.arraylength, 1) := by decide +kernel
theorem dJ7_fill_d0a16_4 : decode cJ7_fill_d0a16 4 = .ok (.istore 4, 2) := by decide +kernel
theorem dJ7_fill_d0a16_6 : decode cJ7_fill_d0a16 6 = .ok (.iload_n 3, 1) := by decide +kernel
theorem dJ7_fill_d0a16_7 : decode cJ7_fill_d0a16 7 = .ok (.iload 4, 2) := by decide +kernel
theorem dJ7_fill_d0a16_9 : decode cJ7_fill_d0a16 9 = .ok (.if_icmp .ge 13, 3) := by decide +kernel
theorem dJ7_fill_d0a16_12 : decode cJ7_fill_d0a16 12 = .ok (.aload_n 0, 1) := by decide +kernel
theorem dJ7_fill_d0a16_13 : decode cJ7_fill_d0a16 13 = .ok (.iload_n 3, 1) := by decide +kernel
theorem dJ7_fill_d0a16_14 : decode cJ7_fill_d0a16 14 = .ok (.lload_n 1, 1) := by decide +kernel
theorem dJ7_fill_d0a16_15 : decode cJ7_fill_d0a16 15 = .ok (.lastore, 1) := by decide +kernel
theorem dJ7_fill_d0a16_16 : decode cJ7_fill_d0a16 16 = .ok (.iinc 3 1, 3) := by decide +kernel
theorem dJ7_fill_d0a16_19 : decode cJ7_fill_d0a16 19 = .ok (.goto (-13), 3) := by decide +kernel
theorem dJ7_fill_d0a16_22 : decode cJ7_fill_d0a16 22 = .ok (.return_, 1) := by decide +kernel
def lJ7_fill_d0a16_6 (p0 p1 p4 : Int) (self6 : Int → PH → RO) (p3 : Int) (H : PH) : RO :=
  (if p3 ≥ p4 then some (0, H)
  else (stv 1 H p0 p3 p1).bind fun H1 => self6 (w32 (p3 + 1)) H1)
set_option maxHeartbeats 4000000 in
theorem lJ7_fill_d0a16_6_ok {E : PE} {rr : Int} {HH : PH} (F : FX E cJ7_fill_d0a16 RJ7) (q : QE E none HH none) (hn : nLof E = 5) (hf : (roomOf E).frames = 0) (hl : (roomOf E).locals = 0) (p0 p1 p4 : Int) : ∀ (n : Nat) (p3 : Int) (H : PH), lq1 (lJ7_fill_d0a16_6 p0 p1 p4) n p3 H = some (rr, HH) → PW E 6 [some (vr p0), some (vl p1), none, some (vi p3), some (vi p4)] [] H := by
  refine lq1_ind (P := fun p3 H => PW E 6 [some (vr p0), some (vl p1), none, some (vi p3), some (vi p4)] [] H) ?_
  intro self6 ih6 p3 H h
  unfold lJ7_fill_d0a16_6 at h
  refine pw_iload_n (pc := 6) F dJ7_fill_d0a16_6 rfl ?_
  refine pw_iload (pc := 7) F dJ7_fill_d0a16_7 rfl ?_
  refine pw_icmp_ge (pc := 9) F 22 dJ7_fill_d0a16_9 (by decide) (fun hc => ?_) (fun hc => ?_)
  · have h := iteT hc h
    cases h
    exact pw_vret (pc := 22) F q dJ7_fill_d0a16_22
  · have h := iteF hc h
    refine pw_aload_n (pc := 12) F dJ7_fill_d0a16_12 rfl ?_
    refine pw_iload_n (pc := 13) F dJ7_fill_d0a16_13 rfl ?_
    refine pw_lload_n (pc := 14) F dJ7_fill_d0a16_14 rfl ?_
    obtain ⟨H1, eH1, h⟩ := bnd h
    refine pw_last (pc := 15) F dJ7_fill_d0a16_15 eH1 ?_
    refine pw_iinc (pc := 16) F dJ7_fill_d0a16_16 rfl (lt_nl hn (by decide)) [some (vr p0), some (vl p1), none, some (vi (w32 (p3 + 1))), some (vi p4)] rfl (by decide) ?_
    refine pw_goto (pc := 19) F 6 dJ7_fill_d0a16_19 (by decide) ?_
    exact pw_mask [true, true, true, true, true] (ls' := [some (vr p0), some (vl p1), none, some (vi (w32 (p3 + 1))), some (vi p4)]) rfl (ih6 (w32 (p3 + 1)) H1 h)
def f_J7_fill_d0a16 (a0 a1 : Int) (H : PH) : RO :=
  (alen H a0).bind fun x1 => lq1 (lJ7_fill_d0a16_6 a0 a1 x1) 6000 0 H
set_option maxHeartbeats 4000000 in
theorem m_J7_fill_d0a16 (l : Launch) (a0 a1 : Int) (H : PH) (rr : Int) (HH : PH) (h : f_J7_fill_d0a16 a0 a1 H = some (rr, HH)) : CT l yJ7_fill_d0a16 cJ7_fill_d0a16 5 none 0 0 [vr a0, vl a1] H none HH := by
  refine CT.of RJ7 (by decide) rfl [some (vr a0), some (vl a1), none, none, none] rfl rfl ?_
  intro E F q hn hf hl hm
  unfold f_J7_fill_d0a16 at h
  refine pw_iconst (pc := 0) F 0 dJ7_fill_d0a16_0 (by decide) ?_
  refine pw_istore_n (pc := 1) F dJ7_fill_d0a16_1 (lt_nl hn (by decide)) [some (vr a0), some (vl a1), none, some (vi 0), none] rfl ?_
  refine pw_aload_n (pc := 2) F dJ7_fill_d0a16_2 rfl ?_
  obtain ⟨x1, ex1, h⟩ := bnd h
  refine pw_alen (pc := 3) F dJ7_fill_d0a16_3 ex1 ?_
  refine pw_istore (pc := 4) F dJ7_fill_d0a16_4 (lt_nl hn (by decide)) [some (vr a0), some (vl a1), none, some (vi 0), some (vi x1)] rfl ?_
  exact pw_mask [true, true, true, true, true] (ls' := [some (vr a0), some (vl a1), none, some (vi 0), some (vi x1)]) rfl (lJ7_fill_d0a16_6_ok F q hn hf hl a0 a1 x1  6000 0 H h)
