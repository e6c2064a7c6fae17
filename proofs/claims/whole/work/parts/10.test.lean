/-! java/lang/Integer.bitCount(I)I -/
theorem dJ6_bitCount_0f7a4_0 : decode cJ6_bitCount_0f7a4 0 = .ok (.iload_n 0, 1) := by decide +kernel
theorem dJ6_bitCount_0f7a4_1 : decode cJ6_bitCount_0f7a4 1 = .ok (.iload_n 0, 1) := by decide +kernel
theorem dJ6_bitCount_0f7a4_2 : decode cJ6_bitCount_0f7a4 2 = .ok (.iconst 1, 1) := by decide +kernel
theorem dJ6_bitCount_0f7a4_3 : decode cJ6_bitCount_0f7a4 3 = .ok (.iushr, 1) := by decide +kernel
theorem dJ6_bitCount_0f7a4_4 : decode cJ6_bitCount_0f7a4 4 = .ok (.ldc_w 265, 3) := by decide +kernel
theorem dJ6_bitCount_0f7a4_7 : decode cJ6_bitCount_0f7a4 7 = .ok (.iand, 1) := by decide +kernel
theorem dJ6_bitCount_0f7a4_8 : decode cJ6_bitCount_0f7a4 8 = .ok (.isub, 1) := by decide +kernel
theorem dJ6_bitCount_0f7a4_9 : decode cJ6_bitCount_0f7a4 9 = .ok (.istore_n 0, 1) := by decide +kernel
theorem dJ6_bitCount_0f7a4_10 : decode cJ6_bitCount_0f7a4 10 = .ok (.iload_n 0, 1) := by decide +kernel
theorem dJ6_bitCount_0f7a4_11 : decode cJ6_bitCount_0f7a4 11 = .ok (.ldc_w 266, 3) := by decide +kernel
theorem dJ6_bitCount_0f7a4_14 : decode cJ6_bitCount_0f7a4 14 = .ok (.iand, 1) := by decide +kernel
theorem dJ6_bitCount_0f7a4_15 : decode cJ6_bitCount_0f7a4 15 = .ok (.iload_n 0, 1) := by decide +kernel
theorem dJ6_bitCount_0f7a4_16 : decode cJ6_bitCount_0f7a4 16 = .ok (.iconst 2, 1) := by decide +kernel
theorem dJ6_bitCount_0f7a4_17 : decode cJ6_bitCount_0f7a4 17 = .ok (.iushr, 1) := by decide +kernel
theorem dJ6_bitCount_0f7a4_18 : decode cJ6_bitCount_0f7a4 18 = .ok (.ldc_w 266, 3) := by decide +kernel
theorem dJ6_bitCount_0f7a4_21 : decode cJ6_bitCount_0f7a4 21 = .ok (.iand, 1) := by decide +kernel
theorem dJ6_bitCount_0f7a4_22 : decode cJ6_bitCount_0f7a4 22 = .ok (.iadd, 1) := by decide +kernel
theorem dJ6_bitCount_0f7a4_23 : decode cJ6_bitCount_0f7a4 23 = .ok (.istore_n 0, 1) := by decide +kernel
theorem dJ6_bitCount_0f7a4_24 : decode cJ6_bitCount_0f7a4 24 = .ok (.iload_n 0, 1) := by decide +kernel
theorem dJ6_bitCount_0f7a4_25 : decode cJ6_bitCount_0f7a4 25 = .ok (.iload_n 0, 1) := by decide +kernel
theorem dJ6_bitCount_0f7a4_26 : decode cJ6_bitCount_0f7a4 26 = .ok (.iconst 4, 1) := by decide +kernel
theorem dJ6_bitCount_0f7a4_27 : decode cJ6_bitCount_0f7a4 27 = .ok (.iushr, 1) := by decide +kernel
theorem dJ6_bitCount_0f7a4_28 : decode cJ6_bitCount_0f7a4 28 = .ok (.iadd, 1) := by decide +kernel
theorem dJ6_bitCount_0f7a4_29 : decode cJ6_bitCount_0f7a4 29 = .ok (.ldc_w 267, 3) := by decide +kernel
theorem dJ6_bitCount_0f7a4_32 : decode cJ6_bitCount_0f7a4 32 = .ok (.iand, 1) := by decide +kernel
theorem dJ6_bitCount_0f7a4_33 : decode cJ6_bitCount_0f7a4 33 = .ok (.istore_n 0, 1) := by decide +kernel
theorem dJ6_bitCount_0f7a4_34 : decode cJ6_bitCount_0f7a4 34 = .ok (.iload_n 0, 1) := by decide +kernel
theorem dJ6_bitCount_0f7a4_35 : decode cJ6_bitCount_0f7a4 35 = .ok (.iload_n 0, 1) := by decide +kernel
theorem dJ6_bitCount_0f7a4_36 : decode cJ6_bitCount_0f7a4 36 = .ok (.bipush 8, 2) := by decide +kernel
theorem dJ6_bitCount_0f7a4_38 : decode cJ6_bitCount_0f7a4 38 = .ok (.iushr, 1) := by decide +kernel
theorem dJ6_bitCount_0f7a4_39 : decode cJ6_bitCount_0f7a4 39 = .ok (.iadd, 1) := by decide +kernel
theorem dJ6_bitCount_0f7a4_40 : decode cJ6_bitCount_0f7a4 40 = .ok (.istore_n 0, 1) := by decide +kernel
theorem dJ6_bitCount_0f7a4_41 : decode cJ6_bitCount_0f7a4 41 = .ok (.iload_n 0, 1) := by decide +kernel
theorem dJ6_bitCount_0f7a4_42 : decode cJ6_bitCount_0f7a4 42 = .ok (.iload_n 0, 1) := by decide +kernel
theorem dJ6_bitCount_0f7a4_43 : decode cJ6_bitCount_0f7a4 43 = .ok (.bipush 16, 2) := by decide +kernel
theorem dJ6_bitCount_0f7a4_45 : decode cJ6_bitCount_0f7a4 45 = .ok (.iushr, 1) := by decide +kernel
theorem dJ6_bitCount_0f7a4_46 : decode cJ6_bitCount_0f7a4 46 = .ok (.iadd, 1) := by decide +kernel
theorem dJ6_bitCount_0f7a4_47 : decode cJ6_bitCount_0f7a4 47 = .ok (.istore_n 0, 1) := by decide +kernel
theorem dJ6_bitCount_0f7a4_48 : decode cJ6_bitCount_0f7a4 48 = .ok (.iload_n 0, 1) := by decide +kernel
theorem dJ6_bitCount_0f7a4_49 : decode cJ6_bitCount_0f7a4 49 = .ok (.bipush 63, 2) := by decide +kernel
theorem dJ6_bitCount_0f7a4_51 : decode cJ6_bitCount_0f7a4 51 = .ok (.iand, 1) := by decide +kernel
theorem dJ6_bitCount_0f7a4_52 : decode cJ6_bitCount_0f7a4 52 = .ok (.ireturn, 1) := by decide +kernel
def f_J6_bitCount_0f7a4 (a0 : Int) (H : PH) : RO :=
  some ((i_and (w32 ((w32 ((i_and (w32 ((w32 ((i_and (w32 (a0 - (i_and (i_ushr a0 1) 1431655765))) 858993459) + (i_and (i_ushr (w32 (a0 - (i_and (i_ushr a0 1) 1431655765))) 2) 858993459))) + (i_ushr (w32 ((i_and (w32 (a0 - (i_and (i_ushr a0 1) 1431655765))) 858993459) + (i_and (i_ushr (w32 (a0 - (i_and (i_ushr a0 1) 1431655765))) 2) 858993459))) 4))) 252645135) + (i_ushr (i_and (w32 ((w32 ((i_and (w32 (a0 - (i_and (i_ushr a0 1) 1431655765))) 858993459) + (i_and (i_ushr (w32 (a0 - (i_and (i_ushr a0 1) 1431655765))) 2) 858993459))) + (i_ushr (w32 ((i_and (w32 (a0 - (i_and (i_ushr a0 1) 1431655765))) 858993459) + (i_and (i_ushr (w32 (a0 - (i_and (i_ushr a0 1) 1431655765))) 2) 858993459))) 4))) 252645135) 8))) + (i_ushr (w32 ((i_and (w32 ((w32 ((i_and (w32 (a0 - (i_and (i_ushr a0 1) 1431655765))) 858993459) + (i_and (i_ushr (w32 (a0 - (i_and (i_ushr a0 1) 1431655765))) 2) 858993459))) + (i_ushr (w32 ((i_and (w32 (a0 - (i_and (i_ushr a0 1) 1431655765))) 858993459) + (i_and (i_ushr (w32 (a0 - (i_and (i_ushr a0 1) 1431655765))) 2) 858993459))) 4))) 252645135) + (i_ushr (i_and (w32 ((w32 ((i_and (w32 (a0 - (i_and (i_ushr a0 1) 1431655765))) 858993459) + (i_and (i_ushr (w32 (a0 - (i_and (i_ushr a0 1) 1431655765))) 2) 858993459))) + (i_ushr (w32 ((i_and (w32 (a0 - (i_and (i_ushr a0 1) 1431655765))) 858993459) + (i_and (i_ushr (w32 (a0 - (i_and (i_ushr a0 1) 1431655765))) 2) 858993459))) 4))) 252645135) 8))) 16))) 63), H)
set_option maxHeartbeats 4000000 in
theorem m_J6_bitCount_0f7a4 (l : Launch) (a0 : Int) (H : PH) (rr : Int) (HH : PH) (h : f_J6_bitCount_0f7a4 a0 H = some (rr, HH)) : CT l yJ6_bitCount_0f7a4 cJ6_bitCount_0f7a4 1 (some .int) 0 0 [vi a0] H (some (vi rr)) HH := by
  refine CT.of RJ6 (by decide) rfl [some (vi a0)] rfl rfl ?_
  intro E F q hn hf hl hm
  unfold f_J6_bitCount_0f7a4 at h
  refine pw_iload_n (pc := 0) F dJ6_bitCount_0f7a4_0 rfl ?_
  refine pw_iload_n (pc := 1) F dJ6_bitCount_0f7a4_1 rfl ?_
  refine pw_iconst (pc := 2) F 1 dJ6_bitCount_0f7a4_2 (by decide) ?_
  refine pw_iushr (pc := 3) F dJ6_bitCount_0f7a4_3 ?_
  refine pw_ldcw (pc := 4) F 1431655765 g_0 dJ6_bitCount_0f7a4_4 (by decide) ?_
  refine pw_iand (pc := 7) F dJ6_bitCount_0f7a4_7 ?_
  refine pw_isub (pc := 8) F dJ6_bitCount_0f7a4_8 ?_
  refine pw_istore_n (pc := 9) F dJ6_bitCount_0f7a4_9 (lt_nl hn (by decide)) [some (vi (w32 (a0 - (i_and (i_ushr a0 1) 1431655765))))] rfl ?_
  refine pw_iload_n (pc := 10) F dJ6_bitCount_0f7a4_10 rfl ?_
  refine pw_ldcw (pc := 11) F 858993459 g_1 dJ6_bitCount_0f7a4_11 (by decide) ?_
  refine pw_iand (pc := 14) F dJ6_bitCount_0f7a4_14 ?_
  refine pw_iload_n (pc := 15) F dJ6_bitCount_0f7a4_15 rfl ?_
  refine pw_iconst (pc := 16) F 2 dJ6_bitCount_0f7a4_16 (by decide) ?_
  refine pw_iushr (pc := 17) F dJ6_bitCount_0f7a4_17 ?_
  refine pw_ldcw (pc := 18) F 858993459 g_1 dJ6_bitCount_0f7a4_18 (by decide) ?_
  refine pw_iand (pc := 21) F dJ6_bitCount_0f7a4_21 ?_
  refine pw_iadd (pc := 22) F dJ6_bitCount_0f7a4_22 ?_
  refine pw_istore_n (pc := 23) F dJ6_bitCount_0f7a4_23 (lt_nl hn (by decide)) [some (vi (w32 ((i_and (w32 (a0 - (i_and (i_ushr a0 1) 1431655765))) 858993459) + (i_and (i_ushr (w32 (a0 - (i_and (i_ushr a0 1) 1431655765))) 2) 858993459))))] rfl ?_
  refine pw_iload_n (pc := 24) F dJ6_bitCount_0f7a4_24 rfl ?_
  refine pw_iload_n (pc := 25) F dJ6_bitCount_0f7a4_25 rfl ?_
  refine pw_iconst (pc := 26) F 4 dJ6_bitCount_0f7a4_26 (by decide) ?_
  refine pw_iushr (pc := 27) F dJ6_bitCount_0f7a4_27 ?_
  refine pw_iadd (pc := 28) F dJ6_bitCount_0f7a4_28 ?_
  refine pw_ldcw (pc := 29) F 252645135 g_2 dJ6_bitCount_0f7a4_29 (by decide) ?_
  refine pw_iand (pc := 32) F dJ6_bitCount_0f7a4_32 ?_
  refine pw_istore_n (pc := 33) F dJ6_bitCount_0f7a4_33 (lt_nl hn (by decide)) [some (vi (i_and (w32 ((w32 ((i_and (w32 (a0 - (i_and (i_ushr a0 1) 1431655765))) 858993459) + (i_and (i_ushr (w32 (a0 - (i_and (i_ushr a0 1) 1431655765))) 2) 858993459))) + (i_ushr (w32 ((i_and (w32 (a0 - (i_and (i_ushr a0 1) 1431655765))) 858993459) + (i_and (i_ushr (w32 (a0 - (i_and (i_ushr a0 1) 1431655765))) 2) 858993459))) 4))) 252645135))] rfl ?_
  refine pw_iload_n (pc := 34) F dJ6_bitCount_0f7a4_34 rfl ?_
  refine pw_iload_n (pc := 35) F dJ6_bitCount_0f7a4_35 rfl ?_
  refine pw_bipush (pc := 36) F 8 dJ6_bitCount_0f7a4_36 (by decide) ?_
  refine pw_iushr (pc := 38) F dJ6_bitCount_0f7a4_38 ?_
  refine pw_iadd (pc := 39) F dJ6_bitCount_0f7a4_39 ?_
  refine pw_istore_n (pc := 40) F dJ6_bitCount_0f7a4_40 (lt_nl hn (by decide)) [some (vi (w32 ((i_and (w32 ((w32 ((i_and (w32 (a0 - (i_and (i_ushr a0 1) 1431655765))) 858993459) + (i_and (i_ushr (w32 (a0 - (i_and (i_ushr a0 1) 1431655765))) 2) 858993459))) + (i_ushr (w32 ((i_and (w32 (a0 - (i_and (i_ushr a0 1) 1431655765))) 858993459) + (i_and (i_ushr (w32 (a0 - (i_and (i_ushr a0 1) 1431655765))) 2) 858993459))) 4))) 252645135) + (i_ushr (i_and (w32 ((w32 ((i_and (w32 (a0 - (i_and (i_ushr a0 1) 1431655765))) 858993459) + (i_and (i_ushr (w32 (a0 - (i_and (i_ushr a0 1) 1431655765))) 2) 858993459))) + (i_ushr (w32 ((i_and (w32 (a0 - (i_and (i_ushr a0 1) 1431655765))) 858993459) + (i_and (i_ushr (w32 (a0 - (i_and (i_ushr a0 1) 1431655765))) 2) 858993459))) 4))) 252645135) 8))))] rfl ?_
  refine pw_iload_n (pc := 41) F dJ6_bitCount_0f7a4_41 rfl ?_
  refine pw_iload_n (pc := 42) F dJ6_bitCount_0f7a4_42 rfl ?_
  refine pw_bipush (pc := 43) F 16 dJ6_bitCount_0f7a4_43 (by decide) ?_
  refine pw_iushr (pc := 45) F dJ6_bitCount_0f7a4_45 ?_
  refine pw_iadd (pc := 46) F dJ6_bitCount_0f7a4_46 ?_
  refine pw_istore_n (pc := 47) F dJ6_bitCount_0f7a4_47 (lt_nl hn (by decide)) [some (vi (w32 ((w32 ((i_and (w32 ((w32 ((i_and (w32 (a0 - (i_and (i_ushr a0 1) 1431655765))) 858993459) + (i_and (i_ushr (w32 (a0 - (i_and (i_ushr a0 1) 1431655765))) 2) 858993459))) + (i_ushr (w32 ((i_and (w32 (a0 - (i_and (i_ushr a0 1) 1431655765))) 858993459) + (i_and (i_ushr (w32 (a0 - (i_and (i_ushr a0 1) 1431655765))) 2) 858993459))) 4))) 252645135) + (i_ushr (i_and (w32 ((w32 ((i_and (w32 (a0 - (i_and (i_ushr a0 1) 1431655765))) 858993459) + (i_and (i_ushr (w32 (a0 - (i_and (i_ushr a0 1) 1431655765))) 2) 858993459))) + (i_ushr (w32 ((i_and (w32 (a0 - (i_and (i_ushr a0 1) 1431655765))) 858993459) + (i_and (i_ushr (w32 (a0 - (i_and (i_ushr a0 1) 1431655765))) 2) 858993459))) 4))) 252645135) 8))) + (i_ushr (w32 ((i_and (w32 ((w32 ((i_and (w32 (a0 - (i_and (i_ushr a0 1) 1431655765))) 858993459) + (i_and (i_ushr (w32 (a0 - (i_and (i_ushr a0 1) 1431655765))) 2) 858993459))) + (i_ushr (w32 ((i_and (w32 (a0 - (i_and (i_ushr a0 1) 1431655765))) 858993459) + (i_and (i_ushr (w32 (a0 - (i_and (i_ushr a0 1) 1431655765))) 2) 858993459))) 4))) 252645135) + (i_ushr (i_and (w32 ((w32 ((i_and (w32 (a0 - (i_and (i_ushr a0 1) 1431655765))) 858993459) + (i_and (i_ushr (w32 (a0 - (i_and (i_ushr a0 1) 1431655765))) 2) 858993459))) + (i_ushr (w32 ((i_and (w32 (a0 - (i_and (i_ushr a0 1) 1431655765))) 858993459) + (i_and (i_ushr (w32 (a0 - (i_and (i_ushr a0 1) 1431655765))) 2) 858993459))) 4))) 252645135) 8))) 16))))] rfl ?_
  refine pw_iload_n (pc := 48) F dJ6_bitCount_0f7a4_48 rfl ?_
  refine pw_bipush (pc := 49) F 63 dJ6_bitCount_0f7a4_49 (by decide) ?_
  refine pw_iand (pc := 51) F dJ6_bitCount_0f7a4_51 ?_
  cases h
  exact pw_iret (pc := 52) F q dJ6_bitCount_0f7a4_52
/-! java/util/Arrays.fill([II)V -/
theorem dJ7_fill_53178_0 : decode cJ7_fill_53178 0 = .ok (.iconst 0, 1) := by decide +kernel
theorem dJ7_fill_53178_1 : decode cJ7_fill_53178 1 = .ok (.istore_n 2, 1) := by decide +kernel
theorem dJ7_fill_53178_2 : decode cJ7_fill_53178 2 = .ok (.aload_n 0, 1) := by decide +kernel
theorem dJ7_fill_53178_3 : decode cJ7_fill_53178 3 = .ok (.arraylength, 1) := by decide +kernel
theorem dJ7_fill_53178_4 : decode cJ7_fill_53178 4 = .ok (.istore_n 3, 1) := by decide +kernel
theorem dJ7_fill_53178_5 : decode cJ7_fill_53178 5 = .ok (.iload_n 2, 1) := by decide +kernel
theorem dJ7_fill_53178_6 : decode cJ7_fill_53178 6 = .ok (.iload_n 3, 1) := by decide +kernel
theorem dJ7_fill_53178_7 : decode cJ7_fill_53178 7 = .ok (.if_icmp .ge 13, 3) := by decide +kernel
theorem dJ7_fill_53178_10 : decode cJ7_fill_53178 10 = .ok (.aload_n 0, 1) := by decide +kernel
theorem dJ7_fill_53178_11 : decode cJ7_fill_53178 11 = .ok (.iload_n 2, 1) := by decide +kernel
theorem dJ7_fill_53178_12 : decode cJ7_fill_53178 12 = .ok (.iload_n 1, 1) := by decide +kernel
theorem dJ7_fill_53178_13 : decode cJ7_fill_53178 13 = .ok (.iastore, 1) := by decide +kernel
theorem dJ7_fill_53178_14 : decode cJ7_fill_53178 14 = .ok (.iinc 2 1, 3) := by decide +kernel
theorem dJ7_fill_53178_17 : decode cJ7_fill_53178 17 = .ok (.goto (-12), 3) := by decide +kernel
theorem dJ7_fill_53178_20 : decode cJ7_fill_53178 20 = .ok (.return_, 1) := by decide +kernel
def lJ7_fill_53178_5 (p0 p1 p3 : Int) (self5 : Int → PH → RO) (p2 : Int) (H : PH) : RO :=
  (if p2 ≥ p3 then some (0, H)
  else (stv 0 H p0 p2 p1).bind fun H1 => self5 (w32 (p2 + 1)) H1)
set_option maxHeartbeats 4000000 in
theorem lJ7_fill_53178_5_ok {E : PE} {rr : Int} {HH : PH} (F : FX E cJ7_fill_53178 RJ7) (q : QE E none HH none) (hn : nLof E = 4) (hf : (roomOf E).frames = 0) (hl : (roomOf E).locals = 0) (p0 p1 p3 : Int) : ∀ (n : Nat) (p2 : Int) (H : PH), lq1 (lJ7_fill_53178_5 p0 p1 p3) n p2 H = some (rr, HH) → PW E 5 [some (vr p0), some (vi p1), some (vi p2), some (vi p3)] [] H := by
  refine lq1_ind (P := fun p2 H => PW E 5 [some (vr p0), some (vi p1), some (vi p2), some (vi p3)] [] H) ?_
  intro self5 ih5 p2 H h
  unfold lJ7_fill_53178_5 at h
  refine pw_iload_n (pc := 5) F dJ7_fill_53178_5 rfl ?_
  refine pw_iload_n (pc := 6) F dJ7_fill_53178_6 rfl ?_
  refine pw_icmp_ge (pc := 7) F 20 dJ7_fill_53178_7 (by decide) (fun hc => ?_) (fun hc => ?_)
  · have h := iteT hc h
    cases h
    exact pw_vret (pc := 20) F q dJ7_fill_53178_20
  · have h := iteF hc h
    refine pw_aload_n (pc := 10) F dJ7_fill_53178_10 rfl ?_
    refine pw_iload_n (pc := 11) F dJ7_fill_53178_11 rfl ?_
    refine pw_iload_n (pc := 12) F dJ7_fill_53178_12 rfl ?_
    obtain ⟨H1, eH1, h⟩ := bnd h
    refine pw_iast (pc := 13) F dJ7_fill_53178_13 eH1 ?_
    refine pw_iinc (pc := 14) F dJ7_fill_53178_14 rfl (lt_nl hn (by decide)) [some (vr p0), some (vi p1), some (vi (w32 (p2 + 1))), some (vi p3)] rfl (by decide) ?_
    refine pw_goto (pc := 17) F 5 dJ7_fill_53178_17 (by decide) ?_
    exact pw_mask [true, true, true, true] (ls' := [some (vr p0), some (vi p1), some (vi (w32 (p2 + 1))), some (vi p3)]) rfl (ih5 (w32 (p2 + 1)) H1 h)
def f_J7_fill_53178 (a0 a1 : Int) (H : PH) : RO :=
  (alen H a0).bind fun x1 => lq1 (lJ7_fill_53178_5 a0 a1 x1) 6000 0 H
set_option maxHeartbeats 4000000 in
theorem m_J7_fill_53178 (l : Launch) (a0 a1 : Int) (H : PH) (rr : Int) (HH : PH) (h : f_J7_fill_53178 a0 a1 H = some (rr, HH)) : CT l yJ7_fill_53178 cJ7_fill_53178 4 none 0 0 [vr a0, vi a1] H none HH := by
  refine CT.of RJ7 (by decide) rfl [some (vr a0), some (vi a1), none, none] rfl rfl ?_
  intro E F q hn hf hl hm
  unfold f_J7_fill_53178 at h
  refine pw_iconst (pc := 0) F 0 dJ7_fill_53178_0 (by decide) ?_
  refine pw_istore_n (pc := 1) F dJ7_fill_53178_1 (lt_nl hn (by decide)) [some (vr a0), some (vi a1), some (vi 0), none] rfl ?_
  refine pw_aload_n (pc := 2) F dJ7_fill_53178_2 rfl ?_
  obtain ⟨x1, ex1, h⟩ := bnd h
  refine pw_alen (pc := 3) F dJ7_fill_53178_3 ex1 ?_
  refine pw_istore_n (pc := 4) F dJ7_fill_53178_4 (lt_nl hn (by decide)) [some (vr a0), some (vi a1), some (vi 0), some (vi x1)] rfl ?_
  exact pw_mask [true, true, true, true] (ls' := [some (vr a0), some (vi a1), some (vi 0), some (vi x1)]) rfl (lJ7_fill_53178_5_ok F q hn hf hl a0 a1 x1  6000 0 H h)
/-! HouseholdVault.spot(II)I -/
theorem dX8_spot_0 : decode cX8_spot 0 = .ok (.iload_n 0, 1) := by decide +kernel
theorem dX8_spot_1 : decode cX8_spot 1 = .ok (.iconst 5, 1) := by decide +kernel
theorem dX8_spot_2 : decode cX8_spot 2 = .ok (.imul, 1) := by decide +kernel
theorem dX8_spot_3 : decode cX8_spot 3 = .ok (.iload_n 1, 1) := by decide +kernel
theorem dX8_spot_4 : decode cX8_spot 4 = .ok (.iconst 0, 1) := by decide +kernel
theorem dX8_spot_5 : decode cX8_spot 5 = .ok (.invokestatic 183, 3) := by decide +kernel
theorem dX8_spot_8 : decode cX8_spot 8 = .ok (.iadd, 1) := by decide +kernel
theorem dX8_spot_9 : decode cX8_spot 9 = .ok (.ireturn, 1) := by decide +kernel
def f_X8_spot (a0 a1 : Int) (H : PH) : RO :=
  some ((w32 ((w32 (a0 * 5)) + (imax a1 0))), H)
set_option maxHeartbeats 4000000 in
theorem m_X8_spot (l : Launch) (a0 a1 : Int) (H : PH) (rr : Int) (HH : PH) (h : f_X8_spot a0 a1 H = some (rr, HH)) : CT l yX8_spot cX8_spot 2 (some .int) 1 21 [vi a0, vi a1] H (some (vi rr)) HH := by
  refine CT.of RX8 (by decide) rfl [some (vi a0), some (vi a1)] rfl rfl ?_
  intro E F q hn hf hl hm
  unfold f_X8_spot at h
  refine pw_iload_n (pc := 0) F dX8_spot_0 rfl ?_
  refine pw_iconst (pc := 1) F 5 dX8_spot_1 (by decide) ?_
  refine pw_imul (pc := 2) F dX8_spot_2 ?_
  refine pw_iload_n (pc := 3) F dX8_spot_3 rfl ?_
  refine pw_iconst (pc := 4) F 0 dX8_spot_4 (by decide) ?_
  refine pw_mmax (pc := 5) F 183 g_3 g_4 g_5 g_6 (rm_ok hf hl (by decide) (by decide)) rfl dX8_spot_5 ?_
  refine pw_iadd (pc := 8) F dX8_spot_8 ?_
  cases h
  exact pw_iret (pc := 9) F q dX8_spot_9
/-! HouseholdVault$Finder.<init>()V -/
theorem dX2_init_0 : decode cX2_init 0 = .ok (.aload_n 0, 1) := by decide +kernel
theorem dX2_init_1 : decode cX2_init 1 = .ok (.invokespecial 1, 3) := by decide +kernel
theorem dX2_init_4 : decode cX2_init 4 = .ok (.return_, 1) := by decide +kernel
def f_X2_init (a0 : Int) (H : PH) : RO := vm 2 a0 H <|
  some (0, H)
set_option maxHeartbeats 4000000 in
theorem m_X2_init (l : Launch) (a0 : Int) (H : PH) (rr : Int) (HH : PH) (h : f_X2_init a0 H = some (rr, HH)) : CT l yX2_init cX2_init 1 none 1 12 [vr a0] H none HH := by
  refine CT.of RX2 (by decide) rfl [some (vr a0)] rfl rfl ?_
  intro E F q hn hf hl hm
  unfold f_X2_init at h
  obtain ⟨hv, h⟩ := vm_spec h
  refine pw_aload_n (pc := 0) F dX2_init_0 rfl ?_
  refine pw_objInit (pc := 1) F 1 g_7 g_8 g_9 (rm_ok hf hl (by decide) (by decide)) dX2_init_1 (vm_nn hv) ?_
  cases h
  exact pw_vret (pc := 4) F q dX2_init_4
/-! HouseholdVault$Finder.start(I)V -/
theorem dX2_start_0 : decode cX2_start 0 = .ok (.aload_n 0, 1) := by decide +kernel
theorem dX2_start_1 : decode cX2_start 1 = .ok (.iload_n 1, 1) := by decide +kernel
theorem dX2_start_2 : decode cX2_start 2 = .ok (.putfield 7, 3) := by decide +kernel
theorem dX2_start_5 : decode cX2_start 5 = .ok (.aload_n 0, 1) := by decide +kernel
theorem dX2_start_6 : decode cX2_start 6 = .ok (.iconst 0, 1) := by decide +kernel
theorem dX2_start_7 : decode cX2_start 7 = .ok (.putfield 13, 3) := by decide +kernel
theorem dX2_start_10 : decode cX2_start 10 = .ok (.return_, 1) := by decide +kernel
def f_X2_start (a0 a1 : Int) (H : PH) : RO := vm 2 a0 H <|
  (stv 18 H a0 0 a1).bind fun H1 => (stv 18 H1 a0 1 0).bind fun H2 => some (0, H2)
set_option maxHeartbeats 4000000 in
theorem m_X2_start (l : Launch) (a0 a1 : Int) (H : PH) (rr : Int) (HH : PH) (h : f_X2_start a0 a1 H = some (rr, HH)) : CT l yX2_start cX2_start 2 none 0 0 [vr a0, vi a1] H none HH := by
  refine CT.of RX2 (by decide) rfl [some (vr a0), some (vi a1)] rfl rfl ?_
  intro E F q hn hf hl hm
  unfold f_X2_start at h
  obtain ⟨hv, h⟩ := vm_spec h
  refine pw_aload_n (pc := 0) F dX2_start_0 rfl ?_
  refine pw_iload_n (pc := 1) F dX2_start_1 rfl ?_
  obtain ⟨H1, eH1, h⟩ := bnd h
  refine pw_put (pc := 2) F 2 0 7 (by decide) (by decide) g_10 inl_2 rfl 0 rfl dX2_start_2 trivial eH1 ?_
  refine pw_aload_n (pc := 5) F dX2_start_5 rfl ?_
  refine pw_iconst (pc := 6) F 0 dX2_start_6 (by decide) ?_
  obtain ⟨H2, eH2, h⟩ := bnd h
  refine pw_put (pc := 7) F 2 1 13 (by decide) (by decide) g_11 inl_2 rfl 0 rfl dX2_start_7 trivial eH2 ?_
  cases h
  exact pw_vret (pc := 10) F q dX2_start_10
/-! HouseholdVault$Finder.meet(III)V -/
theorem dX2_meet_0 : decode cX2_meet 0 = .ok (.aload_n 0, 1) := by decide +kernel
theorem dX2_meet_1 : decode cX2_meet 1 = .ok (.getfield 13, 3) := by decide +kernel
theorem dX2_meet_4 : decode cX2_meet 4 = .ok (.aload_n 0, 1) := by decide +kernel
theorem dX2_meet_5 : decode cX2_meet 5 = .ok (.getfield 7, 3) := by decide +kernel
theorem dX2_meet_8 : decode cX2_meet 8 = .ok (.if_icmp .ne 18, 3) := by decide +kernel
theorem dX2_meet_11 : decode cX2_meet 11 = .ok (.aload_n 0, 1) := by decide +kernel
theorem dX2_meet_12 : decode cX2_meet 12 = .ok (.iload_n 1, 1) := by decide +kernel
theorem dX2_meet_13 : decode cX2_meet 13 = .ok (.putfield 16, 3) := by decide +kernel
theorem dX2_meet_16 : decode cX2_meet 16 = .ok (.aload_n 0, 1) := by decide +kernel
theorem dX2_meet_17 : decode cX2_meet 17 = .ok (.iload_n 2, 1) := by decide +kernel
theorem dX2_meet_18 : decode cX2_meet 18 = .ok (.putfield 19, 3) := by decide +kernel
theorem dX2_meet_21 : decode cX2_meet 21 = .ok (.aload_n 0, 1) := by decide +kernel
theorem dX2_meet_22 : decode cX2_meet 22 = .ok (.iload_n 3, 1) := by decide +kernel
theorem dX2_meet_23 : decode cX2_meet 23 = .ok (.putfield 22, 3) := by decide +kernel
theorem dX2_meet_26 : decode cX2_meet 26 = .ok (.aload_n 0, 1) := by decide +kernel
theorem dX2_meet_27 : decode cX2_meet 27 = .ok (.dup, 1) := by decide +kernel
theorem dX2_meet_28 : decode cX2_meet 28 = .ok (.getfield 13, 3) := by decide +kernel
theorem dX2_meet_31 : decode cX2_meet 31 = .ok (.iconst 1, 1) := by decide +kernel
theorem dX2_meet_32 : decode cX2_meet 32 = .ok (.iadd, 1) := by decide +kernel
theorem dX2_meet_33 : decode cX2_meet 33 = .ok (.putfield 13, 3) := by decide +kernel
theorem dX2_meet_36 : decode cX2_meet 36 = .ok (.return_, 1) := by decide +kernel
def jX2_meet_26 (p0 : Int) (H : PH) : RO :=
  (ld 18 H p0 1).bind fun x1 => (stv 18 H p0 1 (w32 (x1 + 1))).bind fun H2 => some (0, H2)
set_option maxHeartbeats 4000000 in
theorem jX2_meet_26_ok {E : PE} {rr : Int} {HH : PH} (F : FX E cX2_meet RX2) (q : QE E none HH none) (hn : nLof E = 4) (hf : (roomOf E).frames = 0) (hl : (roomOf E).locals = 0) (p0 : Int) (H : PH) (h : jX2_meet_26 p0 H = some (rr, HH)) : PW E 26 [some (vr p0), none, none, none] [] H := by
  unfold jX2_meet_26 at h
  refine pw_aload_n (pc := 26) F dX2_meet_26 rfl ?_
  refine pw_dup (pc := 27) F dX2_meet_27 (pvne rfl) ?_
  obtain ⟨x1, ex1, h⟩ := bnd h
  refine pw_get (pc := 28) F 2 1 13 (by decide) (by decide) g_11 inl_2 0 rfl dX2_meet_28 ex1 ?_
  refine pw_iconst (pc := 31) F 1 dX2_meet_31 (by decide) ?_
  refine pw_iadd (pc := 32) F dX2_meet_32 ?_
  obtain ⟨H2, eH2, h⟩ := bnd h
  refine pw_put (pc := 33) F 2 1 13 (by decide) (by decide) g_11 inl_2 rfl 0 rfl dX2_meet_33 trivial eH2 ?_
  cases h
  exact pw_vret (pc := 36) F q dX2_meet_36
def f_X2_meet (a0 a1 a2 a3 : Int) (H : PH) : RO := vm 2 a0 H <|
  (ld 18 H a0 1).bind fun x1 => (ld 18 H a0 0).bind fun x2 => (if x1 ≠ x2 then jX2_meet_26 a0 H
  else (stv 18 H a0 2 a1).bind fun H3 => (stv 18 H3 a0 3 a2).bind fun H4 => (stv 18 H4 a0 4 a3).bind fun H5 => jX2_meet_26 a0 H5)
set_option maxHeartbeats 4000000 in
theorem m_X2_meet (l : Launch) (a0 a1 a2 a3 : Int) (H : PH) (rr : Int) (HH : PH) (h : f_X2_meet a0 a1 a2 a3 H = some (rr, HH)) : CT l yX2_meet cX2_meet 4 none 0 0 [vr a0, vi a1, vi a2, vi a3] H none HH := by
  refine CT.of RX2 (by decide) rfl [some (vr a0), some (vi a1), some (vi a2), some (vi a3)] rfl rfl ?_
  intro E F q hn hf hl hm
  unfold f_X2_meet at h
  obtain ⟨hv, h⟩ := vm_spec h
  refine pw_aload_n (pc := 0) F dX2_meet_0 rfl ?_
  obtain ⟨x1, ex1, h⟩ := bnd h
  refine pw_get (pc := 1) F 2 1 13 (by decide) (by decide) g_11 inl_2 0 rfl dX2_meet_1 ex1 ?_
  refine pw_aload_n (pc := 4) F dX2_meet_4 rfl ?_
  obtain ⟨x2, ex2, h⟩ := bnd h
  refine pw_get (pc := 5) F 2 0 7 (by decide) (by decide) g_10 inl_2 0 rfl dX2_meet_5 ex2 ?_
  refine pw_icmp_ne (pc := 8) F 26 dX2_meet_8 (by decide) (fun hc => ?_) (fun hc => ?_)
  · have h := iteT hc h
    exact pw_mask [true, false, false, false] (ls' := [some (vr a0), none, none, none]) rfl (jX2_meet_26_ok F q hn hf hl a0 H h)
  · have h := iteF hc h
    refine pw_aload_n (pc := 11) F dX2_meet_11 rfl ?_
    refine pw_iload_n (pc := 12) F dX2_meet_12 rfl ?_
    obtain ⟨H3, eH3, h⟩ := bnd h
    refine pw_put (pc := 13) F 2 2 16 (by decide) (by decide) g_12 inl_2 rfl 0 rfl dX2_meet_13 trivial eH3 ?_
    refine pw_aload_n (pc := 16) F dX2_meet_16 rfl ?_
    refine pw_iload_n (pc := 17) F dX2_meet_17 rfl ?_
    obtain ⟨H4, eH4, h⟩ := bnd h
    refine pw_put (pc := 18) F 2 3 19 (by decide) (by decide) g_13 inl_2 rfl 0 rfl dX2_meet_18 trivial eH4 ?_
    refine pw_aload_n (pc := 21) F dX2_meet_21 rfl ?_
    refine pw_iload_n (pc := 22) F dX2_meet_22 rfl ?_
    obtain ⟨H5, eH5, h⟩ := bnd h
    refine pw_put (pc := 23) F 2 4 22 (by decide) (by decide) g_14 inl_2 rfl 0 rfl dX2_meet_23 trivial eH5 ?_
    exact pw_mask [true, false, false, false] (ls' := [some (vr a0), none, none, none]) rfl (jX2_meet_26_ok F q hn hf hl a0 H5 h)
/-! HouseholdVault$Finder.told(III)I -/
theorem dX2_told_0 : decode cX2_told 0 = .ok (.iload_n 1, 1) := by decide +kernel
theorem dX2_told_1 : decode cX2_told 1 = .ok (.ifCond .lt 19, 3) := by decide +kernel
theorem dX2_told_4 : decode cX2_told 4 = .ok (.iload_n 1, 1) := by decide +kernel
theorem dX2_told_5 : decode cX2_told 5 = .ok (.iload_n 2, 1) := by decide +kernel
theorem dX2_told_6 : decode cX2_told 6 = .ok (.if_icmp .ge 14, 3) := by decide +kernel
theorem dX2_told_9 : decode cX2_told 9 = .ok (.aload_n 0, 1) := by decide +kernel
theorem dX2_told_10 : decode cX2_told 10 = .ok (.getfield 7, 3) := by decide +kernel
theorem dX2_told_13 : decode cX2_told 13 = .ok (.aload_n 0, 1) := by decide +kernel
theorem dX2_told_14 : decode cX2_told 14 = .ok (.getfield 13, 3) := by decide +kernel
theorem dX2_told_17 : decode cX2_told 17 = .ok (.if_icmp .lt 5, 3) := by decide +kernel
theorem dX2_told_20 : decode cX2_told 20 = .ok (.iload_n 3, 1) := by decide +kernel
theorem dX2_told_21 : decode cX2_told 21 = .ok (.ireturn, 1) := by decide +kernel
theorem dX2_told_22 : decode cX2_told 22 = .ok (.iload_n 1, 1) := by decide +kernel
theorem dX2_told_23 : decode cX2_told 23 = .ok (.ifCond .ne 8, 3) := by decide +kernel
theorem dX2_told_26 : decode cX2_told 26 = .ok (.aload_n 0, 1) := by decide +kernel
theorem dX2_told_27 : decode cX2_told 27 = .ok (.getfield 16, 3) := by decide +kernel
theorem dX2_told_30 : decode cX2_told 30 = .ok (.ireturn, 1) := by decide +kernel
theorem dX2_told_31 : decode cX2_told 31 = .ok (.iload_n 1, 1) := by decide +kernel
theorem dX2_told_32 : decode cX2_told 32 = .ok (.iconst 1, 1) := by decide +kernel
theorem dX2_told_33 : decode cX2_told 33 = .ok (.if_icmp .ne 10, 3) := by decide +kernel
theorem dX2_told_36 : decode cX2_told 36 = .ok (.aload_n 0, 1) := by decide +kernel
theorem dX2_told_37 : decode cX2_told 37 = .ok (.getfield 19, 3) := by decide +kernel
theorem dX2_told_40 : decode cX2_told 40 = .ok (.goto 7, 3) := by decide +kernel
theorem dX2_told_43 : decode cX2_told 43 = .ok (.aload_n 0, 1) := by decide +kernel
theorem dX2_told_44 : decode cX2_told 44 = .ok (.getfield 22, 3) := by decide +kernel
theorem dX2_told_47 : decode cX2_told 47 = .ok (.ireturn, 1) := by decide +kernel
def f_X2_told (a0 a1 a2 a3 : Int) (H : PH) : RO := vm 2 a0 H <|
  (if a1 < 0 then some (a3, H)
  else (if a1 ≥ a2 then some (a3, H)
  else (ld 18 H a0 0).bind fun x1 => (ld 18 H a0 1).bind fun x2 => (if x1 < x2 then (if a1 ≠ 0 then (if a1 ≠ 1 then (ld 18 H a0 4).bind fun x3 => some (x3, H)
  else (ld 18 H a0 3).bind fun x4 => some (x4, H))
  else (ld 18 H a0 2).bind fun x5 => some (x5, H))
  else some (a3, H))))
set_option maxHeartbeats 4000000 in
theorem m_X2_told (l : Launch) (a0 a1 a2 a3 : Int) (H : PH) (rr : Int) (HH : PH) (h : f_X2_told a0 a1 a2 a3 H = some (rr, HH)) : CT l yX2_told cX2_told 4 (some .int) 0 0 [vr a0, vi a1, vi a2, vi a3] H (some (vi rr)) HH := by
  refine CT.of RX2 (by decide) rfl [some (vr a0), some (vi a1), some (vi a2), some (vi a3)] rfl rfl ?_
  intro E F q hn hf hl hm
  unfold f_X2_told at h
  obtain ⟨hv, h⟩ := vm_spec h
  refine pw_iload_n (pc := 0) F dX2_told_0 rfl ?_
  refine pw_if_lt (pc := 1) F 20 dX2_told_1 (by decide) (fun hc => ?_) (fun hc => ?_)
  · have h := iteT hc h
    refine pw_iload_n (pc := 20) F dX2_told_20 rfl ?_
    cases h
    exact pw_iret (pc := 21) F q dX2_told_21
  · have h := iteF hc h
    refine pw_iload_n (pc := 4) F dX2_told_4 rfl ?_
    refine pw_iload_n (pc := 5) F dX2_told_5 rfl ?_
    refine pw_icmp_ge (pc := 6) F 20 dX2_told_6 (by decide) (fun hc => ?_) (fun hc => ?_)
    · have h := iteT hc h
      refine pw_iload_n (pc := 20) F dX2_told_20 rfl ?_
      cases h
      exact pw_iret (pc := 21) F q dX2_told_21
    · have h := iteF hc h
      refine pw_aload_n (pc := 9) F dX2_told_9 rfl ?_
      obtain ⟨x1, ex1, h⟩ := bnd h
      refine pw_get (pc := 10) F 2 0 7 (by decide) (by decide) g_10 inl_2 0 rfl dX2_told_10 ex1 ?_
      refine pw_aload_n (pc := 13) F dX2_told_13 rfl ?_
      obtain ⟨x2, ex2, h⟩ := bnd h
      refine pw_get (pc := 14) F 2 1 13 (by decide) (by decide) g_11 inl_2 0 rfl dX2_told_14 ex2 ?_
      refine pw_icmp_lt (pc := 17) F 22 dX2_told_17 (by decide) (fun hc => ?_) (fun hc => ?_)
      · have h := iteT hc h
        refine pw_iload_n (pc := 22) F dX2_told_22 rfl ?_
        refine pw_if_ne (pc := 23) F 31 dX2_told_23 (by decide) (fun hc => ?_) (fun hc => ?_)
        · have h := iteT hc h
          refine pw_iload_n (pc := 31) F dX2_told_31 rfl ?_
          refine pw_iconst (pc := 32) F 1 dX2_told_32 (by decide) ?_
          refine pw_icmp_ne (pc := 33) F 43 dX2_told_33 (by decide) (fun hc => ?_) (fun hc => ?_)
          · have h := iteT hc h
            refine pw_aload_n (pc := 43) F dX2_told_43 rfl ?_
            obtain ⟨x3, ex3, h⟩ := bnd h
            refine pw_get (pc := 44) F 2 4 22 (by decide) (by decide) g_14 inl_2 0 rfl dX2_told_44 ex3 ?_
            cases h
            exact pw_iret (pc := 47) F q dX2_told_47
          · have h := iteF hc h
            refine pw_aload_n (pc := 36) F dX2_told_36 rfl ?_
            obtain ⟨x4, ex4, h⟩ := bnd h
            refine pw_get (pc := 37) F 2 3 19 (by decide) (by decide) g_13 inl_2 0 rfl dX2_told_37 ex4 ?_
            refine pw_goto (pc := 40) F 47 dX2_told_40 (by decide) ?_
            cases h
            exact pw_iret (pc := 47) F q dX2_told_47
        · have h := iteF hc h
          refine pw_aload_n (pc := 26) F dX2_told_26 rfl ?_
          obtain ⟨x5, ex5, h⟩ := bnd h
          refine pw_get (pc := 27) F 2 2 16 (by decide) (by decide) g_12 inl_2 0 rfl dX2_told_27 ex5 ?_
          cases h
          exact pw_iret (pc := 30) F q dX2_told_30
      · have h := iteF hc h
        refine pw_iload_n (pc := 20) F dX2_told_20 rfl ?_
        cases h
        exact pw_iret (pc := 21) F q dX2_told_21
/-! HouseholdVault$Form.questionOf(I)LHouseholdVault$Question; -/
theorem dX3_questionOf_0 : decode cX3_questionOf 0 = .ok (.iload_n 1, 1) := by decide +kernel
theorem dX3_questionOf_1 : decode cX3_questionOf 1 = .ok (.ifCond .lt 20, 3) := by decide +kernel
theorem dX3_questionOf_4 : decode cX3_questionOf 4 = .ok (.iload_n 1, 1) := by decide +kernel
theorem dX3_questionOf_5 : decode cX3_questionOf 5 = .ok (.aload_n 0, 1) := by decide +kernel
theorem dX3_questionOf_6 : decode cX3_questionOf 6 = .ok (.getfield 27, 3) := by decide +kernel
theorem dX3_questionOf_9 : decode cX3_questionOf 9 = .ok (.if_icmp .ge 12, 3) := by decide +kernel
theorem dX3_questionOf_12 : decode cX3_questionOf 12 = .ok (.aload_n 0, 1) := by decide +kernel
theorem dX3_questionOf_13 : decode cX3_questionOf 13 = .ok (.getfield 11, 3) := by decide +kernel
theorem dX3_questionOf_16 : decode cX3_questionOf 16 = .ok (.iload_n 1, 1) := by decide +kernel
theorem dX3_questionOf_17 : decode cX3_questionOf 17 = .ok (.aaload, 1) := by decide +kernel
theorem dX3_questionOf_18 : decode cX3_questionOf 18 = .ok (.goto 4, 3) := by decide +kernel
theorem dX3_questionOf_21 : decode cX3_questionOf 21 = .ok (.aconst_null, 1) := by decide +kernel
theorem dX3_questionOf_22 : decode cX3_questionOf 22 = .ok (.areturn, 1) := by decide +kernel
def f_X3_questionOf (a0 a1 : Int) (H : PH) : RO := vm 3 a0 H <|
  (if a1 < 0 then some ((-1), H)
  else (ld 19 H a0 1).bind fun x1 => (if a1 ≥ x1 then some ((-1), H)
  else (ld 19 H a0 0).bind fun x2 => (ld 6 H x2 a1).bind fun x3 => some (x3, H)))
set_option maxHeartbeats 4000000 in
theorem m_X3_questionOf (l : Launch) (a0 a1 : Int) (H : PH) (rr : Int) (HH : PH) (h : f_X3_questionOf a0 a1 H = some (rr, HH)) : CT l yX3_questionOf cX3_questionOf 2 (some (.object "HouseholdVault$Question")) 0 0 [vr a0, vi a1] H (some (vr rr)) HH := by
  refine CT.of RX3 (by decide) rfl [some (vr a0), some (vi a1)] rfl rfl ?_
  intro E F q hn hf hl hm
  unfold f_X3_questionOf at h
  obtain ⟨hv, h⟩ := vm_spec h
  refine pw_iload_n (pc := 0) F dX3_questionOf_0 rfl ?_
  refine pw_if_lt (pc := 1) F 21 dX3_questionOf_1 (by decide) (fun hc => ?_) (fun hc => ?_)
  · have h := iteT hc h
    refine pw_null (pc := 21) F dX3_questionOf_21 ?_
    cases h
    exact pw_aret (pc := 22) F (Or.inl ⟨_, rfl⟩) q dX3_questionOf_22
  · have h := iteF hc h
    refine pw_iload_n (pc := 4) F dX3_questionOf_4 rfl ?_
    refine pw_aload_n (pc := 5) F dX3_questionOf_5 rfl ?_
    obtain ⟨x1, ex1, h⟩ := bnd h
    refine pw_get (pc := 6) F 3 1 27 (by decide) (by decide) g_15 inl_3 0 rfl dX3_questionOf_6 ex1 ?_
    refine pw_icmp_ge (pc := 9) F 21 dX3_questionOf_9 (by decide) (fun hc => ?_) (fun hc => ?_)
    · have h := iteT hc h
      refine pw_null (pc := 21) F dX3_questionOf_21 ?_
      cases h
      exact pw_aret (pc := 22) F (Or.inl ⟨_, rfl⟩) q dX3_questionOf_22
    · have h := iteF hc h
      refine pw_aload_n (pc := 12) F dX3_questionOf_12 rfl ?_
      obtain ⟨x2, ex2, h⟩ := bnd h
      refine pw_get (pc := 13) F 3 0 11 (by decide) (by decide) g_16 inl_3 2 rfl dX3_questionOf_13 ex2 ?_
      refine pw_iload_n (pc := 16) F dX3_questionOf_16 rfl ?_
      obtain ⟨x3, ex3, h⟩ := bnd h
      refine pw_aald (pc := 17) F 6 (by decide) dX3_questionOf_17 ex3 ?_
      refine pw_goto (pc := 18) F 22 dX3_questionOf_18 (by decide) ?_
      cases h
      exact pw_aret (pc := 22) F (Or.inl ⟨_, rfl⟩) q dX3_questionOf_22
/-! HouseholdVault$Question.codeIndex(J)I -/
theorem dX5_codeIndex_0 : decode cX5_codeIndex 0 = .ok (.iconst 0, 1) := by decide +kernel
theorem dX5_codeIndex_1 : decode cX5_codeIndex 1 = .ok (.istore_n 3, 1) := by decide +kernel
theorem dX5_codeIndex_2 : decode cX5_codeIndex 2 = .ok (.iload_n 3, 1) := by decide +kernel
theorem dX5_codeIndex_3 : decode cX5_codeIndex 3 = .ok (.aload_n 0, 1) := by decide +kernel
theorem dX5_codeIndex_4 : decode cX5_codeIndex 4 = .ok (.getfield 41, 3) := by decide +kernel
theorem dX5_codeIndex_7 : decode cX5_codeIndex 7 = .ok (.if_icmp .ge 23, 3) := by decide +kernel
theorem dX5_codeIndex_10 : decode cX5_codeIndex 10 = .ok (.aload_n 0, 1) := by decide +kernel
theorem dX5_codeIndex_11 : decode cX5_codeIndex 11 = .ok (.getfield 24, 3) := by decide +kernel
theorem dX5_codeIndex_14 : decode cX5_codeIndex 14 = .ok (.iload_n 3, 1) := by decide +kernel
theorem dX5_codeIndex_15 : decode cX5_codeIndex 15 = .ok (.iaload, 1) := by decide +kernel
theorem dX5_codeIndex_16 : decode cX5_codeIndex 16 = .ok (.i2l, 1) := by decide +kernel
theorem dX5_codeIndex_17 : decode cX5_codeIndex 17 = .ok (.lload_n 1, 1) := by decide +kernel
theorem dX5_codeIndex_18 : decode cX5_codeIndex 18 = .ok (.lcmp, 1) := by decide +kernel
theorem dX5_codeIndex_19 : decode cX5_codeIndex 19 = .ok (.ifCond .ne 5, 3) := by decide +kernel
theorem dX5_codeIndex_22 : decode cX5_codeIndex 22 = .ok (.iload_n 3, 1) := by decide +kernel
theorem dX5_codeIndex_23 : decode cX5_codeIndex 23 = .ok (.ireturn, 1) := by decide +kernel
theorem dX5_codeIndex_24 : decode cX5_codeIndex 24 = .ok (.iinc 3 1, 3) := by decide +kernel
theorem dX5_codeIndex_27 : decode cX5_codeIndex 27 = .ok (.goto (-25), 3) := by decide +kernel
theorem dX5_codeIndex_30 : decode cX5_codeIndex 30 = .ok (.iconst (-1), 1) := by decide +kernel
theorem dX5_codeIndex_31 : decode cX5_codeIndex 31 = .ok (.ireturn, 1) := by decide +kernel
def lX5_codeIndex_2 (p0 p1 : Int) (self2 : Int → PH → RO) (p3 : Int) (H : PH) : RO :=
  (ld 21 H p0 5).bind fun x1 => (if p3 ≥ x1 then some ((-1), H)
  else (ld 21 H p0 4).bind fun x2 => (ld 0 H x2 p3).bind fun x3 => (if (lc x3 p1) ≠ 0 then self2 (w32 (p3 + 1)) H
  else some (p3, H)))
set_option maxHeartbeats 4000000 in
theorem lX5_codeIndex_2_ok {E : PE} {rr : Int} {HH : PH} (F : FX E cX5_codeIndex RX5) (q : QE E (some (vi rr)) HH (some .int)) (hn : nLof E = 4) (hf : (roomOf E).frames = 0) (hl : (roomOf E).locals = 0) (p0 p1 : Int) : ∀ (n : Nat) (p3 : Int) (H : PH), lq1 (lX5_codeIndex_2 p0 p1) n p3 H = some (rr, HH) → PW E 2 [some (vr p0), some (vl p1), none, some (vi p3)] [] H := by
  refine lq1_ind (P := fun p3 H => PW E 2 [some (vr p0), some (vl p1), none, some (vi p3)] [] H) ?_
  intro self2 ih2 p3 H h
  unfold lX5_codeIndex_2 at h
  refine pw_iload_n (pc := 2) F dX5_codeIndex_2 rfl ?_
  refine pw_aload_n (pc := 3) F dX5_codeIndex_3 rfl ?_
  obtain ⟨x1, ex1, h⟩ := bnd h
  refine pw_get (pc := 4) F 5 5 41 (by decide) (by decide) g_17 inl_5 0 rfl dX5_codeIndex_4 ex1 ?_
  refine pw_icmp_ge (pc := 7) F 30 dX5_codeIndex_7 (by decide) (fun hc => ?_) (fun hc => ?_)
  · have h := iteT hc h
    refine pw_iconst (pc := 30) F (-1) dX5_codeIndex_30 (by decide) ?_
    cases h
    exact pw_iret (pc := 31) F q dX5_codeIndex_31
  · have h := iteF hc h
    refine pw_aload_n (pc := 10) F dX5_codeIndex_10 rfl ?_
    obtain ⟨x2, ex2, h⟩ := bnd h
    refine pw_get (pc := 11) F 5 4 24 (by decide) (by decide) g_18 inl_5 2 rfl dX5_codeIndex_11 ex2 ?_
    refine pw_iload_n (pc := 14) F dX5_codeIndex_14 rfl ?_
    obtain ⟨x3, ex3, h⟩ := bnd h
    refine pw_iald (pc := 15) F dX5_codeIndex_15 ex3 ?_
    refine pw_i2l (pc := 16) F dX5_codeIndex_16 ?_
    refine pw_lload_n (pc := 17) F dX5_codeIndex_17 rfl ?_
    refine pw_lcmp (pc := 18) F dX5_codeIndex_18 ?_
    refine pw_if_ne (pc := 19) F 24 dX5_codeIndex_19 (by decide) (fun hc => ?_) (fun hc => ?_)
    · have h := iteT hc h
      refine pw_iinc (pc := 24) F dX5_codeIndex_24 rfl (lt_nl hn (by decide)) [some (vr p0), some (vl p1), none, some (vi (w32 (p3 + 1)))] rfl (by decide) ?_
      refine pw_goto (pc := 27) F 2 dX5_codeIndex_27 (by decide) ?_
      exact pw_mask [true, true, true, true] (ls' := [some (vr p0), some (vl p1), none, some (vi (w32 (p3 + 1)))]) rfl (ih2 (w32 (p3 + 1)) H h)
    · have h := iteF hc h
      refine pw_iload_n (pc := 22) F dX5_codeIndex_22 rfl ?_
      cases h
      exact pw_iret (pc := 23) F q dX5_codeIndex_23
def f_X5_codeIndex (a0 a1 : Int) (H : PH) : RO := vm 5 a0 H <|
  lq1 (lX5_codeIndex_2 a0 a1) 6000 0 H
set_option maxHeartbeats 4000000 in
theorem m_X5_codeIndex (l : Launch) (a0 a1 : Int) (H : PH) (rr : Int) (HH : PH) (h : f_X5_codeIndex a0 a1 H = some (rr, HH)) : CT l yX5_codeIndex cX5_codeIndex 4 (some .int) 0 0 [vr a0, vl a1] H (some (vi rr)) HH := by
  refine CT.of RX5 (by decide) rfl [some (vr a0), some (vl a1), none, none] rfl rfl ?_
  intro E F q hn hf hl hm
  unfold f_X5_codeIndex at h
  obtain ⟨hv, h⟩ := vm_spec h
  refine pw_iconst (pc := 0) F 0 dX5_codeIndex_0 (by decide) ?_
  refine pw_istore_n (pc := 1) F dX5_codeIndex_1 (lt_nl hn (by decide)) [some (vr a0), some (vl a1), none, some (vi 0)] rfl ?_
  exact pw_mask [true, true, true, true] (ls' := [some (vr a0), some (vl a1), none, some (vi 0)]) rfl (lX5_codeIndex_2_ok F q hn hf hl a0 a1  6000 0 H h)
/-! HouseholdVault$Question.<init>(IIII)V -/
theorem dX5_init_0 : decode cX5_init 0 = .ok (.aload_n 0, 1) := by decide +kernel
theorem dX5_init_1 : decode cX5_init 1 = .ok (.invokespecial 3, 3) := by decide +kernel
theorem dX5_init_4 : decode cX5_init 4 = .ok (.aload_n 0, 1) := by decide +kernel
theorem dX5_init_5 : decode cX5_init 5 = .ok (.iload_n 1, 1) := by decide +kernel
theorem dX5_init_6 : decode cX5_init 6 = .ok (.putfield 9, 3) := by decide +kernel
theorem dX5_init_9 : decode cX5_init 9 = .ok (.aload_n 0, 1) := by decide +kernel
theorem dX5_init_10 : decode cX5_init 10 = .ok (.iload_n 2, 1) := by decide +kernel
theorem dX5_init_11 : decode cX5_init 11 = .ok (.putfield 15, 3) := by decide +kernel
theorem dX5_init_14 : decode cX5_init 14 = .ok (.aload_n 0, 1) := by decide +kernel
theorem dX5_init_15 : decode cX5_init 15 = .ok (.iload_n 3, 1) := by decide +kernel
theorem dX5_init_16 : decode cX5_init 16 = .ok (.putfield 18, 3) := by decide +kernel
theorem dX5_init_19 : decode cX5_init 19 = .ok (.aload_n 0, 1) := by decide +kernel
theorem dX5_init_20 : decode cX5_init 20 = .ok (.iload 4, 2) := by decide +kernel
theorem dX5_init_22 : decode cX5_init 22 = .ok (.putfield 21, 3) := by decide +kernel
theorem dX5_init_25 : decode cX5_init 25 = .ok (.aload_n 0, 1) := by decide +kernel
theorem dX5_init_26 : decode cX5_init 26 = .ok (.bipush 8, 2) := by decide +kernel
theorem dX5_init_28 : decode cX5_init 28 = .ok (.newarray .int, 2) := by decide +kernel
theorem dX5_init_30 : decode cX5_init 30 = .ok (.putfield 24, 3) := by decide +kernel
theorem dX5_init_33 : decode cX5_init 33 = .ok (.iload_n 3, 1) := by decide +kernel
theorem dX5_init_34 : decode cX5_init 34 = .ok (.iconst 1, 1) := by decide +kernel
theorem dX5_init_35 : decode cX5_init 35 = .ok (.if_icmp .ne 8, 3) := by decide +kernel
theorem dX5_init_38 : decode cX5_init 38 = .ok (.bipush 8, 2) := by decide +kernel
theorem dX5_init_40 : decode cX5_init 40 = .ok (.goto 4, 3) := by decide +kernel
theorem dX5_init_43 : decode cX5_init 43 = .ok (.iconst 0, 1) := by decide +kernel
theorem dX5_init_44 : decode cX5_init 44 = .ok (.istore 5, 2) := by decide +kernel
theorem dX5_init_46 : decode cX5_init 46 = .ok (.aload_n 0, 1) := by decide +kernel
theorem dX5_init_47 : decode cX5_init 47 = .ok (.iload 5, 2) := by decide +kernel
theorem dX5_init_49 : decode cX5_init 49 = .ok (.newarray .long, 2) := by decide +kernel
theorem dX5_init_51 : decode cX5_init 51 = .ok (.putfield 28, 3) := by decide +kernel
theorem dX5_init_54 : decode cX5_init 54 = .ok (.aload_n 0, 1) := by decide +kernel
theorem dX5_init_55 : decode cX5_init 55 = .ok (.iload 5, 2) := by decide +kernel
theorem dX5_init_57 : decode cX5_init 57 = .ok (.newarray .long, 2) := by decide +kernel
theorem dX5_init_59 : decode cX5_init 59 = .ok (.putfield 32, 3) := by decide +kernel
theorem dX5_init_62 : decode cX5_init 62 = .ok (.aload_n 0, 1) := by decide +kernel
theorem dX5_init_63 : decode cX5_init 63 = .ok (.iload 5, 2) := by decide +kernel
theorem dX5_init_65 : decode cX5_init 65 = .ok (.newarray .int, 2) := by decide +kernel
theorem dX5_init_67 : decode cX5_init 67 = .ok (.putfield 35, 3) := by decide +kernel
theorem dX5_init_70 : decode cX5_init 70 = .ok (.aload_n 0, 1) := by decide +kernel
theorem dX5_init_71 : decode cX5_init 71 = .ok (.iconst (-1), 1) := by decide +kernel
theorem dX5_init_72 : decode cX5_init 72 = .ok (.putfield 38, 3) := by decide +kernel
theorem dX5_init_75 : decode cX5_init 75 = .ok (.return_, 1) := by decide +kernel
def jX5_init_44 (p0 s0 : Int) (H : PH) : RO :=
  (newa 1 s0 H).bind fun z1 => (stv 21 z1.2 p0 6 z1.1).bind fun H2 => (newa 1 s0 H2).bind fun z3 => (stv 21 z3.2 p0 7 z3.1).bind fun H4 => (newa 0 s0 H4).bind fun z5 => (stv 21 z5.2 p0 8 z5.1).bind fun H6 => (stv 21 H6 p0 10 (-1)).bind fun H7 => some (0, H7)
set_option maxHeartbeats 4000000 in
theorem jX5_init_44_ok {E : PE} {rr : Int} {HH : PH} (F : FX E cX5_init RX5) (q : QE E none HH none) (hn : nLof E = 6) (hf : (roomOf E).frames = 1) (hl : (roomOf E).locals = 12) (hm : methOf E = "<init>") (p0 s0 : Int) (H : PH) (h : jX5_init_44 p0 s0 H = some (rr, HH)) : PW E 44 [some (vr p0), none, none, none, none, none] [vi s0] H := by
  unfold jX5_init_44 at h
  refine pw_istore (pc := 44) F dX5_init_44 (lt_nl hn (by decide)) [some (vr p0), none, none, none, none, some (vi s0)] rfl ?_
  refine pw_aload_n (pc := 46) F dX5_init_46 rfl ?_
  refine pw_iload (pc := 47) F dX5_init_47 rfl ?_
  obtain ⟨z1, ez1, h⟩ := bnd h
  refine pw_newa (pc := 49) F 1 (by decide) g_25 dX5_init_49 ez1 ?_
  obtain ⟨H2, eH2, h⟩ := bnd h
  refine pw_putF (pc := 51) F 5 6 28 (by decide) (by decide) g_26 inl_5 rfl hm rfl 2 rfl dX5_init_51 trivial eH2 ?_
  refine pw_aload_n (pc := 54) F dX5_init_54 rfl ?_
  refine pw_iload (pc := 55) F dX5_init_55 rfl ?_
  obtain ⟨z3, ez3, h⟩ := bnd h
  refine pw_newa (pc := 57) F 1 (by decide) g_25 dX5_init_57 ez3 ?_
  obtain ⟨H4, eH4, h⟩ := bnd h
  refine pw_putF (pc := 59) F 5 7 32 (by decide) (by decide) g_27 inl_5 rfl hm rfl 2 rfl dX5_init_59 trivial eH4 ?_
  refine pw_aload_n (pc := 62) F dX5_init_62 rfl ?_
  refine pw_iload (pc := 63) F dX5_init_63 rfl ?_
  obtain ⟨z5, ez5, h⟩ := bnd h
  refine pw_newa (pc := 65) F 0 (by decide) g_24 dX5_init_65 ez5 ?_
  obtain ⟨H6, eH6, h⟩ := bnd h
  refine pw_putF (pc := 67) F 5 8 35 (by decide) (by decide) g_28 inl_5 rfl hm rfl 2 rfl dX5_init_67 trivial eH6 ?_
  refine pw_aload_n (pc := 70) F dX5_init_70 rfl ?_
  refine pw_iconst (pc := 71) F (-1) dX5_init_71 (by decide) ?_
  obtain ⟨H7, eH7, h⟩ := bnd h
  refine pw_put (pc := 72) F 5 10 38 (by decide) (by decide) g_29 inl_5 rfl 0 rfl dX5_init_72 trivial eH7 ?_
  cases h
  exact pw_vret (pc := 75) F q dX5_init_75
def f_X5_init (a0 a1 a2 a3 a4 : Int) (H : PH) : RO := vm 5 a0 H <|
  (stv 21 H a0 0 a1).bind fun H1 => (stv 21 H1 a0 1 a2).bind fun H2 => (stv 21 H2 a0 2 a3).bind fun H3 => (stv 21 H3 a0 3 a4).bind fun H4 => (newa 0 8 H4).bind fun z5 => (stv 21 z5.2 a0 4 z5.1).bind fun H6 => (if a3 ≠ 1 then jX5_init_44 a0 0 H6
  else jX5_init_44 a0 8 H6)
set_option maxHeartbeats 4000000 in
theorem m_X5_init (l : Launch) (a0 a1 a2 a3 a4 : Int) (H : PH) (rr : Int) (HH : PH) (h : f_X5_init a0 a1 a2 a3 a4 H = some (rr, HH)) : CT l yX5_init cX5_init 6 none 1 12 [vr a0, vi a1, vi a2, vi a3, vi a4] H none HH := by
  refine CT.of RX5 (by decide) rfl [some (vr a0), some (vi a1), some (vi a2), some (vi a3), some (vi a4), none] rfl rfl ?_
  intro E F q hn hf hl hm
  unfold f_X5_init at h
  obtain ⟨hv, h⟩ := vm_spec h
  refine pw_aload_n (pc := 0) F dX5_init_0 rfl ?_
  refine pw_objInit (pc := 1) F 3 g_19 g_8 g_9 (rm_ok hf hl (by decide) (by decide)) dX5_init_1 (vm_nn hv) ?_
  refine pw_aload_n (pc := 4) F dX5_init_4 rfl ?_
  refine pw_iload_n (pc := 5) F dX5_init_5 rfl ?_
  obtain ⟨H1, eH1, h⟩ := bnd h
  refine pw_putF (pc := 6) F 5 0 9 (by decide) (by decide) g_20 inl_5 rfl hm rfl 0 rfl dX5_init_6 trivial eH1 ?_
  refine pw_aload_n (pc := 9) F dX5_init_9 rfl ?_
  refine pw_iload_n (pc := 10) F dX5_init_10 rfl ?_
  obtain ⟨H2, eH2, h⟩ := bnd h
  refine pw_putF (pc := 11) F 5 1 15 (by decide) (by decide) g_21 inl_5 rfl hm rfl 0 rfl dX5_init_11 trivial eH2 ?_
  refine pw_aload_n (pc := 14) F dX5_init_14 rfl ?_
  refine pw_iload_n (pc := 15) F dX5_init_15 rfl ?_
  obtain ⟨H3, eH3, h⟩ := bnd h
  refine pw_putF (pc := 16) F 5 2 18 (by decide) (by decide) g_22 inl_5 rfl hm rfl 0 rfl dX5_init_16 trivial eH3 ?_
  refine pw_aload_n (pc := 19) F dX5_init_19 rfl ?_
  refine pw_iload (pc := 20) F dX5_init_20 rfl ?_
  obtain ⟨H4, eH4, h⟩ := bnd h
  refine pw_putF (pc := 22) F 5 3 21 (by decide) (by decide) g_23 inl_5 rfl hm rfl 0 rfl dX5_init_22 trivial eH4 ?_
  refine pw_aload_n (pc := 25) F dX5_init_25 rfl ?_
  refine pw_bipush (pc := 26) F 8 dX5_init_26 (by decide) ?_
  obtain ⟨z5, ez5, h⟩ := bnd h
  refine pw_newa (pc := 28) F 0 (by decide) g_24 dX5_init_28 ez5 ?_
  obtain ⟨H6, eH6, h⟩ := bnd h
  refine pw_putF (pc := 30) F 5 4 24 (by decide) (by decide) g_18 inl_5 rfl hm rfl 2 rfl dX5_init_30 trivial eH6 ?_
  refine pw_iload_n (pc := 33) F dX5_init_33 rfl ?_
  refine pw_iconst (pc := 34) F 1 dX5_init_34 (by decide) ?_
  refine pw_icmp_ne (pc := 35) F 43 dX5_init_35 (by decide) (fun hc => ?_) (fun hc => ?_)
  · have h := iteT hc h
    refine pw_iconst (pc := 43) F 0 dX5_init_43 (by decide) ?_
    exact pw_mask [true, false, false, false, false, true] (ls' := [some (vr a0), none, none, none, none, none]) rfl (jX5_init_44_ok F q hn hf hl hm a0 0 H6 h)
  · have h := iteF hc h
    refine pw_bipush (pc := 38) F 8 dX5_init_38 (by decide) ?_
    refine pw_goto (pc := 40) F 44 dX5_init_40 (by decide) ?_
    exact pw_mask [true, false, false, false, false, true] (ls' := [some (vr a0), none, none, none, none, none]) rfl (jX5_init_44_ok F q hn hf hl hm a0 8 H6 h)
/-! HouseholdVault$Question.takes(J)Z -/
theorem dX5_takes_0 : decode cX5_takes 0 = .ok (.aload_n 0, 1) := by decide +kernel
theorem dX5_takes_1 : decode cX5_takes 1 = .ok (.getfield 9, 3) := by decide +kernel
theorem dX5_takes_4 : decode cX5_takes 4 = .ok (.tableswitch 132 0 4 #[36, 51, 74, 88, 110], 36) := by decide +kernel
theorem dX5_takes_40 : decode cX5_takes 40 = .ok (.aload_n 0, 1) := by decide +kernel
theorem dX5_takes_41 : decode cX5_takes 41 = .ok (.lload_n 1, 1) := by decide +kernel
theorem dX5_takes_42 : decode cX5_takes 42 = .ok (.invokevirtual 47, 3) := by decide +kernel
theorem dX5_takes_45 : decode cX5_takes 45 = .ok (.iconst (-1), 1) := by decide +kernel
theorem dX5_takes_46 : decode cX5_takes 46 = .ok (.if_icmp .eq 7, 3) := by decide +kernel
theorem dX5_takes_49 : decode cX5_takes 49 = .ok (.iconst 1, 1) := by decide +kernel
theorem dX5_takes_50 : decode cX5_takes 50 = .ok (.goto 4, 3) := by decide +kernel
theorem dX5_takes_53 : decode cX5_takes 53 = .ok (.iconst 0, 1) := by decide +kernel
theorem dX5_takes_54 : decode cX5_takes 54 = .ok (.ireturn, 1) := by decide +kernel
theorem dX5_takes_55 : decode cX5_takes 55 = .ok (.lload_n 1, 1) := by decide +kernel
theorem dX5_takes_56 : decode cX5_takes 56 = .ok (.lconst 0, 1) := by decide +kernel
theorem dX5_takes_57 : decode cX5_takes 57 = .ok (.lcmp, 1) := by decide +kernel
theorem dX5_takes_58 : decode cX5_takes 58 = .ok (.ifCond .lt 18, 3) := by decide +kernel
theorem dX5_takes_61 : decode cX5_takes 61 = .ok (.lload_n 1, 1) := by decide +kernel
theorem dX5_takes_62 : decode cX5_takes 62 = .ok (.lconst 1, 1) := by decide +kernel
theorem dX5_takes_63 : decode cX5_takes 63 = .ok (.aload_n 0, 1) := by decide +kernel
theorem dX5_takes_64 : decode cX5_takes 64 = .ok (.getfield 41, 3) := by decide +kernel
theorem dX5_takes_67 : decode cX5_takes 67 = .ok (.lshl, 1) := by decide +kernel
theorem dX5_takes_68 : decode cX5_takes 68 = .ok (.lcmp, 1) := by decide +kernel
theorem dX5_takes_69 : decode cX5_takes 69 = .ok (.ifCond .ge 7, 3) := by decide +kernel
theorem dX5_takes_72 : decode cX5_takes 72 = .ok (.iconst 1, 1) := by decide +kernel
theorem dX5_takes_73 : decode cX5_takes 73 = .ok (.goto 4, 3) := by decide +kernel
theorem dX5_takes_76 : decode cX5_takes 76 = .ok (.iconst 0, 1) := by decide +kernel
theorem dX5_takes_77 : decode cX5_takes 77 = .ok (.ireturn, 1) := by decide +kernel
theorem dX5_takes_78 : decode cX5_takes 78 = .ok (.lload_n 1, 1) := by decide +kernel
theorem dX5_takes_79 : decode cX5_takes 79 = .ok (.lload_n 1, 1) := by decide +kernel
theorem dX5_takes_80 : decode cX5_takes 80 = .ok (.l2i, 1) := by decide +kernel
theorem dX5_takes_81 : decode cX5_takes 81 = .ok (.i2l, 1) := by decide +kernel
theorem dX5_takes_82 : decode cX5_takes 82 = .ok (.lcmp, 1) := by decide +kernel
theorem dX5_takes_83 : decode cX5_takes 83 = .ok (.ifCond .ne 7, 3) := by decide +kernel
theorem dX5_takes_86 : decode cX5_takes 86 = .ok (.iconst 1, 1) := by decide +kernel
theorem dX5_takes_87 : decode cX5_takes 87 = .ok (.goto 4, 3) := by decide +kernel
theorem dX5_takes_90 : decode cX5_takes 90 = .ok (.iconst 0, 1) := by decide +kernel
theorem dX5_takes_91 : decode cX5_takes 91 = .ok (.ireturn, 1) := by decide +kernel
theorem dX5_takes_92 : decode cX5_takes 92 = .ok (.lload_n 1, 1) := by decide +kernel
theorem dX5_takes_93 : decode cX5_takes 93 = .ok (.ldc2_w 55, 3) := by decide +kernel
theorem dX5_takes_96 : decode cX5_takes 96 = .ok (.lcmp, 1) := by decide +kernel
theorem dX5_takes_97 : decode cX5_takes 97 = .ok (.ifCond .lt 15, 3) := by decide +kernel
theorem dX5_takes_100 : decode cX5_takes 100 = .ok (.lload_n 1, 1) := by decide +kernel
theorem dX5_takes_101 : decode cX5_takes 101 = .ok (.ldc2_w 57, 3) := by decide +kernel
theorem dX5_takes_104 : decode cX5_takes 104 = .ok (.lcmp, 1) := by decide +kernel
theorem dX5_takes_105 : decode cX5_takes 105 = .ok (.ifCond .gt 7, 3) := by decide +kernel
theorem dX5_takes_108 : decode cX5_takes 108 = .ok (.iconst 1, 1) := by decide +kernel
theorem dX5_takes_109 : decode cX5_takes 109 = .ok (.goto 4, 3) := by decide +kernel
theorem dX5_takes_112 : decode cX5_takes 112 = .ok (.iconst 0, 1) := by decide +kernel
theorem dX5_takes_113 : decode cX5_takes 113 = .ok (.ireturn, 1) := by decide +kernel
theorem dX5_takes_114 : decode cX5_takes 114 = .ok (.lload_n 1, 1) := by decide +kernel
theorem dX5_takes_115 : decode cX5_takes 115 = .ok (.ldc2_w 59, 3) := by decide +kernel
theorem dX5_takes_118 : decode cX5_takes 118 = .ok (.lcmp, 1) := by decide +kernel
theorem dX5_takes_119 : decode cX5_takes 119 = .ok (.ifCond .lt 15, 3) := by decide +kernel
theorem dX5_takes_122 : decode cX5_takes 122 = .ok (.lload_n 1, 1) := by decide +kernel
theorem dX5_takes_123 : decode cX5_takes 123 = .ok (.ldc2_w 61, 3) := by decide +kernel
theorem dX5_takes_126 : decode cX5_takes 126 = .ok (.lcmp, 1) := by decide +kernel
theorem dX5_takes_127 : decode cX5_takes 127 = .ok (.ifCond .gt 7, 3) := by decide +kernel
theorem dX5_takes_130 : decode cX5_takes 130 = .ok (.iconst 1, 1) := by decide +kernel
theorem dX5_takes_131 : decode cX5_takes 131 = .ok (.goto 4, 3) := by decide +kernel
theorem dX5_takes_134 : decode cX5_takes 134 = .ok (.iconst 0, 1) := by decide +kernel
theorem dX5_takes_135 : decode cX5_takes 135 = .ok (.ireturn, 1) := by decide +kernel
theorem dX5_takes_136 : decode cX5_takes 136 = .ok (.lload_n 1, 1) := by decide +kernel
theorem dX5_takes_137 : decode cX5_takes 137 = .ok (.lconst 0, 1) := by decide +kernel
theorem dX5_takes_138 : decode cX5_takes 138 = .ok (.lcmp, 1) := by decide +kernel
theorem dX5_takes_139 : decode cX5_takes 139 = .ok (.ifCond .lt 15, 3) := by decide +kernel
theorem dX5_takes_142 : decode cX5_takes 142 = .ok (.lload_n 1, 1) := by decide +kernel
theorem dX5_takes_143 : decode cX5_takes 143 = .ok (.ldc2_w 63, 3) := by decide +kernel
theorem dX5_takes_146 : decode cX5_takes 146 = .ok (.lcmp, 1) := by decide +kernel
theorem dX5_takes_147 : decode cX5_takes 147 = .ok (.ifCond .gt 7, 3) := by decide +kernel
theorem dX5_takes_150 : decode cX5_takes 150 = .ok (.iconst 1, 1) := by decide +kernel
theorem dX5_takes_151 : decode cX5_takes 151 = .ok (.goto 4, 3) := by decide +kernel
theorem dX5_takes_154 : decode cX5_takes 154 = .ok (.iconst 0, 1) := by decide +kernel
theorem dX5_takes_155 : decode cX5_takes 155 = .ok (.ireturn, 1) := by decide +kernel
def f_X5_takes (a0 a1 : Int) (H : PH) : RO := vm 5 a0 H <|
  (ld 21 H a0 0).bind fun x1 => (if x1 < 0 ∨ 4 < x1 then (if (lc a1 0) < 0 then some (0, H)
  else (if (lc a1 5) > 0 then some (0, H)
  else some (1, H)))
  else List.getD [(f_X5_codeIndex a0 a1 H).bind fun z2 => (if z2.1 = (-1) then some (0, z2.2)
  else some (1, z2.2)), (if (lc a1 0) < 0 then some (0, H)
  else (ld 21 H a0 5).bind fun x3 => (if (lc a1 (l_shl 1 x3)) ≥ 0 then some (0, H)
  else some (1, H))), (if (lc a1 (w32 a1)) ≠ 0 then some (0, H)
  else some (1, H)), (if (lc a1 (-1000000000000000)) < 0 then some (0, H)
  else (if (lc a1 1000000000000000) > 0 then some (0, H)
  else some (1, H))), (if (lc a1 (-30000)) < 0 then some (0, H)
  else (if (lc a1 30000) > 0 then some (0, H)
  else some (1, H)))] (x1 - 0).toNat none)
set_option maxHeartbeats 4000000 in
theorem m_X5_takes (l : Launch) (a0 a1 : Int) (H : PH) (rr : Int) (HH : PH) (h : f_X5_takes a0 a1 H = some (rr, HH)) : CT l yX5_takes cX5_takes 3 (some .boolean) 1 23 [vr a0, vl a1] H (some (vi rr)) HH := by
  refine CT.of RX5 (by decide) rfl [some (vr a0), some (vl a1), none] rfl rfl ?_
  intro E F q hn hf hl hm
  unfold f_X5_takes at h
  obtain ⟨hv, h⟩ := vm_spec h
  refine pw_aload_n (pc := 0) F dX5_takes_0 rfl ?_
  obtain ⟨x1, ex1, h⟩ := bnd h
  refine pw_get (pc := 1) F 5 0 9 (by decide) (by decide) g_20 inl_5 0 rfl dX5_takes_1 ex1 ?_
  refine pw_table (pc := 4) F dX5_takes_4 136 (by decide) [40, 55, 78, 92, 114] (by decide) (by decide) (fun hc => ?_) (fun i t ht ha => ?_)
  · have h := iteT hc h
    refine pw_lload_n (pc := 136) F dX5_takes_136 rfl ?_
    refine pw_lconst (pc := 137) F 0 dX5_takes_137 (by decide) ?_
    refine pw_lcmp (pc := 138) F dX5_takes_138 ?_
    refine pw_if_lt (pc := 139) F 154 dX5_takes_139 (by decide) (fun hc => ?_) (fun hc => ?_)
    · have h := iteT hc h
      refine pw_iconst (pc := 154) F 0 dX5_takes_154 (by decide) ?_
      cases h
      exact pw_zret (pc := 155) F q (by decide) dX5_takes_155
    · have h := iteF hc h
      refine pw_lload_n (pc := 142) F dX5_takes_142 rfl ?_
      refine pw_ldc2 (pc := 143) F 5 g_30 dX5_takes_143 (by decide) ?_
      refine pw_lcmp (pc := 146) F dX5_takes_146 ?_
      refine pw_if_gt (pc := 147) F 154 dX5_takes_147 (by decide) (fun hc => ?_) (fun hc => ?_)
      · have h := iteT hc h
        refine pw_iconst (pc := 154) F 0 dX5_takes_154 (by decide) ?_
        cases h
        exact pw_zret (pc := 155) F q (by decide) dX5_takes_155
      · have h := iteF hc h
        refine pw_iconst (pc := 150) F 1 dX5_takes_150 (by decide) ?_
        refine pw_goto (pc := 151) F 155 dX5_takes_151 (by decide) ?_
        cases h
        exact pw_zret (pc := 155) F q (by decide) dX5_takes_155
  · have hc : ¬ (x1 < 0 ∨ 4 < x1) := sw_in 5 ht ha (by decide) (by decide)
    have h := iteF hc h
    have h := sw_at ha h
    match i, ht, h with
    | 0, ht, h =>
      obtain rfl : 40 = t := Option.some.inj ht
      have h : ((f_X5_codeIndex a0 a1 H).bind fun z2 => (if z2.1 = (-1) then some (0, z2.2)
  else some (1, z2.2)) : RO) = some (rr, HH) := h
      refine pw_aload_n (pc := 40) F dX5_takes_40 rfl ?_
      refine pw_lload_n (pc := 41) F dX5_takes_41 rfl ?_
      obtain ⟨z2, ez2, h⟩ := bnd h
      refine pw_callV (pc := 42) (as := [vl a1]) (st := []) (r := (some (vi z2.1))) F 47 5 (by decide) rfl (fun l => m_X5_codeIndex l a0 a1 H z2.1 z2.2 ez2) g_33 g_34 g_35 g_32 g_31 hd_X5_codeIndex (rm_ok hf hl (by decide) (by decide)) rfl (vm_spec ez2).1 dX5_takes_42 rfl (stk' := [vi z2.1]) rfl ?_
      refine pw_iconst (pc := 45) F (-1) dX5_takes_45 (by decide) ?_
      refine pw_icmp_eq (pc := 46) F 53 dX5_takes_46 (by decide) (fun hc => ?_) (fun hc => ?_)
      · have h := iteT hc h
        refine pw_iconst (pc := 53) F 0 dX5_takes_53 (by decide) ?_
        cases h
        exact pw_zret (pc := 54) F q (by decide) dX5_takes_54
      · have h := iteF hc h
        refine pw_iconst (pc := 49) F 1 dX5_takes_49 (by decide) ?_
        refine pw_goto (pc := 50) F 54 dX5_takes_50 (by decide) ?_
        cases h
        exact pw_zret (pc := 54) F q (by decide) dX5_takes_54
    | 1, ht, h =>
      obtain rfl : 55 = t := Option.some.inj ht
      have h : ((if (lc a1 0) < 0 then some (0, H)
  else (ld 21 H a0 5).bind fun x3 => (if (lc a1 (l_shl 1 x3)) ≥ 0 then some (0, H)
  else some (1, H))) : RO) = some (rr, HH) := h
      refine pw_lload_n (pc := 55) F dX5_takes_55 rfl ?_
      refine pw_lconst (pc := 56) F 0 dX5_takes_56 (by decide) ?_
      refine pw_lcmp (pc := 57) F dX5_takes_57 ?_
      refine pw_if_lt (pc := 58) F 76 dX5_takes_58 (by decide) (fun hc => ?_) (fun hc => ?_)
      · have h := iteT hc h
        refine pw_iconst (pc := 76) F 0 dX5_takes_76 (by decide) ?_
        cases h
        exact pw_zret (pc := 77) F q (by decide) dX5_takes_77
      · have h := iteF hc h
        refine pw_lload_n (pc := 61) F dX5_takes_61 rfl ?_
        refine pw_lconst (pc := 62) F 1 dX5_takes_62 (by decide) ?_
        refine pw_aload_n (pc := 63) F dX5_takes_63 rfl ?_
        obtain ⟨x3, ex3, h⟩ := bnd h
        refine pw_get (pc := 64) F 5 5 41 (by decide) (by decide) g_17 inl_5 0 rfl dX5_takes_64 ex3 ?_
        refine pw_lshl (pc := 67) F dX5_takes_67 ?_
        refine pw_lcmp (pc := 68) F dX5_takes_68 ?_
        refine pw_if_ge (pc := 69) F 76 dX5_takes_69 (by decide) (fun hc => ?_) (fun hc => ?_)
        · have h := iteT hc h
          refine pw_iconst (pc := 76) F 0 dX5_takes_76 (by decide) ?_
          cases h
          exact pw_zret (pc := 77) F q (by decide) dX5_takes_77
        · have h := iteF hc h
          refine pw_iconst (pc := 72) F 1 dX5_takes_72 (by decide) ?_
          refine pw_goto (pc := 73) F 77 dX5_takes_73 (by decide) ?_
          cases h
          exact pw_zret (pc := 77) F q (by decide) dX5_takes_77
    | 2, ht, h =>
      obtain rfl : 78 = t := Option.some.inj ht
      have h : ((if (lc a1 (w32 a1)) ≠ 0 then some (0, H)
  else some (1, H)) : RO) = some (rr, HH) := h
      refine pw_lload_n (pc := 78) F dX5_takes_78 rfl ?_
      refine pw_lload_n (pc := 79) F dX5_takes_79 rfl ?_
      refine pw_l2i (pc := 80) F dX5_takes_80 ?_
      refine pw_i2l (pc := 81) F dX5_takes_81 ?_
      refine pw_lcmp (pc := 82) F dX5_takes_82 ?_
      refine pw_if_ne (pc := 83) F 90 dX5_takes_83 (by decide) (fun hc => ?_) (fun hc => ?_)
      · have h := iteT hc h
        refine pw_iconst (pc := 90) F 0 dX5_takes_90 (by decide) ?_
        cases h
        exact pw_zret (pc := 91) F q (by decide) dX5_takes_91
      · have h := iteF hc h
        refine pw_iconst (pc := 86) F 1 dX5_takes_86 (by decide) ?_
        refine pw_goto (pc := 87) F 91 dX5_takes_87 (by decide) ?_
        cases h
        exact pw_zret (pc := 91) F q (by decide) dX5_takes_91
    | 3, ht, h =>
      obtain rfl : 92 = t := Option.some.inj ht
      have h : ((if (lc a1 (-1000000000000000)) < 0 then some (0, H)
  else (if (lc a1 1000000000000000) > 0 then some (0, H)
  else some (1, H))) : RO) = some (rr, HH) := h
      refine pw_lload_n (pc := 92) F dX5_takes_92 rfl ?_
      refine pw_ldc2 (pc := 93) F (-1000000000000000) g_36 dX5_takes_93 (by decide) ?_
      refine pw_lcmp (pc := 96) F dX5_takes_96 ?_
      refine pw_if_lt (pc := 97) F 112 dX5_takes_97 (by decide) (fun hc => ?_) (fun hc => ?_)
      · have h := iteT hc h
        refine pw_iconst (pc := 112) F 0 dX5_takes_112 (by decide) ?_
        cases h
        exact pw_zret (pc := 113) F q (by decide) dX5_takes_113
      · have h := iteF hc h
        refine pw_lload_n (pc := 100) F dX5_takes_100 rfl ?_
        refine pw_ldc2 (pc := 101) F 1000000000000000 g_37 dX5_takes_101 (by decide) ?_
        refine pw_lcmp (pc := 104) F dX5_takes_104 ?_
        refine pw_if_gt (pc := 105) F 112 dX5_takes_105 (by decide) (fun hc => ?_) (fun hc => ?_)
        · have h := iteT hc h
          refine pw_iconst (pc := 112) F 0 dX5_takes_112 (by decide) ?_
          cases h
          exact pw_zret (pc := 113) F q (by decide) dX5_takes_113
        · have h := iteF hc h
          refine pw_iconst (pc := 108) F 1 dX5_takes_108 (by decide) ?_
          refine pw_goto (pc := 109) F 113 dX5_takes_109 (by decide) ?_
          cases h
          exact pw_zret (pc := 113) F q (by decide) dX5_takes_113
    | 4, ht, h =>
      obtain rfl : 114 = t := Option.some.inj ht
      have h : ((if (lc a1 (-30000)) < 0 then some (0, H)
  else (if (lc a1 30000) > 0 then some (0, H)
  else some (1, H))) : RO) = some (rr, HH) := h
      refine pw_lload_n (pc := 114) F dX5_takes_114 rfl ?_
      refine pw_ldc2 (pc := 115) F (-30000) g_38 dX5_takes_115 (by decide) ?_
      refine pw_lcmp (pc := 118) F dX5_takes_118 ?_
      refine pw_if_lt (pc := 119) F 134 dX5_takes_119 (by decide) (fun hc => ?_) (fun hc => ?_)
      · have h := iteT hc h
        refine pw_iconst (pc := 134) F 0 dX5_takes_134 (by decide) ?_
        cases h
        exact pw_zret (pc := 135) F q (by decide) dX5_takes_135
      · have h := iteF hc h
        refine pw_lload_n (pc := 122) F dX5_takes_122 rfl ?_
        refine pw_ldc2 (pc := 123) F 30000 g_39 dX5_takes_123 (by decide) ?_
        refine pw_lcmp (pc := 126) F dX5_takes_126 ?_
        refine pw_if_gt (pc := 127) F 134 dX5_takes_127 (by decide) (fun hc => ?_) (fun hc => ?_)
        · have h := iteT hc h
          refine pw_iconst (pc := 134) F 0 dX5_takes_134 (by decide) ?_
          cases h
          exact pw_zret (pc := 135) F q (by decide) dX5_takes_135
        · have h := iteF hc h
          refine pw_iconst (pc := 130) F 1 dX5_takes_130 (by decide) ?_
          refine pw_goto (pc := 131) F 135 dX5_takes_131 (by decide) ?_
          cases h
          exact pw_zret (pc := 135) F q (by decide) dX5_takes_135
    | i + 5, ht, h => simp at ht
/-! HouseholdVaultModel.codeNumber(IJ)I -/
theorem dX9_codeNumber_0 : decode cX9_codeNumber 0 = .ok (.iconst (-1), 1) := by decide +kernel
theorem dX9_codeNumber_1 : decode cX9_codeNumber 1 = .ok (.istore 4, 2) := by decide +kernel
theorem dX9_codeNumber_3 : decode cX9_codeNumber 3 = .ok (.iconst 0, 1) := by decide +kernel
theorem dX9_codeNumber_4 : decode cX9_codeNumber 4 = .ok (.istore 5, 2) := by decide +kernel
theorem dX9_codeNumber_6 : decode cX9_codeNumber 6 = .ok (.iload 5, 2) := by decide +kernel
theorem dX9_codeNumber_8 : decode cX9_codeNumber 8 = .ok (.aload_n 0, 1) := by decide +kernel
theorem dX9_codeNumber_9 : decode cX9_codeNumber 9 = .ok (.getfield 35, 3) := by decide +kernel
theorem dX9_codeNumber_12 : decode cX9_codeNumber 12 = .ok (.iload_n 1, 1) := by decide +kernel
theorem dX9_codeNumber_13 : decode cX9_codeNumber 13 = .ok (.iaload, 1) := by decide +kernel
theorem dX9_codeNumber_14 : decode cX9_codeNumber 14 = .ok (.if_icmp .ge 36, 3) := by decide +kernel
theorem dX9_codeNumber_17 : decode cX9_codeNumber 17 = .ok (.aload_n 0, 1) := by decide +kernel
theorem dX9_codeNumber_18 : decode cX9_codeNumber 18 = .ok (.getfield 32, 3) := by decide +kernel
theorem dX9_codeNumber_21 : decode cX9_codeNumber 21 = .ok (.bipush 8, 2) := by decide +kernel
theorem dX9_codeNumber_23 : decode cX9_codeNumber 23 = .ok (.iload_n 1, 1) := by decide +kernel
theorem dX9_codeNumber_24 : decode cX9_codeNumber 24 = .ok (.imul, 1) := by decide +kernel
theorem dX9_codeNumber_25 : decode cX9_codeNumber 25 = .ok (.iload 5, 2) := by decide +kernel
theorem dX9_codeNumber_27 : decode cX9_codeNumber 27 = .ok (.iadd, 1) := by decide +kernel
theorem dX9_codeNumber_28 : decode cX9_codeNumber 28 = .ok (.iaload, 1) := by decide +kernel
theorem dX9_codeNumber_29 : decode cX9_codeNumber 29 = .ok (.i2l, 1) := by decide +kernel
theorem dX9_codeNumber_30 : decode cX9_codeNumber 30 = .ok (.lload_n 2, 1) := by decide +kernel
theorem dX9_codeNumber_31 : decode cX9_codeNumber 31 = .ok (.lcmp, 1) := by decide +kernel
theorem dX9_codeNumber_32 : decode cX9_codeNumber 32 = .ok (.ifCond .ne 8, 3) := by decide +kernel
theorem dX9_codeNumber_35 : decode cX9_codeNumber 35 = .ok (.iload 5, 2) := by decide +kernel
theorem dX9_codeNumber_37 : decode cX9_codeNumber 37 = .ok (.goto 5, 3) := by decide +kernel
theorem dX9_codeNumber_40 : decode cX9_codeNumber 40 = .ok (.iload 4, 2) := by decide +kernel
theorem dX9_codeNumber_42 : decode cX9_codeNumber 42 = .ok (.istore 4, 2) := by decide +kernel
theorem dX9_codeNumber_44 : decode cX9_codeNumber 44 = .ok (.iinc 5 1, 3) := by decide +kernel
theorem dX9_codeNumber_47 : decode cX9_codeNumber 47 = .ok (.goto (-41), 3) := by decide +kernel
theorem dX9_codeNumber_50 : decode cX9_codeNumber 50 = .ok (.iload 4, 2) := by decide +kernel
theorem dX9_codeNumber_52 : decode cX9_codeNumber 52 = .ok (.ireturn, 1) := by decide +kernel
def jX9_codeNumber_42 (self6 : Int → Int → PH → RO) (p0 p1 p2 p5 s0 : Int) (H : PH) : RO :=
  self6 s0 (w32 (p5 + 1)) H
set_option maxHeartbeats 4000000 in
theorem jX9_codeNumber_42_ok {E : PE} {rr : Int} {HH : PH} (F : FX E cX9_codeNumber RX9) (q : QE E (some (vi rr)) HH (some .int)) (hn : nLof E = 6) (hf : (roomOf E).frames = 0) (hl : (roomOf E).locals = 0) (self6 : Int → Int → PH → RO) (p0 p1 p2 p5 s0 : Int) (H : PH) (ih6 : ∀ (v4 v5 : Int) (HV : PH), self6 v4 v5 HV = some (rr, HH) → PW E 6 [some (vr p0), some (vi p1), some (vl p2), none, some (vi v4), some (vi v5)] [] HV) (h : jX9_codeNumber_42 self6 p0 p1 p2 p5 s0 H = some (rr, HH)) : PW E 42 [some (vr p0), some (vi p1), some (vl p2), none, none, some (vi p5)] [vi s0] H := by
  unfold jX9_codeNumber_42 at h
  refine pw_istore (pc := 42) F dX9_codeNumber_42 (lt_nl hn (by decide)) [some (vr p0), some (vi p1), some (vl p2), none, some (vi s0), some (vi p5)] rfl ?_
  refine pw_iinc (pc := 44) F dX9_codeNumber_44 rfl (lt_nl hn (by decide)) [some (vr p0), some (vi p1), some (vl p2), none, some (vi s0), some (vi (w32 (p5 + 1)))] rfl (by decide) ?_
  refine pw_goto (pc := 47) F 6 dX9_codeNumber_47 (by decide) ?_
  exact pw_mask [true, true, true, true, true, true] (ls' := [some (vr p0), some (vi p1), some (vl p2), none, some (vi s0), some (vi (w32 (p5 + 1)))]) rfl (ih6 s0 (w32 (p5 + 1)) H h)
def lX9_codeNumber_6 (p0 p1 p2 : Int) (self6 : Int → Int → PH → RO) (p4 p5 : Int) (H : PH) : RO :=
  (ld 25 H p0 9).bind fun x1 => (ld 0 H x1 p1).bind fun x2 => (if p5 ≥ x2 then some (p4, H)
  else (ld 25 H p0 8).bind fun x3 => (ld 0 H x3 (w32 ((w32 (8 * p1)) + p5))).bind fun x4 => (if (lc x4 p2) ≠ 0 then jX9_codeNumber_42 self6 p0 p1 p2 p5 p4 H
  else jX9_codeNumber_42 self6 p0 p1 p2 p5 p5 H))
set_option maxHeartbeats 4000000 in
theorem lX9_codeNumber_6_ok {E : PE} {rr : Int} {HH : PH} (F : FX E cX9_codeNumber RX9) (q : QE E (some (vi rr)) HH (some .int)) (hn : nLof E = 6) (hf : (roomOf E).frames = 0) (hl : (roomOf E).locals = 0) (p0 p1 p2 : Int) : ∀ (n : Nat) (p4 p5 : Int) (H : PH), lq2 (lX9_codeNumber_6 p0 p1 p2) n p4 p5 H = some (rr, HH) → PW E 6 [some (vr p0), some (vi p1), some (vl p2), none, some (vi p4), some (vi p5)] [] H := by
  refine lq2_ind (P := fun p4 p5 H => PW E 6 [some (vr p0), some (vi p1), some (vl p2), none, some (vi p4), some (vi p5)] [] H) ?_
  intro self6 ih6 p4 p5 H h
  unfold lX9_codeNumber_6 at h
  refine pw_iload (pc := 6) F dX9_codeNumber_6 rfl ?_
  refine pw_aload_n (pc := 8) F dX9_codeNumber_8 rfl ?_
  obtain ⟨x1, ex1, h⟩ := bnd h
  refine pw_get (pc := 9) F 9 9 35 (by decide) (by decide) g_40 inl_9 2 rfl dX9_codeNumber_9 ex1 ?_
  refine pw_iload_n (pc := 12) F dX9_codeNumber_12 rfl ?_
  obtain ⟨x2, ex2, h⟩ := bnd h
  refine pw_iald (pc := 13) F dX9_codeNumber_13 ex2 ?_
  refine pw_icmp_ge (pc := 14) F 50 dX9_codeNumber_14 (by decide) (fun hc => ?_) (fun hc => ?_)
  · have h := iteT hc h
    refine pw_iload (pc := 50) F dX9_codeNumber_50 rfl ?_
    cases h
    exact pw_iret (pc := 52) F q dX9_codeNumber_52
  · have h := iteF hc h
    refine pw_aload_n (pc := 17) F dX9_codeNumber_17 rfl ?_
    obtain ⟨x3, ex3, h⟩ := bnd h
    refine pw_get (pc := 18) F 9 8 32 (by decide) (by decide) g_41 inl_9 2 rfl dX9_codeNumber_18 ex3 ?_
    refine pw_bipush (pc := 21) F 8 dX9_codeNumber_21 (by decide) ?_
    refine pw_iload_n (pc := 23) F dX9_codeNumber_23 rfl ?_
    refine pw_imul (pc := 24) F dX9_codeNumber_24 ?_
    refine pw_iload (pc := 25) F dX9_codeNumber_25 rfl ?_
    refine pw_iadd (pc := 27) F dX9_codeNumber_27 ?_
    obtain ⟨x4, ex4, h⟩ := bnd h
    refine pw_iald (pc := 28) F dX9_codeNumber_28 ex4 ?_
    refine pw_i2l (pc := 29) F dX9_codeNumber_29 ?_
    refine pw_lload_n (pc := 30) F dX9_codeNumber_30 rfl ?_
    refine pw_lcmp (pc := 31) F dX9_codeNumber_31 ?_
    refine pw_if_ne (pc := 32) F 40 dX9_codeNumber_32 (by decide) (fun hc => ?_) (fun hc => ?_)
    · have h := iteT hc h
      refine pw_iload (pc := 40) F dX9_codeNumber_40 rfl ?_
      exact pw_mask [true, true, true, true, false, true] (ls' := [some (vr p0), some (vi p1), some (vl p2), none, none, some (vi p5)]) rfl (jX9_codeNumber_42_ok F q hn hf hl self6 p0 p1 p2 p5 p4 H ih6 h)
    · have h := iteF hc h
      refine pw_iload (pc := 35) F dX9_codeNumber_35 rfl ?_
      refine pw_goto (pc := 37) F 42 dX9_codeNumber_37 (by decide) ?_
      exact pw_mask [true, true, true, true, false, true] (ls' := [some (vr p0), some (vi p1), some (vl p2), none, none, some (vi p5)]) rfl (jX9_codeNumber_42_ok F q hn hf hl self6 p0 p1 p2 p5 p5 H ih6 h)
def f_X9_codeNumber (a0 a1 a2 : Int) (H : PH) : RO := vm 9 a0 H <|
  lq2 (lX9_codeNumber_6 a0 a1 a2) 6000 (-1) 0 H
set_option maxHeartbeats 4000000 in
theorem m_X9_codeNumber (l : Launch) (a0 a1 a2 : Int) (H : PH) (rr : Int) (HH : PH) (h : f_X9_codeNumber a0 a1 a2 H = some (rr, HH)) : CT l yX9_codeNumber cX9_codeNumber 6 (some .int) 0 0 [vr a0, vi a1, vl a2] H (some (vi rr)) HH := by
  refine CT.of RX9 (by decide) rfl [some (vr a0), some (vi a1), some (vl a2), none, none, none] rfl rfl ?_
  intro E F q hn hf hl hm
  unfold f_X9_codeNumber at h
  obtain ⟨hv, h⟩ := vm_spec h
  refine pw_iconst (pc := 0) F (-1) dX9_codeNumber_0 (by decide) ?_
  refine pw_istore (pc := 1) F dX9_codeNumber_1 (lt_nl hn (by decide)) [some (vr a0), some (vi a1), some (vl a2), none, some (vi (-1)), none] rfl ?_
  refine pw_iconst (pc := 3) F 0 dX9_codeNumber_3 (by decide) ?_
  refine pw_istore (pc := 4) F dX9_codeNumber_4 (lt_nl hn (by decide)) [some (vr a0), some (vi a1), some (vl a2), none, some (vi (-1)), some (vi 0)] rfl ?_
  exact pw_mask [true, true, true, true, true, true] (ls' := [some (vr a0), some (vi a1), some (vl a2), none, some (vi (-1)), some (vi 0)]) rfl (lX9_codeNumber_6_ok F q hn hf hl a0 a1 a2  6000 (-1) 0 H h)
/-! HouseholdVault$Condition.fits(JIZ)Z -/
theorem dX0_fits_0 : decode cX0_fits 0 = .ok (.aload_n 0, 1) := by decide +kernel
theorem dX0_fits_1 : decode cX0_fits 1 = .ok (.getfield 9, 3) := by decide +kernel
theorem dX0_fits_4 : decode cX0_fits 4 = .ok (.iconst 3, 1) := by decide +kernel
theorem dX0_fits_5 : decode cX0_fits 5 = .ok (.if_icmp .ne 13, 3) := by decide +kernel
theorem dX0_fits_8 : decode cX0_fits 8 = .ok (.iload_n 3, 1) := by decide +kernel
theorem dX0_fits_9 : decode cX0_fits 9 = .ok (.ifCond .eq 7, 3) := by decide +kernel
theorem dX0_fits_12 : decode cX0_fits 12 = .ok (.iconst 1, 1) := by decide +kernel
theorem dX0_fits_13 : decode cX0_fits 13 = .ok (.goto 4, 3) := by decide +kernel
theorem dX0_fits_16 : decode cX0_fits 16 = .ok (.iconst 0, 1) := by decide +kernel
theorem dX0_fits_17 : decode cX0_fits 17 = .ok (.ireturn, 1) := by decide +kernel
theorem dX0_fits_18 : decode cX0_fits 18 = .ok (.iload_n 3, 1) := by decide +kernel
theorem dX0_fits_19 : decode cX0_fits 19 = .ok (.ifCond .eq 5, 3) := by decide +kernel
theorem dX0_fits_22 : decode cX0_fits 22 = .ok (.iconst 0, 1) := by decide +kernel
theorem dX0_fits_23 : decode cX0_fits 23 = .ok (.ireturn, 1) := by decide +kernel
theorem dX0_fits_24 : decode cX0_fits 24 = .ok (.aload_n 0, 1) := by decide +kernel
theorem dX0_fits_25 : decode cX0_fits 25 = .ok (.getfield 9, 3) := by decide +kernel
theorem dX0_fits_28 : decode cX0_fits 28 = .ok (.iconst 1, 1) := by decide +kernel
theorem dX0_fits_29 : decode cX0_fits 29 = .ok (.if_icmp .ne 18, 3) := by decide +kernel
theorem dX0_fits_32 : decode cX0_fits 32 = .ok (.lload_n 1, 1) := by decide +kernel
theorem dX0_fits_33 : decode cX0_fits 33 = .ok (.aload_n 0, 1) := by decide +kernel
theorem dX0_fits_34 : decode cX0_fits 34 = .ok (.getfield 21, 3) := by decide +kernel
theorem dX0_fits_37 : decode cX0_fits 37 = .ok (.lcmp, 1) := by decide +kernel
theorem dX0_fits_38 : decode cX0_fits 38 = .ok (.ifCond .ge 7, 3) := by decide +kernel
theorem dX0_fits_41 : decode cX0_fits 41 = .ok (.iconst 1, 1) := by decide +kernel
theorem dX0_fits_42 : decode cX0_fits 42 = .ok (.goto 4, 3) := by decide +kernel
theorem dX0_fits_45 : decode cX0_fits 45 = .ok (.iconst 0, 1) := by decide +kernel
theorem dX0_fits_46 : decode cX0_fits 46 = .ok (.ireturn, 1) := by decide +kernel
theorem dX0_fits_47 : decode cX0_fits 47 = .ok (.aload_n 0, 1) := by decide +kernel
theorem dX0_fits_48 : decode cX0_fits 48 = .ok (.getfield 9, 3) := by decide +kernel
theorem dX0_fits_51 : decode cX0_fits 51 = .ok (.iconst 2, 1) := by decide +kernel
theorem dX0_fits_52 : decode cX0_fits 52 = .ok (.if_icmp .ne 18, 3) := by decide +kernel
theorem dX0_fits_55 : decode cX0_fits 55 = .ok (.lload_n 1, 1) := by decide +kernel
theorem dX0_fits_56 : decode cX0_fits 56 = .ok (.aload_n 0, 1) := by decide +kernel
theorem dX0_fits_57 : decode cX0_fits 57 = .ok (.getfield 21, 3) := by decide +kernel
theorem dX0_fits_60 : decode cX0_fits 60 = .ok (.lcmp, 1) := by decide +kernel
theorem dX0_fits_61 : decode cX0_fits 61 = .ok (.ifCond .le 7, 3) := by decide +kernel
theorem dX0_fits_64 : decode cX0_fits 64 = .ok (.iconst 1, 1) := by decide +kernel
theorem dX0_fits_65 : decode cX0_fits 65 = .ok (.goto 4, 3) := by decide +kernel
theorem dX0_fits_68 : decode cX0_fits 68 = .ok (.iconst 0, 1) := by decide +kernel
theorem dX0_fits_69 : decode cX0_fits 69 = .ok (.ireturn, 1) := by decide +kernel
theorem dX0_fits_70 : decode cX0_fits 70 = .ok (.iload 4, 2) := by decide +kernel
theorem dX0_fits_72 : decode cX0_fits 72 = .ok (.ifCond .eq 25, 3) := by decide +kernel
theorem dX0_fits_75 : decode cX0_fits 75 = .ok (.lload_n 1, 1) := by decide +kernel
theorem dX0_fits_76 : decode cX0_fits 76 = .ok (.aload_n 0, 1) := by decide +kernel
theorem dX0_fits_77 : decode cX0_fits 77 = .ok (.getfield 21, 3) := by decide +kernel
theorem dX0_fits_80 : decode cX0_fits 80 = .ok (.l2i, 1) := by decide +kernel
theorem dX0_fits_81 : decode cX0_fits 81 = .ok (.lshr, 1) := by decide +kernel
theorem dX0_fits_82 : decode cX0_fits 82 = .ok (.lconst 1, 1) := by decide +kernel
theorem dX0_fits_83 : decode cX0_fits 83 = .ok (.land, 1) := by decide +kernel
theorem dX0_fits_84 : decode cX0_fits 84 = .ok (.lconst 0, 1) := by decide +kernel
theorem dX0_fits_85 : decode cX0_fits 85 = .ok (.lcmp, 1) := by decide +kernel
theorem dX0_fits_86 : decode cX0_fits 86 = .ok (.ifCond .eq 7, 3) := by decide +kernel
theorem dX0_fits_89 : decode cX0_fits 89 = .ok (.iconst 1, 1) := by decide +kernel
theorem dX0_fits_90 : decode cX0_fits 90 = .ok (.goto 21, 3) := by decide +kernel
theorem dX0_fits_93 : decode cX0_fits 93 = .ok (.iconst 0, 1) := by decide +kernel
theorem dX0_fits_94 : decode cX0_fits 94 = .ok (.goto 17, 3) := by decide +kernel
theorem dX0_fits_97 : decode cX0_fits 97 = .ok (.lload_n 1, 1) := by decide +kernel
theorem dX0_fits_98 : decode cX0_fits 98 = .ok (.aload_n 0, 1) := by decide +kernel
theorem dX0_fits_99 : decode cX0_fits 99 = .ok (.getfield 21, 3) := by decide +kernel
theorem dX0_fits_102 : decode cX0_fits 102 = .ok (.lcmp, 1) := by decide +kernel
theorem dX0_fits_103 : decode cX0_fits 103 = .ok (.ifCond .ne 7, 3) := by decide +kernel
theorem dX0_fits_106 : decode cX0_fits 106 = .ok (.iconst 1, 1) := by decide +kernel
theorem dX0_fits_107 : decode cX0_fits 107 = .ok (.goto 4, 3) := by decide +kernel
theorem dX0_fits_110 : decode cX0_fits 110 = .ok (.iconst 0, 1) := by decide +kernel
theorem dX0_fits_111 : decode cX0_fits 111 = .ok (.ireturn, 1) := by decide +kernel
def f_X0_fits (a0 a1 a2 a3 : Int) (H : PH) : RO := vm 0 a0 H <|
  (ld 16 H a0 0).bind fun x1 => (if x1 ≠ 3 then (if a2 = 0 then (ld 16 H a0 0).bind fun x2 => (if x2 ≠ 1 then (ld 16 H a0 0).bind fun x3 => (if x3 ≠ 2 then (if a3 = 0 then (ld 16 H a0 3).bind fun x4 => (if (lc a1 x4) ≠ 0 then some (0, H)
  else some (1, H))
  else (ld 16 H a0 3).bind fun x5 => (if (lc (l_and (l_shr a1 (w32 x5)) 1) 0) = 0 then some (0, H)
  else some (1, H)))
  else (ld 16 H a0 3).bind fun x6 => (if (lc a1 x6) ≤ 0 then some (0, H)
  else some (1, H)))
  else (ld 16 H a0 3).bind fun x7 => (if (lc a1 x7) ≥ 0 then some (0, H)
  else some (1, H)))
  else some (0, H))
  else (if a2 = 0 then some (0, H)
  else some (1, H)))
set_option maxHeartbeats 4000000 in
theorem m_X0_fits (l : Launch) (a0 a1 a2 a3 : Int) (H : PH) (rr : Int) (HH : PH) (h : f_X0_fits a0 a1 a2 a3 H = some (rr, HH)) : CT l yX0_fits cX0_fits 5 (some .boolean) 0 0 [vr a0, vl a1, vi a2, vi a3] H (some (vi rr)) HH := by
  refine CT.of RX0 (by decide) rfl [some (vr a0), some (vl a1), none, some (vi a2), some (vi a3)] rfl rfl ?_
  intro E F q hn hf hl hm
  unfold f_X0_fits at h
  obtain ⟨hv, h⟩ := vm_spec h
  refine pw_aload_n (pc := 0) F dX0_fits_0 rfl ?_
  obtain ⟨x1, ex1, h⟩ := bnd h
  refine pw_get (pc := 1) F 0 0 9 (by decide) (by decide) g_42 inl_0 0 rfl dX0_fits_1 ex1 ?_
  refine pw_iconst (pc := 4) F 3 dX0_fits_4 (by decide) ?_
  refine pw_icmp_ne (pc := 5) F 18 dX0_fits_5 (by decide) (fun hc => ?_) (fun hc => ?_)
  · have h := iteT hc h
    refine pw_iload_n (pc := 18) F dX0_fits_18 rfl ?_
    refine pw_if_eq (pc := 19) F 24 dX0_fits_19 (by decide) (fun hc => ?_) (fun hc => ?_)
    · have h := iteT hc h
      refine pw_aload_n (pc := 24) F dX0_fits_24 rfl ?_
      obtain ⟨x2, ex2, h⟩ := bnd h
      refine pw_get (pc := 25) F 0 0 9 (by decide) (by decide) g_42 inl_0 0 rfl dX0_fits_25 ex2 ?_
      refine pw_iconst (pc := 28) F 1 dX0_fits_28 (by decide) ?_
      refine pw_icmp_ne (pc := 29) F 47 dX0_fits_29 (by decide) (fun hc => ?_) (fun hc => ?_)
      · have h := iteT hc h
        refine pw_aload_n (pc := 47) F dX0_fits_47 rfl ?_
        obtain ⟨x3, ex3, h⟩ := bnd h
        refine pw_get (pc := 48) F 0 0 9 (by decide) (by decide) g_42 inl_0 0 rfl dX0_fits_48 ex3 ?_
        refine pw_iconst (pc := 51) F 2 dX0_fits_51 (by decide) ?_
        refine pw_icmp_ne (pc := 52) F 70 dX0_fits_52 (by decide) (fun hc => ?_) (fun hc => ?_)
        · have h := iteT hc h
          refine pw_iload (pc := 70) F dX0_fits_70 rfl ?_
          refine pw_if_eq (pc := 72) F 97 dX0_fits_72 (by decide) (fun hc => ?_) (fun hc => ?_)
          · have h := iteT hc h
            refine pw_lload_n (pc := 97) F dX0_fits_97 rfl ?_
            refine pw_aload_n (pc := 98) F dX0_fits_98 rfl ?_
            obtain ⟨x4, ex4, h⟩ := bnd h
            refine pw_get (pc := 99) F 0 3 21 (by decide) (by decide) g_43 inl_0 1 rfl dX0_fits_99 ex4 ?_
            refine pw_lcmp (pc := 102) F dX0_fits_102 ?_
            refine pw_if_ne (pc := 103) F 110 dX0_fits_103 (by decide) (fun hc => ?_) (fun hc => ?_)
            · have h := iteT hc h
              refine pw_iconst (pc := 110) F 0 dX0_fits_110 (by decide) ?_
              cases h
              exact pw_zret (pc := 111) F q (by decide) dX0_fits_111
            · have h := iteF hc h
              refine pw_iconst (pc := 106) F 1 dX0_fits_106 (by decide) ?_
              refine pw_goto (pc := 107) F 111 dX0_fits_107 (by decide) ?_
              cases h
              exact pw_zret (pc := 111) F q (by decide) dX0_fits_111
          · have h := iteF hc h
            refine pw_lload_n (pc := 75) F dX0_fits_75 rfl ?_
            refine pw_aload_n (pc := 76) F dX0_fits_76 rfl ?_
            obtain ⟨x5, ex5, h⟩ := bnd h
            refine pw_get (pc := 77) F 0 3 21 (by decide) (by decide) g_43 inl_0 1 rfl dX0_fits_77 ex5 ?_
            refine pw_l2i (pc := 80) F dX0_fits_80 ?_
            refine pw_lshr (pc := 81) F dX0_fits_81 ?_
            refine pw_lconst (pc := 82) F 1 dX0_fits_82 (by decide) ?_
            refine pw_land (pc := 83) F dX0_fits_83 ?_
            refine pw_lconst (pc := 84) F 0 dX0_fits_84 (by decide) ?_
            refine pw_lcmp (pc := 85) F dX0_fits_85 ?_
            refine pw_if_eq (pc := 86) F 93 dX0_fits_86 (by decide) (fun hc => ?_) (fun hc => ?_)
            · have h := iteT hc h
              refine pw_iconst (pc := 93) F 0 dX0_fits_93 (by decide) ?_
              refine pw_goto (pc := 94) F 111 dX0_fits_94 (by decide) ?_
              cases h
              exact pw_zret (pc := 111) F q (by decide) dX0_fits_111
            · have h := iteF hc h
              refine pw_iconst (pc := 89) F 1 dX0_fits_89 (by decide) ?_
              refine pw_goto (pc := 90) F 111 dX0_fits_90 (by decide) ?_
              cases h
              exact pw_zret (pc := 111) F q (by decide) dX0_fits_111
        · have h := iteF hc h
          refine pw_lload_n (pc := 55) F dX0_fits_55 rfl ?_
          refine pw_aload_n (pc := 56) F dX0_fits_56 rfl ?_
          obtain ⟨x6, ex6, h⟩ := bnd h
          refine pw_get (pc := 57) F 0 3 21 (by decide) (by decide) g_43 inl_0 1 rfl dX0_fits_57 ex6 ?_
          refine pw_lcmp (pc := 60) F dX0_fits_60 ?_
          refine pw_if_le (pc := 61) F 68 dX0_fits_61 (by decide) (fun hc => ?_) (fun hc => ?_)
          · have h := iteT hc h
            refine pw_iconst (pc := 68) F 0 dX0_fits_68 (by decide) ?_
            cases h
            exact pw_zret (pc := 69) F q (by decide) dX0_fits_69
          · have h := iteF hc h
            refine pw_iconst (pc := 64) F 1 dX0_fits_64 (by decide) ?_
            refine pw_goto (pc := 65) F 69 dX0_fits_65 (by decide) ?_
            cases h
            exact pw_zret (pc := 69) F q (by decide) dX0_fits_69
      · have h := iteF hc h
        refine pw_lload_n (pc := 32) F dX0_fits_32 rfl ?_
        refine pw_aload_n (pc := 33) F dX0_fits_33 rfl ?_
        obtain ⟨x7, ex7, h⟩ := bnd h
        refine pw_get (pc := 34) F 0 3 21 (by decide) (by decide) g_43 inl_0 1 rfl dX0_fits_34 ex7 ?_
        refine pw_lcmp (pc := 37) F dX0_fits_37 ?_
        refine pw_if_ge (pc := 38) F 45 dX0_fits_38 (by decide) (fun hc => ?_) (fun hc => ?_)
        · have h := iteT hc h
          refine pw_iconst (pc := 45) F 0 dX0_fits_45 (by decide) ?_
          cases h
          exact pw_zret (pc := 46) F q (by decide) dX0_fits_46
        · have h := iteF hc h
          refine pw_iconst (pc := 41) F 1 dX0_fits_41 (by decide) ?_
          refine pw_goto (pc := 42) F 46 dX0_fits_42 (by decide) ?_
          cases h
          exact pw_zret (pc := 46) F q (by decide) dX0_fits_46
    · have h := iteF hc h
      refine pw_iconst (pc := 22) F 0 dX0_fits_22 (by decide) ?_
      cases h
      exact pw_zret (pc := 23) F q (by decide) dX0_fits_23
  · have h := iteF hc h
    refine pw_iload_n (pc := 8) F dX0_fits_8 rfl ?_
    refine pw_if_eq (pc := 9) F 16 dX0_fits_9 (by decide) (fun hc => ?_) (fun hc => ?_)
    · have h := iteT hc h
      refine pw_iconst (pc := 16) F 0 dX0_fits_16 (by decide) ?_
      cases h
      exact pw_zret (pc := 17) F q (by decide) dX0_fits_17
    · have h := iteF hc h
      refine pw_iconst (pc := 12) F 1 dX0_fits_12 (by decide) ?_
      refine pw_goto (pc := 13) F 17 dX0_fits_13 (by decide) ?_
      cases h
      exact pw_zret (pc := 17) F q (by decide) dX0_fits_17
/-! HouseholdVault$Sheet.persons(I)I -/
theorem dX6_persons_0 : decode cX6_persons 0 = .ok (.aload_n 0, 1) := by decide +kernel
theorem dX6_persons_1 : decode cX6_persons 1 = .ok (.getfield 9, 3) := by decide +kernel
theorem dX6_persons_4 : decode cX6_persons 4 = .ok (.iload_n 1, 1) := by decide +kernel
theorem dX6_persons_5 : decode cX6_persons 5 = .ok (.iconst (-1), 1) := by decide +kernel
theorem dX6_persons_6 : decode cX6_persons 6 = .ok (.invokestatic 41, 3) := by decide +kernel
theorem dX6_persons_9 : decode cX6_persons 9 = .ok (.laload, 1) := by decide +kernel
theorem dX6_persons_10 : decode cX6_persons 10 = .ok (.l2i, 1) := by decide +kernel
theorem dX6_persons_11 : decode cX6_persons 11 = .ok (.ireturn, 1) := by decide +kernel
def f_X6_persons (a0 a1 : Int) (H : PH) : RO := vm 6 a0 H <|
  (ld 22 H a0 0).bind fun x1 => (f_X8_spot a1 (-1) H).bind fun z2 => (ld 1 z2.2 x1 z2.1).bind fun x3 => some ((w32 x3), z2.2)
set_option maxHeartbeats 4000000 in
theorem m_X6_persons (l : Launch) (a0 a1 : Int) (H : PH) (rr : Int) (HH : PH) (h : f_X6_persons a0 a1 H = some (rr, HH)) : CT l yX6_persons cX6_persons 2 (some .int) 2 42 [vr a0, vi a1] H (some (vi rr)) HH := by
  refine CT.of RX6 (by decide) rfl [some (vr a0), some (vi a1)] rfl rfl ?_
  intro E F q hn hf hl hm
  unfold f_X6_persons at h
  obtain ⟨hv, h⟩ := vm_spec h
  refine pw_aload_n (pc := 0) F dX6_persons_0 rfl ?_
  obtain ⟨x1, ex1, h⟩ := bnd h
  refine pw_get (pc := 1) F 6 0 9 (by decide) (by decide) g_44 inl_6 2 rfl dX6_persons_1 ex1 ?_
  refine pw_iload_n (pc := 4) F dX6_persons_4 rfl ?_
  refine pw_iconst (pc := 5) F (-1) dX6_persons_5 (by decide) ?_
  obtain ⟨z2, ez2, h⟩ := bnd h
  refine pw_callSN (pc := 6) (as := [vi a1, vi (-1)]) (st := [vr x1]) (r := (some (vi z2.1))) F 41 RX8 (fun l => m_X8_spot l a1 (-1) H z2.1 z2.2 ez2) (fun _ _ _ h => h.2.2.2.2.2.2.1) g_47 g_46 g_45 hd_X8_spot (rm_ok hf hl (by decide) (by decide)) rfl dX6_persons_6 rfl (stk' := [vi z2.1, vr x1]) rfl ?_
  obtain ⟨x3, ex3, h⟩ := bnd h
  refine pw_lald (pc := 9) F dX6_persons_9 ex3 ?_
  refine pw_l2i (pc := 10) F dX6_persons_10 ?_
  cases h
  exact pw_iret (pc := 11) F q dX6_persons_11
/-! HouseholdVault.placesOf(LHouseholdVault$Sheet;I)I -/
theorem dX8_placesOf_0 : decode cX8_placesOf 0 = .ok (.iload_n 1, 1) := by decide +kernel
theorem dX8_placesOf_1 : decode cX8_placesOf 1 = .ok (.iconst (-1), 1) := by decide +kernel
theorem dX8_placesOf_2 : decode cX8_placesOf 2 = .ok (.if_icmp .ne 7, 3) := by decide +kernel
theorem dX8_placesOf_5 : decode cX8_placesOf 5 = .ok (.iconst 1, 1) := by decide +kernel
theorem dX8_placesOf_6 : decode cX8_placesOf 6 = .ok (.goto 8, 3) := by decide +kernel
theorem dX8_placesOf_9 : decode cX8_placesOf 9 = .ok (.aload_n 0, 1) := by decide +kernel
theorem dX8_placesOf_10 : decode cX8_placesOf 10 = .ok (.iload_n 1, 1) := by decide +kernel
theorem dX8_placesOf_11 : decode cX8_placesOf 11 = .ok (.invokevirtual 188, 3) := by decide +kernel
theorem dX8_placesOf_14 : decode cX8_placesOf 14 = .ok (.ireturn, 1) := by decide +kernel
def f_X8_placesOf (a0 a1 : Int) (H : PH) : RO :=
  (if a1 ≠ (-1) then (f_X6_persons a0 a1 H).bind fun z1 => some (z1.1, z1.2)
  else some (1, H))
set_option maxHeartbeats 4000000 in
theorem m_X8_placesOf (l : Launch) (a0 a1 : Int) (H : PH) (rr : Int) (HH : PH) (h : f_X8_placesOf a0 a1 H = some (rr, HH)) : CT l yX8_placesOf cX8_placesOf 2 (some .int) 3 63 [vr a0, vi a1] H (some (vi rr)) HH := by
  refine CT.of RX8 (by decide) rfl [some (vr a0), some (vi a1)] rfl rfl ?_
  intro E F q hn hf hl hm
  unfold f_X8_placesOf at h
  refine pw_iload_n (pc := 0) F dX8_placesOf_0 rfl ?_
  refine pw_iconst (pc := 1) F (-1) dX8_placesOf_1 (by decide) ?_
  refine pw_icmp_ne (pc := 2) F 9 dX8_placesOf_2 (by decide) (fun hc => ?_) (fun hc => ?_)
  · have h := iteT hc h
    refine pw_aload_n (pc := 9) F dX8_placesOf_9 rfl ?_
    refine pw_iload_n (pc := 10) F dX8_placesOf_10 rfl ?_
    obtain ⟨z1, ez1, h⟩ := bnd h
    refine pw_callV (pc := 11) (as := [vi a1]) (st := []) (r := (some (vi z1.1))) F 188 6 (by decide) rfl (fun l => m_X6_persons l a0 a1 H z1.1 z1.2 ez1) g_50 g_51 g_52 g_49 g_48 hd_X6_persons (rm_ok hf hl (by decide) (by decide)) rfl (vm_spec ez1).1 dX8_placesOf_11 rfl (stk' := [vi z1.1]) rfl ?_
    cases h
    exact pw_iret (pc := 14) F q dX8_placesOf_14
  · have h := iteF hc h
    refine pw_iconst (pc := 5) F 1 dX8_placesOf_5 (by decide) ?_
    refine pw_goto (pc := 6) F 14 dX8_placesOf_6 (by decide) ?_
    cases h
    exact pw_iret (pc := 14) F q dX8_placesOf_14
/-! HouseholdVault$Question.rowAround(J)I -/
theorem dX5_rowAround_0 : decode cX5_rowAround 0 = .ok (.iconst 0, 1) := by decide +kernel
theorem dX5_rowAround_1 : decode cX5_rowAround 1 = .ok (.istore_n 3, 1) := by decide +kernel
theorem dX5_rowAround_2 : decode cX5_rowAround 2 = .ok (.iload_n 3, 1) := by decide +kernel
theorem dX5_rowAround_3 : decode cX5_rowAround 3 = .ok (.aload_n 0, 1) := by decide +kernel
theorem dX5_rowAround_4 : decode cX5_rowAround 4 = .ok (.getfield 44, 3) := by decide +kernel
theorem dX5_rowAround_7 : decode cX5_rowAround 7 = .ok (.if_icmp .ge 33, 3) := by decide +kernel
theorem dX5_rowAround_10 : decode cX5_rowAround 10 = .ok (.aload_n 0, 1) := by decide +kernel
theorem dX5_rowAround_11 : decode cX5_rowAround 11 = .ok (.getfield 28, 3) := by decide +kernel
theorem dX5_rowAround_14 : decode cX5_rowAround 14 = .ok (.iload_n 3, 1) := by decide +kernel
theorem dX5_rowAround_15 : decode cX5_rowAround 15 = .ok (.laload, 1) := by decide +kernel
theorem dX5_rowAround_16 : decode cX5_rowAround 16 = .ok (.lload_n 1, 1) := by decide +kernel
theorem dX5_rowAround_17 : decode cX5_rowAround 17 = .ok (.lcmp, 1) := by decide +kernel
theorem dX5_rowAround_18 : decode cX5_rowAround 18 = .ok (.ifCond .gt 16, 3) := by decide +kernel
theorem dX5_rowAround_21 : decode cX5_rowAround 21 = .ok (.lload_n 1, 1) := by decide +kernel
theorem dX5_rowAround_22 : decode cX5_rowAround 22 = .ok (.aload_n 0, 1) := by decide +kernel
theorem dX5_rowAround_23 : decode cX5_rowAround 23 = .ok (.getfield 32, 3) := by decide +kernel
theorem dX5_rowAround_26 : decode cX5_rowAround 26 = .ok (.iload_n 3, 1) := by decide +kernel
theorem dX5_rowAround_27 : decode cX5_rowAround 27 = .ok (.laload, 1) := by decide +kernel
theorem dX5_rowAround_28 : decode cX5_rowAround 28 = .ok (.lcmp, 1) := by decide +kernel
theorem dX5_rowAround_29 : decode cX5_rowAround 29 = .ok (.ifCond .gt 5, 3) := by decide +kernel
theorem dX5_rowAround_32 : decode cX5_rowAround 32 = .ok (.iload_n 3, 1) := by decide +kernel
theorem dX5_rowAround_33 : decode cX5_rowAround 33 = .ok (.ireturn, 1) := by decide +kernel
theorem dX5_rowAround_34 : decode cX5_rowAround 34 = .ok (.iinc 3 1, 3) := by decide +kernel
theorem dX5_rowAround_37 : decode cX5_rowAround 37 = .ok (.goto (-35), 3) := by decide +kernel
theorem dX5_rowAround_40 : decode cX5_rowAround 40 = .ok (.iconst (-1), 1) := by decide +kernel
theorem dX5_rowAround_41 : decode cX5_rowAround 41 = .ok (.ireturn, 1) := by decide +kernel
def jX5_rowAround_34 (self2 : Int → PH → RO) (p0 p1 p3 : Int) (H : PH) : RO :=
  self2 (w32 (p3 + 1)) H
set_option maxHeartbeats 4000000 in
theorem jX5_rowAround_34_ok {E : PE} {rr : Int} {HH : PH} (F : FX E cX5_rowAround RX5) (q : QE E (some (vi rr)) HH (some .int)) (hn : nLof E = 4) (hf : (roomOf E).frames = 0) (hl : (roomOf E).locals = 0) (self2 : Int → PH → RO) (p0 p1 p3 : Int) (H : PH) (ih2 : ∀ (v3 : Int) (HV : PH), self2 v3 HV = some (rr, HH) → PW E 2 [some (vr p0), some (vl p1), none, some (vi v3)] [] HV) (h : jX5_rowAround_34 self2 p0 p1 p3 H = some (rr, HH)) : PW E 34 [some (vr p0), some (vl p1), none, some (vi p3)] [] H := by
  unfold jX5_rowAround_34 at h
  refine pw_iinc (pc := 34) F dX5_rowAround_34 rfl (lt_nl hn (by decide)) [some (vr p0), some (vl p1), none, some (vi (w32 (p3 + 1)))] rfl (by decide) ?_
  refine pw_goto (pc := 37) F 2 dX5_rowAround_37 (by decide) ?_
  exact pw_mask [true, true, true, true] (ls' := [some (vr p0), some (vl p1), none, some (vi (w32 (p3 + 1)))]) rfl (ih2 (w32 (p3 + 1)) H h)
def lX5_rowAround_2 (p0 p1 : Int) (self2 : Int → PH → RO) (p3 : Int) (H : PH) : RO :=
  (ld 21 H p0 9).bind fun x1 => (if p3 ≥ x1 then some ((-1), H)
  else (ld 21 H p0 6).bind fun x2 => (ld 1 H x2 p3).bind fun x3 => (if (lc x3 p1) > 0 then jX5_rowAround_34 self2 p0 p1 p3 H
  else (ld 21 H p0 7).bind fun x4 => (ld 1 H x4 p3).bind fun x5 => (if (lc p1 x5) > 0 then jX5_rowAround_34 self2 p0 p1 p3 H
  else some (p3, H))))
set_option maxHeartbeats 4000000 in
theorem lX5_rowAround_2_ok {E : PE} {rr : Int} {HH : PH} (F : FX E cX5_rowAround RX5) (q : QE E (some (vi rr)) HH (some .int)) (hn : nLof E = 4) (hf : (roomOf E).frames = 0) (hl : (roomOf E).locals = 0) (p0 p1 : Int) : ∀ (n : Nat) (p3 : Int) (H : PH), lq1 (lX5_rowAround_2 p0 p1) n p3 H = some (rr, HH) → PW E 2 [some (vr p0), some (vl p1), none, some (vi p3)] [] H := by
  refine lq1_ind (P := fun p3 H => PW E 2 [some (vr p0), some (vl p1), none, some (vi p3)] [] H) ?_
  intro self2 ih2 p3 H h
  unfold lX5_rowAround_2 at h
  refine pw_iload_n (pc := 2) F dX5_rowAround_2 rfl ?_
  refine pw_aload_n (pc := 3) F dX5_rowAround_3 rfl ?_
  obtain ⟨x1, ex1, h⟩ := bnd h
  refine pw_get (pc := 4) F 5 9 44 (by decide) (by decide) g_53 inl_5 0 rfl dX5_rowAround_4 ex1 ?_
  refine pw_icmp_ge (pc := 7) F 40 dX5_rowAround_7 (by decide) (fun hc => ?_) (fun hc => ?_)
  · have h := iteT hc h
    refine pw_iconst (pc := 40) F (-1) dX5_rowAround_40 (by decide) ?_
    cases h
    exact pw_iret (pc := 41) F q dX5_rowAround_41
  · have h := iteF hc h
    refine pw_aload_n (pc := 10) F dX5_rowAround_10 rfl ?_
    obtain ⟨x2, ex2, h⟩ := bnd h
    refine pw_get (pc := 11) F 5 6 28 (by decide) (by decide) g_26 inl_5 2 rfl dX5_rowAround_11 ex2 ?_
    refine pw_iload_n (pc := 14) F dX5_rowAround_14 rfl ?_
    obtain ⟨x3, ex3, h⟩ := bnd h
    refine pw_lald (pc := 15) F dX5_rowAround_15 ex3 ?_
    refine pw_lload_n (pc := 16) F dX5_rowAround_16 rfl ?_
    refine pw_lcmp (pc := 17) F dX5_rowAround_17 ?_
    refine pw_if_gt (pc := 18) F 34 dX5_rowAround_18 (by decide) (fun hc => ?_) (fun hc => ?_)
    · have h := iteT hc h
      exact pw_mask [true, true, true, true] (ls' := [some (vr p0), some (vl p1), none, some (vi p3)]) rfl (jX5_rowAround_34_ok F q hn hf hl self2 p0 p1 p3 H ih2 h)
    · have h := iteF hc h
      refine pw_lload_n (pc := 21) F dX5_rowAround_21 rfl ?_
      refine pw_aload_n (pc := 22) F dX5_rowAround_22 rfl ?_
      obtain ⟨x4, ex4, h⟩ := bnd h
      refine pw_get (pc := 23) F 5 7 32 (by decide) (by decide) g_27 inl_5 2 rfl dX5_rowAround_23 ex4 ?_
      refine pw_iload_n (pc := 26) F dX5_rowAround_26 rfl ?_
      obtain ⟨x5, ex5, h⟩ := bnd h
      refine pw_lald (pc := 27) F dX5_rowAround_27 ex5 ?_
      refine pw_lcmp (pc := 28) F dX5_rowAround_28 ?_
      refine pw_if_gt (pc := 29) F 34 dX5_rowAround_29 (by decide) (fun hc => ?_) (fun hc => ?_)
      · have h := iteT hc h
        exact pw_mask [true, true, true, true] (ls' := [some (vr p0), some (vl p1), none, some (vi p3)]) rfl (jX5_rowAround_34_ok F q hn hf hl self2 p0 p1 p3 H ih2 h)
      · have h := iteF hc h
        refine pw_iload_n (pc := 32) F dX5_rowAround_32 rfl ?_
        cases h
        exact pw_iret (pc := 33) F q dX5_rowAround_33
def f_X5_rowAround (a0 a1 : Int) (H : PH) : RO := vm 5 a0 H <|
  lq1 (lX5_rowAround_2 a0 a1) 6000 0 H
set_option maxHeartbeats 4000000 in
theorem m_X5_rowAround (l : Launch) (a0 a1 : Int) (H : PH) (rr : Int) (HH : PH) (h : f_X5_rowAround a0 a1 H = some (rr, HH)) : CT l yX5_rowAround cX5_rowAround 4 (some .int) 0 0 [vr a0, vl a1] H (some (vi rr)) HH := by
  refine CT.of RX5 (by decide) rfl [some (vr a0), some (vl a1), none, none] rfl rfl ?_
  intro E F q hn hf hl hm
  unfold f_X5_rowAround at h
  obtain ⟨hv, h⟩ := vm_spec h
  refine pw_iconst (pc := 0) F 0 dX5_rowAround_0 (by decide) ?_
  refine pw_istore_n (pc := 1) F dX5_rowAround_1 (lt_nl hn (by decide)) [some (vr a0), some (vl a1), none, some (vi 0)] rfl ?_
  exact pw_mask [true, true, true, true] (ls' := [some (vr a0), some (vl a1), none, some (vi 0)]) rfl (lX5_rowAround_2_ok F q hn hf hl a0 a1  6000 0 H h)
/-! HouseholdVault$Sheet.lack(II)V -/
theorem dX6_lack_0 : decode cX6_lack 0 = .ok (.aload_n 0, 1) := by decide +kernel
theorem dX6_lack_1 : decode cX6_lack 1 = .ok (.getfield 9, 3) := by decide +kernel
theorem dX6_lack_4 : decode cX6_lack 4 = .ok (.iload_n 1, 1) := by decide +kernel
theorem dX6_lack_5 : decode cX6_lack 5 = .ok (.lconst 0, 1) := by decide +kernel
theorem dX6_lack_6 : decode cX6_lack 6 = .ok (.lastore, 1) := by decide +kernel
theorem dX6_lack_7 : decode cX6_lack 7 = .ok (.aload_n 0, 1) := by decide +kernel
theorem dX6_lack_8 : decode cX6_lack 8 = .ok (.getfield 15, 3) := by decide +kernel
theorem dX6_lack_11 : decode cX6_lack 11 = .ok (.iload_n 1, 1) := by decide +kernel
theorem dX6_lack_12 : decode cX6_lack 12 = .ok (.iload_n 2, 1) := by decide +kernel
theorem dX6_lack_13 : decode cX6_lack 13 = .ok (.iastore, 1) := by decide +kernel
theorem dX6_lack_14 : decode cX6_lack 14 = .ok (.return_, 1) := by decide +kernel
def f_X6_lack (a0 a1 a2 : Int) (H : PH) : RO := vm 6 a0 H <|
  (ld 22 H a0 0).bind fun x1 => (stv 1 H x1 a1 0).bind fun H2 => (ld 22 H2 a0 1).bind fun x3 => (stv 0 H2 x3 a1 a2).bind fun H4 => some (0, H4)
set_option maxHeartbeats 4000000 in
theorem m_X6_lack (l : Launch) (a0 a1 a2 : Int) (H : PH) (rr : Int) (HH : PH) (h : f_X6_lack a0 a1 a2 H = some (rr, HH)) : CT l yX6_lack cX6_lack 3 none 0 0 [vr a0, vi a1, vi a2] H none HH := by
  refine CT.of RX6 (by decide) rfl [some (vr a0), some (vi a1), some (vi a2)] rfl rfl ?_
  intro E F q hn hf hl hm
  unfold f_X6_lack at h
  obtain ⟨hv, h⟩ := vm_spec h
  refine pw_aload_n (pc := 0) F dX6_lack_0 rfl ?_
  obtain ⟨x1, ex1, h⟩ := bnd h
  refine pw_get (pc := 1) F 6 0 9 (by decide) (by decide) g_44 inl_6 2 rfl dX6_lack_1 ex1 ?_
  refine pw_iload_n (pc := 4) F dX6_lack_4 rfl ?_
  refine pw_lconst (pc := 5) F 0 dX6_lack_5 (by decide) ?_
  obtain ⟨H2, eH2, h⟩ := bnd h
  refine pw_last (pc := 6) F dX6_lack_6 eH2 ?_
  refine pw_aload_n (pc := 7) F dX6_lack_7 rfl ?_
  obtain ⟨x3, ex3, h⟩ := bnd h
  refine pw_get (pc := 8) F 6 1 15 (by decide) (by decide) g_54 inl_6 2 rfl dX6_lack_8 ex3 ?_
  refine pw_iload_n (pc := 11) F dX6_lack_11 rfl ?_
  refine pw_iload_n (pc := 12) F dX6_lack_12 rfl ?_
  obtain ⟨H4, eH4, h⟩ := bnd h
  refine pw_iast (pc := 13) F dX6_lack_13 eH4 ?_
  cases h
  exact pw_vret (pc := 14) F q dX6_lack_14
/-! HouseholdVault$Sheet.put(IJ)V -/
theorem dX6_put_0 : decode cX6_put 0 = .ok (.aload_n 0, 1) := by decide +kernel
theorem dX6_put_1 : decode cX6_put 1 = .ok (.getfield 9, 3) := by decide +kernel
theorem dX6_put_4 : decode cX6_put 4 = .ok (.iload_n 1, 1) := by decide +kernel
theorem dX6_put_5 : decode cX6_put 5 = .ok (.lload_n 2, 1) := by decide +kernel
theorem dX6_put_6 : decode cX6_put 6 = .ok (.lastore, 1) := by decide +kernel
theorem dX6_put_7 : decode cX6_put 7 = .ok (.aload_n 0, 1) := by decide +kernel
theorem dX6_put_8 : decode cX6_put 8 = .ok (.getfield 15, 3) := by decide +kernel
theorem dX6_put_11 : decode cX6_put 11 = .ok (.iload_n 1, 1) := by decide +kernel
theorem dX6_put_12 : decode cX6_put 12 = .ok (.iconst 0, 1) := by decide +kernel
theorem dX6_put_13 : decode cX6_put 13 = .ok (.iastore, 1) := by decide +kernel
theorem dX6_put_14 : decode cX6_put 14 = .ok (.return_, 1) := by decide +kernel
def f_X6_put (a0 a1 a2 : Int) (H : PH) : RO := vm 6 a0 H <|
  (ld 22 H a0 0).bind fun x1 => (stv 1 H x1 a1 a2).bind fun H2 => (ld 22 H2 a0 1).bind fun x3 => (stv 0 H2 x3 a1 0).bind fun H4 => some (0, H4)
set_option maxHeartbeats 4000000 in
theorem m_X6_put (l : Launch) (a0 a1 a2 : Int) (H : PH) (rr : Int) (HH : PH) (h : f_X6_put a0 a1 a2 H = some (rr, HH)) : CT l yX6_put cX6_put 4 none 0 0 [vr a0, vi a1, vl a2] H none HH := by
  refine CT.of RX6 (by decide) rfl [some (vr a0), some (vi a1), some (vl a2), none] rfl rfl ?_
  intro E F q hn hf hl hm
  unfold f_X6_put at h
  obtain ⟨hv, h⟩ := vm_spec h
  refine pw_aload_n (pc := 0) F dX6_put_0 rfl ?_
  obtain ⟨x1, ex1, h⟩ := bnd h
  refine pw_get (pc := 1) F 6 0 9 (by decide) (by decide) g_44 inl_6 2 rfl dX6_put_1 ex1 ?_
  refine pw_iload_n (pc := 4) F dX6_put_4 rfl ?_
  refine pw_lload_n (pc := 5) F dX6_put_5 rfl ?_
  obtain ⟨H2, eH2, h⟩ := bnd h
  refine pw_last (pc := 6) F dX6_put_6 eH2 ?_
  refine pw_aload_n (pc := 7) F dX6_put_7 rfl ?_
  obtain ⟨x3, ex3, h⟩ := bnd h
  refine pw_get (pc := 8) F 6 1 15 (by decide) (by decide) g_54 inl_6 2 rfl dX6_put_8 ex3 ?_
  refine pw_iload_n (pc := 11) F dX6_put_11 rfl ?_
  refine pw_iconst (pc := 12) F 0 dX6_put_12 (by decide) ?_
  obtain ⟨H4, eH4, h⟩ := bnd h
  refine pw_iast (pc := 13) F dX6_put_13 eH4 ?_
  cases h
  exact pw_vret (pc := 14) F q dX6_put_14
/-! HouseholdVault$Form.makeMapped(LHouseholdVault$Sheet;I)V -/
theorem dX3_makeMapped_0 : decode cX3_makeMapped 0 = .ok (.aload_n 0, 1) := by decide +kernel
theorem dX3_makeMapped_1 : decode cX3_makeMapped 1 = .ok (.getfield 11, 3) := by decide +kernel
theorem dX3_makeMapped_4 : decode cX3_makeMapped 4 = .ok (.iload_n 2, 1) := by decide +kernel
theorem dX3_makeMapped_5 : decode cX3_makeMapped 5 = .ok (.aaload, 1) := by decide +kernel
theorem dX3_makeMapped_6 : decode cX3_makeMapped 6 = .ok (.astore_n 3, 1) := by decide +kernel
theorem dX3_makeMapped_7 : decode cX3_makeMapped 7 = .ok (.aload_n 1, 1) := by decide +kernel
theorem dX3_makeMapped_8 : decode cX3_makeMapped 8 = .ok (.aload_n 3, 1) := by decide +kernel
theorem dX3_makeMapped_9 : decode cX3_makeMapped 9 = .ok (.getfield 106, 3) := by decide +kernel
theorem dX3_makeMapped_12 : decode cX3_makeMapped 12 = .ok (.invokestatic 109, 3) := by decide +kernel
theorem dX3_makeMapped_15 : decode cX3_makeMapped 15 = .ok (.istore 4, 2) := by decide +kernel
theorem dX3_makeMapped_17 : decode cX3_makeMapped 17 = .ok (.iconst 0, 1) := by decide +kernel
theorem dX3_makeMapped_18 : decode cX3_makeMapped 18 = .ok (.istore 5, 2) := by decide +kernel
theorem dX3_makeMapped_20 : decode cX3_makeMapped 20 = .ok (.iload 5, 2) := by decide +kernel
theorem dX3_makeMapped_22 : decode cX3_makeMapped 22 = .ok (.iload 4, 2) := by decide +kernel
theorem dX3_makeMapped_24 : decode cX3_makeMapped 24 = .ok (.if_icmp .ge 97, 3) := by decide +kernel
theorem dX3_makeMapped_27 : decode cX3_makeMapped 27 = .ok (.aload_n 3, 1) := by decide +kernel
theorem dX3_makeMapped_28 : decode cX3_makeMapped 28 = .ok (.getfield 92, 3) := by decide +kernel
theorem dX3_makeMapped_31 : decode cX3_makeMapped 31 = .ok (.iload 5, 2) := by decide +kernel
theorem dX3_makeMapped_33 : decode cX3_makeMapped 33 = .ok (.invokestatic 85, 3) := by decide +kernel
theorem dX3_makeMapped_36 : decode cX3_makeMapped 36 = .ok (.istore 6, 2) := by decide +kernel
theorem dX3_makeMapped_38 : decode cX3_makeMapped 38 = .ok (.iload_n 2, 1) := by decide +kernel
theorem dX3_makeMapped_39 : decode cX3_makeMapped 39 = .ok (.iload 5, 2) := by decide +kernel
theorem dX3_makeMapped_41 : decode cX3_makeMapped 41 = .ok (.invokestatic 85, 3) := by decide +kernel
theorem dX3_makeMapped_44 : decode cX3_makeMapped 44 = .ok (.istore 7, 2) := by decide +kernel
theorem dX3_makeMapped_46 : decode cX3_makeMapped 46 = .ok (.aload_n 3, 1) := by decide +kernel
theorem dX3_makeMapped_47 : decode cX3_makeMapped 47 = .ok (.aload_n 1, 1) := by decide +kernel
theorem dX3_makeMapped_48 : decode cX3_makeMapped 48 = .ok (.getfield 113, 3) := by decide +kernel
theorem dX3_makeMapped_51 : decode cX3_makeMapped 51 = .ok (.iload 6, 2) := by decide +kernel
theorem dX3_makeMapped_53 : decode cX3_makeMapped 53 = .ok (.laload, 1) := by decide +kernel
theorem dX3_makeMapped_54 : decode cX3_makeMapped 54 = .ok (.invokevirtual 117, 3) := by decide +kernel
theorem dX3_makeMapped_57 : decode cX3_makeMapped 57 = .ok (.istore 8, 2) := by decide +kernel
theorem dX3_makeMapped_59 : decode cX3_makeMapped 59 = .ok (.aload_n 1, 1) := by decide +kernel
theorem dX3_makeMapped_60 : decode cX3_makeMapped 60 = .ok (.getfield 121, 3) := by decide +kernel
theorem dX3_makeMapped_63 : decode cX3_makeMapped 63 = .ok (.iload 6, 2) := by decide +kernel
theorem dX3_makeMapped_65 : decode cX3_makeMapped 65 = .ok (.iaload, 1) := by decide +kernel
theorem dX3_makeMapped_66 : decode cX3_makeMapped 66 = .ok (.ifCond .eq 19, 3) := by decide +kernel
theorem dX3_makeMapped_69 : decode cX3_makeMapped 69 = .ok (.aload_n 1, 1) := by decide +kernel
theorem dX3_makeMapped_70 : decode cX3_makeMapped 70 = .ok (.iload 7, 2) := by decide +kernel
theorem dX3_makeMapped_72 : decode cX3_makeMapped 72 = .ok (.aload_n 1, 1) := by decide +kernel
theorem dX3_makeMapped_73 : decode cX3_makeMapped 73 = .ok (.getfield 121, 3) := by decide +kernel
theorem dX3_makeMapped_76 : decode cX3_makeMapped 76 = .ok (.iload 6, 2) := by decide +kernel
theorem dX3_makeMapped_78 : decode cX3_makeMapped 78 = .ok (.iaload, 1) := by decide +kernel
theorem dX3_makeMapped_79 : decode cX3_makeMapped 79 = .ok (.invokevirtual 124, 3) := by decide +kernel
theorem dX3_makeMapped_82 : decode cX3_makeMapped 82 = .ok (.goto 33, 3) := by decide +kernel
theorem dX3_makeMapped_85 : decode cX3_makeMapped 85 = .ok (.iload 8, 2) := by decide +kernel
theorem dX3_makeMapped_87 : decode cX3_makeMapped 87 = .ok (.iconst (-1), 1) := by decide +kernel
theorem dX3_makeMapped_88 : decode cX3_makeMapped 88 = .ok (.if_icmp .ne 13, 3) := by decide +kernel
theorem dX3_makeMapped_91 : decode cX3_makeMapped 91 = .ok (.aload_n 1, 1) := by decide +kernel
theorem dX3_makeMapped_92 : decode cX3_makeMapped 92 = .ok (.iload 7, 2) := by decide +kernel
theorem dX3_makeMapped_94 : decode cX3_makeMapped 94 = .ok (.iconst 4, 1) := by decide +kernel
theorem dX3_makeMapped_95 : decode cX3_makeMapped 95 = .ok (.invokevirtual 124, 3) := by decide +kernel
theorem dX3_makeMapped_98 : decode cX3_makeMapped 98 = .ok (.goto 17, 3) := by decide +kernel
theorem dX3_makeMapped_101 : decode cX3_makeMapped 101 = .ok (.aload_n 1, 1) := by decide +kernel
theorem dX3_makeMapped_102 : decode cX3_makeMapped 102 = .ok (.iload 7, 2) := by decide +kernel
theorem dX3_makeMapped_104 : decode cX3_makeMapped 104 = .ok (.aload_n 3, 1) := by decide +kernel
theorem dX3_makeMapped_105 : decode cX3_makeMapped 105 = .ok (.getfield 128, 3) := by decide +kernel
theorem dX3_makeMapped_108 : decode cX3_makeMapped 108 = .ok (.iload 8, 2) := by decide +kernel
theorem dX3_makeMapped_110 : decode cX3_makeMapped 110 = .ok (.iaload, 1) := by decide +kernel
theorem dX3_makeMapped_111 : decode cX3_makeMapped 111 = .ok (.i2l, 1) := by decide +kernel
theorem dX3_makeMapped_112 : decode cX3_makeMapped 112 = .ok (.invokevirtual 100, 3) := by decide +kernel
theorem dX3_makeMapped_115 : decode cX3_makeMapped 115 = .ok (.iinc 5 1, 3) := by decide +kernel
theorem dX3_makeMapped_118 : decode cX3_makeMapped 118 = .ok (.goto (-98), 3) := by decide +kernel
theorem dX3_makeMapped_121 : decode cX3_makeMapped 121 = .ok (.return_, 1) := by decide +kernel
def jX3_makeMapped_115 (self20 : Int → PH → RO) (p1 p2 p3 p4 p5 : Int) (H : PH) : RO :=
  self20 (w32 (p5 + 1)) H
set_option maxHeartbeats 4000000 in
theorem jX3_makeMapped_115_ok {E : PE} {rr : Int} {HH : PH} (F : FX E cX3_makeMapped RX3) (q : QE E none HH none) (hn : nLof E = 9) (hf : (roomOf E).frames = 4) (hl : (roomOf E).locals = 84) (self20 : Int → PH → RO) (p1 p2 p3 p4 p5 : Int) (H : PH) (ih20 : ∀ (v5 : Int) (HV : PH), self20 v5 HV = some (rr, HH) → PW E 20 [none, some (vr p1), some (vi p2), some (vr p3), some (vi p4), some (vi v5), none, none, none] [] HV) (h : jX3_makeMapped_115 self20 p1 p2 p3 p4 p5 H = some (rr, HH)) : PW E 115 [none, some (vr p1), some (vi p2), some (vr p3), some (vi p4), some (vi p5), none, none, none] [] H := by
  unfold jX3_makeMapped_115 at h
  refine pw_iinc (pc := 115) F dX3_makeMapped_115 rfl (lt_nl hn (by decide)) [none, some (vr p1), some (vi p2), some (vr p3), some (vi p4), some (vi (w32 (p5 + 1))), none, none, none] rfl (by decide) ?_
  refine pw_goto (pc := 118) F 20 dX3_makeMapped_118 (by decide) ?_
  exact pw_mask [true, true, true, true, true, true, true, true, true] (ls' := [none, some (vr p1), some (vi p2), some (vr p3), some (vi p4), some (vi (w32 (p5 + 1))), none, none, none]) rfl (ih20 (w32 (p5 + 1)) H h)
def lX3_makeMapped_20 (p1 p2 p3 p4 : Int) (self20 : Int → PH → RO) (p5 : Int) (H : PH) : RO :=
  (if p5 ≥ p4 then some (0, H)
  else (ld 21 H p3 3).bind fun x1 => (f_X8_spot x1 p5 H).bind fun z2 => (f_X8_spot p2 p5 z2.2).bind fun z3 => (ld 22 z3.2 p1 0).bind fun x4 => (ld 1 z3.2 x4 z2.1).bind fun x5 => (f_X5_rowAround p3 x5 z3.2).bind fun z6 => (ld 22 z6.2 p1 1).bind fun x7 => (ld 0 z6.2 x7 z2.1).bind fun x8 => (if x8 = 0 then (if z6.1 ≠ (-1) then (ld 21 z6.2 p3 8).bind fun x9 => (ld 0 z6.2 x9 z6.1).bind fun x10 => (f_X6_put p1 z3.1 x10 z6.2).bind fun z11 => jX3_makeMapped_115 self20 p1 p2 p3 p4 p5 z11.2
  else (f_X6_lack p1 z3.1 4 z6.2).bind fun z12 => jX3_makeMapped_115 self20 p1 p2 p3 p4 p5 z12.2)
  else (ld 22 z6.2 p1 1).bind fun x13 => (ld 0 z6.2 x13 z2.1).bind fun x14 => (f_X6_lack p1 z3.1 x14 z6.2).bind fun z15 => jX3_makeMapped_115 self20 p1 p2 p3 p4 p5 z15.2))
set_option maxHeartbeats 4000000 in
theorem lX3_makeMapped_20_ok {E : PE} {rr : Int} {HH : PH} (F : FX E cX3_makeMapped RX3) (q : QE E none HH none) (hn : nLof E = 9) (hf : (roomOf E).frames = 4) (hl : (roomOf E).locals = 84) (p1 p2 p3 p4 : Int) : ∀ (n : Nat) (p5 : Int) (H : PH), lq1 (lX3_makeMapped_20 p1 p2 p3 p4) n p5 H = some (rr, HH) → PW E 20 [none, some (vr p1), some (vi p2), some (vr p3), some (vi p4), some (vi p5), none, none, none] [] H := by
  refine lq1_ind (P := fun p5 H => PW E 20 [none, some (vr p1), some (vi p2), some (vr p3), some (vi p4), some (vi p5), none, none, none] [] H) ?_
  intro self20 ih20 p5 H h
  unfold lX3_makeMapped_20 at h
  refine pw_iload (pc := 20) F dX3_makeMapped_20 rfl ?_
  refine pw_iload (pc := 22) F dX3_makeMapped_22 rfl ?_
  refine pw_icmp_ge (pc := 24) F 121 dX3_makeMapped_24 (by decide) (fun hc => ?_) (fun hc => ?_)
  · have h := iteT hc h
    cases h
    exact pw_vret (pc := 121) F q dX3_makeMapped_121
  · have h := iteF hc h
    refine pw_aload_n (pc := 27) F dX3_makeMapped_27 rfl ?_
    obtain ⟨x1, ex1, h⟩ := bnd h
    refine pw_get (pc := 28) F 5 3 92 (by decide) (by decide) g_56 inl_5 0 rfl dX3_makeMapped_28 ex1 ?_
    refine pw_iload (pc := 31) F dX3_makeMapped_31 rfl ?_
    obtain ⟨z2, ez2, h⟩ := bnd h
    refine pw_callSN (pc := 33) (as := [vi x1, vi p5]) (st := []) (r := (some (vi z2.1))) F 85 RX8 (fun l => m_X8_spot l x1 p5 H z2.1 z2.2 ez2) (fun _ _ _ h => h.2.2.2.2.2.1) g_47 g_46 g_45 hd_X8_spot (rm_ok hf hl (by decide) (by decide)) rfl dX3_makeMapped_33 rfl (stk' := [vi z2.1]) rfl ?_
    refine pw_istore (pc := 36) F dX3_makeMapped_36 (lt_nl hn (by decide)) [none, some (vr p1), some (vi p2), some (vr p3), some (vi p4), some (vi p5), some (vi z2.1), none, none] rfl ?_
    refine pw_iload_n (pc := 38) F dX3_makeMapped_38 rfl ?_
    refine pw_iload (pc := 39) F dX3_makeMapped_39 rfl ?_
    obtain ⟨z3, ez3, h⟩ := bnd h
    refine pw_callSN (pc := 41) (as := [vi p2, vi p5]) (st := []) (r := (some (vi z3.1))) F 85 RX8 (fun l => m_X8_spot l p2 p5 z2.2 z3.1 z3.2 ez3) (fun _ _ _ h => h.2.2.2.2.2.1) g_47 g_46 g_45 hd_X8_spot (rm_ok hf hl (by decide) (by decide)) rfl dX3_makeMapped_41 rfl (stk' := [vi z3.1]) rfl ?_
    refine pw_istore (pc := 44) F dX3_makeMapped_44 (lt_nl hn (by decide)) [none, some (vr p1), some (vi p2), some (vr p3), some (vi p4), some (vi p5), some (vi z2.1), some (vi z3.1), none] rfl ?_
    refine pw_aload_n (pc := 46) F dX3_makeMapped_46 rfl ?_
    refine pw_aload_n (pc := 47) F dX3_makeMapped_47 rfl ?_
    obtain ⟨x4, ex4, h⟩ := bnd h
    refine pw_get (pc := 48) F 6 0 113 (by decide) (by decide) g_57 inl_6 2 rfl dX3_makeMapped_48 ex4 ?_
    refine pw_iload (pc := 51) F dX3_makeMapped_51 rfl ?_
    obtain ⟨x5, ex5, h⟩ := bnd h
    refine pw_lald (pc := 53) F dX3_makeMapped_53 ex5 ?_
    obtain ⟨z6, ez6, h⟩ := bnd h
    refine pw_callV (pc := 54) (as := [vl x5]) (st := []) (r := (some (vi z6.1))) F 117 5 (by decide) rfl (fun l => m_X5_rowAround l p3 x5 z3.2 z6.1 z6.2 ez6) g_69 g_70 g_71 g_32 g_68 hd_X5_rowAround (rm_ok hf hl (by decide) (by decide)) rfl (vm_spec ez6).1 dX3_makeMapped_54 rfl (stk' := [vi z6.1]) rfl ?_
    refine pw_istore (pc := 57) F dX3_makeMapped_57 (lt_nl hn (by decide)) [none, some (vr p1), some (vi p2), some (vr p3), some (vi p4), some (vi p5), some (vi z2.1), some (vi z3.1), some (vi z6.1)] rfl ?_
    refine pw_aload_n (pc := 59) F dX3_makeMapped_59 rfl ?_
    obtain ⟨x7, ex7, h⟩ := bnd h
    refine pw_get (pc := 60) F 6 1 121 (by decide) (by decide) g_58 inl_6 2 rfl dX3_makeMapped_60 ex7 ?_
    refine pw_iload (pc := 63) F dX3_makeMapped_63 rfl ?_
    obtain ⟨x8, ex8, h⟩ := bnd h
    refine pw_iald (pc := 65) F dX3_makeMapped_65 ex8 ?_
    refine pw_if_eq (pc := 66) F 85 dX3_makeMapped_66 (by decide) (fun hc => ?_) (fun hc => ?_)
    · have h := iteT hc h
      refine pw_iload (pc := 85) F dX3_makeMapped_85 rfl ?_
      refine pw_iconst (pc := 87) F (-1) dX3_makeMapped_87 (by decide) ?_
      refine pw_icmp_ne (pc := 88) F 101 dX3_makeMapped_88 (by decide) (fun hc => ?_) (fun hc => ?_)
      · have h := iteT hc h
        refine pw_aload_n (pc := 101) F dX3_makeMapped_101 rfl ?_
        refine pw_iload (pc := 102) F dX3_makeMapped_102 rfl ?_
        refine pw_aload_n (pc := 104) F dX3_makeMapped_104 rfl ?_
        obtain ⟨x9, ex9, h⟩ := bnd h
        refine pw_get (pc := 105) F 5 8 128 (by decide) (by decide) g_59 inl_5 2 rfl dX3_makeMapped_105 ex9 ?_
        refine pw_iload (pc := 108) F dX3_makeMapped_108 rfl ?_
        obtain ⟨x10, ex10, h⟩ := bnd h
        refine pw_iald (pc := 110) F dX3_makeMapped_110 ex10 ?_
        refine pw_i2l (pc := 111) F dX3_makeMapped_111 ?_
        obtain ⟨z11, ez11, h⟩ := bnd h
        refine pw_callV (pc := 112) (as := [vi z3.1, vl x10]) (st := []) (r := none) F 100 6 (by decide) rfl (fun l => m_X6_put l p1 z3.1 x10 z6.2 z11.1 z11.2 ez11) g_61 g_62 g_63 g_49 g_60 hd_X6_put (rm_ok hf hl (by decide) (by decide)) rfl (vm_spec ez11).1 dX3_makeMapped_112 rfl (stk' := []) rfl ?_
        exact pw_mask [true, true, true, true, true, true, false, false, false] (ls' := [none, some (vr p1), some (vi p2), some (vr p3), some (vi p4), some (vi p5), none, none, none]) rfl (jX3_makeMapped_115_ok F q hn hf hl self20 p1 p2 p3 p4 p5 z11.2 ih20 h)
      · have h := iteF hc h
        refine pw_aload_n (pc := 91) F dX3_makeMapped_91 rfl ?_
        refine pw_iload (pc := 92) F dX3_makeMapped_92 rfl ?_
        refine pw_iconst (pc := 94) F 4 dX3_makeMapped_94 (by decide) ?_
        obtain ⟨z12, ez12, h⟩ := bnd h
        refine pw_callV (pc := 95) (as := [vi z3.1, vi 4]) (st := []) (r := none) F 124 6 (by decide) rfl (fun l => m_X6_lack l p1 z3.1 4 z6.2 z12.1 z12.2 ez12) g_65 g_66 g_67 g_49 g_64 hd_X6_lack (rm_ok hf hl (by decide) (by decide)) rfl (vm_spec ez12).1 dX3_makeMapped_95 rfl (stk' := []) rfl ?_
        refine pw_goto (pc := 98) F 115 dX3_makeMapped_98 (by decide) ?_
        exact pw_mask [true, true, true, true, true, true, false, false, false] (ls' := [none, some (vr p1), some (vi p2), some (vr p3), some (vi p4), some (vi p5), none, none, none]) rfl (jX3_makeMapped_115_ok F q hn hf hl self20 p1 p2 p3 p4 p5 z12.2 ih20 h)
    · have h := iteF hc h
      refine pw_aload_n (pc := 69) F dX3_makeMapped_69 rfl ?_
      refine pw_iload (pc := 70) F dX3_makeMapped_70 rfl ?_
      refine pw_aload_n (pc := 72) F dX3_makeMapped_72 rfl ?_
      obtain ⟨x13, ex13, h⟩ := bnd h
      refine pw_get (pc := 73) F 6 1 121 (by decide) (by decide) g_58 inl_6 2 rfl dX3_makeMapped_73 ex13 ?_
      refine pw_iload (pc := 76) F dX3_makeMapped_76 rfl ?_
      obtain ⟨x14, ex14, h⟩ := bnd h
      refine pw_iald (pc := 78) F dX3_makeMapped_78 ex14 ?_
      obtain ⟨z15, ez15, h⟩ := bnd h
      refine pw_callV (pc := 79) (as := [vi z3.1, vi x14]) (st := []) (r := none) F 124 6 (by decide) rfl (fun l => m_X6_lack l p1 z3.1 x14 z6.2 z15.1 z15.2 ez15) g_65 g_66 g_67 g_49 g_64 hd_X6_lack (rm_ok hf hl (by decide) (by decide)) rfl (vm_spec ez15).1 dX3_makeMapped_79 rfl (stk' := []) rfl ?_
      refine pw_goto (pc := 82) F 115 dX3_makeMapped_82 (by decide) ?_
      exact pw_mask [true, true, true, true, true, true, false, false, false] (ls' := [none, some (vr p1), some (vi p2), some (vr p3), some (vi p4), some (vi p5), none, none, none]) rfl (jX3_makeMapped_115_ok F q hn hf hl self20 p1 p2 p3 p4 p5 z15.2 ih20 h)
def f_X3_makeMapped (a0 a1 a2 : Int) (H : PH) : RO := vm 3 a0 H <|
  (ld 19 H a0 0).bind fun x1 => (ld 6 H x1 a2).bind fun x2 => (ld 21 H x2 1).bind fun x3 => (f_X8_placesOf a1 x3 H).bind fun z4 => lq1 (lX3_makeMapped_20 a1 a2 x2 z4.1) 6000 0 z4.2
set_option maxHeartbeats 4000000 in
theorem m_X3_makeMapped (l : Launch) (a0 a1 a2 : Int) (H : PH) (rr : Int) (HH : PH) (h : f_X3_makeMapped a0 a1 a2 H = some (rr, HH)) : CT l yX3_makeMapped cX3_makeMapped 9 none 4 84 [vr a0, vr a1, vi a2] H none HH := by
  refine CT.of RX3 (by decide) rfl [some (vr a0), some (vr a1), some (vi a2), none, none, none, none, none, none] rfl rfl ?_
  intro E F q hn hf hl hm
  unfold f_X3_makeMapped at h
  obtain ⟨hv, h⟩ := vm_spec h
  refine pw_aload_n (pc := 0) F dX3_makeMapped_0 rfl ?_
  obtain ⟨x1, ex1, h⟩ := bnd h
  refine pw_get (pc := 1) F 3 0 11 (by decide) (by decide) g_16 inl_3 2 rfl dX3_makeMapped_1 ex1 ?_
  refine pw_iload_n (pc := 4) F dX3_makeMapped_4 rfl ?_
  obtain ⟨x2, ex2, h⟩ := bnd h
  refine pw_aald (pc := 5) F 6 (by decide) dX3_makeMapped_5 ex2 ?_
  refine pw_astore_n (pc := 6) F dX3_makeMapped_6 (lt_nl hn (by decide)) [some (vr a0), some (vr a1), some (vi a2), some (vr x2), none, none, none, none, none] rfl ?_
  refine pw_aload_n (pc := 7) F dX3_makeMapped_7 rfl ?_
  refine pw_aload_n (pc := 8) F dX3_makeMapped_8 rfl ?_
  obtain ⟨x3, ex3, h⟩ := bnd h
  refine pw_get (pc := 9) F 5 1 106 (by decide) (by decide) g_55 inl_5 0 rfl dX3_makeMapped_9 ex3 ?_
  obtain ⟨z4, ez4, h⟩ := bnd h
  refine pw_callSN (pc := 12) (as := [vr a1, vi x3]) (st := []) (r := (some (vi z4.1))) F 109 RX8 (fun l => m_X8_placesOf l a1 x3 H z4.1 z4.2 ez4) (fun _ _ _ h => h.2.2.2.2.1) g_73 g_46 g_72 hd_X8_placesOf (rm_ok hf hl (by decide) (by decide)) rfl dX3_makeMapped_12 rfl (stk' := [vi z4.1]) rfl ?_
  refine pw_istore (pc := 15) F dX3_makeMapped_15 (lt_nl hn (by decide)) [some (vr a0), some (vr a1), some (vi a2), some (vr x2), some (vi z4.1), none, none, none, none] rfl ?_
  refine pw_iconst (pc := 17) F 0 dX3_makeMapped_17 (by decide) ?_
  refine pw_istore (pc := 18) F dX3_makeMapped_18 (lt_nl hn (by decide)) [some (vr a0), some (vr a1), some (vi a2), some (vr x2), some (vi z4.1), some (vi 0), none, none, none] rfl ?_
  exact pw_mask [false, true, true, true, true, true, true, true, true] (ls' := [none, some (vr a1), some (vi a2), some (vr x2), some (vi z4.1), some (vi 0), none, none, none]) rfl (lX3_makeMapped_20_ok F q hn hf hl a1 a2 x2 z4.1  6000 0 z4.2 h)
/-! HouseholdVault$Table.holdNone()V -/
theorem dX7_holdNone_0 : decode cX7_holdNone 0 = .ok (.aload_n 0, 1) := by decide +kernel
theorem dX7_holdNone_1 : decode cX7_holdNone 1 = .ok (.getfield 25, 3) := by decide +kernel
theorem dX7_holdNone_4 : decode cX7_holdNone 4 = .ok (.iconst 0, 1) := by decide +kernel
theorem dX7_holdNone_5 : decode cX7_holdNone 5 = .ok (.invokestatic 39, 3) := by decide +kernel
theorem dX7_holdNone_8 : decode cX7_holdNone 8 = .ok (.aload_n 0, 1) := by decide +kernel
theorem dX7_holdNone_9 : decode cX7_holdNone 9 = .ok (.iconst 0, 1) := by decide +kernel
theorem dX7_holdNone_10 : decode cX7_holdNone 10 = .ok (.putfield 68, 3) := by decide +kernel
theorem dX7_holdNone_13 : decode cX7_holdNone 13 = .ok (.return_, 1) := by decide +kernel
def f_X7_holdNone (a0 : Int) (H : PH) : RO := vm 7 a0 H <|
  (ld 23 H a0 7).bind fun x1 => (f_J7_fill_53178 x1 0 H).bind fun z2 => (stv 23 z2.2 a0 8 0).bind fun H3 => some (0, H3)
set_option maxHeartbeats 4000000 in
theorem m_X7_holdNone (l : Launch) (a0 : Int) (H : PH) (rr : Int) (HH : PH) (h : f_X7_holdNone a0 H = some (rr, HH)) : CT l yX7_holdNone cX7_holdNone 1 none 1 23 [vr a0] H none HH := by
  refine CT.of RX7 (by decide) rfl [some (vr a0)] rfl rfl ?_
  intro E F q hn hf hl hm
  unfold f_X7_holdNone at h
  obtain ⟨hv, h⟩ := vm_spec h
  refine pw_aload_n (pc := 0) F dX7_holdNone_0 rfl ?_
  obtain ⟨x1, ex1, h⟩ := bnd h
  refine pw_get (pc := 1) F 7 7 25 (by decide) (by decide) g_74 inl_7 2 rfl dX7_holdNone_1 ex1 ?_
  refine pw_iconst (pc := 4) F 0 dX7_holdNone_4 (by decide) ?_
  obtain ⟨z2, ez2, h⟩ := bnd h
  refine pw_callS (pc := 5) (as := [vr x1, vi 0]) (st := []) (r := none) F 39 (fun l => m_J7_fill_53178 l x1 0 H z2.1 z2.2 ez2) g_79 g_78 g_77 g_76 hd_J7_fill_53178 (rm_ok hf hl (by decide) (by decide)) rfl dX7_holdNone_5 rfl (stk' := []) rfl ?_
  refine pw_aload_n (pc := 8) F dX7_holdNone_8 rfl ?_
  refine pw_iconst (pc := 9) F 0 dX7_holdNone_9 (by decide) ?_
  obtain ⟨H3, eH3, h⟩ := bnd h
  refine pw_put (pc := 10) F 7 8 68 (by decide) (by decide) g_75 inl_7 rfl 0 rfl dX7_holdNone_10 trivial eH3 ?_
  cases h
  exact pw_vret (pc := 13) F q dX7_holdNone_13
/-! HouseholdVault$Table.at(II)I -/
theorem dX7_at_0 : decode cX7_at 0 = .ok (.iload_n 1, 1) := by decide +kernel
theorem dX7_at_1 : decode cX7_at 1 = .ok (.aload_n 0, 1) := by decide +kernel
theorem dX7_at_2 : decode cX7_at 2 = .ok (.getfield 32, 3) := by decide +kernel
theorem dX7_at_5 : decode cX7_at 5 = .ok (.imul, 1) := by decide +kernel
theorem dX7_at_6 : decode cX7_at 6 = .ok (.iload_n 2, 1) := by decide +kernel
theorem dX7_at_7 : decode cX7_at 7 = .ok (.iadd, 1) := by decide +kernel
theorem dX7_at_8 : decode cX7_at 8 = .ok (.ireturn, 1) := by decide +kernel
def f_X7_at (a0 a1 a2 : Int) (H : PH) : RO := vm 7 a0 H <|
  (ld 23 H a0 1).bind fun x1 => some ((w32 ((w32 (a1 * x1)) + a2)), H)
set_option maxHeartbeats 4000000 in
theorem m_X7_at (l : Launch) (a0 a1 a2 : Int) (H : PH) (rr : Int) (HH : PH) (h : f_X7_at a0 a1 a2 H = some (rr, HH)) : CT l yX7_at cX7_at 3 (some .int) 0 0 [vr a0, vi a1, vi a2] H (some (vi rr)) HH := by
  refine CT.of RX7 (by decide) rfl [some (vr a0), some (vi a1), some (vi a2)] rfl rfl ?_
  intro E F q hn hf hl hm
  unfold f_X7_at at h
  obtain ⟨hv, h⟩ := vm_spec h
  refine pw_iload_n (pc := 0) F dX7_at_0 rfl ?_
  refine pw_aload_n (pc := 1) F dX7_at_1 rfl ?_
  obtain ⟨x1, ex1, h⟩ := bnd h
  refine pw_get (pc := 2) F 7 1 32 (by decide) (by decide) g_80 inl_7 0 rfl dX7_at_2 ex1 ?_
  refine pw_imul (pc := 5) F dX7_at_5 ?_
  refine pw_iload_n (pc := 6) F dX7_at_6 rfl ?_
  refine pw_iadd (pc := 7) F dX7_at_7 ?_
  cases h
  exact pw_iret (pc := 8) F q dX7_at_8
/-! HouseholdVault$Table.hold(II)V -/
theorem dX7_hold_0 : decode cX7_hold 0 = .ok (.aload_n 0, 1) := by decide +kernel
theorem dX7_hold_1 : decode cX7_hold 1 = .ok (.getfield 25, 3) := by decide +kernel
theorem dX7_hold_4 : decode cX7_hold 4 = .ok (.iload_n 1, 1) := by decide +kernel
theorem dX7_hold_5 : decode cX7_hold 5 = .ok (.dup2, 1) := by decide +kernel
theorem dX7_hold_6 : decode cX7_hold 6 = .ok (.iaload, 1) := by decide +kernel
theorem dX7_hold_7 : decode cX7_hold 7 = .ok (.iconst 1, 1) := by decide +kernel
theorem dX7_hold_8 : decode cX7_hold 8 = .ok (.iload_n 2, 1) := by decide +kernel
theorem dX7_hold_9 : decode cX7_hold 9 = .ok (.ishl, 1) := by decide +kernel
theorem dX7_hold_10 : decode cX7_hold 10 = .ok (.ior, 1) := by decide +kernel
theorem dX7_hold_11 : decode cX7_hold 11 = .ok (.iastore, 1) := by decide +kernel
theorem dX7_hold_12 : decode cX7_hold 12 = .ok (.aload_n 0, 1) := by decide +kernel
theorem dX7_hold_13 : decode cX7_hold 13 = .ok (.dup, 1) := by decide +kernel
theorem dX7_hold_14 : decode cX7_hold 14 = .ok (.getfield 68, 3) := by decide +kernel
theorem dX7_hold_17 : decode cX7_hold 17 = .ok (.iconst 1, 1) := by decide +kernel
theorem dX7_hold_18 : decode cX7_hold 18 = .ok (.iadd, 1) := by decide +kernel
theorem dX7_hold_19 : decode cX7_hold 19 = .ok (.putfield 68, 3) := by decide +kernel
theorem dX7_hold_22 : decode cX7_hold 22 = .ok (.return_, 1) := by decide +kernel
def f_X7_hold (a0 a1 a2 : Int) (H : PH) : RO := vm 7 a0 H <|
  (ld 23 H a0 7).bind fun x1 => (ld 0 H x1 a1).bind fun x2 => (stv 0 H x1 a1 (i_or x2 (i_shl 1 a2))).bind fun H3 => (ld 23 H3 a0 8).bind fun x4 => (stv 23 H3 a0 8 (w32 (x4 + 1))).bind fun H5 => some (0, H5)
set_option maxHeartbeats 4000000 in
theorem m_X7_hold (l : Launch) (a0 a1 a2 : Int) (H : PH) (rr : Int) (HH : PH) (h : f_X7_hold a0 a1 a2 H = some (rr, HH)) : CT l yX7_hold cX7_hold 3 none 0 0 [vr a0, vi a1, vi a2] H none HH := by
  refine CT.of RX7 (by decide) rfl [some (vr a0), some (vi a1), some (vi a2)] rfl rfl ?_
  intro E F q hn hf hl hm
  unfold f_X7_hold at h
  obtain ⟨hv, h⟩ := vm_spec h
  refine pw_aload_n (pc := 0) F dX7_hold_0 rfl ?_
  obtain ⟨x1, ex1, h⟩ := bnd h
  refine pw_get (pc := 1) F 7 7 25 (by decide) (by decide) g_74 inl_7 2 rfl dX7_hold_1 ex1 ?_
  refine pw_iload_n (pc := 4) F dX7_hold_4 rfl ?_
  refine pw_dup2 (pc := 5) F dX7_hold_5 (pvne rfl) (pvne rfl) ?_
  obtain ⟨x2, ex2, h⟩ := bnd h
  refine pw_iald (pc := 6) F dX7_hold_6 ex2 ?_
  refine pw_iconst (pc := 7) F 1 dX7_hold_7 (by decide) ?_
  refine pw_iload_n (pc := 8) F dX7_hold_8 rfl ?_
  refine pw_ishl (pc := 9) F dX7_hold_9 ?_
  refine pw_ior (pc := 10) F dX7_hold_10 ?_
  obtain ⟨H3, eH3, h⟩ := bnd h
  refine pw_iast (pc := 11) F dX7_hold_11 eH3 ?_
  refine pw_aload_n (pc := 12) F dX7_hold_12 rfl ?_
  refine pw_dup (pc := 13) F dX7_hold_13 (pvne rfl) ?_
  obtain ⟨x4, ex4, h⟩ := bnd h
  refine pw_get (pc := 14) F 7 8 68 (by decide) (by decide) g_75 inl_7 0 rfl dX7_hold_14 ex4 ?_
  refine pw_iconst (pc := 17) F 1 dX7_hold_17 (by decide) ?_
  refine pw_iadd (pc := 18) F dX7_hold_18 ?_
  obtain ⟨H5, eH5, h⟩ := bnd h
  refine pw_put (pc := 19) F 7 8 68 (by decide) (by decide) g_75 inl_7 rfl 0 rfl dX7_hold_19 trivial eH5 ?_
  cases h
  exact pw_vret (pc := 22) F q dX7_hold_22
/-! HouseholdVault$Table.holdBelow(I)V -/
theorem dX7_holdBelow_0 : decode cX7_holdBelow 0 = .ok (.aload_n 0, 1) := by decide +kernel
theorem dX7_holdBelow_1 : decode cX7_holdBelow 1 = .ok (.invokevirtual 48, 3) := by decide +kernel
theorem dX7_holdBelow_4 : decode cX7_holdBelow 4 = .ok (.iconst 0, 1) := by decide +kernel
theorem dX7_holdBelow_5 : decode cX7_holdBelow 5 = .ok (.istore_n 2, 1) := by decide +kernel
theorem dX7_holdBelow_6 : decode cX7_holdBelow 6 = .ok (.iload_n 2, 1) := by decide +kernel
theorem dX7_holdBelow_7 : decode cX7_holdBelow 7 = .ok (.aload_n 0, 1) := by decide +kernel
theorem dX7_holdBelow_8 : decode cX7_holdBelow 8 = .ok (.getfield 28, 3) := by decide +kernel
theorem dX7_holdBelow_11 : decode cX7_holdBelow 11 = .ok (.if_icmp .ge 55, 3) := by decide +kernel
theorem dX7_holdBelow_14 : decode cX7_holdBelow 14 = .ok (.iconst 0, 1) := by decide +kernel
theorem dX7_holdBelow_15 : decode cX7_holdBelow 15 = .ok (.istore_n 3, 1) := by decide +kernel
theorem dX7_holdBelow_16 : decode cX7_holdBelow 16 = .ok (.iload_n 3, 1) := by decide +kernel
theorem dX7_holdBelow_17 : decode cX7_holdBelow 17 = .ok (.aload_n 0, 1) := by decide +kernel
theorem dX7_holdBelow_18 : decode cX7_holdBelow 18 = .ok (.getfield 32, 3) := by decide +kernel
theorem dX7_holdBelow_21 : decode cX7_holdBelow 21 = .ok (.if_icmp .ge 39, 3) := by decide +kernel
theorem dX7_holdBelow_24 : decode cX7_holdBelow 24 = .ok (.aload_n 0, 1) := by decide +kernel
theorem dX7_holdBelow_25 : decode cX7_holdBelow 25 = .ok (.getfield 9, 3) := by decide +kernel
theorem dX7_holdBelow_28 : decode cX7_holdBelow 28 = .ok (.aload_n 0, 1) := by decide +kernel
theorem dX7_holdBelow_29 : decode cX7_holdBelow 29 = .ok (.iload_n 2, 1) := by decide +kernel
theorem dX7_holdBelow_30 : decode cX7_holdBelow 30 = .ok (.iload_n 3, 1) := by decide +kernel
theorem dX7_holdBelow_31 : decode cX7_holdBelow 31 = .ok (.invokevirtual 55, 3) := by decide +kernel
theorem dX7_holdBelow_34 : decode cX7_holdBelow 34 = .ok (.iaload, 1) := by decide +kernel
theorem dX7_holdBelow_35 : decode cX7_holdBelow 35 = .ok (.istore 4, 2) := by decide +kernel
theorem dX7_holdBelow_37 : decode cX7_holdBelow 37 = .ok (.iload 4, 2) := by decide +kernel
theorem dX7_holdBelow_39 : decode cX7_holdBelow 39 = .ok (.ifCond .le 15, 3) := by decide +kernel
theorem dX7_holdBelow_42 : decode cX7_holdBelow 42 = .ok (.iload 4, 2) := by decide +kernel
theorem dX7_holdBelow_44 : decode cX7_holdBelow 44 = .ok (.iload_n 1, 1) := by decide +kernel
theorem dX7_holdBelow_45 : decode cX7_holdBelow 45 = .ok (.if_icmp .ge 9, 3) := by decide +kernel
theorem dX7_holdBelow_48 : decode cX7_holdBelow 48 = .ok (.aload_n 0, 1) := by decide +kernel
theorem dX7_holdBelow_49 : decode cX7_holdBelow 49 = .ok (.iload_n 2, 1) := by decide +kernel
theorem dX7_holdBelow_50 : decode cX7_holdBelow 50 = .ok (.iload_n 3, 1) := by decide +kernel
theorem dX7_holdBelow_51 : decode cX7_holdBelow 51 = .ok (.invokevirtual 71, 3) := by decide +kernel
theorem dX7_holdBelow_54 : decode cX7_holdBelow 54 = .ok (.iinc 3 1, 3) := by decide +kernel
theorem dX7_holdBelow_57 : decode cX7_holdBelow 57 = .ok (.goto (-41), 3) := by decide +kernel
theorem dX7_holdBelow_60 : decode cX7_holdBelow 60 = .ok (.iinc 2 1, 3) := by decide +kernel
theorem dX7_holdBelow_63 : decode cX7_holdBelow 63 = .ok (.goto (-57), 3) := by decide +kernel
theorem dX7_holdBelow_66 : decode cX7_holdBelow 66 = .ok (.return_, 1) := by decide +kernel
def jX7_holdBelow_54 (self6 : Int → PH → RO) (self16 : Int → PH → RO) (p0 p1 p2 p3 : Int) (H : PH) : RO :=
  self16 (w32 (p3 + 1)) H
set_option maxHeartbeats 4000000 in
theorem jX7_holdBelow_54_ok {E : PE} {rr : Int} {HH : PH} (F : FX E cX7_holdBelow RX7) (q : QE E none HH none) (hn : nLof E = 5) (hf : (roomOf E).frames = 2) (hl : (roomOf E).locals = 43) (self6 : Int → PH → RO) (self16 : Int → PH → RO) (p0 p1 p2 p3 : Int) (H : PH) (ih6 : ∀ (v2 : Int) (HV : PH), self6 v2 HV = some (rr, HH) → PW E 6 [some (vr p0), some (vi p1), some (vi v2), none, none] [] HV) (ih16 : ∀ (v3 : Int) (HV : PH), self16 v3 HV = some (rr, HH) → PW E 16 [some (vr p0), some (vi p1), some (vi p2), some (vi v3), none] [] HV) (h : jX7_holdBelow_54 self6 self16 p0 p1 p2 p3 H = some (rr, HH)) : PW E 54 [some (vr p0), some (vi p1), some (vi p2), some (vi p3), none] [] H := by
  unfold jX7_holdBelow_54 at h
  refine pw_iinc (pc := 54) F dX7_holdBelow_54 rfl (lt_nl hn (by decide)) [some (vr p0), some (vi p1), some (vi p2), some (vi (w32 (p3 + 1))), none] rfl (by decide) ?_
  refine pw_goto (pc := 57) F 16 dX7_holdBelow_57 (by decide) ?_
  exact pw_mask [true, true, true, true, true] (ls' := [some (vr p0), some (vi p1), some (vi p2), some (vi (w32 (p3 + 1))), none]) rfl (ih16 (w32 (p3 + 1)) H h)
def lX7_holdBelow_16 (self6 : Int → PH → RO) (p0 p1 p2 : Int) (self16 : Int → PH → RO) (p3 : Int) (H : PH) : RO :=
  (ld 23 H p0 1).bind fun x1 => (if p3 ≥ x1 then self6 (w32 (p2 + 1)) H
  else (ld 23 H p0 3).bind fun x2 => (f_X7_at p0 p2 p3 H).bind fun z3 => (ld 0 z3.2 x2 z3.1).bind fun x4 => (if x4 ≤ 0 then jX7_holdBelow_54 self6 self16 p0 p1 p2 p3 z3.2
  else (if x4 ≥ p1 then jX7_holdBelow_54 self6 self16 p0 p1 p2 p3 z3.2
  else (f_X7_hold p0 p2 p3 z3.2).bind fun z5 => jX7_holdBelow_54 self6 self16 p0 p1 p2 p3 z5.2)))
set_option maxHeartbeats 4000000 in
theorem lX7_holdBelow_16_ok {E : PE} {rr : Int} {HH : PH} (F : FX E cX7_holdBelow RX7) (q : QE E none HH none) (hn : nLof E = 5) (hf : (roomOf E).frames = 2) (hl : (roomOf E).locals = 43) (self6 : Int → PH → RO) (p0 p1 p2 : Int) (ih6 : ∀ (v2 : Int) (HV : PH), self6 v2 HV = some (rr, HH) → PW E 6 [some (vr p0), some (vi p1), some (vi v2), none, none] [] HV) : ∀ (n : Nat) (p3 : Int) (H : PH), lq1 (lX7_holdBelow_16 self6 p0 p1 p2) n p3 H = some (rr, HH) → PW E 16 [some (vr p0), some (vi p1), some (vi p2), some (vi p3), none] [] H := by
  refine lq1_ind (P := fun p3 H => PW E 16 [some (vr p0), some (vi p1), some (vi p2), some (vi p3), none] [] H) ?_
  intro self16 ih16 p3 H h
  unfold lX7_holdBelow_16 at h
  refine pw_iload_n (pc := 16) F dX7_holdBelow_16 rfl ?_
  refine pw_aload_n (pc := 17) F dX7_holdBelow_17 rfl ?_
  obtain ⟨x1, ex1, h⟩ := bnd h
  refine pw_get (pc := 18) F 7 1 32 (by decide) (by decide) g_80 inl_7 0 rfl dX7_holdBelow_18 ex1 ?_
  refine pw_icmp_ge (pc := 21) F 60 dX7_holdBelow_21 (by decide) (fun hc => ?_) (fun hc => ?_)
  · have h := iteT hc h
    refine pw_iinc (pc := 60) F dX7_holdBelow_60 rfl (lt_nl hn (by decide)) [some (vr p0), some (vi p1), some (vi (w32 (p2 + 1))), some (vi p3), none] rfl (by decide) ?_
    refine pw_goto (pc := 63) F 6 dX7_holdBelow_63 (by decide) ?_
    exact pw_mask [true, true, true, false, true] (ls' := [some (vr p0), some (vi p1), some (vi (w32 (p2 + 1))), none, none]) rfl (ih6 (w32 (p2 + 1)) H h)
  · have h := iteF hc h
    refine pw_aload_n (pc := 24) F dX7_holdBelow_24 rfl ?_
    obtain ⟨x2, ex2, h⟩ := bnd h
    refine pw_get (pc := 25) F 7 3 9 (by decide) (by decide) g_82 inl_7 2 rfl dX7_holdBelow_25 ex2 ?_
    refine pw_aload_n (pc := 28) F dX7_holdBelow_28 rfl ?_
    refine pw_iload_n (pc := 29) F dX7_holdBelow_29 rfl ?_
    refine pw_iload_n (pc := 30) F dX7_holdBelow_30 rfl ?_
    obtain ⟨z3, ez3, h⟩ := bnd h
    refine pw_callV (pc := 31) (as := [vi p2, vi p3]) (st := [vr x2]) (r := (some (vi z3.1))) F 55 7 (by decide) rfl (fun l => m_X7_at l p0 p2 p3 H z3.1 z3.2 ez3) g_89 g_90 g_91 g_84 g_88 hd_X7_at (rm_ok hf hl (by decide) (by decide)) rfl (vm_spec ez3).1 dX7_holdBelow_31 rfl (stk' := [vi z3.1, vr x2]) rfl ?_
    obtain ⟨x4, ex4, h⟩ := bnd h
    refine pw_iald (pc := 34) F dX7_holdBelow_34 ex4 ?_
    refine pw_istore (pc := 35) F dX7_holdBelow_35 (lt_nl hn (by decide)) [some (vr p0), some (vi p1), some (vi p2), some (vi p3), some (vi x4)] rfl ?_
    refine pw_iload (pc := 37) F dX7_holdBelow_37 rfl ?_
    refine pw_if_le (pc := 39) F 54 dX7_holdBelow_39 (by decide) (fun hc => ?_) (fun hc => ?_)
    · have h := iteT hc h
      exact pw_mask [true, true, true, true, false] (ls' := [some (vr p0), some (vi p1), some (vi p2), some (vi p3), none]) rfl (jX7_holdBelow_54_ok F q hn hf hl self6 self16 p0 p1 p2 p3 z3.2 ih6 ih16 h)
    · have h := iteF hc h
      refine pw_iload (pc := 42) F dX7_holdBelow_42 rfl ?_
      refine pw_iload_n (pc := 44) F dX7_holdBelow_44 rfl ?_
      refine pw_icmp_ge (pc := 45) F 54 dX7_holdBelow_45 (by decide) (fun hc => ?_) (fun hc => ?_)
      · have h := iteT hc h
        exact pw_mask [true, true, true, true, false] (ls' := [some (vr p0), some (vi p1), some (vi p2), some (vi p3), none]) rfl (jX7_holdBelow_54_ok F q hn hf hl self6 self16 p0 p1 p2 p3 z3.2 ih6 ih16 h)
      · have h := iteF hc h
        refine pw_aload_n (pc := 48) F dX7_holdBelow_48 rfl ?_
        refine pw_iload_n (pc := 49) F dX7_holdBelow_49 rfl ?_
        refine pw_iload_n (pc := 50) F dX7_holdBelow_50 rfl ?_
        obtain ⟨z5, ez5, h⟩ := bnd h
        refine pw_callV (pc := 51) (as := [vi p2, vi p3]) (st := []) (r := none) F 71 7 (by decide) rfl (fun l => m_X7_hold l p0 p2 p3 z3.2 z5.1 z5.2 ez5) g_85 g_86 g_87 g_84 g_83 hd_X7_hold (rm_ok hf hl (by decide) (by decide)) rfl (vm_spec ez5).1 dX7_holdBelow_51 rfl (stk' := []) rfl ?_
        exact pw_mask [true, true, true, true, false] (ls' := [some (vr p0), some (vi p1), some (vi p2), some (vi p3), none]) rfl (jX7_holdBelow_54_ok F q hn hf hl self6 self16 p0 p1 p2 p3 z5.2 ih6 ih16 h)
def lX7_holdBelow_6 (p0 p1 : Int) (self6 : Int → PH → RO) (p2 : Int) (H : PH) : RO :=
  (ld 23 H p0 0).bind fun x1 => (if p2 ≥ x1 then some (0, H)
  else lq1 (lX7_holdBelow_16 self6 p0 p1 p2) 6000 0 H)
set_option maxHeartbeats 4000000 in
theorem lX7_holdBelow_6_ok {E : PE} {rr : Int} {HH : PH} (F : FX E cX7_holdBelow RX7) (q : QE E none HH none) (hn : nLof E = 5) (hf : (roomOf E).frames = 2) (hl : (roomOf E).locals = 43) (p0 p1 : Int) : ∀ (n : Nat) (p2 : Int) (H : PH), lq1 (lX7_holdBelow_6 p0 p1) n p2 H = some (rr, HH) → PW E 6 [some (vr p0), some (vi p1), some (vi p2), none, none] [] H := by
  refine lq1_ind (P := fun p2 H => PW E 6 [some (vr p0), some (vi p1), some (vi p2), none, none] [] H) ?_
  intro self6 ih6 p2 H h
  unfold lX7_holdBelow_6 at h
  refine pw_iload_n (pc := 6) F dX7_holdBelow_6 rfl ?_
  refine pw_aload_n (pc := 7) F dX7_holdBelow_7 rfl ?_
  obtain ⟨x1, ex1, h⟩ := bnd h
  refine pw_get (pc := 8) F 7 0 28 (by decide) (by decide) g_81 inl_7 0 rfl dX7_holdBelow_8 ex1 ?_
  refine pw_icmp_ge (pc := 11) F 66 dX7_holdBelow_11 (by decide) (fun hc => ?_) (fun hc => ?_)
  · have h := iteT hc h
    cases h
    exact pw_vret (pc := 66) F q dX7_holdBelow_66
  · have h := iteF hc h
    refine pw_iconst (pc := 14) F 0 dX7_holdBelow_14 (by decide) ?_
    refine pw_istore_n (pc := 15) F dX7_holdBelow_15 (lt_nl hn (by decide)) [some (vr p0), some (vi p1), some (vi p2), some (vi 0), none] rfl ?_
    exact pw_mask [true, true, true, true, true] (ls' := [some (vr p0), some (vi p1), some (vi p2), some (vi 0), none]) rfl (lX7_holdBelow_16_ok F q hn hf hl self6 p0 p1 p2 ih6  6000 0 H h)
def f_X7_holdBelow (a0 a1 : Int) (H : PH) : RO := vm 7 a0 H <|
  (f_X7_holdNone a0 H).bind fun z1 => lq1 (lX7_holdBelow_6 a0 a1) 6000 0 z1.2
set_option maxHeartbeats 4000000 in
theorem m_X7_holdBelow (l : Launch) (a0 a1 : Int) (H : PH) (rr : Int) (HH : PH) (h : f_X7_holdBelow a0 a1 H = some (rr, HH)) : CT l yX7_holdBelow cX7_holdBelow 5 none 2 43 [vr a0, vi a1] H none HH := by
  refine CT.of RX7 (by decide) rfl [some (vr a0), some (vi a1), none, none, none] rfl rfl ?_
  intro E F q hn hf hl hm
  unfold f_X7_holdBelow at h
  obtain ⟨hv, h⟩ := vm_spec h
  refine pw_aload_n (pc := 0) F dX7_holdBelow_0 rfl ?_
  obtain ⟨z1, ez1, h⟩ := bnd h
  refine pw_callV (pc := 1) (as := []) (st := []) (r := none) F 48 7 (by decide) rfl (fun l => m_X7_holdNone l a0 H z1.1 z1.2 ez1) g_93 g_94 g_95 g_84 g_92 hd_X7_holdNone (rm_ok hf hl (by decide) (by decide)) rfl (vm_spec ez1).1 dX7_holdBelow_1 rfl (stk' := []) rfl ?_
  refine pw_iconst (pc := 4) F 0 dX7_holdBelow_4 (by decide) ?_
  refine pw_istore_n (pc := 5) F dX7_holdBelow_5 (lt_nl hn (by decide)) [some (vr a0), some (vi a1), some (vi 0), none, none] rfl ?_
  exact pw_mask [true, true, true, true, true] (ls' := [some (vr a0), some (vi a1), some (vi 0), none, none]) rfl (lX7_holdBelow_6_ok F q hn hf hl a0 a1  6000 0 z1.2 h)
/-! HouseholdVaultModel.place(III)I -/
theorem dX9_place_0 : decode cX9_place 0 = .ok (.bipush 24, 2) := by decide +kernel
theorem dX9_place_2 : decode cX9_place 2 = .ok (.iload_n 0, 1) := by decide +kernel
theorem dX9_place_3 : decode cX9_place 3 = .ok (.imul, 1) := by decide +kernel
theorem dX9_place_4 : decode cX9_place 4 = .ok (.iload_n 1, 1) := by decide +kernel
theorem dX9_place_5 : decode cX9_place 5 = .ok (.iadd, 1) := by decide +kernel
theorem dX9_place_6 : decode cX9_place 6 = .ok (.bipush 6, 2) := by decide +kernel
theorem dX9_place_8 : decode cX9_place 8 = .ok (.imul, 1) := by decide +kernel
theorem dX9_place_9 : decode cX9_place 9 = .ok (.iload_n 2, 1) := by decide +kernel
theorem dX9_place_10 : decode cX9_place 10 = .ok (.iadd, 1) := by decide +kernel
theorem dX9_place_11 : decode cX9_place 11 = .ok (.ireturn, 1) := by decide +kernel
def f_X9_place (a0 a1 a2 : Int) (H : PH) : RO :=
  some ((w32 ((w32 ((w32 ((w32 (24 * a0)) + a1)) * 6)) + a2)), H)
set_option maxHeartbeats 4000000 in
theorem m_X9_place (l : Launch) (a0 a1 a2 : Int) (H : PH) (rr : Int) (HH : PH) (h : f_X9_place a0 a1 a2 H = some (rr, HH)) : CT l yX9_place cX9_place 3 (some .int) 0 0 [vi a0, vi a1, vi a2] H (some (vi rr)) HH := by
  refine CT.of RX9 (by decide) rfl [some (vi a0), some (vi a1), some (vi a2)] rfl rfl ?_
  intro E F q hn hf hl hm
  unfold f_X9_place at h
  refine pw_bipush (pc := 0) F 24 dX9_place_0 (by decide) ?_
  refine pw_iload_n (pc := 2) F dX9_place_2 rfl ?_
  refine pw_imul (pc := 3) F dX9_place_3 ?_
  refine pw_iload_n (pc := 4) F dX9_place_4 rfl ?_
  refine pw_iadd (pc := 5) F dX9_place_5 ?_
  refine pw_bipush (pc := 6) F 6 dX9_place_6 (by decide) ?_
  refine pw_imul (pc := 8) F dX9_place_8 ?_
  refine pw_iload_n (pc := 9) F dX9_place_9 rfl ?_
  refine pw_iadd (pc := 10) F dX9_place_10 ?_
  cases h
  exact pw_iret (pc := 11) F q dX9_place_11
/-! HouseholdVaultModel.persons(II)I -/
theorem dX9_persons_0 : decode cX9_persons 0 = .ok (.aload_n 0, 1) := by decide +kernel
theorem dX9_persons_1 : decode cX9_persons 1 = .ok (.getfield 51, 3) := by decide +kernel
theorem dX9_persons_4 : decode cX9_persons 4 = .ok (.iload_n 1, 1) := by decide +kernel
theorem dX9_persons_5 : decode cX9_persons 5 = .ok (.iload_n 2, 1) := by decide +kernel
theorem dX9_persons_6 : decode cX9_persons 6 = .ok (.iconst 0, 1) := by decide +kernel
theorem dX9_persons_7 : decode cX9_persons 7 = .ok (.invokestatic 150, 3) := by decide +kernel
theorem dX9_persons_10 : decode cX9_persons 10 = .ok (.laload, 1) := by decide +kernel
theorem dX9_persons_11 : decode cX9_persons 11 = .ok (.l2i, 1) := by decide +kernel
theorem dX9_persons_12 : decode cX9_persons 12 = .ok (.ireturn, 1) := by decide +kernel
def f_X9_persons (a0 a1 a2 : Int) (H : PH) : RO := vm 9 a0 H <|
  (ld 25 H a0 15).bind fun x1 => (f_X9_place a1 a2 0 H).bind fun z2 => (ld 1 z2.2 x1 z2.1).bind fun x3 => some ((w32 x3), z2.2)
set_option maxHeartbeats 4000000 in
theorem m_X9_persons (l : Launch) (a0 a1 a2 : Int) (H : PH) (rr : Int) (HH : PH) (h : f_X9_persons a0 a1 a2 H = some (rr, HH)) : CT l yX9_persons cX9_persons 3 (some .int) 1 22 [vr a0, vi a1, vi a2] H (some (vi rr)) HH := by
  refine CT.of RX9 (by decide) rfl [some (vr a0), some (vi a1), some (vi a2)] rfl rfl ?_
  intro E F q hn hf hl hm
  unfold f_X9_persons at h
  obtain ⟨hv, h⟩ := vm_spec h
  refine pw_aload_n (pc := 0) F dX9_persons_0 rfl ?_
  obtain ⟨x1, ex1, h⟩ := bnd h
  refine pw_get (pc := 1) F 9 15 51 (by decide) (by decide) g_96 inl_9 2 rfl dX9_persons_1 ex1 ?_
  refine pw_iload_n (pc := 4) F dX9_persons_4 rfl ?_
  refine pw_iload_n (pc := 5) F dX9_persons_5 rfl ?_
  refine pw_iconst (pc := 6) F 0 dX9_persons_6 (by decide) ?_
  obtain ⟨z2, ez2, h⟩ := bnd h
  refine pw_callS (pc := 7) (as := [vi a1, vi a2, vi 0]) (st := [vr x1]) (r := (some (vi z2.1))) F 150 (fun l => m_X9_place l a1 a2 0 H z2.1 z2.2 ez2) g_100 g_99 g_98 g_97 hd_X9_place (rm_ok hf hl (by decide) (by decide)) rfl dX9_persons_7 rfl (stk' := [vi z2.1, vr x1]) rfl ?_
  obtain ⟨x3, ex3, h⟩ := bnd h
  refine pw_lald (pc := 10) F dX9_persons_10 ex3 ?_
  refine pw_l2i (pc := 11) F dX9_persons_11 ?_
  cases h
  exact pw_iret (pc := 12) F q dX9_persons_12
/-! HouseholdVaultModel.isAsked(II)Z -/
theorem dX9_isAsked_0 : decode cX9_isAsked 0 = .ok (.aload_n 0, 1) := by decide +kernel
theorem dX9_isAsked_1 : decode cX9_isAsked 1 = .ok (.getfield 66, 3) := by decide +kernel
theorem dX9_isAsked_4 : decode cX9_isAsked 4 = .ok (.iload_n 1, 1) := by decide +kernel
theorem dX9_isAsked_5 : decode cX9_isAsked 5 = .ok (.iaload, 1) := by decide +kernel
theorem dX9_isAsked_6 : decode cX9_isAsked 6 = .ok (.istore_n 3, 1) := by decide +kernel
theorem dX9_isAsked_7 : decode cX9_isAsked 7 = .ok (.bipush 6, 2) := by decide +kernel
theorem dX9_isAsked_9 : decode cX9_isAsked 9 = .ok (.iload_n 3, 1) := by decide +kernel
theorem dX9_isAsked_10 : decode cX9_isAsked 10 = .ok (.imul, 1) := by decide +kernel
theorem dX9_isAsked_11 : decode cX9_isAsked 11 = .ok (.iload_n 2, 1) := by decide +kernel
theorem dX9_isAsked_12 : decode cX9_isAsked 12 = .ok (.iadd, 1) := by decide +kernel
theorem dX9_isAsked_13 : decode cX9_isAsked 13 = .ok (.istore 4, 2) := by decide +kernel
theorem dX9_isAsked_15 : decode cX9_isAsked 15 = .ok (.aload_n 0, 1) := by decide +kernel
theorem dX9_isAsked_16 : decode cX9_isAsked 16 = .ok (.getfield 63, 3) := by decide +kernel
theorem dX9_isAsked_19 : decode cX9_isAsked 19 = .ok (.iload_n 1, 1) := by decide +kernel
theorem dX9_isAsked_20 : decode cX9_isAsked 20 = .ok (.iaload, 1) := by decide +kernel
theorem dX9_isAsked_21 : decode cX9_isAsked 21 = .ok (.iconst 3, 1) := by decide +kernel
theorem dX9_isAsked_22 : decode cX9_isAsked 22 = .ok (.if_icmp .ne 19, 3) := by decide +kernel
theorem dX9_isAsked_25 : decode cX9_isAsked 25 = .ok (.aload_n 0, 1) := by decide +kernel
theorem dX9_isAsked_26 : decode cX9_isAsked 26 = .ok (.getfield 118, 3) := by decide +kernel
theorem dX9_isAsked_29 : decode cX9_isAsked 29 = .ok (.iload 4, 2) := by decide +kernel
theorem dX9_isAsked_31 : decode cX9_isAsked 31 = .ok (.iaload, 1) := by decide +kernel
theorem dX9_isAsked_32 : decode cX9_isAsked 32 = .ok (.ifCond .le 7, 3) := by decide +kernel
theorem dX9_isAsked_35 : decode cX9_isAsked 35 = .ok (.iconst 1, 1) := by decide +kernel
theorem dX9_isAsked_36 : decode cX9_isAsked 36 = .ok (.goto 4, 3) := by decide +kernel
theorem dX9_isAsked_39 : decode cX9_isAsked 39 = .ok (.iconst 0, 1) := by decide +kernel
theorem dX9_isAsked_40 : decode cX9_isAsked 40 = .ok (.ireturn, 1) := by decide +kernel
theorem dX9_isAsked_41 : decode cX9_isAsked 41 = .ok (.aload_n 0, 1) := by decide +kernel
theorem dX9_isAsked_42 : decode cX9_isAsked 42 = .ok (.getfield 115, 3) := by decide +kernel
theorem dX9_isAsked_45 : decode cX9_isAsked 45 = .ok (.iload 4, 2) := by decide +kernel
theorem dX9_isAsked_47 : decode cX9_isAsked 47 = .ok (.laload, 1) := by decide +kernel
theorem dX9_isAsked_48 : decode cX9_isAsked 48 = .ok (.lstore 5, 2) := by decide +kernel
theorem dX9_isAsked_50 : decode cX9_isAsked 50 = .ok (.aload_n 0, 1) := by decide +kernel
theorem dX9_isAsked_51 : decode cX9_isAsked 51 = .ok (.getfield 118, 3) := by decide +kernel
theorem dX9_isAsked_54 : decode cX9_isAsked 54 = .ok (.iload 4, 2) := by decide +kernel
theorem dX9_isAsked_56 : decode cX9_isAsked 56 = .ok (.iaload, 1) := by decide +kernel
theorem dX9_isAsked_57 : decode cX9_isAsked 57 = .ok (.ifCond .le 5, 3) := by decide +kernel
theorem dX9_isAsked_60 : decode cX9_isAsked 60 = .ok (.iconst 0, 1) := by decide +kernel
theorem dX9_isAsked_61 : decode cX9_isAsked 61 = .ok (.ireturn, 1) := by decide +kernel
theorem dX9_isAsked_62 : decode cX9_isAsked 62 = .ok (.aload_n 0, 1) := by decide +kernel
theorem dX9_isAsked_63 : decode cX9_isAsked 63 = .ok (.getfield 7, 3) := by decide +kernel
theorem dX9_isAsked_66 : decode cX9_isAsked 66 = .ok (.iload_n 3, 1) := by decide +kernel
theorem dX9_isAsked_67 : decode cX9_isAsked 67 = .ok (.iaload, 1) := by decide +kernel
theorem dX9_isAsked_68 : decode cX9_isAsked 68 = .ok (.iconst 1, 1) := by decide +kernel
theorem dX9_isAsked_69 : decode cX9_isAsked 69 = .ok (.if_icmp .ne 26, 3) := by decide +kernel
theorem dX9_isAsked_72 : decode cX9_isAsked 72 = .ok (.lload 5, 2) := by decide +kernel
theorem dX9_isAsked_74 : decode cX9_isAsked 74 = .ok (.aload_n 0, 1) := by decide +kernel
theorem dX9_isAsked_75 : decode cX9_isAsked 75 = .ok (.getfield 69, 3) := by decide +kernel
theorem dX9_isAsked_78 : decode cX9_isAsked 78 = .ok (.iload_n 1, 1) := by decide +kernel
theorem dX9_isAsked_79 : decode cX9_isAsked 79 = .ok (.laload, 1) := by decide +kernel
theorem dX9_isAsked_80 : decode cX9_isAsked 80 = .ok (.l2i, 1) := by decide +kernel
theorem dX9_isAsked_81 : decode cX9_isAsked 81 = .ok (.lshr, 1) := by decide +kernel
theorem dX9_isAsked_82 : decode cX9_isAsked 82 = .ok (.lconst 1, 1) := by decide +kernel
theorem dX9_isAsked_83 : decode cX9_isAsked 83 = .ok (.land, 1) := by decide +kernel
theorem dX9_isAsked_84 : decode cX9_isAsked 84 = .ok (.lconst 1, 1) := by decide +kernel
theorem dX9_isAsked_85 : decode cX9_isAsked 85 = .ok (.lcmp, 1) := by decide +kernel
theorem dX9_isAsked_86 : decode cX9_isAsked 86 = .ok (.ifCond .ne 7, 3) := by decide +kernel
theorem dX9_isAsked_89 : decode cX9_isAsked 89 = .ok (.iconst 1, 1) := by decide +kernel
theorem dX9_isAsked_90 : decode cX9_isAsked 90 = .ok (.goto 4, 3) := by decide +kernel
theorem dX9_isAsked_93 : decode cX9_isAsked 93 = .ok (.iconst 0, 1) := by decide +kernel
theorem dX9_isAsked_94 : decode cX9_isAsked 94 = .ok (.ireturn, 1) := by decide +kernel
theorem dX9_isAsked_95 : decode cX9_isAsked 95 = .ok (.aload_n 0, 1) := by decide +kernel
theorem dX9_isAsked_96 : decode cX9_isAsked 96 = .ok (.getfield 63, 3) := by decide +kernel
theorem dX9_isAsked_99 : decode cX9_isAsked 99 = .ok (.iload_n 1, 1) := by decide +kernel
theorem dX9_isAsked_100 : decode cX9_isAsked 100 = .ok (.iaload, 1) := by decide +kernel
theorem dX9_isAsked_101 : decode cX9_isAsked 101 = .ok (.ifCond .ne 23, 3) := by decide +kernel
theorem dX9_isAsked_104 : decode cX9_isAsked 104 = .ok (.lload 5, 2) := by decide +kernel
theorem dX9_isAsked_106 : decode cX9_isAsked 106 = .ok (.aload_n 0, 1) := by decide +kernel
theorem dX9_isAsked_107 : decode cX9_isAsked 107 = .ok (.getfield 69, 3) := by decide +kernel
theorem dX9_isAsked_110 : decode cX9_isAsked 110 = .ok (.iload_n 1, 1) := by decide +kernel
theorem dX9_isAsked_111 : decode cX9_isAsked 111 = .ok (.laload, 1) := by decide +kernel
theorem dX9_isAsked_112 : decode cX9_isAsked 112 = .ok (.lcmp, 1) := by decide +kernel
theorem dX9_isAsked_113 : decode cX9_isAsked 113 = .ok (.ifCond .ne 7, 3) := by decide +kernel
theorem dX9_isAsked_116 : decode cX9_isAsked 116 = .ok (.iconst 1, 1) := by decide +kernel
theorem dX9_isAsked_117 : decode cX9_isAsked 117 = .ok (.goto 54, 3) := by decide +kernel
theorem dX9_isAsked_120 : decode cX9_isAsked 120 = .ok (.iconst 0, 1) := by decide +kernel
theorem dX9_isAsked_121 : decode cX9_isAsked 121 = .ok (.goto 50, 3) := by decide +kernel
theorem dX9_isAsked_124 : decode cX9_isAsked 124 = .ok (.aload_n 0, 1) := by decide +kernel
theorem dX9_isAsked_125 : decode cX9_isAsked 125 = .ok (.getfield 63, 3) := by decide +kernel
theorem dX9_isAsked_128 : decode cX9_isAsked 128 = .ok (.iload_n 1, 1) := by decide +kernel
theorem dX9_isAsked_129 : decode cX9_isAsked 129 = .ok (.iaload, 1) := by decide +kernel
theorem dX9_isAsked_130 : decode cX9_isAsked 130 = .ok (.iconst 1, 1) := by decide +kernel
theorem dX9_isAsked_131 : decode cX9_isAsked 131 = .ok (.if_icmp .ne 23, 3) := by decide +kernel
theorem dX9_isAsked_134 : decode cX9_isAsked 134 = .ok (.lload 5, 2) := by decide +kernel
theorem dX9_isAsked_136 : decode cX9_isAsked 136 = .ok (.aload_n 0, 1) := by decide +kernel
theorem dX9_isAsked_137 : decode cX9_isAsked 137 = .ok (.getfield 69, 3) := by decide +kernel
theorem dX9_isAsked_140 : decode cX9_isAsked 140 = .ok (.iload_n 1, 1) := by decide +kernel
theorem dX9_isAsked_141 : decode cX9_isAsked 141 = .ok (.laload, 1) := by decide +kernel
theorem dX9_isAsked_142 : decode cX9_isAsked 142 = .ok (.lcmp, 1) := by decide +kernel
theorem dX9_isAsked_143 : decode cX9_isAsked 143 = .ok (.ifCond .ge 7, 3) := by decide +kernel
theorem dX9_isAsked_146 : decode cX9_isAsked 146 = .ok (.iconst 1, 1) := by decide +kernel
theorem dX9_isAsked_147 : decode cX9_isAsked 147 = .ok (.goto 24, 3) := by decide +kernel
theorem dX9_isAsked_150 : decode cX9_isAsked 150 = .ok (.iconst 0, 1) := by decide +kernel
theorem dX9_isAsked_151 : decode cX9_isAsked 151 = .ok (.goto 20, 3) := by decide +kernel
theorem dX9_isAsked_154 : decode cX9_isAsked 154 = .ok (.lload 5, 2) := by decide +kernel
theorem dX9_isAsked_156 : decode cX9_isAsked 156 = .ok (.aload_n 0, 1) := by decide +kernel
theorem dX9_isAsked_157 : decode cX9_isAsked 157 = .ok (.getfield 69, 3) := by decide +kernel
theorem dX9_isAsked_160 : decode cX9_isAsked 160 = .ok (.iload_n 1, 1) := by decide +kernel
theorem dX9_isAsked_161 : decode cX9_isAsked 161 = .ok (.laload, 1) := by decide +kernel
theorem dX9_isAsked_162 : decode cX9_isAsked 162 = .ok (.lcmp, 1) := by decide +kernel
theorem dX9_isAsked_163 : decode cX9_isAsked 163 = .ok (.ifCond .le 7, 3) := by decide +kernel
theorem dX9_isAsked_166 : decode cX9_isAsked 166 = .ok (.iconst 1, 1) := by decide +kernel
theorem dX9_isAsked_167 : decode cX9_isAsked 167 = .ok (.goto 4, 3) := by decide +kernel
theorem dX9_isAsked_170 : decode cX9_isAsked 170 = .ok (.iconst 0, 1) := by decide +kernel
theorem dX9_isAsked_171 : decode cX9_isAsked 171 = .ok (.ireturn, 1) := by decide +kernel
def f_X9_isAsked (a0 a1 a2 : Int) (H : PH) : RO := vm 9 a0 H <|
  (ld 25 H a0 21).bind fun x1 => (ld 0 H x1 a1).bind fun x2 => (ld 25 H a0 20).bind fun x3 => (ld 0 H x3 a1).bind fun x4 => (if x4 ≠ 3 then (ld 25 H a0 43).bind fun x5 => (ld 1 H x5 (w32 ((w32 (6 * x2)) + a2))).bind fun x6 => (ld 25 H a0 44).bind fun x7 => (ld 0 H x7 (w32 ((w32 (6 * x2)) + a2))).bind fun x8 => (if x8 ≤ 0 then (ld 25 H a0 1).bind fun x9 => (ld 0 H x9 x2).bind fun x10 => (if x10 ≠ 1 then (ld 25 H a0 20).bind fun x11 => (ld 0 H x11 a1).bind fun x12 => (if x12 ≠ 0 then (ld 25 H a0 20).bind fun x13 => (ld 0 H x13 a1).bind fun x14 => (if x14 ≠ 1 then (ld 25 H a0 22).bind fun x15 => (ld 1 H x15 a1).bind fun x16 => (if (lc x6 x16) ≤ 0 then some (0, H)
  else some (1, H))
  else (ld 25 H a0 22).bind fun x17 => (ld 1 H x17 a1).bind fun x18 => (if (lc x6 x18) ≥ 0 then some (0, H)
  else some (1, H)))
  else (ld 25 H a0 22).bind fun x19 => (ld 1 H x19 a1).bind fun x20 => (if (lc x6 x20) ≠ 0 then some (0, H)
  else some (1, H)))
  else (ld 25 H a0 22).bind fun x21 => (ld 1 H x21 a1).bind fun x22 => (if (lc (l_and (l_shr x6 (w32 x22)) 1) 1) ≠ 0 then some (0, H)
  else some (1, H)))
  else some (0, H))
  else (ld 25 H a0 44).bind fun x23 => (ld 0 H x23 (w32 ((w32 (6 * x2)) + a2))).bind fun x24 => (if x24 ≤ 0 then some (0, H)
  else some (1, H)))
set_option maxHeartbeats 4000000 in
theorem m_X9_isAsked (l : Launch) (a0 a1 a2 : Int) (H : PH) (rr : Int) (HH : PH) (h : f_X9_isAsked a0 a1 a2 H = some (rr, HH)) : CT l yX9_isAsked cX9_isAsked 7 (some .boolean) 0 0 [vr a0, vi a1, vi a2] H (some (vi rr)) HH := by
  refine CT.of RX9 (by decide) rfl [some (vr a0), some (vi a1), some (vi a2), none, none, none, none] rfl rfl ?_
  intro E F q hn hf hl hm
  unfold f_X9_isAsked at h
  obtain ⟨hv, h⟩ := vm_spec h
  refine pw_aload_n (pc := 0) F dX9_isAsked_0 rfl ?_
  obtain ⟨x1, ex1, h⟩ := bnd h
  refine pw_get (pc := 1) F 9 21 66 (by decide) (by decide) g_101 inl_9 2 rfl dX9_isAsked_1 ex1 ?_
  refine pw_iload_n (pc := 4) F dX9_isAsked_4 rfl ?_
  obtain ⟨x2, ex2, h⟩ := bnd h
  refine pw_iald (pc := 5) F dX9_isAsked_5 ex2 ?_
  refine pw_istore_n (pc := 6) F dX9_isAsked_6 (lt_nl hn (by decide)) [some (vr a0), some (vi a1), some (vi a2), some (vi x2), none, none, none] rfl ?_
  refine pw_bipush (pc := 7) F 6 dX9_isAsked_7 (by decide) ?_
  refine pw_iload_n (pc := 9) F dX9_isAsked_9 rfl ?_
  refine pw_imul (pc := 10) F dX9_isAsked_10 ?_
  refine pw_iload_n (pc := 11) F dX9_isAsked_11 rfl ?_
  refine pw_iadd (pc := 12) F dX9_isAsked_12 ?_
  refine pw_istore (pc := 13) F dX9_isAsked_13 (lt_nl hn (by decide)) [some (vr a0), some (vi a1), some (vi a2), some (vi x2), some (vi (w32 ((w32 (6 * x2)) + a2))), none, none] rfl ?_
  refine pw_aload_n (pc := 15) F dX9_isAsked_15 rfl ?_
  obtain ⟨x3, ex3, h⟩ := bnd h
  refine pw_get (pc := 16) F 9 20 63 (by decide) (by decide) g_102 inl_9 2 rfl dX9_isAsked_16 ex3 ?_
  refine pw_iload_n (pc := 19) F dX9_isAsked_19 rfl ?_
  obtain ⟨x4, ex4, h⟩ := bnd h
  refine pw_iald (pc := 20) F dX9_isAsked_20 ex4 ?_
  refine pw_iconst (pc := 21) F 3 dX9_isAsked_21 (by decide) ?_
  refine pw_icmp_ne (pc := 22) F 41 dX9_isAsked_22 (by decide) (fun hc => ?_) (fun hc => ?_)
  · have h := iteT hc h
    refine pw_aload_n (pc := 41) F dX9_isAsked_41 rfl ?_
    obtain ⟨x5, ex5, h⟩ := bnd h
    refine pw_get (pc := 42) F 9 43 115 (by decide) (by decide) g_103 inl_9 2 rfl dX9_isAsked_42 ex5 ?_
    refine pw_iload (pc := 45) F dX9_isAsked_45 rfl ?_
    obtain ⟨x6, ex6, h⟩ := bnd h
    refine pw_lald (pc := 47) F dX9_isAsked_47 ex6 ?_
    refine pw_lstore (pc := 48) F dX9_isAsked_48 (lt_nl hn (by decide)) [some (vr a0), some (vi a1), some (vi a2), some (vi x2), some (vi (w32 ((w32 (6 * x2)) + a2))), some (vl x6), none] rfl ?_
    refine pw_aload_n (pc := 50) F dX9_isAsked_50 rfl ?_
    obtain ⟨x7, ex7, h⟩ := bnd h
    refine pw_get (pc := 51) F 9 44 118 (by decide) (by decide) g_104 inl_9 2 rfl dX9_isAsked_51 ex7 ?_
    refine pw_iload (pc := 54) F dX9_isAsked_54 rfl ?_
    obtain ⟨x8, ex8, h⟩ := bnd h
    refine pw_iald (pc := 56) F dX9_isAsked_56 ex8 ?_
    refine pw_if_le (pc := 57) F 62 dX9_isAsked_57 (by decide) (fun hc => ?_) (fun hc => ?_)
    · have h := iteT hc h
      refine pw_aload_n (pc := 62) F dX9_isAsked_62 rfl ?_
      obtain ⟨x9, ex9, h⟩ := bnd h
      refine pw_get (pc := 63) F 9 1 7 (by decide) (by decide) g_105 inl_9 2 rfl dX9_isAsked_63 ex9 ?_
      refine pw_iload_n (pc := 66) F dX9_isAsked_66 rfl ?_
      obtain ⟨x10, ex10, h⟩ := bnd h
      refine pw_iald (pc := 67) F dX9_isAsked_67 ex10 ?_
      refine pw_iconst (pc := 68) F 1 dX9_isAsked_68 (by decide) ?_
      refine pw_icmp_ne (pc := 69) F 95 dX9_isAsked_69 (by decide) (fun hc => ?_) (fun hc => ?_)
      · have h := iteT hc h
        refine pw_aload_n (pc := 95) F dX9_isAsked_95 rfl ?_
        obtain ⟨x11, ex11, h⟩ := bnd h
        refine pw_get (pc := 96) F 9 20 63 (by decide) (by decide) g_102 inl_9 2 rfl dX9_isAsked_96 ex11 ?_
        refine pw_iload_n (pc := 99) F dX9_isAsked_99 rfl ?_
        obtain ⟨x12, ex12, h⟩ := bnd h
        refine pw_iald (pc := 100) F dX9_isAsked_100 ex12 ?_
        refine pw_if_ne (pc := 101) F 124 dX9_isAsked_101 (by decide) (fun hc => ?_) (fun hc => ?_)
        · have h := iteT hc h
          refine pw_aload_n (pc := 124) F dX9_isAsked_124 rfl ?_
          obtain ⟨x13, ex13, h⟩ := bnd h
          refine pw_get (pc := 125) F 9 20 63 (by decide) (by decide) g_102 inl_9 2 rfl dX9_isAsked_125 ex13 ?_
          refine pw_iload_n (pc := 128) F dX9_isAsked_128 rfl ?_
          obtain ⟨x14, ex14, h⟩ := bnd h
          refine pw_iald (pc := 129) F dX9_isAsked_129 ex14 ?_
          refine pw_iconst (pc := 130) F 1 dX9_isAsked_130 (by decide) ?_
          refine pw_icmp_ne (pc := 131) F 154 dX9_isAsked_131 (by decide) (fun hc => ?_) (fun hc => ?_)
          · have h := iteT hc h
            refine pw_lload (pc := 154) F dX9_isAsked_154 rfl ?_
            refine pw_aload_n (pc := 156) F dX9_isAsked_156 rfl ?_
            obtain ⟨x15, ex15, h⟩ := bnd h
            refine pw_get (pc := 157) F 9 22 69 (by decide) (by decide) g_106 inl_9 2 rfl dX9_isAsked_157 ex15 ?_
            refine pw_iload_n (pc := 160) F dX9_isAsked_160 rfl ?_
            obtain ⟨x16, ex16, h⟩ := bnd h
            refine pw_lald (pc := 161) F dX9_isAsked_161 ex16 ?_
            refine pw_lcmp (pc := 162) F dX9_isAsked_162 ?_
            refine pw_if_le (pc := 163) F 170 dX9_isAsked_163 (by decide) (fun hc => ?_) (fun hc => ?_)
            · have h := iteT hc h
              refine pw_iconst (pc := 170) F 0 dX9_isAsked_170 (by decide) ?_
              cases h
              exact pw_zret (pc := 171) F q (by decide) dX9_isAsked_171
            · have h := iteF hc h
              refine pw_iconst (pc := 166) F 1 dX9_isAsked_166 (by decide) ?_
              refine pw_goto (pc := 167) F 171 dX9_isAsked_167 (by decide) ?_
              cases h
              exact pw_zret (pc := 171) F q (by decide) dX9_isAsked_171
          · have h := iteF hc h
            refine pw_lload (pc := 134) F dX9_isAsked_134 rfl ?_
            refine pw_aload_n (pc := 136) F dX9_isAsked_136 rfl ?_
            obtain ⟨x17, ex17, h⟩ := bnd h
            refine pw_get (pc := 137) F 9 22 69 (by decide) (by decide) g_106 inl_9 2 rfl dX9_isAsked_137 ex17 ?_
            refine pw_iload_n (pc := 140) F dX9_isAsked_140 rfl ?_
            obtain ⟨x18, ex18, h⟩ := bnd h
            refine pw_lald (pc := 141) F dX9_isAsked_141 ex18 ?_
            refine pw_lcmp (pc := 142) F dX9_isAsked_142 ?_
            refine pw_if_ge (pc := 143) F 150 dX9_isAsked_143 (by decide) (fun hc => ?_) (fun hc => ?_)
            · have h := iteT hc h
              refine pw_iconst (pc := 150) F 0 dX9_isAsked_150 (by decide) ?_
              refine pw_goto (pc := 151) F 171 dX9_isAsked_151 (by decide) ?_
              cases h
              exact pw_zret (pc := 171) F q (by decide) dX9_isAsked_171
            · have h := iteF hc h
              refine pw_iconst (pc := 146) F 1 dX9_isAsked_146 (by decide) ?_
              refine pw_goto (pc := 147) F 171 dX9_isAsked_147 (by decide) ?_
              cases h
              exact pw_zret (pc := 171) F q (by decide) dX9_isAsked_171
        · have h := iteF hc h
          refine pw_lload (pc := 104) F dX9_isAsked_104 rfl ?_
          refine pw_aload_n (pc := 106) F dX9_isAsked_106 rfl ?_
          obtain ⟨x19, ex19, h⟩ := bnd h
          refine pw_get (pc := 107) F 9 22 69 (by decide) (by decide) g_106 inl_9 2 rfl dX9_isAsked_107 ex19 ?_
          refine pw_iload_n (pc := 110) F dX9_isAsked_110 rfl ?_
          obtain ⟨x20, ex20, h⟩ := bnd h
          refine pw_lald (pc := 111) F dX9_isAsked_111 ex20 ?_
          refine pw_lcmp (pc := 112) F dX9_isAsked_112 ?_
          refine pw_if_ne (pc := 113) F 120 dX9_isAsked_113 (by decide) (fun hc => ?_) (fun hc => ?_)
          · have h := iteT hc h
            refine pw_iconst (pc := 120) F 0 dX9_isAsked_120 (by decide) ?_
            refine pw_goto (pc := 121) F 171 dX9_isAsked_121 (by decide) ?_
            cases h
            exact pw_zret (pc := 171) F q (by decide) dX9_isAsked_171
          · have h := iteF hc h
            refine pw_iconst (pc := 116) F 1 dX9_isAsked_116 (by decide) ?_
            refine pw_goto (pc := 117) F 171 dX9_isAsked_117 (by decide) ?_
            cases h
            exact pw_zret (pc := 171) F q (by decide) dX9_isAsked_171
      · have h := iteF hc h
        refine pw_lload (pc := 72) F dX9_isAsked_72 rfl ?_
        refine pw_aload_n (pc := 74) F dX9_isAsked_74 rfl ?_
        obtain ⟨x21, ex21, h⟩ := bnd h
        refine pw_get (pc := 75) F 9 22 69 (by decide) (by decide) g_106 inl_9 2 rfl dX9_isAsked_75 ex21 ?_
        refine pw_iload_n (pc := 78) F dX9_isAsked_78 rfl ?_
        obtain ⟨x22, ex22, h⟩ := bnd h
        refine pw_lald (pc := 79) F dX9_isAsked_79 ex22 ?_
        refine pw_l2i (pc := 80) F dX9_isAsked_80 ?_
        refine pw_lshr (pc := 81) F dX9_isAsked_81 ?_
        refine pw_lconst (pc := 82) F 1 dX9_isAsked_82 (by decide) ?_
        refine pw_land (pc := 83) F dX9_isAsked_83 ?_
        refine pw_lconst (pc := 84) F 1 dX9_isAsked_84 (by decide) ?_
        refine pw_lcmp (pc := 85) F dX9_isAsked_85 ?_
        refine pw_if_ne (pc := 86) F 93 dX9_isAsked_86 (by decide) (fun hc => ?_) (fun hc => ?_)
        · have h := iteT hc h
          refine pw_iconst (pc := 93) F 0 dX9_isAsked_93 (by decide) ?_
          cases h
          exact pw_zret (pc := 94) F q (by decide) dX9_isAsked_94
        · have h := iteF hc h
          refine pw_iconst (pc := 89) F 1 dX9_isAsked_89 (by decide) ?_
          refine pw_goto (pc := 90) F 94 dX9_isAsked_90 (by decide) ?_
          cases h
          exact pw_zret (pc := 94) F q (by decide) dX9_isAsked_94
    · have h := iteF hc h
      refine pw_iconst (pc := 60) F 0 dX9_isAsked_60 (by decide) ?_
      cases h
      exact pw_zret (pc := 61) F q (by decide) dX9_isAsked_61
  · have h := iteF hc h
    refine pw_aload_n (pc := 25) F dX9_isAsked_25 rfl ?_
    obtain ⟨x23, ex23, h⟩ := bnd h
    refine pw_get (pc := 26) F 9 44 118 (by decide) (by decide) g_104 inl_9 2 rfl dX9_isAsked_26 ex23 ?_
    refine pw_iload (pc := 29) F dX9_isAsked_29 rfl ?_
    obtain ⟨x24, ex24, h⟩ := bnd h
    refine pw_iald (pc := 31) F dX9_isAsked_31 ex24 ?_
    refine pw_if_le (pc := 32) F 39 dX9_isAsked_32 (by decide) (fun hc => ?_) (fun hc => ?_)
    · have h := iteT hc h
      refine pw_iconst (pc := 39) F 0 dX9_isAsked_39 (by decide) ?_
      cases h
      exact pw_zret (pc := 40) F q (by decide) dX9_isAsked_40
    · have h := iteF hc h
      refine pw_iconst (pc := 35) F 1 dX9_isAsked_35 (by decide) ?_
      refine pw_goto (pc := 36) F 40 dX9_isAsked_36 (by decide) ?_
      cases h
      exact pw_zret (pc := 40) F q (by decide) dX9_isAsked_40
/-! HouseholdVaultModel.isSaid(II)Z -/
theorem dX9_isSaid_0 : decode cX9_isSaid 0 = .ok (.aload_n 0, 1) := by decide +kernel
theorem dX9_isSaid_1 : decode cX9_isSaid 1 = .ok (.getfield 121, 3) := by decide +kernel
theorem dX9_isSaid_4 : decode cX9_isSaid 4 = .ok (.bipush 6, 2) := by decide +kernel
theorem dX9_isSaid_6 : decode cX9_isSaid 6 = .ok (.iload_n 1, 1) := by decide +kernel
theorem dX9_isSaid_7 : decode cX9_isSaid 7 = .ok (.imul, 1) := by decide +kernel
theorem dX9_isSaid_8 : decode cX9_isSaid 8 = .ok (.aload_n 0, 1) := by decide +kernel
theorem dX9_isSaid_9 : decode cX9_isSaid 9 = .ok (.getfield 78, 3) := by decide +kernel
theorem dX9_isSaid_12 : decode cX9_isSaid 12 = .ok (.iload_n 1, 1) := by decide +kernel
theorem dX9_isSaid_13 : decode cX9_isSaid 13 = .ok (.iaload, 1) := by decide +kernel
theorem dX9_isSaid_14 : decode cX9_isSaid 14 = .ok (.ifCond .ge 7, 3) := by decide +kernel
theorem dX9_isSaid_17 : decode cX9_isSaid 17 = .ok (.iconst 0, 1) := by decide +kernel
theorem dX9_isSaid_18 : decode cX9_isSaid 18 = .ok (.goto 4, 3) := by decide +kernel
theorem dX9_isSaid_21 : decode cX9_isSaid 21 = .ok (.iload_n 2, 1) := by decide +kernel
theorem dX9_isSaid_22 : decode cX9_isSaid 22 = .ok (.iadd, 1) := by decide +kernel
theorem dX9_isSaid_23 : decode cX9_isSaid 23 = .ok (.baload, 1) := by decide +kernel
theorem dX9_isSaid_24 : decode cX9_isSaid 24 = .ok (.ireturn, 1) := by decide +kernel
def jX9_isSaid_22 (s0 s1 s2 : Int) (H : PH) : RO :=
  (ld 2 H s0 (w32 (s1 + s2))).bind fun x1 => zr x1 H
set_option maxHeartbeats 4000000 in
theorem jX9_isSaid_22_ok {E : PE} {rr : Int} {HH : PH} (F : FX E cX9_isSaid RX9) (q : QE E (some (vi rr)) HH (some .boolean)) (hn : nLof E = 3) (hf : (roomOf E).frames = 0) (hl : (roomOf E).locals = 0) (s0 s1 s2 : Int) (H : PH) (h : jX9_isSaid_22 s0 s1 s2 H = some (rr, HH)) : PW E 22 [none, none, none] [vi s2, vi s1, vr s0] H := by
  unfold jX9_isSaid_22 at h
  refine pw_iadd (pc := 22) F dX9_isSaid_22 ?_
  obtain ⟨x1, ex1, h⟩ := bnd h
  refine pw_zald (pc := 23) F dX9_isSaid_23 ex1 ?_
  obtain ⟨hz, h⟩ := zr_spec h
  cases h
  exact pw_zret (pc := 24) F q hz dX9_isSaid_24
def f_X9_isSaid (a0 a1 a2 : Int) (H : PH) : RO := vm 9 a0 H <|
  (ld 25 H a0 45).bind fun x1 => (ld 25 H a0 25).bind fun x2 => (ld 0 H x2 a1).bind fun x3 => (if x3 ≥ 0 then jX9_isSaid_22 x1 (w32 (6 * a1)) a2 H
  else jX9_isSaid_22 x1 (w32 (6 * a1)) 0 H)
set_option maxHeartbeats 4000000 in
theorem m_X9_isSaid (l : Launch) (a0 a1 a2 : Int) (H : PH) (rr : Int) (HH : PH) (h : f_X9_isSaid a0 a1 a2 H = some (rr, HH)) : CT l yX9_isSaid cX9_isSaid 3 (some .boolean) 0 0 [vr a0, vi a1, vi a2] H (some (vi rr)) HH := by
  refine CT.of RX9 (by decide) rfl [some (vr a0), some (vi a1), some (vi a2)] rfl rfl ?_
  intro E F q hn hf hl hm
  unfold f_X9_isSaid at h
  obtain ⟨hv, h⟩ := vm_spec h
  refine pw_aload_n (pc := 0) F dX9_isSaid_0 rfl ?_
  obtain ⟨x1, ex1, h⟩ := bnd h
  refine pw_get (pc := 1) F 9 45 121 (by decide) (by decide) g_107 inl_9 2 rfl dX9_isSaid_1 ex1 ?_
  refine pw_bipush (pc := 4) F 6 dX9_isSaid_4 (by decide) ?_
  refine pw_iload_n (pc := 6) F dX9_isSaid_6 rfl ?_
  refine pw_imul (pc := 7) F dX9_isSaid_7 ?_
  refine pw_aload_n (pc := 8) F dX9_isSaid_8 rfl ?_
  obtain ⟨x2, ex2, h⟩ := bnd h
  refine pw_get (pc := 9) F 9 25 78 (by decide) (by decide) g_108 inl_9 2 rfl dX9_isSaid_9 ex2 ?_
  refine pw_iload_n (pc := 12) F dX9_isSaid_12 rfl ?_
  obtain ⟨x3, ex3, h⟩ := bnd h
  refine pw_iald (pc := 13) F dX9_isSaid_13 ex3 ?_
  refine pw_if_ge (pc := 14) F 21 dX9_isSaid_14 (by decide) (fun hc => ?_) (fun hc => ?_)
  · have h := iteT hc h
    refine pw_iload_n (pc := 21) F dX9_isSaid_21 rfl ?_
    exact pw_mask [false, false, false] (ls' := [none, none, none]) rfl (jX9_isSaid_22_ok F q hn hf hl x1 (w32 (6 * a1)) a2 H h)
  · have h := iteF hc h
    refine pw_iconst (pc := 17) F 0 dX9_isSaid_17 (by decide) ?_
    refine pw_goto (pc := 18) F 22 dX9_isSaid_18 (by decide) ?_
    exact pw_mask [false, false, false] (ls' := [none, none, none]) rfl (jX9_isSaid_22_ok F q hn hf hl x1 (w32 (6 * a1)) 0 H h)
/-! HouseholdVaultModel.sayAt(II)V -/
theorem dX9_sayAt_0 : decode cX9_sayAt 0 = .ok (.aload_n 0, 1) := by decide +kernel
theorem dX9_sayAt_1 : decode cX9_sayAt 1 = .ok (.getfield 60, 3) := by decide +kernel
theorem dX9_sayAt_4 : decode cX9_sayAt 4 = .ok (.iload_n 2, 1) := by decide +kernel
theorem dX9_sayAt_5 : decode cX9_sayAt 5 = .ok (.iaload, 1) := by decide +kernel
theorem dX9_sayAt_6 : decode cX9_sayAt 6 = .ok (.iconst 4, 1) := by decide +kernel
theorem dX9_sayAt_7 : decode cX9_sayAt 7 = .ok (.if_icmp .ne 88, 3) := by decide +kernel
theorem dX9_sayAt_10 : decode cX9_sayAt 10 = .ok (.iconst 0, 1) := by decide +kernel
theorem dX9_sayAt_11 : decode cX9_sayAt 11 = .ok (.istore_n 3, 1) := by decide +kernel
theorem dX9_sayAt_12 : decode cX9_sayAt 12 = .ok (.iconst 1, 1) := by decide +kernel
theorem dX9_sayAt_13 : decode cX9_sayAt 13 = .ok (.istore 4, 2) := by decide +kernel
theorem dX9_sayAt_15 : decode cX9_sayAt 15 = .ok (.iload 4, 2) := by decide +kernel
theorem dX9_sayAt_17 : decode cX9_sayAt 17 = .ok (.aload_n 0, 1) := by decide +kernel
theorem dX9_sayAt_18 : decode cX9_sayAt 18 = .ok (.iload_n 1, 1) := by decide +kernel
theorem dX9_sayAt_19 : decode cX9_sayAt 19 = .ok (.aload_n 0, 1) := by decide +kernel
theorem dX9_sayAt_20 : decode cX9_sayAt 20 = .ok (.getfield 78, 3) := by decide +kernel
theorem dX9_sayAt_23 : decode cX9_sayAt 23 = .ok (.aload_n 0, 1) := by decide +kernel
theorem dX9_sayAt_24 : decode cX9_sayAt 24 = .ok (.getfield 72, 3) := by decide +kernel
theorem dX9_sayAt_27 : decode cX9_sayAt 27 = .ok (.iload_n 2, 1) := by decide +kernel
theorem dX9_sayAt_28 : decode cX9_sayAt 28 = .ok (.iaload, 1) := by decide +kernel
theorem dX9_sayAt_29 : decode cX9_sayAt 29 = .ok (.iaload, 1) := by decide +kernel
theorem dX9_sayAt_30 : decode cX9_sayAt 30 = .ok (.invokevirtual 184, 3) := by decide +kernel
theorem dX9_sayAt_33 : decode cX9_sayAt 33 = .ok (.if_icmp .gt 37, 3) := by decide +kernel
theorem dX9_sayAt_36 : decode cX9_sayAt 36 = .ok (.iload_n 3, 1) := by decide +kernel
theorem dX9_sayAt_37 : decode cX9_sayAt 37 = .ok (.aload_n 0, 1) := by decide +kernel
theorem dX9_sayAt_38 : decode cX9_sayAt 38 = .ok (.getfield 121, 3) := by decide +kernel
theorem dX9_sayAt_41 : decode cX9_sayAt 41 = .ok (.bipush 6, 2) := by decide +kernel
theorem dX9_sayAt_43 : decode cX9_sayAt 43 = .ok (.aload_n 0, 1) := by decide +kernel
theorem dX9_sayAt_44 : decode cX9_sayAt 44 = .ok (.getfield 72, 3) := by decide +kernel
theorem dX9_sayAt_47 : decode cX9_sayAt 47 = .ok (.iload_n 2, 1) := by decide +kernel
theorem dX9_sayAt_48 : decode cX9_sayAt 48 = .ok (.iaload, 1) := by decide +kernel
theorem dX9_sayAt_49 : decode cX9_sayAt 49 = .ok (.imul, 1) := by decide +kernel
theorem dX9_sayAt_50 : decode cX9_sayAt 50 = .ok (.iload 4, 2) := by decide +kernel
theorem dX9_sayAt_52 : decode cX9_sayAt 52 = .ok (.iadd, 1) := by decide +kernel
theorem dX9_sayAt_53 : decode cX9_sayAt 53 = .ok (.baload, 1) := by decide +kernel
theorem dX9_sayAt_54 : decode cX9_sayAt 54 = .ok (.ifCond .eq 7, 3) := by decide +kernel
theorem dX9_sayAt_57 : decode cX9_sayAt 57 = .ok (.iconst 1, 1) := by decide +kernel
theorem dX9_sayAt_58 : decode cX9_sayAt 58 = .ok (.goto 4, 3) := by decide +kernel
theorem dX9_sayAt_61 : decode cX9_sayAt 61 = .ok (.iconst 0, 1) := by decide +kernel
theorem dX9_sayAt_62 : decode cX9_sayAt 62 = .ok (.iadd, 1) := by decide +kernel
theorem dX9_sayAt_63 : decode cX9_sayAt 63 = .ok (.istore_n 3, 1) := by decide +kernel
theorem dX9_sayAt_64 : decode cX9_sayAt 64 = .ok (.iinc 4 1, 3) := by decide +kernel
theorem dX9_sayAt_67 : decode cX9_sayAt 67 = .ok (.goto (-52), 3) := by decide +kernel
theorem dX9_sayAt_70 : decode cX9_sayAt 70 = .ok (.aload_n 0, 1) := by decide +kernel
theorem dX9_sayAt_71 : decode cX9_sayAt 71 = .ok (.getfield 121, 3) := by decide +kernel
theorem dX9_sayAt_74 : decode cX9_sayAt 74 = .ok (.bipush 6, 2) := by decide +kernel
theorem dX9_sayAt_76 : decode cX9_sayAt 76 = .ok (.iload_n 2, 1) := by decide +kernel
theorem dX9_sayAt_77 : decode cX9_sayAt 77 = .ok (.imul, 1) := by decide +kernel
theorem dX9_sayAt_78 : decode cX9_sayAt 78 = .ok (.iload_n 3, 1) := by decide +kernel
theorem dX9_sayAt_79 : decode cX9_sayAt 79 = .ok (.aload_n 0, 1) := by decide +kernel
theorem dX9_sayAt_80 : decode cX9_sayAt 80 = .ok (.getfield 63, 3) := by decide +kernel
theorem dX9_sayAt_83 : decode cX9_sayAt 83 = .ok (.iload_n 2, 1) := by decide +kernel
theorem dX9_sayAt_84 : decode cX9_sayAt 84 = .ok (.iaload, 1) := by decide +kernel
theorem dX9_sayAt_85 : decode cX9_sayAt 85 = .ok (.if_icmp .lt 7, 3) := by decide +kernel
theorem dX9_sayAt_88 : decode cX9_sayAt 88 = .ok (.iconst 1, 1) := by decide +kernel
theorem dX9_sayAt_89 : decode cX9_sayAt 89 = .ok (.goto 4, 3) := by decide +kernel
theorem dX9_sayAt_92 : decode cX9_sayAt 92 = .ok (.iconst 0, 1) := by decide +kernel
theorem dX9_sayAt_93 : decode cX9_sayAt 93 = .ok (.bastore, 1) := by decide +kernel
theorem dX9_sayAt_94 : decode cX9_sayAt 94 = .ok (.return_, 1) := by decide +kernel
theorem dX9_sayAt_95 : decode cX9_sayAt 95 = .ok (.aload_n 0, 1) := by decide +kernel
theorem dX9_sayAt_96 : decode cX9_sayAt 96 = .ok (.getfield 78, 3) := by decide +kernel
theorem dX9_sayAt_99 : decode cX9_sayAt 99 = .ok (.iload_n 2, 1) := by decide +kernel
theorem dX9_sayAt_100 : decode cX9_sayAt 100 = .ok (.iaload, 1) := by decide +kernel
theorem dX9_sayAt_101 : decode cX9_sayAt 101 = .ok (.ifCond .ge 7, 3) := by decide +kernel
theorem dX9_sayAt_104 : decode cX9_sayAt 104 = .ok (.iconst 0, 1) := by decide +kernel
theorem dX9_sayAt_105 : decode cX9_sayAt 105 = .ok (.goto 14, 3) := by decide +kernel
theorem dX9_sayAt_108 : decode cX9_sayAt 108 = .ok (.aload_n 0, 1) := by decide +kernel
theorem dX9_sayAt_109 : decode cX9_sayAt 109 = .ok (.iload_n 1, 1) := by decide +kernel
theorem dX9_sayAt_110 : decode cX9_sayAt 110 = .ok (.aload_n 0, 1) := by decide +kernel
theorem dX9_sayAt_111 : decode cX9_sayAt 111 = .ok (.getfield 78, 3) := by decide +kernel
theorem dX9_sayAt_114 : decode cX9_sayAt 114 = .ok (.iload_n 2, 1) := by decide +kernel
theorem dX9_sayAt_115 : decode cX9_sayAt 115 = .ok (.iaload, 1) := by decide +kernel
theorem dX9_sayAt_116 : decode cX9_sayAt 116 = .ok (.invokevirtual 184, 3) := by decide +kernel
theorem dX9_sayAt_119 : decode cX9_sayAt 119 = .ok (.istore_n 3, 1) := by decide +kernel
theorem dX9_sayAt_120 : decode cX9_sayAt 120 = .ok (.aload_n 0, 1) := by decide +kernel
theorem dX9_sayAt_121 : decode cX9_sayAt 121 = .ok (.getfield 78, 3) := by decide +kernel
theorem dX9_sayAt_124 : decode cX9_sayAt 124 = .ok (.iload_n 2, 1) := by decide +kernel
theorem dX9_sayAt_125 : decode cX9_sayAt 125 = .ok (.iaload, 1) := by decide +kernel
theorem dX9_sayAt_126 : decode cX9_sayAt 126 = .ok (.ifCond .ge 7, 3) := by decide +kernel
theorem dX9_sayAt_129 : decode cX9_sayAt 129 = .ok (.iconst 0, 1) := by decide +kernel
theorem dX9_sayAt_130 : decode cX9_sayAt 130 = .ok (.goto 4, 3) := by decide +kernel
theorem dX9_sayAt_133 : decode cX9_sayAt 133 = .ok (.iconst 1, 1) := by decide +kernel
theorem dX9_sayAt_134 : decode cX9_sayAt 134 = .ok (.istore 4, 2) := by decide +kernel
theorem dX9_sayAt_136 : decode cX9_sayAt 136 = .ok (.iload 4, 2) := by decide +kernel
theorem dX9_sayAt_138 : decode cX9_sayAt 138 = .ok (.iload_n 3, 1) := by decide +kernel
theorem dX9_sayAt_139 : decode cX9_sayAt 139 = .ok (.if_icmp .gt 156, 3) := by decide +kernel
theorem dX9_sayAt_142 : decode cX9_sayAt 142 = .ok (.aload_n 0, 1) := by decide +kernel
theorem dX9_sayAt_143 : decode cX9_sayAt 143 = .ok (.getfield 60, 3) := by decide +kernel
theorem dX9_sayAt_146 : decode cX9_sayAt 146 = .ok (.iload_n 2, 1) := by decide +kernel
theorem dX9_sayAt_147 : decode cX9_sayAt 147 = .ok (.iaload, 1) := by decide +kernel
theorem dX9_sayAt_148 : decode cX9_sayAt 148 = .ok (.ifCond .ne 13, 3) := by decide +kernel
theorem dX9_sayAt_151 : decode cX9_sayAt 151 = .ok (.aload_n 0, 1) := by decide +kernel
theorem dX9_sayAt_152 : decode cX9_sayAt 152 = .ok (.iload_n 2, 1) := by decide +kernel
theorem dX9_sayAt_153 : decode cX9_sayAt 153 = .ok (.iload 4, 2) := by decide +kernel
theorem dX9_sayAt_155 : decode cX9_sayAt 155 = .ok (.invokevirtual 215, 3) := by decide +kernel
theorem dX9_sayAt_158 : decode cX9_sayAt 158 = .ok (.goto 15, 3) := by decide +kernel
theorem dX9_sayAt_161 : decode cX9_sayAt 161 = .ok (.aload_n 0, 1) := by decide +kernel
theorem dX9_sayAt_162 : decode cX9_sayAt 162 = .ok (.aload_n 0, 1) := by decide +kernel
theorem dX9_sayAt_163 : decode cX9_sayAt 163 = .ok (.getfield 72, 3) := by decide +kernel
theorem dX9_sayAt_166 : decode cX9_sayAt 166 = .ok (.iload_n 2, 1) := by decide +kernel
theorem dX9_sayAt_167 : decode cX9_sayAt 167 = .ok (.iaload, 1) := by decide +kernel
theorem dX9_sayAt_168 : decode cX9_sayAt 168 = .ok (.iload 4, 2) := by decide +kernel
theorem dX9_sayAt_170 : decode cX9_sayAt 170 = .ok (.invokevirtual 219, 3) := by decide +kernel
theorem dX9_sayAt_173 : decode cX9_sayAt 173 = .ok (.istore 5, 2) := by decide +kernel
theorem dX9_sayAt_175 : decode cX9_sayAt 175 = .ok (.aload_n 0, 1) := by decide +kernel
theorem dX9_sayAt_176 : decode cX9_sayAt 176 = .ok (.getfield 60, 3) := by decide +kernel
theorem dX9_sayAt_179 : decode cX9_sayAt 179 = .ok (.iload_n 2, 1) := by decide +kernel
theorem dX9_sayAt_180 : decode cX9_sayAt 180 = .ok (.iaload, 1) := by decide +kernel
theorem dX9_sayAt_181 : decode cX9_sayAt 181 = .ok (.iconst 1, 1) := by decide +kernel
theorem dX9_sayAt_182 : decode cX9_sayAt 182 = .ok (.if_icmp .ne 33, 3) := by decide +kernel
theorem dX9_sayAt_185 : decode cX9_sayAt 185 = .ok (.iload 5, 2) := by decide +kernel
theorem dX9_sayAt_187 : decode cX9_sayAt 187 = .ok (.ifCond .eq 22, 3) := by decide +kernel
theorem dX9_sayAt_190 : decode cX9_sayAt 190 = .ok (.aload_n 0, 1) := by decide +kernel
theorem dX9_sayAt_191 : decode cX9_sayAt 191 = .ok (.aload_n 0, 1) := by decide +kernel
theorem dX9_sayAt_192 : decode cX9_sayAt 192 = .ok (.getfield 75, 3) := by decide +kernel
theorem dX9_sayAt_195 : decode cX9_sayAt 195 = .ok (.iload_n 2, 1) := by decide +kernel
theorem dX9_sayAt_196 : decode cX9_sayAt 196 = .ok (.iaload, 1) := by decide +kernel
theorem dX9_sayAt_197 : decode cX9_sayAt 197 = .ok (.iload 4, 2) := by decide +kernel
theorem dX9_sayAt_199 : decode cX9_sayAt 199 = .ok (.invokevirtual 219, 3) := by decide +kernel
theorem dX9_sayAt_202 : decode cX9_sayAt 202 = .ok (.ifCond .eq 7, 3) := by decide +kernel
theorem dX9_sayAt_205 : decode cX9_sayAt 205 = .ok (.iconst 1, 1) := by decide +kernel
theorem dX9_sayAt_206 : decode cX9_sayAt 206 = .ok (.goto 4, 3) := by decide +kernel
theorem dX9_sayAt_209 : decode cX9_sayAt 209 = .ok (.iconst 0, 1) := by decide +kernel
theorem dX9_sayAt_210 : decode cX9_sayAt 210 = .ok (.istore 5, 2) := by decide +kernel
theorem dX9_sayAt_212 : decode cX9_sayAt 212 = .ok (.goto 40, 3) := by decide +kernel
theorem dX9_sayAt_215 : decode cX9_sayAt 215 = .ok (.aload_n 0, 1) := by decide +kernel
theorem dX9_sayAt_216 : decode cX9_sayAt 216 = .ok (.getfield 60, 3) := by decide +kernel
theorem dX9_sayAt_219 : decode cX9_sayAt 219 = .ok (.iload_n 2, 1) := by decide +kernel
theorem dX9_sayAt_220 : decode cX9_sayAt 220 = .ok (.iaload, 1) := by decide +kernel
theorem dX9_sayAt_221 : decode cX9_sayAt 221 = .ok (.iconst 2, 1) := by decide +kernel
theorem dX9_sayAt_222 : decode cX9_sayAt 222 = .ok (.if_icmp .ne 30, 3) := by decide +kernel
theorem dX9_sayAt_225 : decode cX9_sayAt 225 = .ok (.iload 5, 2) := by decide +kernel
theorem dX9_sayAt_227 : decode cX9_sayAt 227 = .ok (.ifCond .ne 18, 3) := by decide +kernel
theorem dX9_sayAt_230 : decode cX9_sayAt 230 = .ok (.aload_n 0, 1) := by decide +kernel
theorem dX9_sayAt_231 : decode cX9_sayAt 231 = .ok (.aload_n 0, 1) := by decide +kernel
theorem dX9_sayAt_232 : decode cX9_sayAt 232 = .ok (.getfield 75, 3) := by decide +kernel
theorem dX9_sayAt_235 : decode cX9_sayAt 235 = .ok (.iload_n 2, 1) := by decide +kernel
theorem dX9_sayAt_236 : decode cX9_sayAt 236 = .ok (.iaload, 1) := by decide +kernel
theorem dX9_sayAt_237 : decode cX9_sayAt 237 = .ok (.iload 4, 2) := by decide +kernel
theorem dX9_sayAt_239 : decode cX9_sayAt 239 = .ok (.invokevirtual 219, 3) := by decide +kernel
theorem dX9_sayAt_242 : decode cX9_sayAt 242 = .ok (.ifCond .eq 7, 3) := by decide +kernel
theorem dX9_sayAt_245 : decode cX9_sayAt 245 = .ok (.iconst 1, 1) := by decide +kernel
theorem dX9_sayAt_246 : decode cX9_sayAt 246 = .ok (.goto 4, 3) := by decide +kernel
theorem dX9_sayAt_249 : decode cX9_sayAt 249 = .ok (.iconst 0, 1) := by decide +kernel
theorem dX9_sayAt_250 : decode cX9_sayAt 250 = .ok (.istore 5, 2) := by decide +kernel
theorem dX9_sayAt_252 : decode cX9_sayAt 252 = .ok (.aload_n 0, 1) := by decide +kernel
theorem dX9_sayAt_253 : decode cX9_sayAt 253 = .ok (.getfield 121, 3) := by decide +kernel
theorem dX9_sayAt_256 : decode cX9_sayAt 256 = .ok (.bipush 6, 2) := by decide +kernel
theorem dX9_sayAt_258 : decode cX9_sayAt 258 = .ok (.iload_n 2, 1) := by decide +kernel
theorem dX9_sayAt_259 : decode cX9_sayAt 259 = .ok (.imul, 1) := by decide +kernel
theorem dX9_sayAt_260 : decode cX9_sayAt 260 = .ok (.iload 4, 2) := by decide +kernel
theorem dX9_sayAt_262 : decode cX9_sayAt 262 = .ok (.iadd, 1) := by decide +kernel
theorem dX9_sayAt_263 : decode cX9_sayAt 263 = .ok (.aload_n 0, 1) := by decide +kernel
theorem dX9_sayAt_264 : decode cX9_sayAt 264 = .ok (.getfield 60, 3) := by decide +kernel
theorem dX9_sayAt_267 : decode cX9_sayAt 267 = .ok (.iload_n 2, 1) := by decide +kernel
theorem dX9_sayAt_268 : decode cX9_sayAt 268 = .ok (.iaload, 1) := by decide +kernel
theorem dX9_sayAt_269 : decode cX9_sayAt 269 = .ok (.iconst 3, 1) := by decide +kernel
theorem dX9_sayAt_270 : decode cX9_sayAt 270 = .ok (.if_icmp .ne 16, 3) := by decide +kernel
theorem dX9_sayAt_273 : decode cX9_sayAt 273 = .ok (.iload 5, 2) := by decide +kernel
theorem dX9_sayAt_275 : decode cX9_sayAt 275 = .ok (.ifCond .ne 7, 3) := by decide +kernel
theorem dX9_sayAt_278 : decode cX9_sayAt 278 = .ok (.iconst 1, 1) := by decide +kernel
theorem dX9_sayAt_279 : decode cX9_sayAt 279 = .ok (.goto 9, 3) := by decide +kernel
theorem dX9_sayAt_282 : decode cX9_sayAt 282 = .ok (.iconst 0, 1) := by decide +kernel
theorem dX9_sayAt_283 : decode cX9_sayAt 283 = .ok (.goto 5, 3) := by decide +kernel
theorem dX9_sayAt_286 : decode cX9_sayAt 286 = .ok (.iload 5, 2) := by decide +kernel
theorem dX9_sayAt_288 : decode cX9_sayAt 288 = .ok (.bastore, 1) := by decide +kernel
theorem dX9_sayAt_289 : decode cX9_sayAt 289 = .ok (.iinc 4 1, 3) := by decide +kernel
theorem dX9_sayAt_292 : decode cX9_sayAt 292 = .ok (.goto (-156), 3) := by decide +kernel
theorem dX9_sayAt_295 : decode cX9_sayAt 295 = .ok (.return_, 1) := by decide +kernel
def jX9_sayAt_288 (self136 : Int → PH → RO) (p0 p2 p3 p4 s0 s1 s2 : Int) (H : PH) : RO :=
  (stz 2 H s0 s1 s2).bind fun H1 => self136 (w32 (p4 + 1)) H1
set_option maxHeartbeats 4000000 in
theorem jX9_sayAt_288_ok {E : PE} {rr : Int} {HH : PH} (F : FX E cX9_sayAt RX9) (q : QE E none HH none) (hn : nLof E = 6) (hf : (roomOf E).frames = 2) (hl : (roomOf E).locals = 44) (self136 : Int → PH → RO) (p0 p2 p3 p4 s0 s1 s2 : Int) (H : PH) (ih136 : ∀ (v4 : Int) (HV : PH), self136 v4 HV = some (rr, HH) → PW E 136 [some (vr p0), none, some (vi p2), some (vi p3), some (vi v4), none] [] HV) (h : jX9_sayAt_288 self136 p0 p2 p3 p4 s0 s1 s2 H = some (rr, HH)) : PW E 288 [some (vr p0), none, some (vi p2), some (vi p3), some (vi p4), none] [vi s2, vi s1, vr s0] H := by
  unfold jX9_sayAt_288 at h
  obtain ⟨H1, eH1, h⟩ := bnd h
  refine pw_zast (pc := 288) F dX9_sayAt_288 (stz_spec eH1).1 (stz_spec eH1).2 ?_
  refine pw_iinc (pc := 289) F dX9_sayAt_289 rfl (lt_nl hn (by decide)) [some (vr p0), none, some (vi p2), some (vi p3), some (vi (w32 (p4 + 1))), none] rfl (by decide) ?_
  refine pw_goto (pc := 292) F 136 dX9_sayAt_292 (by decide) ?_
  exact pw_mask [true, true, true, true, true, true] (ls' := [some (vr p0), none, some (vi p2), some (vi p3), some (vi (w32 (p4 + 1))), none]) rfl (ih136 (w32 (p4 + 1)) H1 h)
def jX9_sayAt_252 (self136 : Int → PH → RO) (p0 p2 p3 p4 p5 : Int) (H : PH) : RO :=
  (ld 25 H p0 45).bind fun x1 => (ld 25 H p0 19).bind fun x2 => (ld 0 H x2 p2).bind fun x3 => (if x3 ≠ 3 then jX9_sayAt_288 self136 p0 p2 p3 p4 x1 (w32 ((w32 (6 * p2)) + p4)) p5 H
  else (if p5 ≠ 0 then jX9_sayAt_288 self136 p0 p2 p3 p4 x1 (w32 ((w32 (6 * p2)) + p4)) 0 H
  else jX9_sayAt_288 self136 p0 p2 p3 p4 x1 (w32 ((w32 (6 * p2)) + p4)) 1 H))
set_option maxHeartbeats 4000000 in
theorem jX9_sayAt_252_ok {E : PE} {rr : Int} {HH : PH} (F : FX E cX9_sayAt RX9) (q : QE E none HH none) (hn : nLof E = 6) (hf : (roomOf E).frames = 2) (hl : (roomOf E).locals = 44) (self136 : Int → PH → RO) (p0 p2 p3 p4 p5 : Int) (H : PH) (ih136 : ∀ (v4 : Int) (HV : PH), self136 v4 HV = some (rr, HH) → PW E 136 [some (vr p0), none, some (vi p2), some (vi p3), some (vi v4), none] [] HV) (h : jX9_sayAt_252 self136 p0 p2 p3 p4 p5 H = some (rr, HH)) : PW E 252 [some (vr p0), none, some (vi p2), some (vi p3), some (vi p4), some (vi p5)] [] H := by
  unfold jX9_sayAt_252 at h
  refine pw_aload_n (pc := 252) F dX9_sayAt_252 rfl ?_
  obtain ⟨x1, ex1, h⟩ := bnd h
  refine pw_get (pc := 253) F 9 45 121 (by decide) (by decide) g_107 inl_9 2 rfl dX9_sayAt_253 ex1 ?_
  refine pw_bipush (pc := 256) F 6 dX9_sayAt_256 (by decide) ?_
  refine pw_iload_n (pc := 258) F dX9_sayAt_258 rfl ?_
  refine pw_imul (pc := 259) F dX9_sayAt_259 ?_
  refine pw_iload (pc := 260) F dX9_sayAt_260 rfl ?_
  refine pw_iadd (pc := 262) F dX9_sayAt_262 ?_
  refine pw_aload_n (pc := 263) F dX9_sayAt_263 rfl ?_
  obtain ⟨x2, ex2, h⟩ := bnd h
  refine pw_get (pc := 264) F 9 19 60 (by decide) (by decide) g_109 inl_9 2 rfl dX9_sayAt_264 ex2 ?_
  refine pw_iload_n (pc := 267) F dX9_sayAt_267 rfl ?_
  obtain ⟨x3, ex3, h⟩ := bnd h
  refine pw_iald (pc := 268) F dX9_sayAt_268 ex3 ?_
  refine pw_iconst (pc := 269) F 3 dX9_sayAt_269 (by decide) ?_
  refine pw_icmp_ne (pc := 270) F 286 dX9_sayAt_270 (by decide) (fun hc => ?_) (fun hc => ?_)
  · have h := iteT hc h
    refine pw_iload (pc := 286) F dX9_sayAt_286 rfl ?_
    exact pw_mask [true, true, true, true, true, false] (ls' := [some (vr p0), none, some (vi p2), some (vi p3), some (vi p4), none]) rfl (jX9_sayAt_288_ok F q hn hf hl self136 p0 p2 p3 p4 x1 (w32 ((w32 (6 * p2)) + p4)) p5 H ih136 h)
  · have h := iteF hc h
    refine pw_iload (pc := 273) F dX9_sayAt_273 rfl ?_
    refine pw_if_ne (pc := 275) F 282 dX9_sayAt_275 (by decide) (fun hc => ?_) (fun hc => ?_)
    · have h := iteT hc h
      refine pw_iconst (pc := 282) F 0 dX9_sayAt_282 (by decide) ?_
      refine pw_goto (pc := 283) F 288 dX9_sayAt_283 (by decide) ?_
      exact pw_mask [true, true, true, true, true, false] (ls' := [some (vr p0), none, some (vi p2), some (vi p3), some (vi p4), none]) rfl (jX9_sayAt_288_ok F q hn hf hl self136 p0 p2 p3 p4 x1 (w32 ((w32 (6 * p2)) + p4)) 0 H ih136 h)
    · have h := iteF hc h
      refine pw_iconst (pc := 278) F 1 dX9_sayAt_278 (by decide) ?_
      refine pw_goto (pc := 279) F 288 dX9_sayAt_279 (by decide) ?_
      exact pw_mask [true, true, true, true, true, false] (ls' := [some (vr p0), none, some (vi p2), some (vi p3), some (vi p4), none]) rfl (jX9_sayAt_288_ok F q hn hf hl self136 p0 p2 p3 p4 x1 (w32 ((w32 (6 * p2)) + p4)) 1 H ih136 h)
def jX9_sayAt_250 (self136 : Int → PH → RO) (p0 p2 p3 p4 s0 : Int) (H : PH) : RO :=
  jX9_sayAt_252 self136 p0 p2 p3 p4 s0 H
set_option maxHeartbeats 4000000 in
theorem jX9_sayAt_250_ok {E : PE} {rr : Int} {HH : PH} (F : FX E cX9_sayAt RX9) (q : QE E none HH none) (hn : nLof E = 6) (hf : (roomOf E).frames = 2) (hl : (roomOf E).locals = 44) (self136 : Int → PH → RO) (p0 p2 p3 p4 s0 : Int) (H : PH) (ih136 : ∀ (v4 : Int) (HV : PH), self136 v4 HV = some (rr, HH) → PW E 136 [some (vr p0), none, some (vi p2), some (vi p3), some (vi v4), none] [] HV) (h : jX9_sayAt_250 self136 p0 p2 p3 p4 s0 H = some (rr, HH)) : PW E 250 [some (vr p0), none, some (vi p2), some (vi p3), some (vi p4), none] [vi s0] H := by
  unfold jX9_sayAt_250 at h
  refine pw_istore (pc := 250) F dX9_sayAt_250 (lt_nl hn (by decide)) [some (vr p0), none, some (vi p2), some (vi p3), some (vi p4), some (vi s0)] rfl ?_
  exact pw_mask [true, true, true, true, true, true] (ls' := [some (vr p0), none, some (vi p2), some (vi p3), some (vi p4), some (vi s0)]) rfl (jX9_sayAt_252_ok F q hn hf hl self136 p0 p2 p3 p4 s0 H ih136 h)
def jX9_sayAt_245 (self136 : Int → PH → RO) (p0 p2 p3 p4 : Int) (H : PH) : RO :=
  jX9_sayAt_250 self136 p0 p2 p3 p4 1 H
set_option maxHeartbeats 4000000 in
theorem jX9_sayAt_245_ok {E : PE} {rr : Int} {HH : PH} (F : FX E cX9_sayAt RX9) (q : QE E none HH none) (hn : nLof E = 6) (hf : (roomOf E).frames = 2) (hl : (roomOf E).locals = 44) (self136 : Int → PH → RO) (p0 p2 p3 p4 : Int) (H : PH) (ih136 : ∀ (v4 : Int) (HV : PH), self136 v4 HV = some (rr, HH) → PW E 136 [some (vr p0), none, some (vi p2), some (vi p3), some (vi v4), none] [] HV) (h : jX9_sayAt_245 self136 p0 p2 p3 p4 H = some (rr, HH)) : PW E 245 [some (vr p0), none, some (vi p2), some (vi p3), some (vi p4), none] [] H := by
  unfold jX9_sayAt_245 at h
  refine pw_iconst (pc := 245) F 1 dX9_sayAt_245 (by decide) ?_
  refine pw_goto (pc := 246) F 250 dX9_sayAt_246 (by decide) ?_
  exact pw_mask [true, true, true, true, true, true] (ls' := [some (vr p0), none, some (vi p2), some (vi p3), some (vi p4), none]) rfl (jX9_sayAt_250_ok F q hn hf hl self136 p0 p2 p3 p4 1 H ih136 h)
def jX9_sayAt_210 (self136 : Int → PH → RO) (p0 p2 p3 p4 s0 : Int) (H : PH) : RO :=
  jX9_sayAt_252 self136 p0 p2 p3 p4 s0 H
set_option maxHeartbeats 4000000 in
theorem jX9_sayAt_210_ok {E : PE} {rr : Int} {HH : PH} (F : FX E cX9_sayAt RX9) (q : QE E none HH none) (hn : nLof E = 6) (hf : (roomOf E).frames = 2) (hl : (roomOf E).locals = 44) (self136 : Int → PH → RO) (p0 p2 p3 p4 s0 : Int) (H : PH) (ih136 : ∀ (v4 : Int) (HV : PH), self136 v4 HV = some (rr, HH) → PW E 136 [some (vr p0), none, some (vi p2), some (vi p3), some (vi v4), none] [] HV) (h : jX9_sayAt_210 self136 p0 p2 p3 p4 s0 H = some (rr, HH)) : PW E 210 [some (vr p0), none, some (vi p2), some (vi p3), some (vi p4), none] [vi s0] H := by
  unfold jX9_sayAt_210 at h
  refine pw_istore (pc := 210) F dX9_sayAt_210 (lt_nl hn (by decide)) [some (vr p0), none, some (vi p2), some (vi p3), some (vi p4), some (vi s0)] rfl ?_
  refine pw_goto (pc := 212) F 252 dX9_sayAt_212 (by decide) ?_
  exact pw_mask [true, true, true, true, true, true] (ls' := [some (vr p0), none, some (vi p2), some (vi p3), some (vi p4), some (vi s0)]) rfl (jX9_sayAt_252_ok F q hn hf hl self136 p0 p2 p3 p4 s0 H ih136 h)
def jX9_sayAt_209 (self136 : Int → PH → RO) (p0 p2 p3 p4 : Int) (H : PH) : RO :=
  jX9_sayAt_210 self136 p0 p2 p3 p4 0 H
set_option maxHeartbeats 4000000 in
theorem jX9_sayAt_209_ok {E : PE} {rr : Int} {HH : PH} (F : FX E cX9_sayAt RX9) (q : QE E none HH none) (hn : nLof E = 6) (hf : (roomOf E).frames = 2) (hl : (roomOf E).locals = 44) (self136 : Int → PH → RO) (p0 p2 p3 p4 : Int) (H : PH) (ih136 : ∀ (v4 : Int) (HV : PH), self136 v4 HV = some (rr, HH) → PW E 136 [some (vr p0), none, some (vi p2), some (vi p3), some (vi v4), none] [] HV) (h : jX9_sayAt_209 self136 p0 p2 p3 p4 H = some (rr, HH)) : PW E 209 [some (vr p0), none, some (vi p2), some (vi p3), some (vi p4), none] [] H := by
  unfold jX9_sayAt_209 at h
  refine pw_iconst (pc := 209) F 0 dX9_sayAt_209 (by decide) ?_
  exact pw_mask [true, true, true, true, true, true] (ls' := [some (vr p0), none, some (vi p2), some (vi p3), some (vi p4), none]) rfl (jX9_sayAt_210_ok F q hn hf hl self136 p0 p2 p3 p4 0 H ih136 h)
def jX9_sayAt_173 (self136 : Int → PH → RO) (p0 p2 p3 p4 s0 : Int) (H : PH) : RO :=
  (ld 25 H p0 19).bind fun x1 => (ld 0 H x1 p2).bind fun x2 => (if x2 ≠ 1 then (ld 25 H p0 19).bind fun x3 => (ld 0 H x3 p2).bind fun x4 => (if x4 ≠ 2 then jX9_sayAt_252 self136 p0 p2 p3 p4 s0 H
  else (if s0 ≠ 0 then jX9_sayAt_245 self136 p0 p2 p3 p4 H
  else (ld 25 H p0 24).bind fun x5 => (ld 0 H x5 p2).bind fun x6 => (f_X9_isSaid p0 x6 p4 H).bind fun z7 => (if z7.1 = 0 then jX9_sayAt_250 self136 p0 p2 p3 p4 0 z7.2
  else jX9_sayAt_245 self136 p0 p2 p3 p4 z7.2)))
  else (if s0 = 0 then jX9_sayAt_209 self136 p0 p2 p3 p4 H
  else (ld 25 H p0 24).bind fun x8 => (ld 0 H x8 p2).bind fun x9 => (f_X9_isSaid p0 x9 p4 H).bind fun z10 => (if z10.1 = 0 then jX9_sayAt_209 self136 p0 p2 p3 p4 z10.2
  else jX9_sayAt_210 self136 p0 p2 p3 p4 1 z10.2)))
set_option maxHeartbeats 4000000 in
theorem jX9_sayAt_173_ok {E : PE} {rr : Int} {HH : PH} (F : FX E cX9_sayAt RX9) (q : QE E none HH none) (hn : nLof E = 6) (hf : (roomOf E).frames = 2) (hl : (roomOf E).locals = 44) (self136 : Int → PH → RO) (p0 p2 p3 p4 s0 : Int) (H : PH) (ih136 : ∀ (v4 : Int) (HV : PH), self136 v4 HV = some (rr, HH) → PW E 136 [some (vr p0), none, some (vi p2), some (vi p3), some (vi v4), none] [] HV) (h : jX9_sayAt_173 self136 p0 p2 p3 p4 s0 H = some (rr, HH)) : PW E 173 [some (vr p0), none, some (vi p2), some (vi p3), some (vi p4), none] [vi s0] H := by
  unfold jX9_sayAt_173 at h
  refine pw_istore (pc := 173) F dX9_sayAt_173 (lt_nl hn (by decide)) [some (vr p0), none, some (vi p2), some (vi p3), some (vi p4), some (vi s0)] rfl ?_
  refine pw_aload_n (pc := 175) F dX9_sayAt_175 rfl ?_
  obtain ⟨x1, ex1, h⟩ := bnd h
  refine pw_get (pc := 176) F 9 19 60 (by decide) (by decide) g_109 inl_9 2 rfl dX9_sayAt_176 ex1 ?_
  refine pw_iload_n (pc := 179) F dX9_sayAt_179 rfl ?_
  obtain ⟨x2, ex2, h⟩ := bnd h
  refine pw_iald (pc := 180) F dX9_sayAt_180 ex2 ?_
  refine pw_iconst (pc := 181) F 1 dX9_sayAt_181 (by decide) ?_
  refine pw_icmp_ne (pc := 182) F 215 dX9_sayAt_182 (by decide) (fun hc => ?_) (fun hc => ?_)
  · have h := iteT hc h
    refine pw_aload_n (pc := 215) F dX9_sayAt_215 rfl ?_
    obtain ⟨x3, ex3, h⟩ := bnd h
    refine pw_get (pc := 216) F 9 19 60 (by decide) (by decide) g_109 inl_9 2 rfl dX9_sayAt_216 ex3 ?_
    refine pw_iload_n (pc := 219) F dX9_sayAt_219 rfl ?_
    obtain ⟨x4, ex4, h⟩ := bnd h
    refine pw_iald (pc := 220) F dX9_sayAt_220 ex4 ?_
    refine pw_iconst (pc := 221) F 2 dX9_sayAt_221 (by decide) ?_
    refine pw_icmp_ne (pc := 222) F 252 dX9_sayAt_222 (by decide) (fun hc => ?_) (fun hc => ?_)
    · have h := iteT hc h
      exact pw_mask [true, true, true, true, true, true] (ls' := [some (vr p0), none, some (vi p2), some (vi p3), some (vi p4), some (vi s0)]) rfl (jX9_sayAt_252_ok F q hn hf hl self136 p0 p2 p3 p4 s0 H ih136 h)
    · have h := iteF hc h
      refine pw_iload (pc := 225) F dX9_sayAt_225 rfl ?_
      refine pw_if_ne (pc := 227) F 245 dX9_sayAt_227 (by decide) (fun hc => ?_) (fun hc => ?_)
      · have h := iteT hc h
        exact pw_mask [true, true, true, true, true, false] (ls' := [some (vr p0), none, some (vi p2), some (vi p3), some (vi p4), none]) rfl (jX9_sayAt_245_ok F q hn hf hl self136 p0 p2 p3 p4 H ih136 h)
      · have h := iteF hc h
        refine pw_aload_n (pc := 230) F dX9_sayAt_230 rfl ?_
        refine pw_aload_n (pc := 231) F dX9_sayAt_231 rfl ?_
        obtain ⟨x5, ex5, h⟩ := bnd h
        refine pw_get (pc := 232) F 9 24 75 (by decide) (by decide) g_111 inl_9 2 rfl dX9_sayAt_232 ex5 ?_
        refine pw_iload_n (pc := 235) F dX9_sayAt_235 rfl ?_
        obtain ⟨x6, ex6, h⟩ := bnd h
        refine pw_iald (pc := 236) F dX9_sayAt_236 ex6 ?_
        refine pw_iload (pc := 237) F dX9_sayAt_237 rfl ?_
        obtain ⟨z7, ez7, h⟩ := bnd h
        refine pw_callV (pc := 239) (as := [vi x6, vi p4]) (st := []) (r := (some (vi z7.1))) F 219 9 (by decide) rfl (fun l => m_X9_isSaid l p0 x6 p4 H z7.1 z7.2 ez7) g_113 g_114 g_115 g_98 g_112 hd_X9_isSaid (rm_ok hf hl (by decide) (by decide)) rfl (vm_spec ez7).1 dX9_sayAt_239 rfl (stk' := [vi z7.1]) rfl ?_
        refine pw_if_eq (pc := 242) F 249 dX9_sayAt_242 (by decide) (fun hc => ?_) (fun hc => ?_)
        · have h := iteT hc h
          refine pw_iconst (pc := 249) F 0 dX9_sayAt_249 (by decide) ?_
          exact pw_mask [true, true, true, true, true, false] (ls' := [some (vr p0), none, some (vi p2), some (vi p3), some (vi p4), none]) rfl (jX9_sayAt_250_ok F q hn hf hl self136 p0 p2 p3 p4 0 z7.2 ih136 h)
        · have h := iteF hc h
          exact pw_mask [true, true, true, true, true, false] (ls' := [some (vr p0), none, some (vi p2), some (vi p3), some (vi p4), none]) rfl (jX9_sayAt_245_ok F q hn hf hl self136 p0 p2 p3 p4 z7.2 ih136 h)
  · have h := iteF hc h
    refine pw_iload (pc := 185) F dX9_sayAt_185 rfl ?_
    refine pw_if_eq (pc := 187) F 209 dX9_sayAt_187 (by decide) (fun hc => ?_) (fun hc => ?_)
    · have h := iteT hc h
      exact pw_mask [true, true, true, true, true, false] (ls' := [some (vr p0), none, some (vi p2), some (vi p3), some (vi p4), none]) rfl (jX9_sayAt_209_ok F q hn hf hl self136 p0 p2 p3 p4 H ih136 h)
    · have h := iteF hc h
      refine pw_aload_n (pc := 190) F dX9_sayAt_190 rfl ?_
      refine pw_aload_n (pc := 191) F dX9_sayAt_191 rfl ?_
      obtain ⟨x8, ex8, h⟩ := bnd h
      refine pw_get (pc := 192) F 9 24 75 (by decide) (by decide) g_111 inl_9 2 rfl dX9_sayAt_192 ex8 ?_
      refine pw_iload_n (pc := 195) F dX9_sayAt_195 rfl ?_
      obtain ⟨x9, ex9, h⟩ := bnd h
      refine pw_iald (pc := 196) F dX9_sayAt_196 ex9 ?_
      refine pw_iload (pc := 197) F dX9_sayAt_197 rfl ?_
      obtain ⟨z10, ez10, h⟩ := bnd h
      refine pw_callV (pc := 199) (as := [vi x9, vi p4]) (st := []) (r := (some (vi z10.1))) F 219 9 (by decide) rfl (fun l => m_X9_isSaid l p0 x9 p4 H z10.1 z10.2 ez10) g_113 g_114 g_115 g_98 g_112 hd_X9_isSaid (rm_ok hf hl (by decide) (by decide)) rfl (vm_spec ez10).1 dX9_sayAt_199 rfl (stk' := [vi z10.1]) rfl ?_
      refine pw_if_eq (pc := 202) F 209 dX9_sayAt_202 (by decide) (fun hc => ?_) (fun hc => ?_)
      · have h := iteT hc h
        exact pw_mask [true, true, true, true, true, false] (ls' := [some (vr p0), none, some (vi p2), some (vi p3), some (vi p4), none]) rfl (jX9_sayAt_209_ok F q hn hf hl self136 p0 p2 p3 p4 z10.2 ih136 h)
      · have h := iteF hc h
        refine pw_iconst (pc := 205) F 1 dX9_sayAt_205 (by decide) ?_
        refine pw_goto (pc := 206) F 210 dX9_sayAt_206 (by decide) ?_
        exact pw_mask [true, true, true, true, true, false] (ls' := [some (vr p0), none, some (vi p2), some (vi p3), some (vi p4), none]) rfl (jX9_sayAt_210_ok F q hn hf hl self136 p0 p2 p3 p4 1 z10.2 ih136 h)
def lX9_sayAt_136 (p0 p2 p3 : Int) (self136 : Int → PH → RO) (p4 : Int) (H : PH) : RO :=
  (if p4 > p3 then some (0, H)
  else (ld 25 H p0 19).bind fun x1 => (ld 0 H x1 p2).bind fun x2 => (if x2 ≠ 0 then (ld 25 H p0 23).bind fun x3 => (ld 0 H x3 p2).bind fun x4 => (f_X9_isSaid p0 x4 p4 H).bind fun z5 => jX9_sayAt_173 self136 p0 p2 p3 p4 z5.1 z5.2
  else (f_X9_isAsked p0 p2 p4 H).bind fun z6 => jX9_sayAt_173 self136 p0 p2 p3 p4 z6.1 z6.2))
set_option maxHeartbeats 4000000 in
theorem lX9_sayAt_136_ok {E : PE} {rr : Int} {HH : PH} (F : FX E cX9_sayAt RX9) (q : QE E none HH none) (hn : nLof E = 6) (hf : (roomOf E).frames = 2) (hl : (roomOf E).locals = 44) (p0 p2 p3 : Int) : ∀ (n : Nat) (p4 : Int) (H : PH), lq1 (lX9_sayAt_136 p0 p2 p3) n p4 H = some (rr, HH) → PW E 136 [some (vr p0), none, some (vi p2), some (vi p3), some (vi p4), none] [] H := by
  refine lq1_ind (P := fun p4 H => PW E 136 [some (vr p0), none, some (vi p2), some (vi p3), some (vi p4), none] [] H) ?_
  intro self136 ih136 p4 H h
  unfold lX9_sayAt_136 at h
  refine pw_iload (pc := 136) F dX9_sayAt_136 rfl ?_
  refine pw_iload_n (pc := 138) F dX9_sayAt_138 rfl ?_
  refine pw_icmp_gt (pc := 139) F 295 dX9_sayAt_139 (by decide) (fun hc => ?_) (fun hc => ?_)
  · have h := iteT hc h
    cases h
    exact pw_vret (pc := 295) F q dX9_sayAt_295
  · have h := iteF hc h
    refine pw_aload_n (pc := 142) F dX9_sayAt_142 rfl ?_
    obtain ⟨x1, ex1, h⟩ := bnd h
    refine pw_get (pc := 143) F 9 19 60 (by decide) (by decide) g_109 inl_9 2 rfl dX9_sayAt_143 ex1 ?_
    refine pw_iload_n (pc := 146) F dX9_sayAt_146 rfl ?_
    obtain ⟨x2, ex2, h⟩ := bnd h
    refine pw_iald (pc := 147) F dX9_sayAt_147 ex2 ?_
    refine pw_if_ne (pc := 148) F 161 dX9_sayAt_148 (by decide) (fun hc => ?_) (fun hc => ?_)
    · have h := iteT hc h
      refine pw_aload_n (pc := 161) F dX9_sayAt_161 rfl ?_
      refine pw_aload_n (pc := 162) F dX9_sayAt_162 rfl ?_
      obtain ⟨x3, ex3, h⟩ := bnd h
      refine pw_get (pc := 163) F 9 23 72 (by decide) (by decide) g_110 inl_9 2 rfl dX9_sayAt_163 ex3 ?_
      refine pw_iload_n (pc := 166) F dX9_sayAt_166 rfl ?_
      obtain ⟨x4, ex4, h⟩ := bnd h
      refine pw_iald (pc := 167) F dX9_sayAt_167 ex4 ?_
      refine pw_iload (pc := 168) F dX9_sayAt_168 rfl ?_
      obtain ⟨z5, ez5, h⟩ := bnd h
      refine pw_callV (pc := 170) (as := [vi x4, vi p4]) (st := []) (r := (some (vi z5.1))) F 219 9 (by decide) rfl (fun l => m_X9_isSaid l p0 x4 p4 H z5.1 z5.2 ez5) g_113 g_114 g_115 g_98 g_112 hd_X9_isSaid (rm_ok hf hl (by decide) (by decide)) rfl (vm_spec ez5).1 dX9_sayAt_170 rfl (stk' := [vi z5.1]) rfl ?_
      exact pw_mask [true, true, true, true, true, true] (ls' := [some (vr p0), none, some (vi p2), some (vi p3), some (vi p4), none]) rfl (jX9_sayAt_173_ok F q hn hf hl self136 p0 p2 p3 p4 z5.1 z5.2 ih136 h)
    · have h := iteF hc h
      refine pw_aload_n (pc := 151) F dX9_sayAt_151 rfl ?_
      refine pw_iload_n (pc := 152) F dX9_sayAt_152 rfl ?_
      refine pw_iload (pc := 153) F dX9_sayAt_153 rfl ?_
      obtain ⟨z6, ez6, h⟩ := bnd h
      refine pw_callV (pc := 155) (as := [vi p2, vi p4]) (st := []) (r := (some (vi z6.1))) F 215 9 (by decide) rfl (fun l => m_X9_isAsked l p0 p2 p4 H z6.1 z6.2 ez6) g_117 g_118 g_119 g_98 g_116 hd_X9_isAsked (rm_ok hf hl (by decide) (by decide)) rfl (vm_spec ez6).1 dX9_sayAt_155 rfl (stk' := [vi z6.1]) rfl ?_
      refine pw_goto (pc := 158) F 173 dX9_sayAt_158 (by decide) ?_
      exact pw_mask [true, true, true, true, true, true] (ls' := [some (vr p0), none, some (vi p2), some (vi p3), some (vi p4), none]) rfl (jX9_sayAt_173_ok F q hn hf hl self136 p0 p2 p3 p4 z6.1 z6.2 ih136 h)
def jX9_sayAt_134 (p0 p2 p3 s0 : Int) (H : PH) : RO :=
  lq1 (lX9_sayAt_136 p0 p2 p3) 6000 s0 H
set_option maxHeartbeats 4000000 in
theorem jX9_sayAt_134_ok {E : PE} {rr : Int} {HH : PH} (F : FX E cX9_sayAt RX9) (q : QE E none HH none) (hn : nLof E = 6) (hf : (roomOf E).frames = 2) (hl : (roomOf E).locals = 44) (p0 p2 p3 s0 : Int) (H : PH) (h : jX9_sayAt_134 p0 p2 p3 s0 H = some (rr, HH)) : PW E 134 [some (vr p0), none, some (vi p2), some (vi p3), none, none] [vi s0] H := by
  unfold jX9_sayAt_134 at h
  refine pw_istore (pc := 134) F dX9_sayAt_134 (lt_nl hn (by decide)) [some (vr p0), none, some (vi p2), some (vi p3), some (vi s0), none] rfl ?_
  exact pw_mask [true, true, true, true, true, true] (ls' := [some (vr p0), none, some (vi p2), some (vi p3), some (vi s0), none]) rfl (lX9_sayAt_136_ok F q hn hf hl p0 p2 p3  6000 s0 H h)
def jX9_sayAt_119 (p0 p2 s0 : Int) (H : PH) : RO :=
  (ld 25 H p0 25).bind fun x1 => (ld 0 H x1 p2).bind fun x2 => (if x2 ≥ 0 then jX9_sayAt_134 p0 p2 s0 1 H
  else jX9_sayAt_134 p0 p2 s0 0 H)
set_option maxHeartbeats 4000000 in
theorem jX9_sayAt_119_ok {E : PE} {rr : Int} {HH : PH} (F : FX E cX9_sayAt RX9) (q : QE E none HH none) (hn : nLof E = 6) (hf : (roomOf E).frames = 2) (hl : (roomOf E).locals = 44) (p0 p2 s0 : Int) (H : PH) (h : jX9_sayAt_119 p0 p2 s0 H = some (rr, HH)) : PW E 119 [some (vr p0), none, some (vi p2), none, none, none] [vi s0] H := by
  unfold jX9_sayAt_119 at h
  refine pw_istore_n (pc := 119) F dX9_sayAt_119 (lt_nl hn (by decide)) [some (vr p0), none, some (vi p2), some (vi s0), none, none] rfl ?_
  refine pw_aload_n (pc := 120) F dX9_sayAt_120 rfl ?_
  obtain ⟨x1, ex1, h⟩ := bnd h
  refine pw_get (pc := 121) F 9 25 78 (by decide) (by decide) g_108 inl_9 2 rfl dX9_sayAt_121 ex1 ?_
  refine pw_iload_n (pc := 124) F dX9_sayAt_124 rfl ?_
  obtain ⟨x2, ex2, h⟩ := bnd h
  refine pw_iald (pc := 125) F dX9_sayAt_125 ex2 ?_
  refine pw_if_ge (pc := 126) F 133 dX9_sayAt_126 (by decide) (fun hc => ?_) (fun hc => ?_)
  · have h := iteT hc h
    refine pw_iconst (pc := 133) F 1 dX9_sayAt_133 (by decide) ?_
    exact pw_mask [true, true, true, true, true, true] (ls' := [some (vr p0), none, some (vi p2), some (vi s0), none, none]) rfl (jX9_sayAt_134_ok F q hn hf hl p0 p2 s0 1 H h)
  · have h := iteF hc h
    refine pw_iconst (pc := 129) F 0 dX9_sayAt_129 (by decide) ?_
    refine pw_goto (pc := 130) F 134 dX9_sayAt_130 (by decide) ?_
    exact pw_mask [true, true, true, true, true, true] (ls' := [some (vr p0), none, some (vi p2), some (vi s0), none, none]) rfl (jX9_sayAt_134_ok F q hn hf hl p0 p2 s0 0 H h)
def jX9_sayAt_93 (s0 s1 s2 : Int) (H : PH) : RO :=
  (stz 2 H s0 s1 s2).bind fun H1 => some (0, H1)
set_option maxHeartbeats 4000000 in
theorem jX9_sayAt_93_ok {E : PE} {rr : Int} {HH : PH} (F : FX E cX9_sayAt RX9) (q : QE E none HH none) (hn : nLof E = 6) (hf : (roomOf E).frames = 2) (hl : (roomOf E).locals = 44) (s0 s1 s2 : Int) (H : PH) (h : jX9_sayAt_93 s0 s1 s2 H = some (rr, HH)) : PW E 93 [none, none, none, none, none, none] [vi s2, vi s1, vr s0] H := by
  unfold jX9_sayAt_93 at h
  obtain ⟨H1, eH1, h⟩ := bnd h
  refine pw_zast (pc := 93) F dX9_sayAt_93 (stz_spec eH1).1 (stz_spec eH1).2 ?_
  cases h
  exact pw_vret (pc := 94) F q dX9_sayAt_94
def jX9_sayAt_62 (self15 : Int → Int → PH → RO) (p0 p1 p2 p4 s0 s1 : Int) (H : PH) : RO :=
  self15 (w32 (s0 + s1)) (w32 (p4 + 1)) H
set_option maxHeartbeats 4000000 in
theorem jX9_sayAt_62_ok {E : PE} {rr : Int} {HH : PH} (F : FX E cX9_sayAt RX9) (q : QE E none HH none) (hn : nLof E = 6) (hf : (roomOf E).frames = 2) (hl : (roomOf E).locals = 44) (self15 : Int → Int → PH → RO) (p0 p1 p2 p4 s0 s1 : Int) (H : PH) (ih15 : ∀ (v3 v4 : Int) (HV : PH), self15 v3 v4 HV = some (rr, HH) → PW E 15 [some (vr p0), some (vi p1), some (vi p2), some (vi v3), some (vi v4), none] [] HV) (h : jX9_sayAt_62 self15 p0 p1 p2 p4 s0 s1 H = some (rr, HH)) : PW E 62 [some (vr p0), some (vi p1), some (vi p2), none, some (vi p4), none] [vi s1, vi s0] H := by
  unfold jX9_sayAt_62 at h
  refine pw_iadd (pc := 62) F dX9_sayAt_62 ?_
  refine pw_istore_n (pc := 63) F dX9_sayAt_63 (lt_nl hn (by decide)) [some (vr p0), some (vi p1), some (vi p2), some (vi (w32 (s0 + s1))), some (vi p4), none] rfl ?_
  refine pw_iinc (pc := 64) F dX9_sayAt_64 rfl (lt_nl hn (by decide)) [some (vr p0), some (vi p1), some (vi p2), some (vi (w32 (s0 + s1))), some (vi (w32 (p4 + 1))), none] rfl (by decide) ?_
  refine pw_goto (pc := 67) F 15 dX9_sayAt_67 (by decide) ?_
  exact pw_mask [true, true, true, true, true, true] (ls' := [some (vr p0), some (vi p1), some (vi p2), some (vi (w32 (s0 + s1))), some (vi (w32 (p4 + 1))), none]) rfl (ih15 (w32 (s0 + s1)) (w32 (p4 + 1)) H h)
def lX9_sayAt_15 (p0 p1 p2 : Int) (self15 : Int → Int → PH → RO) (p3 p4 : Int) (H : PH) : RO :=
  (ld 25 H p0 25).bind fun x1 => (ld 25 H p0 23).bind fun x2 => (ld 0 H x2 p2).bind fun x3 => (ld 0 H x1 x3).bind fun x4 => (f_X9_persons p0 p1 x4 H).bind fun z5 => (if p4 > z5.1 then (ld 25 z5.2 p0 45).bind fun x6 => (ld 25 z5.2 p0 20).bind fun x7 => (ld 0 z5.2 x7 p2).bind fun x8 => (if p3 < x8 then jX9_sayAt_93 x6 (w32 (6 * p2)) 0 z5.2
  else jX9_sayAt_93 x6 (w32 (6 * p2)) 1 z5.2)
  else (ld 25 z5.2 p0 45).bind fun x9 => (ld 25 z5.2 p0 23).bind fun x10 => (ld 0 z5.2 x10 p2).bind fun x11 => (ld 2 z5.2 x9 (w32 ((w32 (6 * x11)) + p4))).bind fun x12 => (if x12 = 0 then jX9_sayAt_62 self15 p0 p1 p2 p4 p3 0 z5.2
  else jX9_sayAt_62 self15 p0 p1 p2 p4 p3 1 z5.2))
set_option maxHeartbeats 4000000 in
theorem lX9_sayAt_15_ok {E : PE} {rr : Int} {HH : PH} (F : FX E cX9_sayAt RX9) (q : QE E none HH none) (hn : nLof E = 6) (hf : (roomOf E).frames = 2) (hl : (roomOf E).locals = 44) (p0 p1 p2 : Int) : ∀ (n : Nat) (p3 p4 : Int) (H : PH), lq2 (lX9_sayAt_15 p0 p1 p2) n p3 p4 H = some (rr, HH) → PW E 15 [some (vr p0), some (vi p1), some (vi p2), some (vi p3), some (vi p4), none] [] H := by
  refine lq2_ind (P := fun p3 p4 H => PW E 15 [some (vr p0), some (vi p1), some (vi p2), some (vi p3), some (vi p4), none] [] H) ?_
  intro self15 ih15 p3 p4 H h
  unfold lX9_sayAt_15 at h
  refine pw_iload (pc := 15) F dX9_sayAt_15 rfl ?_
  refine pw_aload_n (pc := 17) F dX9_sayAt_17 rfl ?_
  refine pw_iload_n (pc := 18) F dX9_sayAt_18 rfl ?_
  refine pw_aload_n (pc := 19) F dX9_sayAt_19 rfl ?_
  obtain ⟨x1, ex1, h⟩ := bnd h
  refine pw_get (pc := 20) F 9 25 78 (by decide) (by decide) g_108 inl_9 2 rfl dX9_sayAt_20 ex1 ?_
  refine pw_aload_n (pc := 23) F dX9_sayAt_23 rfl ?_
  obtain ⟨x2, ex2, h⟩ := bnd h
  refine pw_get (pc := 24) F 9 23 72 (by decide) (by decide) g_110 inl_9 2 rfl dX9_sayAt_24 ex2 ?_
  refine pw_iload_n (pc := 27) F dX9_sayAt_27 rfl ?_
  obtain ⟨x3, ex3, h⟩ := bnd h
  refine pw_iald (pc := 28) F dX9_sayAt_28 ex3 ?_
  obtain ⟨x4, ex4, h⟩ := bnd h
  refine pw_iald (pc := 29) F dX9_sayAt_29 ex4 ?_
  obtain ⟨z5, ez5, h⟩ := bnd h
  refine pw_callV (pc := 30) (as := [vi p1, vi x4]) (st := [vi p4]) (r := (some (vi z5.1))) F 184 9 (by decide) rfl (fun l => m_X9_persons l p0 p1 x4 H z5.1 z5.2 ez5) g_121 g_122 g_123 g_98 g_120 hd_X9_persons (rm_ok hf hl (by decide) (by decide)) rfl (vm_spec ez5).1 dX9_sayAt_30 rfl (stk' := [vi z5.1, vi p4]) rfl ?_
  refine pw_icmp_gt (pc := 33) F 70 dX9_sayAt_33 (by decide) (fun hc => ?_) (fun hc => ?_)
  · have h := iteT hc h
    refine pw_aload_n (pc := 70) F dX9_sayAt_70 rfl ?_
    obtain ⟨x6, ex6, h⟩ := bnd h
    refine pw_get (pc := 71) F 9 45 121 (by decide) (by decide) g_107 inl_9 2 rfl dX9_sayAt_71 ex6 ?_
    refine pw_bipush (pc := 74) F 6 dX9_sayAt_74 (by decide) ?_
    refine pw_iload_n (pc := 76) F dX9_sayAt_76 rfl ?_
    refine pw_imul (pc := 77) F dX9_sayAt_77 ?_
    refine pw_iload_n (pc := 78) F dX9_sayAt_78 rfl ?_
    refine pw_aload_n (pc := 79) F dX9_sayAt_79 rfl ?_
    obtain ⟨x7, ex7, h⟩ := bnd h
    refine pw_get (pc := 80) F 9 20 63 (by decide) (by decide) g_102 inl_9 2 rfl dX9_sayAt_80 ex7 ?_
    refine pw_iload_n (pc := 83) F dX9_sayAt_83 rfl ?_
    obtain ⟨x8, ex8, h⟩ := bnd h
    refine pw_iald (pc := 84) F dX9_sayAt_84 ex8 ?_
    refine pw_icmp_lt (pc := 85) F 92 dX9_sayAt_85 (by decide) (fun hc => ?_) (fun hc => ?_)
    · have h := iteT hc h
      refine pw_iconst (pc := 92) F 0 dX9_sayAt_92 (by decide) ?_
      exact pw_mask [false, false, false, false, false, true] (ls' := [none, none, none, none, none, none]) rfl (jX9_sayAt_93_ok F q hn hf hl x6 (w32 (6 * p2)) 0 z5.2 h)
    · have h := iteF hc h
      refine pw_iconst (pc := 88) F 1 dX9_sayAt_88 (by decide) ?_
      refine pw_goto (pc := 89) F 93 dX9_sayAt_89 (by decide) ?_
      exact pw_mask [false, false, false, false, false, true] (ls' := [none, none, none, none, none, none]) rfl (jX9_sayAt_93_ok F q hn hf hl x6 (w32 (6 * p2)) 1 z5.2 h)
  · have h := iteF hc h
    refine pw_iload_n (pc := 36) F dX9_sayAt_36 rfl ?_
    refine pw_aload_n (pc := 37) F dX9_sayAt_37 rfl ?_
    obtain ⟨x9, ex9, h⟩ := bnd h
    refine pw_get (pc := 38) F 9 45 121 (by decide) (by decide) g_107 inl_9 2 rfl dX9_sayAt_38 ex9 ?_
    refine pw_bipush (pc := 41) F 6 dX9_sayAt_41 (by decide) ?_
    refine pw_aload_n (pc := 43) F dX9_sayAt_43 rfl ?_
    obtain ⟨x10, ex10, h⟩ := bnd h
    refine pw_get (pc := 44) F 9 23 72 (by decide) (by decide) g_110 inl_9 2 rfl dX9_sayAt_44 ex10 ?_
    refine pw_iload_n (pc := 47) F dX9_sayAt_47 rfl ?_
    obtain ⟨x11, ex11, h⟩ := bnd h
    refine pw_iald (pc := 48) F dX9_sayAt_48 ex11 ?_
    refine pw_imul (pc := 49) F dX9_sayAt_49 ?_
    refine pw_iload (pc := 50) F dX9_sayAt_50 rfl ?_
    refine pw_iadd (pc := 52) F dX9_sayAt_52 ?_
    obtain ⟨x12, ex12, h⟩ := bnd h
    refine pw_zald (pc := 53) F dX9_sayAt_53 ex12 ?_
    refine pw_if_eq (pc := 54) F 61 dX9_sayAt_54 (by decide) (fun hc => ?_) (fun hc => ?_)
    · have h := iteT hc h
      refine pw_iconst (pc := 61) F 0 dX9_sayAt_61 (by decide) ?_
      exact pw_mask [true, true, true, false, true, true] (ls' := [some (vr p0), some (vi p1), some (vi p2), none, some (vi p4), none]) rfl (jX9_sayAt_62_ok F q hn hf hl self15 p0 p1 p2 p4 p3 0 z5.2 ih15 h)
    · have h := iteF hc h
      refine pw_iconst (pc := 57) F 1 dX9_sayAt_57 (by decide) ?_
      refine pw_goto (pc := 58) F 62 dX9_sayAt_58 (by decide) ?_
      exact pw_mask [true, true, true, false, true, true] (ls' := [some (vr p0), some (vi p1), some (vi p2), none, some (vi p4), none]) rfl (jX9_sayAt_62_ok F q hn hf hl self15 p0 p1 p2 p4 p3 1 z5.2 ih15 h)
def f_X9_sayAt (a0 a1 a2 : Int) (H : PH) : RO := vm 9 a0 H <|
  (ld 25 H a0 19).bind fun x1 => (ld 0 H x1 a2).bind fun x2 => (if x2 ≠ 4 then (ld 25 H a0 25).bind fun x3 => (ld 0 H x3 a2).bind fun x4 => (if x4 ≥ 0 then (ld 25 H a0 25).bind fun x5 => (ld 0 H x5 a2).bind fun x6 => (f_X9_persons a0 a1 x6 H).bind fun z7 => jX9_sayAt_119 a0 a2 z7.1 z7.2
  else jX9_sayAt_119 a0 a2 0 H)
  else lq2 (lX9_sayAt_15 a0 a1 a2) 6000 0 1 H)
set_option maxHeartbeats 4000000 in
theorem m_X9_sayAt (l : Launch) (a0 a1 a2 : Int) (H : PH) (rr : Int) (HH : PH) (h : f_X9_sayAt a0 a1 a2 H = some (rr, HH)) : CT l yX9_sayAt cX9_sayAt 6 none 2 44 [vr a0, vi a1, vi a2] H none HH := by
  refine CT.of RX9 (by decide) rfl [some (vr a0), some (vi a1), some (vi a2), none, none, none] rfl rfl ?_
  intro E F q hn hf hl hm
  unfold f_X9_sayAt at h
  obtain ⟨hv, h⟩ := vm_spec h
  refine pw_aload_n (pc := 0) F dX9_sayAt_0 rfl ?_
  obtain ⟨x1, ex1, h⟩ := bnd h
  refine pw_get (pc := 1) F 9 19 60 (by decide) (by decide) g_109 inl_9 2 rfl dX9_sayAt_1 ex1 ?_
  refine pw_iload_n (pc := 4) F dX9_sayAt_4 rfl ?_
  obtain ⟨x2, ex2, h⟩ := bnd h
  refine pw_iald (pc := 5) F dX9_sayAt_5 ex2 ?_
  refine pw_iconst (pc := 6) F 4 dX9_sayAt_6 (by decide) ?_
  refine pw_icmp_ne (pc := 7) F 95 dX9_sayAt_7 (by decide) (fun hc => ?_) (fun hc => ?_)
  · have h := iteT hc h
    refine pw_aload_n (pc := 95) F dX9_sayAt_95 rfl ?_
    obtain ⟨x3, ex3, h⟩ := bnd h
    refine pw_get (pc := 96) F 9 25 78 (by decide) (by decide) g_108 inl_9 2 rfl dX9_sayAt_96 ex3 ?_
    refine pw_iload_n (pc := 99) F dX9_sayAt_99 rfl ?_
    obtain ⟨x4, ex4, h⟩ := bnd h
    refine pw_iald (pc := 100) F dX9_sayAt_100 ex4 ?_
    refine pw_if_ge (pc := 101) F 108 dX9_sayAt_101 (by decide) (fun hc => ?_) (fun hc => ?_)
    · have h := iteT hc h
      refine pw_aload_n (pc := 108) F dX9_sayAt_108 rfl ?_
      refine pw_iload_n (pc := 109) F dX9_sayAt_109 rfl ?_
      refine pw_aload_n (pc := 110) F dX9_sayAt_110 rfl ?_
      obtain ⟨x5, ex5, h⟩ := bnd h
      refine pw_get (pc := 111) F 9 25 78 (by decide) (by decide) g_108 inl_9 2 rfl dX9_sayAt_111 ex5 ?_
      refine pw_iload_n (pc := 114) F dX9_sayAt_114 rfl ?_
      obtain ⟨x6, ex6, h⟩ := bnd h
      refine pw_iald (pc := 115) F dX9_sayAt_115 ex6 ?_
      obtain ⟨z7, ez7, h⟩ := bnd h
      refine pw_callV (pc := 116) (as := [vi a1, vi x6]) (st := []) (r := (some (vi z7.1))) F 184 9 (by decide) rfl (fun l => m_X9_persons l a0 a1 x6 H z7.1 z7.2 ez7) g_121 g_122 g_123 g_98 g_120 hd_X9_persons (rm_ok hf hl (by decide) (by decide)) rfl (vm_spec ez7).1 dX9_sayAt_116 rfl (stk' := [vi z7.1]) rfl ?_
      exact pw_mask [true, false, true, true, true, true] (ls' := [some (vr a0), none, some (vi a2), none, none, none]) rfl (jX9_sayAt_119_ok F q hn hf hl a0 a2 z7.1 z7.2 h)
    · have h := iteF hc h
      refine pw_iconst (pc := 104) F 0 dX9_sayAt_104 (by decide) ?_
      refine pw_goto (pc := 105) F 119 dX9_sayAt_105 (by decide) ?_
      exact pw_mask [true, false, true, true, true, true] (ls' := [some (vr a0), none, some (vi a2), none, none, none]) rfl (jX9_sayAt_119_ok F q hn hf hl a0 a2 0 H h)
  · have h := iteF hc h
    refine pw_iconst (pc := 10) F 0 dX9_sayAt_10 (by decide) ?_
    refine pw_istore_n (pc := 11) F dX9_sayAt_11 (lt_nl hn (by decide)) [some (vr a0), some (vi a1), some (vi a2), some (vi 0), none, none] rfl ?_
    refine pw_iconst (pc := 12) F 1 dX9_sayAt_12 (by decide) ?_
    refine pw_istore (pc := 13) F dX9_sayAt_13 (lt_nl hn (by decide)) [some (vr a0), some (vi a1), some (vi a2), some (vi 0), some (vi 1), none] rfl ?_
    exact pw_mask [true, true, true, true, true, true] (ls' := [some (vr a0), some (vi a1), some (vi a2), some (vi 0), some (vi 1), none]) rfl (lX9_sayAt_15_ok F q hn hf hl a0 a1 a2  6000 0 1 H h)
