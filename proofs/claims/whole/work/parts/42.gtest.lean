/-! java/lang/Integer.bitCount(I)I by roles -/
def g_J6_bitCount_0f7a4 (a0 : Int) (G : GS) : GO :=
  some ((i_and (w32 ((w32 ((i_and (w32 ((w32 ((i_and (w32 (a0 - (i_and (i_ushr a0 1) 1431655765))) 858993459) + (i_and (i_ushr (w32 (a0 - (i_and (i_ushr a0 1) 1431655765))) 2) 858993459))) + (i_ushr (w32 ((i_and (w32 (a0 - (i_and (i_ushr a0 1) 1431655765))) 858993459) + (i_and (i_ushr (w32 (a0 - (i_and (i_ushr a0 1) 1431655765))) 2) 858993459))) 4))) 252645135) + (i_ushr (i_and (w32 ((w32 ((i_and (w32 (a0 - (i_and (i_ushr a0 1) 1431655765))) 858993459) + (i_and (i_ushr (w32 (a0 - (i_and (i_ushr a0 1) 1431655765))) 2) 858993459))) + (i_ushr (w32 ((i_and (w32 (a0 - (i_and (i_ushr a0 1) 1431655765))) 858993459) + (i_and (i_ushr (w32 (a0 - (i_and (i_ushr a0 1) 1431655765))) 2) 858993459))) 4))) 252645135) 8))) + (i_ushr (w32 ((i_and (w32 ((w32 ((i_and (w32 (a0 - (i_and (i_ushr a0 1) 1431655765))) 858993459) + (i_and (i_ushr (w32 (a0 - (i_and (i_ushr a0 1) 1431655765))) 2) 858993459))) + (i_ushr (w32 ((i_and (w32 (a0 - (i_and (i_ushr a0 1) 1431655765))) 858993459) + (i_and (i_ushr (w32 (a0 - (i_and (i_ushr a0 1) 1431655765))) 2) 858993459))) 4))) 252645135) + (i_ushr (i_and (w32 ((w32 ((i_and (w32 (a0 - (i_and (i_ushr a0 1) 1431655765))) 858993459) + (i_and (i_ushr (w32 (a0 - (i_and (i_ushr a0 1) 1431655765))) 2) 858993459))) + (i_ushr (w32 ((i_and (w32 (a0 - (i_and (i_ushr a0 1) 1431655765))) 858993459) + (i_and (i_ushr (w32 (a0 - (i_and (i_ushr a0 1) 1431655765))) 2) 858993459))) 4))) 252645135) 8))) 16))) 63), G)
set_option maxHeartbeats 4000000 in
theorem s_J6_bitCount_0f7a4 {ad : Nat → Nat → Nat} {Cn : Nat → Nat} {H : PH} {G G' : GS} {rr : Int} {a0 : Int} (hS : SimA ad Cn H G)  (h : g_J6_bitCount_0f7a4 a0 G = some (rr, G')) : RS ad Cn (f_J6_bitCount_0f7a4 a0 H) 0 rr G' := by
  unfold g_J6_bitCount_0f7a4 at h
  unfold f_J6_bitCount_0f7a4
  cases h
  exact rret hS rfl
/-! HouseholdVault.spot(II)I by roles -/
def g_X8_spot (a0 a1 : Int) (G : GS) : GO :=
  some ((w32 ((w32 (a0 * 5)) + (imax a1 0))), G)
set_option maxHeartbeats 4000000 in
theorem s_X8_spot {ad : Nat → Nat → Nat} {Cn : Nat → Nat} {H : PH} {G G' : GS} {rr : Int} {a0 a1 : Int} (hS : SimA ad Cn H G)  (h : g_X8_spot a0 a1 G = some (rr, G')) : RS ad Cn (f_X8_spot a0 a1 H) 0 rr G' := by
  unfold g_X8_spot at h
  unfold f_X8_spot
  cases h
  exact rret hS rfl
/-! HouseholdVault$Finder.<init>()V by roles -/
def g_X2_init (a0 : Int) (G : GS) : GO := gvm a0 <|
  some (0, G)
set_option maxHeartbeats 4000000 in
theorem s_X2_init {ad : Nat → Nat → Nat} {Cn : Nat → Nat} {H : PH} {G G' : GS} {rr : Int} {a0 b0 : Int} (hS : SimA ad Cn H G) (w0 : vrel ad Cn 13 b0 a0) (h : g_X2_init a0 G = some (rr, G')) : RS ad Cn (f_X2_init b0 H) 0 rr G' := by
  unfold g_X2_init at h
  unfold f_X2_init
  obtain ⟨hv, h⟩ := gvm_spec h
  refine rb_vm 13 2 hS w0 hv rfl ?_
  cases h
  exact rret hS rfl
/-! HouseholdVault$Finder.meet(III)V by roles -/
def gjX2_meet_26 (p0 : Int) (G : GS) : GO :=
  (gl 13 G p0 1).bind fun x1 => (gs 13 G p0 1 (w32 (x1 + 1))).bind fun G2 => some (0, G2)
set_option maxHeartbeats 4000000 in
theorem sjX2_meet_26 {ad : Nat → Nat → Nat} {Cn : Nat → Nat} {H : PH} {G G' : GS} {rr : Int} {p0 b0 : Int} (hS : SimA ad Cn H G) (w0 : vrel ad Cn 13 b0 p0) (h : gjX2_meet_26 p0 G = some (rr, G')) : RS ad Cn (jX2_meet_26 b0 H) 0 rr G' := by
  unfold gjX2_meet_26 at h
  unfold jX2_meet_26
  obtain ⟨x1, ex1, h⟩ := bnd h
  refine rb_ld 13 hS w0 ex1 rfl rfl ?_
  obtain ⟨G2, eG2, h⟩ := bnd h
  refine rb_st 13 hS w0 (show rrel _ _ 0 _ _ from rfl) eG2 rfl ?_
  intro H hS
  cases h
  exact rret hS rfl
def g_X2_meet (a0 a1 a2 a3 : Int) (G : GS) : GO := gvm a0 <|
  (gl 13 G a0 1).bind fun x1 => (gl 13 G a0 0).bind fun x2 => (if x1 ≠ x2 then gjX2_meet_26 a0 G
  else (gs 13 G a0 2 a1).bind fun G3 => (gs 13 G3 a0 3 a2).bind fun G4 => (gs 13 G4 a0 4 a3).bind fun G5 => gjX2_meet_26 a0 G5)
set_option maxHeartbeats 4000000 in
theorem s_X2_meet {ad : Nat → Nat → Nat} {Cn : Nat → Nat} {H : PH} {G G' : GS} {rr : Int} {a0 a1 a2 a3 b0 : Int} (hS : SimA ad Cn H G) (w0 : vrel ad Cn 13 b0 a0) (h : g_X2_meet a0 a1 a2 a3 G = some (rr, G')) : RS ad Cn (f_X2_meet b0 a1 a2 a3 H) 0 rr G' := by
  unfold g_X2_meet at h
  unfold f_X2_meet
  obtain ⟨hv, h⟩ := gvm_spec h
  refine rb_vm 13 2 hS w0 hv rfl ?_
  obtain ⟨x1, ex1, h⟩ := bnd h
  refine rb_ld 13 hS w0 ex1 rfl rfl ?_
  obtain ⟨x2, ex2, h⟩ := bnd h
  refine rb_ld 13 hS w0 ex2 rfl rfl ?_
  by_cases hc8 : x1 ≠ x2
  · have h := iteT hc8 h
    refine rif_t hc8 ?_
    exact sjX2_meet_26 hS w0 h
  · have h := iteF hc8 h
    refine rif_f hc8 ?_
    obtain ⟨G3, eG3, h⟩ := bnd h
    refine rb_st 13 hS w0 (show rrel _ _ 0 _ _ from rfl) eG3 rfl ?_
    intro H hS
    obtain ⟨G4, eG4, h⟩ := bnd h
    refine rb_st 13 hS w0 (show rrel _ _ 0 _ _ from rfl) eG4 rfl ?_
    intro H hS
    obtain ⟨G5, eG5, h⟩ := bnd h
    refine rb_st 13 hS w0 (show rrel _ _ 0 _ _ from rfl) eG5 rfl ?_
    intro H hS
    exact sjX2_meet_26 hS w0 h
/-! HouseholdVault$Finder.told(III)I by roles -/
def g_X2_told (a0 a1 a2 a3 : Int) (G : GS) : GO := gvm a0 <|
  (if a1 < 0 then some (a3, G)
  else (if a1 ≥ a2 then some (a3, G)
  else (gl 13 G a0 0).bind fun x1 => (gl 13 G a0 1).bind fun x2 => (if x1 < x2 then (if a1 ≠ 0 then (if a1 ≠ 1 then (gl 13 G a0 4).bind fun x3 => some (x3, G)
  else (gl 13 G a0 3).bind fun x4 => some (x4, G))
  else (gl 13 G a0 2).bind fun x5 => some (x5, G))
  else some (a3, G))))
set_option maxHeartbeats 4000000 in
theorem s_X2_told {ad : Nat → Nat → Nat} {Cn : Nat → Nat} {H : PH} {G G' : GS} {rr : Int} {a0 a1 a2 a3 b0 : Int} (hS : SimA ad Cn H G) (w0 : vrel ad Cn 13 b0 a0) (h : g_X2_told a0 a1 a2 a3 G = some (rr, G')) : RS ad Cn (f_X2_told b0 a1 a2 a3 H) 0 rr G' := by
  unfold g_X2_told at h
  unfold f_X2_told
  obtain ⟨hv, h⟩ := gvm_spec h
  refine rb_vm 13 2 hS w0 hv rfl ?_
  by_cases hc1 : a1 < 0
  · have h := iteT hc1 h
    refine rif_t hc1 ?_
    cases h
    exact rret hS rfl
  · have h := iteF hc1 h
    refine rif_f hc1 ?_
    by_cases hc6 : a1 ≥ a2
    · have h := iteT hc6 h
      refine rif_t hc6 ?_
      cases h
      exact rret hS rfl
    · have h := iteF hc6 h
      refine rif_f hc6 ?_
      obtain ⟨x1, ex1, h⟩ := bnd h
      refine rb_ld 13 hS w0 ex1 rfl rfl ?_
      obtain ⟨x2, ex2, h⟩ := bnd h
      refine rb_ld 13 hS w0 ex2 rfl rfl ?_
      by_cases hc17 : x1 < x2
      · have h := iteT hc17 h
        refine rif_t hc17 ?_
        by_cases hc23 : a1 ≠ 0
        · have h := iteT hc23 h
          refine rif_t hc23 ?_
          by_cases hc33 : a1 ≠ 1
          · have h := iteT hc33 h
            refine rif_t hc33 ?_
            obtain ⟨x3, ex3, h⟩ := bnd h
            refine rb_ld 13 hS w0 ex3 rfl rfl ?_
            cases h
            exact rret hS rfl
          · have h := iteF hc33 h
            refine rif_f hc33 ?_
            obtain ⟨x4, ex4, h⟩ := bnd h
            refine rb_ld 13 hS w0 ex4 rfl rfl ?_
            cases h
            exact rret hS rfl
        · have h := iteF hc23 h
          refine rif_f hc23 ?_
          obtain ⟨x5, ex5, h⟩ := bnd h
          refine rb_ld 13 hS w0 ex5 rfl rfl ?_
          cases h
          exact rret hS rfl
      · have h := iteF hc17 h
        refine rif_f hc17 ?_
        cases h
        exact rret hS rfl
/-! HouseholdVault$Form.questionOf(I)LHouseholdVault$Question; by roles -/
def g_X3_questionOf (a0 a1 : Int) (G : GS) : GO := gvm a0 <|
  (if a1 < 0 then some ((-1), G)
  else (gl 1 G a0 1).bind fun x1 => (if a1 ≥ x1 then some ((-1), G)
  else (gl 1 G a0 0).bind fun x2 => (gl 2 G x2 a1).bind fun x3 => some (x3, G)))
set_option maxHeartbeats 4000000 in
theorem s_X3_questionOf {ad : Nat → Nat → Nat} {Cn : Nat → Nat} {H : PH} {G G' : GS} {rr : Int} {a0 a1 b0 : Int} (hS : SimA ad Cn H G) (w0 : vrel ad Cn 1 b0 a0) (h : g_X3_questionOf a0 a1 G = some (rr, G')) : RS ad Cn (f_X3_questionOf b0 a1 H) 21 rr G' := by
  unfold g_X3_questionOf at h
  unfold f_X3_questionOf
  obtain ⟨hv, h⟩ := gvm_spec h
  refine rb_vm 1 3 hS w0 hv rfl ?_
  by_cases hc1 : a1 < 0
  · have h := iteT hc1 h
    refine rif_t hc1 ?_
    cases h
    exact rret hS vrel.nul
  · have h := iteF hc1 h
    refine rif_f hc1 ?_
    obtain ⟨x1, ex1, h⟩ := bnd h
    refine rb_ld 1 hS w0 ex1 rfl rfl ?_
    by_cases hc9 : a1 ≥ x1
    · have h := iteT hc9 h
      refine rif_t hc9 ?_
      cases h
      exact rret hS vrel.nul
    · have h := iteF hc9 h
      refine rif_f hc9 ?_
      obtain ⟨x2, ex2, h⟩ := bnd h
      refine rb_ldr 1 2 hS w0 ex2 rfl rfl ?_
      intro bx2 wx2
      obtain ⟨x3, ex3, h⟩ := bnd h
      refine rb_ldr 2 20 hS wx2 ex3 rfl rfl ?_
      intro bx3 wx3
      cases h
      exact rret hS wx3
/-! HouseholdVault$Question.codeIndex(J)I by roles -/
def glX5_codeIndex_2 (p0 p1 : Int) (self2 : Int → GS → GO) (p3 : Int) (G : GS) : GO :=
  (gl 20 G p0 5).bind fun x1 => (if p3 ≥ x1 then some ((-1), G)
  else (gl 20 G p0 4).bind fun x2 => (gl 21 G x2 p3).bind fun x3 => (if (lc x3 p1) ≠ 0 then self2 (w32 (p3 + 1)) G
  else some (p3, G)))
set_option maxHeartbeats 4000000 in
theorem slX5_codeIndex_2 {G' : GS} {rr : Int} {p0 p1 b0 : Int} : ∀ (n : Nat) (ad : Nat → Nat → Nat) (Cn : Nat → Nat) (H : PH) (G : GS) (p3 : Int) , SimA ad Cn H G → vrel ad Cn 20 b0 p0 → lh1 (glX5_codeIndex_2 p0 p1) n p3 G = some (rr, G') → RS ad Cn (lq1 (lX5_codeIndex_2 b0 p1) n p3 H) 0 rr G' := by
  intro n
  induction n with
  | zero => intro ad Cn H G p3 hS w0 h; cases h
  | succ n ih2 =>
    intro ad Cn H G p3 hS w0 h
    rw [lh1_s] at h
    rw [lq1_s]
    generalize lh1 (glX5_codeIndex_2 p0 p1) n = self2 at ih2 h
    generalize lq1 (lX5_codeIndex_2 b0 p1) n = fself2 at ih2 ⊢
    unfold glX5_codeIndex_2 at h
    unfold lX5_codeIndex_2
    obtain ⟨x1, ex1, h⟩ := bnd h
    refine rb_ld 20 hS w0 ex1 rfl rfl ?_
    by_cases hc7 : p3 ≥ x1
    · have h := iteT hc7 h
      refine rif_t hc7 ?_
      cases h
      exact rret hS rfl
    · have h := iteF hc7 h
      refine rif_f hc7 ?_
      obtain ⟨x2, ex2, h⟩ := bnd h
      refine rb_ldr 20 21 hS w0 ex2 rfl rfl ?_
      intro bx2 wx2
      obtain ⟨x3, ex3, h⟩ := bnd h
      refine rb_ld 21 hS wx2 ex3 rfl rfl ?_
      by_cases hc19 : (lc x3 p1) ≠ 0
      · have h := iteT hc19 h
        refine rif_t hc19 ?_
        exact ih2 _ _ _ _ (w32 (p3 + 1))  hS w0  h
      · have h := iteF hc19 h
        refine rif_f hc19 ?_
        cases h
        exact rret hS rfl
def g_X5_codeIndex (a0 a1 : Int) (G : GS) : GO := gvm a0 <|
  lh1 (glX5_codeIndex_2 a0 a1) 6000 0 G
set_option maxHeartbeats 4000000 in
theorem s_X5_codeIndex {ad : Nat → Nat → Nat} {Cn : Nat → Nat} {H : PH} {G G' : GS} {rr : Int} {a0 a1 b0 : Int} (hS : SimA ad Cn H G) (w0 : vrel ad Cn 20 b0 a0) (h : g_X5_codeIndex a0 a1 G = some (rr, G')) : RS ad Cn (f_X5_codeIndex b0 a1 H) 0 rr G' := by
  unfold g_X5_codeIndex at h
  unfold f_X5_codeIndex
  obtain ⟨hv, h⟩ := gvm_spec h
  refine rb_vm 20 5 hS w0 hv rfl ?_
  exact slX5_codeIndex_2 6000 _ _ _ _ 0  hS w0 h
/-! HouseholdVault$Question.<init>(IIII)V by roles -/
def gjX5_init_44 (p0 s0 : Int) (G : GS) : GO :=
  (gn 22 s0 G).bind fun z1 => (gs 20 z1.2 p0 6 z1.1).bind fun G2 => (gn 23 s0 G2).bind fun z3 => (gs 20 z3.2 p0 7 z3.1).bind fun G4 => (gn 24 s0 G4).bind fun z5 => (gs 20 z5.2 p0 8 z5.1).bind fun G6 => (gs 20 G6 p0 10 (-1)).bind fun G7 => some (0, G7)
set_option maxHeartbeats 4000000 in
theorem sjX5_init_44 {ad : Nat → Nat → Nat} {Cn : Nat → Nat} {H : PH} {G G' : GS} {rr : Int} {p0 s0 b0 : Int} (hS : SimA ad Cn H G) (w0 : vrel ad Cn 20 b0 p0) (h : gjX5_init_44 p0 s0 G = some (rr, G')) : RS ad Cn (jX5_init_44 b0 s0 H) 0 rr G' := by
  unfold gjX5_init_44 at h
  unfold jX5_init_44
  obtain ⟨z1, ez1, h⟩ := bnd h
  refine rb_newa 22 hS ez1 rfl (fun _ => rfl) ?_
  intro ad Cn bz1 H hS hx wz1
  dsimp only
  have w0 := w0.mono hx
  obtain ⟨G2, eG2, h⟩ := bnd h
  refine rb_st 20 (k := 6) hS w0 (show rrel _ _ 23 _ _ from wz1) eG2 rfl ?_
  intro H hS
  obtain ⟨z3, ez3, h⟩ := bnd h
  refine rb_newa 23 hS ez3 rfl (fun _ => rfl) ?_
  intro ad Cn bz3 H hS hx wz3
  dsimp only
  have w0 := w0.mono hx
  obtain ⟨G4, eG4, h⟩ := bnd h
  refine rb_st 20 (k := 7) hS w0 (show rrel _ _ 24 _ _ from wz3) eG4 rfl ?_
  intro H hS
  obtain ⟨z5, ez5, h⟩ := bnd h
  refine rb_newa 24 hS ez5 rfl (fun _ => rfl) ?_
  intro ad Cn bz5 H hS hx wz5
  dsimp only
  have w0 := w0.mono hx
  obtain ⟨G6, eG6, h⟩ := bnd h
  refine rb_st 20 (k := 8) hS w0 (show rrel _ _ 25 _ _ from wz5) eG6 rfl ?_
  intro H hS
  obtain ⟨G7, eG7, h⟩ := bnd h
  refine rb_st 20 hS w0 (show rrel _ _ 0 _ _ from rfl) eG7 rfl ?_
  intro H hS
  cases h
  exact rret hS rfl
def g_X5_init (a0 a1 a2 a3 a4 : Int) (G : GS) : GO := gvm a0 <|
  (gs 20 G a0 0 a1).bind fun G1 => (gs 20 G1 a0 1 a2).bind fun G2 => (gs 20 G2 a0 2 a3).bind fun G3 => (gs 20 G3 a0 3 a4).bind fun G4 => (gn 21 8 G4).bind fun z5 => (gs 20 z5.2 a0 4 z5.1).bind fun G6 => (if a3 ≠ 1 then gjX5_init_44 a0 0 G6
  else gjX5_init_44 a0 8 G6)
set_option maxHeartbeats 4000000 in
theorem s_X5_init {ad : Nat → Nat → Nat} {Cn : Nat → Nat} {H : PH} {G G' : GS} {rr : Int} {a0 a1 a2 a3 a4 b0 : Int} (hS : SimA ad Cn H G) (w0 : vrel ad Cn 20 b0 a0) (h : g_X5_init a0 a1 a2 a3 a4 G = some (rr, G')) : RS ad Cn (f_X5_init b0 a1 a2 a3 a4 H) 0 rr G' := by
  unfold g_X5_init at h
  unfold f_X5_init
  obtain ⟨hv, h⟩ := gvm_spec h
  refine rb_vm 20 5 hS w0 hv rfl ?_
  obtain ⟨G1, eG1, h⟩ := bnd h
  refine rb_st 20 hS w0 (show rrel _ _ 0 _ _ from rfl) eG1 rfl ?_
  intro H hS
  obtain ⟨G2, eG2, h⟩ := bnd h
  refine rb_st 20 hS w0 (show rrel _ _ 0 _ _ from rfl) eG2 rfl ?_
  intro H hS
  obtain ⟨G3, eG3, h⟩ := bnd h
  refine rb_st 20 hS w0 (show rrel _ _ 0 _ _ from rfl) eG3 rfl ?_
  intro H hS
  obtain ⟨G4, eG4, h⟩ := bnd h
  refine rb_st 20 hS w0 (show rrel _ _ 0 _ _ from rfl) eG4 rfl ?_
  intro H hS
  obtain ⟨z5, ez5, h⟩ := bnd h
  refine rb_newa 21 hS ez5 rfl (fun _ => rfl) ?_
  intro ad Cn bz5 H hS hx wz5
  dsimp only
  have w0 := w0.mono hx
  obtain ⟨G6, eG6, h⟩ := bnd h
  refine rb_st 20 (k := 4) hS w0 (show rrel _ _ 22 _ _ from wz5) eG6 rfl ?_
  intro H hS
  by_cases hc35 : a3 ≠ 1
  · have h := iteT hc35 h
    refine rif_t hc35 ?_
    exact sjX5_init_44 hS w0 h
  · have h := iteF hc35 h
    refine rif_f hc35 ?_
    exact sjX5_init_44 hS w0 h
/-! HouseholdVault$Question.takes(J)Z by roles -/
def g_X5_takes (a0 a1 : Int) (G : GS) : GO := gvm a0 <|
  (gl 20 G a0 0).bind fun x1 => (if x1 < 0 ∨ 4 < x1 then (if (lc a1 0) < 0 then some (0, G)
  else (if (lc a1 5) > 0 then some (0, G)
  else some (1, G)))
  else List.getD [(g_X5_codeIndex a0 a1 G).bind fun z2 => (if z2.1 = (-1) then some (0, z2.2)
  else some (1, z2.2)), (if (lc a1 0) < 0 then some (0, G)
  else (gl 20 G a0 5).bind fun x3 => (if (lc a1 (l_shl 1 x3)) ≥ 0 then some (0, G)
  else some (1, G))), (if (lc a1 (w32 a1)) ≠ 0 then some (0, G)
  else some (1, G)), (if (lc a1 (-1000000000000000)) < 0 then some (0, G)
  else (if (lc a1 1000000000000000) > 0 then some (0, G)
  else some (1, G))), (if (lc a1 (-30000)) < 0 then some (0, G)
  else (if (lc a1 30000) > 0 then some (0, G)
  else some (1, G)))] (x1 - 0).toNat none)
set_option maxHeartbeats 4000000 in
theorem s_X5_takes {ad : Nat → Nat → Nat} {Cn : Nat → Nat} {H : PH} {G G' : GS} {rr : Int} {a0 a1 b0 : Int} (hS : SimA ad Cn H G) (w0 : vrel ad Cn 20 b0 a0) (h : g_X5_takes a0 a1 G = some (rr, G')) : RS ad Cn (f_X5_takes b0 a1 H) 0 rr G' := by
  unfold g_X5_takes at h
  unfold f_X5_takes
  obtain ⟨hv, h⟩ := gvm_spec h
  refine rb_vm 20 5 hS w0 hv rfl ?_
  obtain ⟨x1, ex1, h⟩ := bnd h
  refine rb_ld 20 hS w0 ex1 rfl rfl ?_
  by_cases hc : x1 < 0 ∨ 4 < x1
  · have h := iteT hc h
    refine rif_t hc ?_
    by_cases hc139 : (lc a1 0) < 0
    · have h := iteT hc139 h
      refine rif_t hc139 ?_
      cases h
      exact rret hS rfl
    · have h := iteF hc139 h
      refine rif_f hc139 ?_
      by_cases hc147 : (lc a1 5) > 0
      · have h := iteT hc147 h
        refine rif_t hc147 ?_
        cases h
        exact rret hS rfl
      · have h := iteF hc147 h
        refine rif_f hc147 ?_
        cases h
        exact rret hS rfl
  · have h := iteF hc h
    refine rif_f hc ?_
    obtain ⟨i, hin, ha⟩ := sw_case 5 hc (by decide)
    have h := sw_at ha h
    refine rsw ha ?_
    match i, hin, h with
    | 0, hin, h =>
      have h : ((g_X5_codeIndex a0 a1 G).bind fun z2 => (if z2.1 = (-1) then some (0, z2.2)
  else some (1, z2.2)) : GO) = some (rr, G') := h
      simp only [List.getD_cons_succ, List.getD_cons_zero]
      obtain ⟨z2, ez2, h⟩ := bnd h
      refine rb_call (ρc := 0) (s_X5_codeIndex hS w0 ez2) ?_
      intro ad Cn bz2 H hS hx wz2
      dsimp only
      obtain rfl : bz2 = z2.1 := wz2
      have w0 := w0.mono hx
      by_cases hc46 : z2.1 = (-1)
      · have h := iteT hc46 h
        refine rif_t hc46 ?_
        cases h
        exact rret hS rfl
      · have h := iteF hc46 h
        refine rif_f hc46 ?_
        cases h
        exact rret hS rfl
    | 1, hin, h =>
      have h : ((if (lc a1 0) < 0 then some (0, G)
  else (gl 20 G a0 5).bind fun x3 => (if (lc a1 (l_shl 1 x3)) ≥ 0 then some (0, G)
  else some (1, G))) : GO) = some (rr, G') := h
      simp only [List.getD_cons_succ, List.getD_cons_zero]
      by_cases hc58 : (lc a1 0) < 0
      · have h := iteT hc58 h
        refine rif_t hc58 ?_
        cases h
        exact rret hS rfl
      · have h := iteF hc58 h
        refine rif_f hc58 ?_
        obtain ⟨x3, ex3, h⟩ := bnd h
        refine rb_ld 20 hS w0 ex3 rfl rfl ?_
        by_cases hc69 : (lc a1 (l_shl 1 x3)) ≥ 0
        · have h := iteT hc69 h
          refine rif_t hc69 ?_
          cases h
          exact rret hS rfl
        · have h := iteF hc69 h
          refine rif_f hc69 ?_
          cases h
          exact rret hS rfl
    | 2, hin, h =>
      have h : ((if (lc a1 (w32 a1)) ≠ 0 then some (0, G)
  else some (1, G)) : GO) = some (rr, G') := h
      simp only [List.getD_cons_succ, List.getD_cons_zero]
      by_cases hc83 : (lc a1 (w32 a1)) ≠ 0
      · have h := iteT hc83 h
        refine rif_t hc83 ?_
        cases h
        exact rret hS rfl
      · have h := iteF hc83 h
        refine rif_f hc83 ?_
        cases h
        exact rret hS rfl
    | 3, hin, h =>
      have h : ((if (lc a1 (-1000000000000000)) < 0 then some (0, G)
  else (if (lc a1 1000000000000000) > 0 then some (0, G)
  else some (1, G))) : GO) = some (rr, G') := h
      simp only [List.getD_cons_succ, List.getD_cons_zero]
      by_cases hc97 : (lc a1 (-1000000000000000)) < 0
      · have h := iteT hc97 h
        refine rif_t hc97 ?_
        cases h
        exact rret hS rfl
      · have h := iteF hc97 h
        refine rif_f hc97 ?_
        by_cases hc105 : (lc a1 1000000000000000) > 0
        · have h := iteT hc105 h
          refine rif_t hc105 ?_
          cases h
          exact rret hS rfl
        · have h := iteF hc105 h
          refine rif_f hc105 ?_
          cases h
          exact rret hS rfl
    | 4, hin, h =>
      have h : ((if (lc a1 (-30000)) < 0 then some (0, G)
  else (if (lc a1 30000) > 0 then some (0, G)
  else some (1, G))) : GO) = some (rr, G') := h
      simp only [List.getD_cons_succ, List.getD_cons_zero]
      by_cases hc119 : (lc a1 (-30000)) < 0
      · have h := iteT hc119 h
        refine rif_t hc119 ?_
        cases h
        exact rret hS rfl
      · have h := iteF hc119 h
        refine rif_f hc119 ?_
        by_cases hc127 : (lc a1 30000) > 0
        · have h := iteT hc127 h
          refine rif_t hc127 ?_
          cases h
          exact rret hS rfl
        · have h := iteF hc127 h
          refine rif_f hc127 ?_
          cases h
          exact rret hS rfl
    | i + 5, hin, h => exact absurd hin (by omega)
/-! HouseholdVaultModel.codeNumber(IJ)I by roles -/
def gjX9_codeNumber_42 (self6 : Int → Int → GS → GO) (p0 p1 p2 p5 s0 : Int) (G : GS) : GO :=
  self6 s0 (w32 (p5 + 1)) G
set_option maxHeartbeats 4000000 in
theorem sjX9_codeNumber_42 {ad : Nat → Nat → Nat} {Cn : Nat → Nat} {H : PH} {G G' : GS} {rr : Int} {fself6 : Int → Int → PH → RO} {self6 : Int → Int → GS → GO} {p0 p1 p2 p5 s0 b0 : Int} (ih6 : ∀ (ad : Nat → Nat → Nat) (Cn : Nat → Nat) (H : PH) (G : GS) (v4 v5 : Int) , SimA ad Cn H G → vrel ad Cn 100 b0 p0 → self6 v4 v5 G = some (rr, G') → RS ad Cn (fself6 v4 v5 H) 0 rr G') (hS : SimA ad Cn H G) (w0 : vrel ad Cn 100 b0 p0) (h : gjX9_codeNumber_42 self6 p0 p1 p2 p5 s0 G = some (rr, G')) : RS ad Cn (jX9_codeNumber_42 fself6 b0 p1 p2 p5 s0 H) 0 rr G' := by
  unfold gjX9_codeNumber_42 at h
  unfold jX9_codeNumber_42
  exact ih6 _ _ _ _ s0 (w32 (p5 + 1))  hS w0  h
def glX9_codeNumber_6 (p0 p1 p2 : Int) (self6 : Int → Int → GS → GO) (p4 p5 : Int) (G : GS) : GO :=
  (gl 100 G p0 9).bind fun x1 => (gl 109 G x1 p1).bind fun x2 => (if p5 ≥ x2 then some (p4, G)
  else (gl 100 G p0 8).bind fun x3 => (gl 108 G x3 (w32 ((w32 (8 * p1)) + p5))).bind fun x4 => (if (lc x4 p2) ≠ 0 then gjX9_codeNumber_42 self6 p0 p1 p2 p5 p4 G
  else gjX9_codeNumber_42 self6 p0 p1 p2 p5 p5 G))
set_option maxHeartbeats 4000000 in
theorem slX9_codeNumber_6 {G' : GS} {rr : Int} {p0 p1 p2 b0 : Int} : ∀ (n : Nat) (ad : Nat → Nat → Nat) (Cn : Nat → Nat) (H : PH) (G : GS) (p4 p5 : Int) , SimA ad Cn H G → vrel ad Cn 100 b0 p0 → lh2 (glX9_codeNumber_6 p0 p1 p2) n p4 p5 G = some (rr, G') → RS ad Cn (lq2 (lX9_codeNumber_6 b0 p1 p2) n p4 p5 H) 0 rr G' := by
  intro n
  induction n with
  | zero => intro ad Cn H G p4 p5 hS w0 h; cases h
  | succ n ih6 =>
    intro ad Cn H G p4 p5 hS w0 h
    rw [lh2_s] at h
    rw [lq2_s]
    generalize lh2 (glX9_codeNumber_6 p0 p1 p2) n = self6 at ih6 h
    generalize lq2 (lX9_codeNumber_6 b0 p1 p2) n = fself6 at ih6 ⊢
    unfold glX9_codeNumber_6 at h
    unfold lX9_codeNumber_6
    obtain ⟨x1, ex1, h⟩ := bnd h
    refine rb_ldr 100 109 hS w0 ex1 rfl rfl ?_
    intro bx1 wx1
    obtain ⟨x2, ex2, h⟩ := bnd h
    refine rb_ld 109 hS wx1 ex2 rfl rfl ?_
    by_cases hc14 : p5 ≥ x2
    · have h := iteT hc14 h
      refine rif_t hc14 ?_
      cases h
      exact rret hS rfl
    · have h := iteF hc14 h
      refine rif_f hc14 ?_
      obtain ⟨x3, ex3, h⟩ := bnd h
      refine rb_ldr 100 108 hS w0 ex3 rfl rfl ?_
      intro bx3 wx3
      obtain ⟨x4, ex4, h⟩ := bnd h
      refine rb_ld 108 hS wx3 ex4 rfl rfl ?_
      by_cases hc32 : (lc x4 p2) ≠ 0
      · have h := iteT hc32 h
        refine rif_t hc32 ?_
        exact sjX9_codeNumber_42 ih6 hS w0 h
      · have h := iteF hc32 h
        refine rif_f hc32 ?_
        exact sjX9_codeNumber_42 ih6 hS w0 h
def g_X9_codeNumber (a0 a1 a2 : Int) (G : GS) : GO := gvm a0 <|
  lh2 (glX9_codeNumber_6 a0 a1 a2) 6000 (-1) 0 G
set_option maxHeartbeats 4000000 in
theorem s_X9_codeNumber {ad : Nat → Nat → Nat} {Cn : Nat → Nat} {H : PH} {G G' : GS} {rr : Int} {a0 a1 a2 b0 : Int} (hS : SimA ad Cn H G) (w0 : vrel ad Cn 100 b0 a0) (h : g_X9_codeNumber a0 a1 a2 G = some (rr, G')) : RS ad Cn (f_X9_codeNumber b0 a1 a2 H) 0 rr G' := by
  unfold g_X9_codeNumber at h
  unfold f_X9_codeNumber
  obtain ⟨hv, h⟩ := gvm_spec h
  refine rb_vm 100 9 hS w0 hv rfl ?_
  exact slX9_codeNumber_6 6000 _ _ _ _ (-1) 0  hS w0 h
/-! HouseholdVault$Condition.fits(JIZ)Z by roles -/
def g_X0_fits (a0 a1 a2 a3 : Int) (G : GS) : GO := gvm a0 <|
  (gl 40 G a0 0).bind fun x1 => (if x1 ≠ 3 then (if a2 = 0 then (gl 40 G a0 0).bind fun x2 => (if x2 ≠ 1 then (gl 40 G a0 0).bind fun x3 => (if x3 ≠ 2 then (if a3 = 0 then (gl 40 G a0 3).bind fun x4 => (if (lc a1 x4) ≠ 0 then some (0, G)
  else some (1, G))
  else (gl 40 G a0 3).bind fun x5 => (if (lc (l_and (l_shr a1 (w32 x5)) 1) 0) = 0 then some (0, G)
  else some (1, G)))
  else (gl 40 G a0 3).bind fun x6 => (if (lc a1 x6) ≤ 0 then some (0, G)
  else some (1, G)))
  else (gl 40 G a0 3).bind fun x7 => (if (lc a1 x7) ≥ 0 then some (0, G)
  else some (1, G)))
  else some (0, G))
  else (if a2 = 0 then some (0, G)
  else some (1, G)))
set_option maxHeartbeats 4000000 in
theorem s_X0_fits {ad : Nat → Nat → Nat} {Cn : Nat → Nat} {H : PH} {G G' : GS} {rr : Int} {a0 a1 a2 a3 b0 : Int} (hS : SimA ad Cn H G) (w0 : vrel ad Cn 40 b0 a0) (h : g_X0_fits a0 a1 a2 a3 G = some (rr, G')) : RS ad Cn (f_X0_fits b0 a1 a2 a3 H) 0 rr G' := by
  unfold g_X0_fits at h
  unfold f_X0_fits
  obtain ⟨hv, h⟩ := gvm_spec h
  refine rb_vm 40 0 hS w0 hv rfl ?_
  obtain ⟨x1, ex1, h⟩ := bnd h
  refine rb_ld 40 hS w0 ex1 rfl rfl ?_
  by_cases hc5 : x1 ≠ 3
  · have h := iteT hc5 h
    refine rif_t hc5 ?_
    by_cases hc19 : a2 = 0
    · have h := iteT hc19 h
      refine rif_t hc19 ?_
      obtain ⟨x2, ex2, h⟩ := bnd h
      refine rb_ld 40 hS w0 ex2 rfl rfl ?_
      by_cases hc29 : x2 ≠ 1
      · have h := iteT hc29 h
        refine rif_t hc29 ?_
        obtain ⟨x3, ex3, h⟩ := bnd h
        refine rb_ld 40 hS w0 ex3 rfl rfl ?_
        by_cases hc52 : x3 ≠ 2
        · have h := iteT hc52 h
          refine rif_t hc52 ?_
          by_cases hc72 : a3 = 0
          · have h := iteT hc72 h
            refine rif_t hc72 ?_
            obtain ⟨x4, ex4, h⟩ := bnd h
            refine rb_ld 40 hS w0 ex4 rfl rfl ?_
            by_cases hc103 : (lc a1 x4) ≠ 0
            · have h := iteT hc103 h
              refine rif_t hc103 ?_
              cases h
              exact rret hS rfl
            · have h := iteF hc103 h
              refine rif_f hc103 ?_
              cases h
              exact rret hS rfl
          · have h := iteF hc72 h
            refine rif_f hc72 ?_
            obtain ⟨x5, ex5, h⟩ := bnd h
            refine rb_ld 40 hS w0 ex5 rfl rfl ?_
            by_cases hc86 : (lc (l_and (l_shr a1 (w32 x5)) 1) 0) = 0
            · have h := iteT hc86 h
              refine rif_t hc86 ?_
              cases h
              exact rret hS rfl
            · have h := iteF hc86 h
              refine rif_f hc86 ?_
              cases h
              exact rret hS rfl
        · have h := iteF hc52 h
          refine rif_f hc52 ?_
          obtain ⟨x6, ex6, h⟩ := bnd h
          refine rb_ld 40 hS w0 ex6 rfl rfl ?_
          by_cases hc61 : (lc a1 x6) ≤ 0
          · have h := iteT hc61 h
            refine rif_t hc61 ?_
            cases h
            exact rret hS rfl
          · have h := iteF hc61 h
            refine rif_f hc61 ?_
            cases h
            exact rret hS rfl
      · have h := iteF hc29 h
        refine rif_f hc29 ?_
        obtain ⟨x7, ex7, h⟩ := bnd h
        refine rb_ld 40 hS w0 ex7 rfl rfl ?_
        by_cases hc38 : (lc a1 x7) ≥ 0
        · have h := iteT hc38 h
          refine rif_t hc38 ?_
          cases h
          exact rret hS rfl
        · have h := iteF hc38 h
          refine rif_f hc38 ?_
          cases h
          exact rret hS rfl
    · have h := iteF hc19 h
      refine rif_f hc19 ?_
      cases h
      exact rret hS rfl
  · have h := iteF hc5 h
    refine rif_f hc5 ?_
    by_cases hc9 : a2 = 0
    · have h := iteT hc9 h
      refine rif_t hc9 ?_
      cases h
      exact rret hS rfl
    · have h := iteF hc9 h
      refine rif_f hc9 ?_
      cases h
      exact rret hS rfl
/-! HouseholdVault$Sheet.persons(I)I by roles -/
def g_X6_persons (a0 a1 : Int) (G : GS) : GO := gvm a0 <|
  (gl 31 G a0 0).bind fun x1 => (g_X8_spot a1 (-1) G).bind fun z2 => (gl 32 z2.2 x1 z2.1).bind fun x3 => some ((w32 x3), z2.2)
set_option maxHeartbeats 4000000 in
theorem s_X6_persons {ad : Nat → Nat → Nat} {Cn : Nat → Nat} {H : PH} {G G' : GS} {rr : Int} {a0 a1 b0 : Int} (hS : SimA ad Cn H G) (w0 : vrel ad Cn 31 b0 a0) (h : g_X6_persons a0 a1 G = some (rr, G')) : RS ad Cn (f_X6_persons b0 a1 H) 0 rr G' := by
  unfold g_X6_persons at h
  unfold f_X6_persons
  obtain ⟨hv, h⟩ := gvm_spec h
  refine rb_vm 31 6 hS w0 hv rfl ?_
  obtain ⟨x1, ex1, h⟩ := bnd h
  refine rb_ldr 31 32 hS w0 ex1 rfl rfl ?_
  intro bx1 wx1
  obtain ⟨z2, ez2, h⟩ := bnd h
  refine rb_call (ρc := 0) (s_X8_spot hS ez2) ?_
  intro ad Cn bz2 H hS hx wz2
  dsimp only
  obtain rfl : bz2 = z2.1 := wz2
  have w0 := w0.mono hx
  have wx1 := wx1.mono hx
  obtain ⟨x3, ex3, h⟩ := bnd h
  refine rb_ld 32 hS wx1 ex3 rfl rfl ?_
  cases h
  exact rret hS rfl
/-! HouseholdVault.placesOf(LHouseholdVault$Sheet;I)I by roles -/
def g_X8_placesOf (a0 a1 : Int) (G : GS) : GO :=
  (if a1 ≠ (-1) then (g_X6_persons a0 a1 G).bind fun z1 => some (z1.1, z1.2)
  else some (1, G))
set_option maxHeartbeats 4000000 in
theorem s_X8_placesOf {ad : Nat → Nat → Nat} {Cn : Nat → Nat} {H : PH} {G G' : GS} {rr : Int} {a0 a1 b0 : Int} (hS : SimA ad Cn H G) (w0 : vrel ad Cn 31 b0 a0) (h : g_X8_placesOf a0 a1 G = some (rr, G')) : RS ad Cn (f_X8_placesOf b0 a1 H) 0 rr G' := by
  unfold g_X8_placesOf at h
  unfold f_X8_placesOf
  by_cases hc2 : a1 ≠ (-1)
  · have h := iteT hc2 h
    refine rif_t hc2 ?_
    obtain ⟨z1, ez1, h⟩ := bnd h
    refine rb_call (ρc := 0) (s_X6_persons hS w0 ez1) ?_
    intro ad Cn bz1 H hS hx wz1
    dsimp only
    obtain rfl : bz1 = z1.1 := wz1
    have w0 := w0.mono hx
    cases h
    exact rret hS rfl
  · have h := iteF hc2 h
    refine rif_f hc2 ?_
    cases h
    exact rret hS rfl
/-! HouseholdVault$Question.rowAround(J)I by roles -/
def gjX5_rowAround_34 (self2 : Int → GS → GO) (p0 p1 p3 : Int) (G : GS) : GO :=
  self2 (w32 (p3 + 1)) G
set_option maxHeartbeats 4000000 in
theorem sjX5_rowAround_34 {ad : Nat → Nat → Nat} {Cn : Nat → Nat} {H : PH} {G G' : GS} {rr : Int} {fself2 : Int → PH → RO} {self2 : Int → GS → GO} {p0 p1 p3 b0 : Int} (ih2 : ∀ (ad : Nat → Nat → Nat) (Cn : Nat → Nat) (H : PH) (G : GS) (v3 : Int) , SimA ad Cn H G → vrel ad Cn 20 b0 p0 → self2 v3 G = some (rr, G') → RS ad Cn (fself2 v3 H) 0 rr G') (hS : SimA ad Cn H G) (w0 : vrel ad Cn 20 b0 p0) (h : gjX5_rowAround_34 self2 p0 p1 p3 G = some (rr, G')) : RS ad Cn (jX5_rowAround_34 fself2 b0 p1 p3 H) 0 rr G' := by
  unfold gjX5_rowAround_34 at h
  unfold jX5_rowAround_34
  exact ih2 _ _ _ _ (w32 (p3 + 1))  hS w0  h
def glX5_rowAround_2 (p0 p1 : Int) (self2 : Int → GS → GO) (p3 : Int) (G : GS) : GO :=
  (gl 20 G p0 9).bind fun x1 => (if p3 ≥ x1 then some ((-1), G)
  else (gl 20 G p0 6).bind fun x2 => (gl 22 G x2 p3).bind fun x3 => (if (lc x3 p1) > 0 then gjX5_rowAround_34 self2 p0 p1 p3 G
  else (gl 20 G p0 7).bind fun x4 => (gl 23 G x4 p3).bind fun x5 => (if (lc p1 x5) > 0 then gjX5_rowAround_34 self2 p0 p1 p3 G
  else some (p3, G))))
set_option maxHeartbeats 4000000 in
theorem slX5_rowAround_2 {G' : GS} {rr : Int} {p0 p1 b0 : Int} : ∀ (n : Nat) (ad : Nat → Nat → Nat) (Cn : Nat → Nat) (H : PH) (G : GS) (p3 : Int) , SimA ad Cn H G → vrel ad Cn 20 b0 p0 → lh1 (glX5_rowAround_2 p0 p1) n p3 G = some (rr, G') → RS ad Cn (lq1 (lX5_rowAround_2 b0 p1) n p3 H) 0 rr G' := by
  intro n
  induction n with
  | zero => intro ad Cn H G p3 hS w0 h; cases h
  | succ n ih2 =>
    intro ad Cn H G p3 hS w0 h
    rw [lh1_s] at h
    rw [lq1_s]
    generalize lh1 (glX5_rowAround_2 p0 p1) n = self2 at ih2 h
    generalize lq1 (lX5_rowAround_2 b0 p1) n = fself2 at ih2 ⊢
    unfold glX5_rowAround_2 at h
    unfold lX5_rowAround_2
    obtain ⟨x1, ex1, h⟩ := bnd h
    refine rb_ld 20 hS w0 ex1 rfl rfl ?_
    by_cases hc7 : p3 ≥ x1
    · have h := iteT hc7 h
      refine rif_t hc7 ?_
      cases h
      exact rret hS rfl
    · have h := iteF hc7 h
      refine rif_f hc7 ?_
      obtain ⟨x2, ex2, h⟩ := bnd h
      refine rb_ldr 20 22 hS w0 ex2 rfl rfl ?_
      intro bx2 wx2
      obtain ⟨x3, ex3, h⟩ := bnd h
      refine rb_ld 22 hS wx2 ex3 rfl rfl ?_
      by_cases hc18 : (lc x3 p1) > 0
      · have h := iteT hc18 h
        refine rif_t hc18 ?_
        exact sjX5_rowAround_34 ih2 hS w0 h
      · have h := iteF hc18 h
        refine rif_f hc18 ?_
        obtain ⟨x4, ex4, h⟩ := bnd h
        refine rb_ldr 20 23 hS w0 ex4 rfl rfl ?_
        intro bx4 wx4
        obtain ⟨x5, ex5, h⟩ := bnd h
        refine rb_ld 23 hS wx4 ex5 rfl rfl ?_
        by_cases hc29 : (lc p1 x5) > 0
        · have h := iteT hc29 h
          refine rif_t hc29 ?_
          exact sjX5_rowAround_34 ih2 hS w0 h
        · have h := iteF hc29 h
          refine rif_f hc29 ?_
          cases h
          exact rret hS rfl
def g_X5_rowAround (a0 a1 : Int) (G : GS) : GO := gvm a0 <|
  lh1 (glX5_rowAround_2 a0 a1) 6000 0 G
set_option maxHeartbeats 4000000 in
theorem s_X5_rowAround {ad : Nat → Nat → Nat} {Cn : Nat → Nat} {H : PH} {G G' : GS} {rr : Int} {a0 a1 b0 : Int} (hS : SimA ad Cn H G) (w0 : vrel ad Cn 20 b0 a0) (h : g_X5_rowAround a0 a1 G = some (rr, G')) : RS ad Cn (f_X5_rowAround b0 a1 H) 0 rr G' := by
  unfold g_X5_rowAround at h
  unfold f_X5_rowAround
  obtain ⟨hv, h⟩ := gvm_spec h
  refine rb_vm 20 5 hS w0 hv rfl ?_
  exact slX5_rowAround_2 6000 _ _ _ _ 0  hS w0 h
/-! HouseholdVault$Sheet.lack(II)V by roles -/
def g_X6_lack (a0 a1 a2 : Int) (G : GS) : GO := gvm a0 <|
  (gl 31 G a0 0).bind fun x1 => (gs 32 G x1 a1 0).bind fun G2 => (gl 31 G2 a0 1).bind fun x3 => (gs 33 G2 x3 a1 a2).bind fun G4 => some (0, G4)
set_option maxHeartbeats 4000000 in
theorem s_X6_lack {ad : Nat → Nat → Nat} {Cn : Nat → Nat} {H : PH} {G G' : GS} {rr : Int} {a0 a1 a2 b0 : Int} (hS : SimA ad Cn H G) (w0 : vrel ad Cn 31 b0 a0) (h : g_X6_lack a0 a1 a2 G = some (rr, G')) : RS ad Cn (f_X6_lack b0 a1 a2 H) 0 rr G' := by
  unfold g_X6_lack at h
  unfold f_X6_lack
  obtain ⟨hv, h⟩ := gvm_spec h
  refine rb_vm 31 6 hS w0 hv rfl ?_
  obtain ⟨x1, ex1, h⟩ := bnd h
  refine rb_ldr 31 32 hS w0 ex1 rfl rfl ?_
  intro bx1 wx1
  obtain ⟨G2, eG2, h⟩ := bnd h
  refine rb_st 32 hS wx1 (show rrel _ _ 0 _ _ from rfl) eG2 rfl ?_
  intro H hS
  obtain ⟨x3, ex3, h⟩ := bnd h
  refine rb_ldr 31 33 hS w0 ex3 rfl rfl ?_
  intro bx3 wx3
  obtain ⟨G4, eG4, h⟩ := bnd h
  refine rb_st 33 hS wx3 (show rrel _ _ 0 _ _ from rfl) eG4 rfl ?_
  intro H hS
  cases h
  exact rret hS rfl
/-! HouseholdVault$Sheet.put(IJ)V by roles -/
def g_X6_put (a0 a1 a2 : Int) (G : GS) : GO := gvm a0 <|
  (gl 31 G a0 0).bind fun x1 => (gs 32 G x1 a1 a2).bind fun G2 => (gl 31 G2 a0 1).bind fun x3 => (gs 33 G2 x3 a1 0).bind fun G4 => some (0, G4)
set_option maxHeartbeats 4000000 in
theorem s_X6_put {ad : Nat → Nat → Nat} {Cn : Nat → Nat} {H : PH} {G G' : GS} {rr : Int} {a0 a1 a2 b0 : Int} (hS : SimA ad Cn H G) (w0 : vrel ad Cn 31 b0 a0) (h : g_X6_put a0 a1 a2 G = some (rr, G')) : RS ad Cn (f_X6_put b0 a1 a2 H) 0 rr G' := by
  unfold g_X6_put at h
  unfold f_X6_put
  obtain ⟨hv, h⟩ := gvm_spec h
  refine rb_vm 31 6 hS w0 hv rfl ?_
  obtain ⟨x1, ex1, h⟩ := bnd h
  refine rb_ldr 31 32 hS w0 ex1 rfl rfl ?_
  intro bx1 wx1
  obtain ⟨G2, eG2, h⟩ := bnd h
  refine rb_st 32 hS wx1 (show rrel _ _ 0 _ _ from rfl) eG2 rfl ?_
  intro H hS
  obtain ⟨x3, ex3, h⟩ := bnd h
  refine rb_ldr 31 33 hS w0 ex3 rfl rfl ?_
  intro bx3 wx3
  obtain ⟨G4, eG4, h⟩ := bnd h
  refine rb_st 33 hS wx3 (show rrel _ _ 0 _ _ from rfl) eG4 rfl ?_
  intro H hS
  cases h
  exact rret hS rfl
/-! HouseholdVault$Form.makeMapped(LHouseholdVault$Sheet;I)V by roles -/
def gjX3_makeMapped_115 (self20 : Int → GS → GO) (p1 p2 p3 p4 p5 : Int) (G : GS) : GO :=
  self20 (w32 (p5 + 1)) G
set_option maxHeartbeats 4000000 in
theorem sjX3_makeMapped_115 {ad : Nat → Nat → Nat} {Cn : Nat → Nat} {H : PH} {G G' : GS} {rr : Int} {fself20 : Int → PH → RO} {self20 : Int → GS → GO} {p1 p2 p3 p4 p5 b1 b3 : Int} (ih20 : ∀ (ad : Nat → Nat → Nat) (Cn : Nat → Nat) (H : PH) (G : GS) (v5 : Int) , SimA ad Cn H G → vrel ad Cn 31 b1 p1 → vrel ad Cn 20 b3 p3 → self20 v5 G = some (rr, G') → RS ad Cn (fself20 v5 H) 0 rr G') (hS : SimA ad Cn H G) (w1 : vrel ad Cn 31 b1 p1) (w3 : vrel ad Cn 20 b3 p3) (h : gjX3_makeMapped_115 self20 p1 p2 p3 p4 p5 G = some (rr, G')) : RS ad Cn (jX3_makeMapped_115 fself20 b1 p2 b3 p4 p5 H) 0 rr G' := by
  unfold gjX3_makeMapped_115 at h
  unfold jX3_makeMapped_115
  exact ih20 _ _ _ _ (w32 (p5 + 1))  hS w1 w3  h
def glX3_makeMapped_20 (p1 p2 p3 p4 : Int) (self20 : Int → GS → GO) (p5 : Int) (G : GS) : GO :=
  (if p5 ≥ p4 then some (0, G)
  else (gl 20 G p3 3).bind fun x1 => (g_X8_spot x1 p5 G).bind fun z2 => (g_X8_spot p2 p5 z2.2).bind fun z3 => (gl 31 z3.2 p1 0).bind fun x4 => (gl 32 z3.2 x4 z2.1).bind fun x5 => (g_X5_rowAround p3 x5 z3.2).bind fun z6 => (gl 31 z6.2 p1 1).bind fun x7 => (gl 33 z6.2 x7 z2.1).bind fun x8 => (if x8 = 0 then (if z6.1 ≠ (-1) then (gl 20 z6.2 p3 8).bind fun x9 => (gl 24 z6.2 x9 z6.1).bind fun x10 => (g_X6_put p1 z3.1 x10 z6.2).bind fun z11 => gjX3_makeMapped_115 self20 p1 p2 p3 p4 p5 z11.2
  else (g_X6_lack p1 z3.1 4 z6.2).bind fun z12 => gjX3_makeMapped_115 self20 p1 p2 p3 p4 p5 z12.2)
  else (gl 31 z6.2 p1 1).bind fun x13 => (gl 33 z6.2 x13 z2.1).bind fun x14 => (g_X6_lack p1 z3.1 x14 z6.2).bind fun z15 => gjX3_makeMapped_115 self20 p1 p2 p3 p4 p5 z15.2))
set_option maxHeartbeats 4000000 in
theorem slX3_makeMapped_20 {G' : GS} {rr : Int} {p1 p2 p3 p4 b1 b3 : Int} : ∀ (n : Nat) (ad : Nat → Nat → Nat) (Cn : Nat → Nat) (H : PH) (G : GS) (p5 : Int) , SimA ad Cn H G → vrel ad Cn 31 b1 p1 → vrel ad Cn 20 b3 p3 → lh1 (glX3_makeMapped_20 p1 p2 p3 p4) n p5 G = some (rr, G') → RS ad Cn (lq1 (lX3_makeMapped_20 b1 p2 b3 p4) n p5 H) 0 rr G' := by
  intro n
  induction n with
  | zero => intro ad Cn H G p5 hS w1 w3 h; cases h
  | succ n ih20 =>
    intro ad Cn H G p5 hS w1 w3 h
    rw [lh1_s] at h
    rw [lq1_s]
    generalize lh1 (glX3_makeMapped_20 p1 p2 p3 p4) n = self20 at ih20 h
    generalize lq1 (lX3_makeMapped_20 b1 p2 b3 p4) n = fself20 at ih20 ⊢
    unfold glX3_makeMapped_20 at h
    unfold lX3_makeMapped_20
    by_cases hc24 : p5 ≥ p4
    · have h := iteT hc24 h
      refine rif_t hc24 ?_
      cases h
      exact rret hS rfl
    · have h := iteF hc24 h
      refine rif_f hc24 ?_
      obtain ⟨x1, ex1, h⟩ := bnd h
      refine rb_ld 20 hS w3 ex1 rfl rfl ?_
      obtain ⟨z2, ez2, h⟩ := bnd h
      refine rb_call (ρc := 0) (s_X8_spot hS ez2) ?_
      intro ad Cn bz2 H hS hx wz2
      dsimp only
      obtain rfl : bz2 = z2.1 := wz2
      have w1 := w1.mono hx
      have w3 := w3.mono hx
      obtain ⟨z3, ez3, h⟩ := bnd h
      refine rb_call (ρc := 0) (s_X8_spot hS ez3) ?_
      intro ad Cn bz3 H hS hx wz3
      dsimp only
      obtain rfl : bz3 = z3.1 := wz3
      have w1 := w1.mono hx
      have w3 := w3.mono hx
      obtain ⟨x4, ex4, h⟩ := bnd h
      refine rb_ldr 31 32 hS w1 ex4 rfl rfl ?_
      intro bx4 wx4
      obtain ⟨x5, ex5, h⟩ := bnd h
      refine rb_ld 32 hS wx4 ex5 rfl rfl ?_
      obtain ⟨z6, ez6, h⟩ := bnd h
      refine rb_call (ρc := 0) (s_X5_rowAround hS w3 ez6) ?_
      intro ad Cn bz6 H hS hx wz6
      dsimp only
      obtain rfl : bz6 = z6.1 := wz6
      have w1 := w1.mono hx
      have w3 := w3.mono hx
      obtain ⟨x7, ex7, h⟩ := bnd h
      refine rb_ldr 31 33 hS w1 ex7 rfl rfl ?_
      intro bx7 wx7
      obtain ⟨x8, ex8, h⟩ := bnd h
      refine rb_ld 33 hS wx7 ex8 rfl rfl ?_
      by_cases hc66 : x8 = 0
      · have h := iteT hc66 h
        refine rif_t hc66 ?_
        by_cases hc88 : z6.1 ≠ (-1)
        · have h := iteT hc88 h
          refine rif_t hc88 ?_
          obtain ⟨x9, ex9, h⟩ := bnd h
          refine rb_ldr 20 24 hS w3 ex9 rfl rfl ?_
          intro bx9 wx9
          obtain ⟨x10, ex10, h⟩ := bnd h
          refine rb_ld 24 hS wx9 ex10 rfl rfl ?_
          obtain ⟨z11, ez11, h⟩ := bnd h
          refine rb_call (ρc := 0) (s_X6_put hS w1 ez11) ?_
          intro ad Cn bz11 H hS hx wz11
          dsimp only
          obtain rfl : bz11 = z11.1 := wz11
          have w1 := w1.mono hx
          have w3 := w3.mono hx
          exact sjX3_makeMapped_115 ih20 hS w1 w3 h
        · have h := iteF hc88 h
          refine rif_f hc88 ?_
          obtain ⟨z12, ez12, h⟩ := bnd h
          refine rb_call (ρc := 0) (s_X6_lack hS w1 ez12) ?_
          intro ad Cn bz12 H hS hx wz12
          dsimp only
          obtain rfl : bz12 = z12.1 := wz12
          have w1 := w1.mono hx
          have w3 := w3.mono hx
          exact sjX3_makeMapped_115 ih20 hS w1 w3 h
      · have h := iteF hc66 h
        refine rif_f hc66 ?_
        obtain ⟨x13, ex13, h⟩ := bnd h
        refine rb_ldr 31 33 hS w1 ex13 rfl rfl ?_
        intro bx13 wx13
        obtain ⟨x14, ex14, h⟩ := bnd h
        refine rb_ld 33 hS wx13 ex14 rfl rfl ?_
        obtain ⟨z15, ez15, h⟩ := bnd h
        refine rb_call (ρc := 0) (s_X6_lack hS w1 ez15) ?_
        intro ad Cn bz15 H hS hx wz15
        dsimp only
        obtain rfl : bz15 = z15.1 := wz15
        have w1 := w1.mono hx
        have w3 := w3.mono hx
        exact sjX3_makeMapped_115 ih20 hS w1 w3 h
def g_X3_makeMapped (a0 a1 a2 : Int) (G : GS) : GO := gvm a0 <|
  (gl 1 G a0 0).bind fun x1 => (gl 2 G x1 a2).bind fun x2 => (gl 20 G x2 1).bind fun x3 => (g_X8_placesOf a1 x3 G).bind fun z4 => lh1 (glX3_makeMapped_20 a1 a2 x2 z4.1) 6000 0 z4.2
set_option maxHeartbeats 4000000 in
theorem s_X3_makeMapped {ad : Nat → Nat → Nat} {Cn : Nat → Nat} {H : PH} {G G' : GS} {rr : Int} {a0 a1 a2 b0 b1 : Int} (hS : SimA ad Cn H G) (w0 : vrel ad Cn 1 b0 a0) (w1 : vrel ad Cn 31 b1 a1) (h : g_X3_makeMapped a0 a1 a2 G = some (rr, G')) : RS ad Cn (f_X3_makeMapped b0 b1 a2 H) 0 rr G' := by
  unfold g_X3_makeMapped at h
  unfold f_X3_makeMapped
  obtain ⟨hv, h⟩ := gvm_spec h
  refine rb_vm 1 3 hS w0 hv rfl ?_
  obtain ⟨x1, ex1, h⟩ := bnd h
  refine rb_ldr 1 2 hS w0 ex1 rfl rfl ?_
  intro bx1 wx1
  obtain ⟨x2, ex2, h⟩ := bnd h
  refine rb_ldr 2 20 hS wx1 ex2 rfl rfl ?_
  intro bx2 wx2
  obtain ⟨x3, ex3, h⟩ := bnd h
  refine rb_ld 20 hS wx2 ex3 rfl rfl ?_
  obtain ⟨z4, ez4, h⟩ := bnd h
  refine rb_call (ρc := 0) (s_X8_placesOf hS w1 ez4) ?_
  intro ad Cn bz4 H hS hx wz4
  dsimp only
  obtain rfl : bz4 = z4.1 := wz4
  have w0 := w0.mono hx
  have w1 := w1.mono hx
  have wx2 := wx2.mono hx
  exact slX3_makeMapped_20 6000 _ _ _ _ 0  hS w1 wx2 h
/-! HouseholdVault$Table.holdNone()V by roles -/
def g_X7_holdNone (a0 : Int) (G : GS) : GO := gvm a0 <|
  (gl 7 G a0 7).bind fun x1 => (gfl 12 x1 0 G).bind fun z2 => (gs 7 z2.2 a0 8 0).bind fun G3 => some (0, G3)
set_option maxHeartbeats 4000000 in
theorem s_X7_holdNone {ad : Nat → Nat → Nat} {Cn : Nat → Nat} {H : PH} {G G' : GS} {rr : Int} {a0 b0 : Int} (hS : SimA ad Cn H G) (w0 : vrel ad Cn 7 b0 a0) (h : g_X7_holdNone a0 G = some (rr, G')) : RS ad Cn (f_X7_holdNone b0 H) 0 rr G' := by
  unfold g_X7_holdNone at h
  unfold f_X7_holdNone
  obtain ⟨hv, h⟩ := gvm_spec h
  refine rb_vm 7 7 hS w0 hv rfl ?_
  obtain ⟨x1, ex1, h⟩ := bnd h
  refine rb_ldr 7 12 hS w0 ex1 rfl rfl ?_
  intro bx1 wx1
  obtain ⟨z2, ez2, h⟩ := bnd h
  refine rb_call (ρc := 0) (sfl_J7_fill_53178 12 hS wx1 rfl (fun _ => rfl) ez2) ?_
  intro ad Cn bz2 H hS hx wz2
  dsimp only
  have w0 := w0.mono hx
  obtain ⟨G3, eG3, h⟩ := bnd h
  refine rb_st 7 hS w0 (show rrel _ _ 0 _ _ from rfl) eG3 rfl ?_
  intro H hS
  cases h
  exact rret hS rfl
/-! HouseholdVault$Table.at(II)I by roles -/
def g_X7_at (a0 a1 a2 : Int) (G : GS) : GO := gvm a0 <|
  (gl 7 G a0 1).bind fun x1 => some ((w32 ((w32 (a1 * x1)) + a2)), G)
set_option maxHeartbeats 4000000 in
theorem s_X7_at {ad : Nat → Nat → Nat} {Cn : Nat → Nat} {H : PH} {G G' : GS} {rr : Int} {a0 a1 a2 b0 : Int} (hS : SimA ad Cn H G) (w0 : vrel ad Cn 7 b0 a0) (h : g_X7_at a0 a1 a2 G = some (rr, G')) : RS ad Cn (f_X7_at b0 a1 a2 H) 0 rr G' := by
  unfold g_X7_at at h
  unfold f_X7_at
  obtain ⟨hv, h⟩ := gvm_spec h
  refine rb_vm 7 7 hS w0 hv rfl ?_
  obtain ⟨x1, ex1, h⟩ := bnd h
  refine rb_ld 7 hS w0 ex1 rfl rfl ?_
  cases h
  exact rret hS rfl
/-! HouseholdVault$Table.hold(II)V by roles -/
def g_X7_hold (a0 a1 a2 : Int) (G : GS) : GO := gvm a0 <|
  (gl 7 G a0 7).bind fun x1 => (gl 12 G x1 a1).bind fun x2 => (gs 12 G x1 a1 (i_or x2 (i_shl 1 a2))).bind fun G3 => (gl 7 G3 a0 8).bind fun x4 => (gs 7 G3 a0 8 (w32 (x4 + 1))).bind fun G5 => some (0, G5)
set_option maxHeartbeats 4000000 in
theorem s_X7_hold {ad : Nat → Nat → Nat} {Cn : Nat → Nat} {H : PH} {G G' : GS} {rr : Int} {a0 a1 a2 b0 : Int} (hS : SimA ad Cn H G) (w0 : vrel ad Cn 7 b0 a0) (h : g_X7_hold a0 a1 a2 G = some (rr, G')) : RS ad Cn (f_X7_hold b0 a1 a2 H) 0 rr G' := by
  unfold g_X7_hold at h
  unfold f_X7_hold
  obtain ⟨hv, h⟩ := gvm_spec h
  refine rb_vm 7 7 hS w0 hv rfl ?_
  obtain ⟨x1, ex1, h⟩ := bnd h
  refine rb_ldr 7 12 hS w0 ex1 rfl rfl ?_
  intro bx1 wx1
  obtain ⟨x2, ex2, h⟩ := bnd h
  refine rb_ld 12 hS wx1 ex2 rfl rfl ?_
  obtain ⟨G3, eG3, h⟩ := bnd h
  refine rb_st 12 hS wx1 (show rrel _ _ 0 _ _ from rfl) eG3 rfl ?_
  intro H hS
  obtain ⟨x4, ex4, h⟩ := bnd h
  refine rb_ld 7 hS w0 ex4 rfl rfl ?_
  obtain ⟨G5, eG5, h⟩ := bnd h
  refine rb_st 7 hS w0 (show rrel _ _ 0 _ _ from rfl) eG5 rfl ?_
  intro H hS
  cases h
  exact rret hS rfl
/-! HouseholdVault$Table.holdBelow(I)V by roles -/
def gjX7_holdBelow_54 (self6 : Int → GS → GO) (self16 : Int → GS → GO) (p0 p1 p2 p3 : Int) (G : GS) : GO :=
  self16 (w32 (p3 + 1)) G
set_option maxHeartbeats 4000000 in
theorem sjX7_holdBelow_54 {ad : Nat → Nat → Nat} {Cn : Nat → Nat} {H : PH} {G G' : GS} {rr : Int} {fself6 : Int → PH → RO} {self6 : Int → GS → GO} {fself16 : Int → PH → RO} {self16 : Int → GS → GO} {p0 p1 p2 p3 b0 : Int} (ih6 : ∀ (ad : Nat → Nat → Nat) (Cn : Nat → Nat) (H : PH) (G : GS) (v2 : Int) , SimA ad Cn H G → vrel ad Cn 7 b0 p0 → self6 v2 G = some (rr, G') → RS ad Cn (fself6 v2 H) 0 rr G') (ih16 : ∀ (ad : Nat → Nat → Nat) (Cn : Nat → Nat) (H : PH) (G : GS) (v3 : Int) , SimA ad Cn H G → vrel ad Cn 7 b0 p0 → self16 v3 G = some (rr, G') → RS ad Cn (fself16 v3 H) 0 rr G') (hS : SimA ad Cn H G) (w0 : vrel ad Cn 7 b0 p0) (h : gjX7_holdBelow_54 self6 self16 p0 p1 p2 p3 G = some (rr, G')) : RS ad Cn (jX7_holdBelow_54 fself6 fself16 b0 p1 p2 p3 H) 0 rr G' := by
  unfold gjX7_holdBelow_54 at h
  unfold jX7_holdBelow_54
  exact ih16 _ _ _ _ (w32 (p3 + 1))  hS w0  h
def glX7_holdBelow_16 (self6 : Int → GS → GO) (p0 p1 p2 : Int) (self16 : Int → GS → GO) (p3 : Int) (G : GS) : GO :=
  (gl 7 G p0 1).bind fun x1 => (if p3 ≥ x1 then self6 (w32 (p2 + 1)) G
  else (gl 7 G p0 3).bind fun x2 => (g_X7_at p0 p2 p3 G).bind fun z3 => (gl 8 z3.2 x2 z3.1).bind fun x4 => (if x4 ≤ 0 then gjX7_holdBelow_54 self6 self16 p0 p1 p2 p3 z3.2
  else (if x4 ≥ p1 then gjX7_holdBelow_54 self6 self16 p0 p1 p2 p3 z3.2
  else (g_X7_hold p0 p2 p3 z3.2).bind fun z5 => gjX7_holdBelow_54 self6 self16 p0 p1 p2 p3 z5.2)))
set_option maxHeartbeats 4000000 in
theorem slX7_holdBelow_16 {G' : GS} {rr : Int} {fself6 : Int → PH → RO} {self6 : Int → GS → GO} {p0 p1 p2 b0 : Int} (ih6 : ∀ (ad : Nat → Nat → Nat) (Cn : Nat → Nat) (H : PH) (G : GS) (v2 : Int) , SimA ad Cn H G → vrel ad Cn 7 b0 p0 → self6 v2 G = some (rr, G') → RS ad Cn (fself6 v2 H) 0 rr G') : ∀ (n : Nat) (ad : Nat → Nat → Nat) (Cn : Nat → Nat) (H : PH) (G : GS) (p3 : Int) , SimA ad Cn H G → vrel ad Cn 7 b0 p0 → lh1 (glX7_holdBelow_16 self6 p0 p1 p2) n p3 G = some (rr, G') → RS ad Cn (lq1 (lX7_holdBelow_16 fself6 b0 p1 p2) n p3 H) 0 rr G' := by
  intro n
  induction n with
  | zero => intro ad Cn H G p3 hS w0 h; cases h
  | succ n ih16 =>
    intro ad Cn H G p3 hS w0 h
    rw [lh1_s] at h
    rw [lq1_s]
    generalize lh1 (glX7_holdBelow_16 self6 p0 p1 p2) n = self16 at ih16 h
    generalize lq1 (lX7_holdBelow_16 fself6 b0 p1 p2) n = fself16 at ih16 ⊢
    unfold glX7_holdBelow_16 at h
    unfold lX7_holdBelow_16
    obtain ⟨x1, ex1, h⟩ := bnd h
    refine rb_ld 7 hS w0 ex1 rfl rfl ?_
    by_cases hc21 : p3 ≥ x1
    · have h := iteT hc21 h
      refine rif_t hc21 ?_
      exact ih6 _ _ _ _ (w32 (p2 + 1))  hS w0  h
    · have h := iteF hc21 h
      refine rif_f hc21 ?_
      obtain ⟨x2, ex2, h⟩ := bnd h
      refine rb_ldr 7 8 hS w0 ex2 rfl rfl ?_
      intro bx2 wx2
      obtain ⟨z3, ez3, h⟩ := bnd h
      refine rb_call (ρc := 0) (s_X7_at hS w0 ez3) ?_
      intro ad Cn bz3 H hS hx wz3
      dsimp only
      obtain rfl : bz3 = z3.1 := wz3
      have w0 := w0.mono hx
      have wx2 := wx2.mono hx
      obtain ⟨x4, ex4, h⟩ := bnd h
      refine rb_ld 8 hS wx2 ex4 rfl rfl ?_
      by_cases hc39 : x4 ≤ 0
      · have h := iteT hc39 h
        refine rif_t hc39 ?_
        exact sjX7_holdBelow_54 ih6 ih16 hS w0 h
      · have h := iteF hc39 h
        refine rif_f hc39 ?_
        by_cases hc45 : x4 ≥ p1
        · have h := iteT hc45 h
          refine rif_t hc45 ?_
          exact sjX7_holdBelow_54 ih6 ih16 hS w0 h
        · have h := iteF hc45 h
          refine rif_f hc45 ?_
          obtain ⟨z5, ez5, h⟩ := bnd h
          refine rb_call (ρc := 0) (s_X7_hold hS w0 ez5) ?_
          intro ad Cn bz5 H hS hx wz5
          dsimp only
          obtain rfl : bz5 = z5.1 := wz5
          have w0 := w0.mono hx
          exact sjX7_holdBelow_54 ih6 ih16 hS w0 h
def glX7_holdBelow_6 (p0 p1 : Int) (self6 : Int → GS → GO) (p2 : Int) (G : GS) : GO :=
  (gl 7 G p0 0).bind fun x1 => (if p2 ≥ x1 then some (0, G)
  else lh1 (glX7_holdBelow_16 self6 p0 p1 p2) 6000 0 G)
set_option maxHeartbeats 4000000 in
theorem slX7_holdBelow_6 {G' : GS} {rr : Int} {p0 p1 b0 : Int} : ∀ (n : Nat) (ad : Nat → Nat → Nat) (Cn : Nat → Nat) (H : PH) (G : GS) (p2 : Int) , SimA ad Cn H G → vrel ad Cn 7 b0 p0 → lh1 (glX7_holdBelow_6 p0 p1) n p2 G = some (rr, G') → RS ad Cn (lq1 (lX7_holdBelow_6 b0 p1) n p2 H) 0 rr G' := by
  intro n
  induction n with
  | zero => intro ad Cn H G p2 hS w0 h; cases h
  | succ n ih6 =>
    intro ad Cn H G p2 hS w0 h
    rw [lh1_s] at h
    rw [lq1_s]
    generalize lh1 (glX7_holdBelow_6 p0 p1) n = self6 at ih6 h
    generalize lq1 (lX7_holdBelow_6 b0 p1) n = fself6 at ih6 ⊢
    unfold glX7_holdBelow_6 at h
    unfold lX7_holdBelow_6
    obtain ⟨x1, ex1, h⟩ := bnd h
    refine rb_ld 7 hS w0 ex1 rfl rfl ?_
    by_cases hc11 : p2 ≥ x1
    · have h := iteT hc11 h
      refine rif_t hc11 ?_
      cases h
      exact rret hS rfl
    · have h := iteF hc11 h
      refine rif_f hc11 ?_
      exact slX7_holdBelow_16 ih6 6000 _ _ _ _ 0  hS w0 h
def g_X7_holdBelow (a0 a1 : Int) (G : GS) : GO := gvm a0 <|
  (g_X7_holdNone a0 G).bind fun z1 => lh1 (glX7_holdBelow_6 a0 a1) 6000 0 z1.2
set_option maxHeartbeats 4000000 in
theorem s_X7_holdBelow {ad : Nat → Nat → Nat} {Cn : Nat → Nat} {H : PH} {G G' : GS} {rr : Int} {a0 a1 b0 : Int} (hS : SimA ad Cn H G) (w0 : vrel ad Cn 7 b0 a0) (h : g_X7_holdBelow a0 a1 G = some (rr, G')) : RS ad Cn (f_X7_holdBelow b0 a1 H) 0 rr G' := by
  unfold g_X7_holdBelow at h
  unfold f_X7_holdBelow
  obtain ⟨hv, h⟩ := gvm_spec h
  refine rb_vm 7 7 hS w0 hv rfl ?_
  obtain ⟨z1, ez1, h⟩ := bnd h
  refine rb_call (ρc := 0) (s_X7_holdNone hS w0 ez1) ?_
  intro ad Cn bz1 H hS hx wz1
  dsimp only
  obtain rfl : bz1 = z1.1 := wz1
  have w0 := w0.mono hx
  exact slX7_holdBelow_6 6000 _ _ _ _ 0  hS w0 h
/-! HouseholdVaultModel.place(III)I by roles -/
def g_X9_place (a0 a1 a2 : Int) (G : GS) : GO :=
  some ((w32 ((w32 ((w32 ((w32 (24 * a0)) + a1)) * 6)) + a2)), G)
set_option maxHeartbeats 4000000 in
theorem s_X9_place {ad : Nat → Nat → Nat} {Cn : Nat → Nat} {H : PH} {G G' : GS} {rr : Int} {a0 a1 a2 : Int} (hS : SimA ad Cn H G)  (h : g_X9_place a0 a1 a2 G = some (rr, G')) : RS ad Cn (f_X9_place a0 a1 a2 H) 0 rr G' := by
  unfold g_X9_place at h
  unfold f_X9_place
  cases h
  exact rret hS rfl
/-! HouseholdVaultModel.persons(II)I by roles -/
def g_X9_persons (a0 a1 a2 : Int) (G : GS) : GO := gvm a0 <|
  (gl 100 G a0 15).bind fun x1 => (g_X9_place a1 a2 0 G).bind fun z2 => (gl 115 z2.2 x1 z2.1).bind fun x3 => some ((w32 x3), z2.2)
set_option maxHeartbeats 4000000 in
theorem s_X9_persons {ad : Nat → Nat → Nat} {Cn : Nat → Nat} {H : PH} {G G' : GS} {rr : Int} {a0 a1 a2 b0 : Int} (hS : SimA ad Cn H G) (w0 : vrel ad Cn 100 b0 a0) (h : g_X9_persons a0 a1 a2 G = some (rr, G')) : RS ad Cn (f_X9_persons b0 a1 a2 H) 0 rr G' := by
  unfold g_X9_persons at h
  unfold f_X9_persons
  obtain ⟨hv, h⟩ := gvm_spec h
  refine rb_vm 100 9 hS w0 hv rfl ?_
  obtain ⟨x1, ex1, h⟩ := bnd h
  refine rb_ldr 100 115 hS w0 ex1 rfl rfl ?_
  intro bx1 wx1
  obtain ⟨z2, ez2, h⟩ := bnd h
  refine rb_call (ρc := 0) (s_X9_place hS ez2) ?_
  intro ad Cn bz2 H hS hx wz2
  dsimp only
  obtain rfl : bz2 = z2.1 := wz2
  have w0 := w0.mono hx
  have wx1 := wx1.mono hx
  obtain ⟨x3, ex3, h⟩ := bnd h
  refine rb_ld 115 hS wx1 ex3 rfl rfl ?_
  cases h
  exact rret hS rfl
/-! HouseholdVaultModel.isAsked(II)Z by roles -/
def g_X9_isAsked (a0 a1 a2 : Int) (G : GS) : GO := gvm a0 <|
  (gl 100 G a0 21).bind fun x1 => (gl 121 G x1 a1).bind fun x2 => (gl 100 G a0 20).bind fun x3 => (gl 120 G x3 a1).bind fun x4 => (if x4 ≠ 3 then (gl 100 G a0 43).bind fun x5 => (gl 143 G x5 (w32 ((w32 (6 * x2)) + a2))).bind fun x6 => (gl 100 G a0 44).bind fun x7 => (gl 144 G x7 (w32 ((w32 (6 * x2)) + a2))).bind fun x8 => (if x8 ≤ 0 then (gl 100 G a0 1).bind fun x9 => (gl 101 G x9 x2).bind fun x10 => (if x10 ≠ 1 then (gl 100 G a0 20).bind fun x11 => (gl 120 G x11 a1).bind fun x12 => (if x12 ≠ 0 then (gl 100 G a0 20).bind fun x13 => (gl 120 G x13 a1).bind fun x14 => (if x14 ≠ 1 then (gl 100 G a0 22).bind fun x15 => (gl 122 G x15 a1).bind fun x16 => (if (lc x6 x16) ≤ 0 then some (0, G)
  else some (1, G))
  else (gl 100 G a0 22).bind fun x17 => (gl 122 G x17 a1).bind fun x18 => (if (lc x6 x18) ≥ 0 then some (0, G)
  else some (1, G)))
  else (gl 100 G a0 22).bind fun x19 => (gl 122 G x19 a1).bind fun x20 => (if (lc x6 x20) ≠ 0 then some (0, G)
  else some (1, G)))
  else (gl 100 G a0 22).bind fun x21 => (gl 122 G x21 a1).bind fun x22 => (if (lc (l_and (l_shr x6 (w32 x22)) 1) 1) ≠ 0 then some (0, G)
  else some (1, G)))
  else some (0, G))
  else (gl 100 G a0 44).bind fun x23 => (gl 144 G x23 (w32 ((w32 (6 * x2)) + a2))).bind fun x24 => (if x24 ≤ 0 then some (0, G)
  else some (1, G)))
set_option maxHeartbeats 4000000 in
theorem s_X9_isAsked {ad : Nat → Nat → Nat} {Cn : Nat → Nat} {H : PH} {G G' : GS} {rr : Int} {a0 a1 a2 b0 : Int} (hS : SimA ad Cn H G) (w0 : vrel ad Cn 100 b0 a0) (h : g_X9_isAsked a0 a1 a2 G = some (rr, G')) : RS ad Cn (f_X9_isAsked b0 a1 a2 H) 0 rr G' := by
  unfold g_X9_isAsked at h
  unfold f_X9_isAsked
  obtain ⟨hv, h⟩ := gvm_spec h
  refine rb_vm 100 9 hS w0 hv rfl ?_
  obtain ⟨x1, ex1, h⟩ := bnd h
  refine rb_ldr 100 121 hS w0 ex1 rfl rfl ?_
  intro bx1 wx1
  obtain ⟨x2, ex2, h⟩ := bnd h
  refine rb_ld 121 hS wx1 ex2 rfl rfl ?_
  obtain ⟨x3, ex3, h⟩ := bnd h
  refine rb_ldr 100 120 hS w0 ex3 rfl rfl ?_
  intro bx3 wx3
  obtain ⟨x4, ex4, h⟩ := bnd h
  refine rb_ld 120 hS wx3 ex4 rfl rfl ?_
  by_cases hc22 : x4 ≠ 3
  · have h := iteT hc22 h
    refine rif_t hc22 ?_
    obtain ⟨x5, ex5, h⟩ := bnd h
    refine rb_ldr 100 143 hS w0 ex5 rfl rfl ?_
    intro bx5 wx5
    obtain ⟨x6, ex6, h⟩ := bnd h
    refine rb_ld 143 hS wx5 ex6 rfl rfl ?_
    obtain ⟨x7, ex7, h⟩ := bnd h
    refine rb_ldr 100 144 hS w0 ex7 rfl rfl ?_
    intro bx7 wx7
    obtain ⟨x8, ex8, h⟩ := bnd h
    refine rb_ld 144 hS wx7 ex8 rfl rfl ?_
    by_cases hc57 : x8 ≤ 0
    · have h := iteT hc57 h
      refine rif_t hc57 ?_
      obtain ⟨x9, ex9, h⟩ := bnd h
      refine rb_ldr 100 101 hS w0 ex9 rfl rfl ?_
      intro bx9 wx9
      obtain ⟨x10, ex10, h⟩ := bnd h
      refine rb_ld 101 hS wx9 ex10 rfl rfl ?_
      by_cases hc69 : x10 ≠ 1
      · have h := iteT hc69 h
        refine rif_t hc69 ?_
        obtain ⟨x11, ex11, h⟩ := bnd h
        refine rb_ldr 100 120 hS w0 ex11 rfl rfl ?_
        intro bx11 wx11
        obtain ⟨x12, ex12, h⟩ := bnd h
        refine rb_ld 120 hS wx11 ex12 rfl rfl ?_
        by_cases hc101 : x12 ≠ 0
        · have h := iteT hc101 h
          refine rif_t hc101 ?_
          obtain ⟨x13, ex13, h⟩ := bnd h
          refine rb_ldr 100 120 hS w0 ex13 rfl rfl ?_
          intro bx13 wx13
          obtain ⟨x14, ex14, h⟩ := bnd h
          refine rb_ld 120 hS wx13 ex14 rfl rfl ?_
          by_cases hc131 : x14 ≠ 1
          · have h := iteT hc131 h
            refine rif_t hc131 ?_
            obtain ⟨x15, ex15, h⟩ := bnd h
            refine rb_ldr 100 122 hS w0 ex15 rfl rfl ?_
            intro bx15 wx15
            obtain ⟨x16, ex16, h⟩ := bnd h
            refine rb_ld 122 hS wx15 ex16 rfl rfl ?_
            by_cases hc163 : (lc x6 x16) ≤ 0
            · have h := iteT hc163 h
              refine rif_t hc163 ?_
              cases h
              exact rret hS rfl
            · have h := iteF hc163 h
              refine rif_f hc163 ?_
              cases h
              exact rret hS rfl
          · have h := iteF hc131 h
            refine rif_f hc131 ?_
            obtain ⟨x17, ex17, h⟩ := bnd h
            refine rb_ldr 100 122 hS w0 ex17 rfl rfl ?_
            intro bx17 wx17
            obtain ⟨x18, ex18, h⟩ := bnd h
            refine rb_ld 122 hS wx17 ex18 rfl rfl ?_
            by_cases hc143 : (lc x6 x18) ≥ 0
            · have h := iteT hc143 h
              refine rif_t hc143 ?_
              cases h
              exact rret hS rfl
            · have h := iteF hc143 h
              refine rif_f hc143 ?_
              cases h
              exact rret hS rfl
        · have h := iteF hc101 h
          refine rif_f hc101 ?_
          obtain ⟨x19, ex19, h⟩ := bnd h
          refine rb_ldr 100 122 hS w0 ex19 rfl rfl ?_
          intro bx19 wx19
          obtain ⟨x20, ex20, h⟩ := bnd h
          refine rb_ld 122 hS wx19 ex20 rfl rfl ?_
          by_cases hc113 : (lc x6 x20) ≠ 0
          · have h := iteT hc113 h
            refine rif_t hc113 ?_
            cases h
            exact rret hS rfl
          · have h := iteF hc113 h
            refine rif_f hc113 ?_
            cases h
            exact rret hS rfl
      · have h := iteF hc69 h
        refine rif_f hc69 ?_
        obtain ⟨x21, ex21, h⟩ := bnd h
        refine rb_ldr 100 122 hS w0 ex21 rfl rfl ?_
        intro bx21 wx21
        obtain ⟨x22, ex22, h⟩ := bnd h
        refine rb_ld 122 hS wx21 ex22 rfl rfl ?_
        by_cases hc86 : (lc (l_and (l_shr x6 (w32 x22)) 1) 1) ≠ 0
        · have h := iteT hc86 h
          refine rif_t hc86 ?_
          cases h
          exact rret hS rfl
        · have h := iteF hc86 h
          refine rif_f hc86 ?_
          cases h
          exact rret hS rfl
    · have h := iteF hc57 h
      refine rif_f hc57 ?_
      cases h
      exact rret hS rfl
  · have h := iteF hc22 h
    refine rif_f hc22 ?_
    obtain ⟨x23, ex23, h⟩ := bnd h
    refine rb_ldr 100 144 hS w0 ex23 rfl rfl ?_
    intro bx23 wx23
    obtain ⟨x24, ex24, h⟩ := bnd h
    refine rb_ld 144 hS wx23 ex24 rfl rfl ?_
    by_cases hc32 : x24 ≤ 0
    · have h := iteT hc32 h
      refine rif_t hc32 ?_
      cases h
      exact rret hS rfl
    · have h := iteF hc32 h
      refine rif_f hc32 ?_
      cases h
      exact rret hS rfl
/-! HouseholdVaultModel.isSaid(II)Z by roles -/
def gjX9_isSaid_22 (s0 s1 s2 : Int) (G : GS) : GO :=
  (gl 145 G s0 (w32 (s1 + s2))).bind fun x1 => gzr x1 G
set_option maxHeartbeats 4000000 in
theorem sjX9_isSaid_22 {ad : Nat → Nat → Nat} {Cn : Nat → Nat} {H : PH} {G G' : GS} {rr : Int} {s0 s1 s2 bs0 : Int} (hS : SimA ad Cn H G) (ws0 : vrel ad Cn 145 bs0 s0) (h : gjX9_isSaid_22 s0 s1 s2 G = some (rr, G')) : RS ad Cn (jX9_isSaid_22 bs0 s1 s2 H) 0 rr G' := by
  unfold gjX9_isSaid_22 at h
  unfold jX9_isSaid_22
  obtain ⟨x1, ex1, h⟩ := bnd h
  refine rb_ld 145 hS ws0 ex1 rfl rfl ?_
  obtain ⟨hz, h⟩ := gzr_spec h
  cases h
  exact rb_zr hz (rret hS rfl)
def g_X9_isSaid (a0 a1 a2 : Int) (G : GS) : GO := gvm a0 <|
  (gl 100 G a0 45).bind fun x1 => (gl 100 G a0 25).bind fun x2 => (gl 125 G x2 a1).bind fun x3 => (if x3 ≥ 0 then gjX9_isSaid_22 x1 (w32 (6 * a1)) a2 G
  else gjX9_isSaid_22 x1 (w32 (6 * a1)) 0 G)
set_option maxHeartbeats 4000000 in
theorem s_X9_isSaid {ad : Nat → Nat → Nat} {Cn : Nat → Nat} {H : PH} {G G' : GS} {rr : Int} {a0 a1 a2 b0 : Int} (hS : SimA ad Cn H G) (w0 : vrel ad Cn 100 b0 a0) (h : g_X9_isSaid a0 a1 a2 G = some (rr, G')) : RS ad Cn (f_X9_isSaid b0 a1 a2 H) 0 rr G' := by
  unfold g_X9_isSaid at h
  unfold f_X9_isSaid
  obtain ⟨hv, h⟩ := gvm_spec h
  refine rb_vm 100 9 hS w0 hv rfl ?_
  obtain ⟨x1, ex1, h⟩ := bnd h
  refine rb_ldr 100 145 hS w0 ex1 rfl rfl ?_
  intro bx1 wx1
  obtain ⟨x2, ex2, h⟩ := bnd h
  refine rb_ldr 100 125 hS w0 ex2 rfl rfl ?_
  intro bx2 wx2
  obtain ⟨x3, ex3, h⟩ := bnd h
  refine rb_ld 125 hS wx2 ex3 rfl rfl ?_
  by_cases hc14 : x3 ≥ 0
  · have h := iteT hc14 h
    refine rif_t hc14 ?_
    exact sjX9_isSaid_22 hS wx1 h
  · have h := iteF hc14 h
    refine rif_f hc14 ?_
    exact sjX9_isSaid_22 hS wx1 h
/-! HouseholdVaultModel.sayAt(II)V by roles -/
def gjX9_sayAt_288 (self136 : Int → GS → GO) (p0 p2 p3 p4 s0 s1 s2 : Int) (G : GS) : GO :=
  (gsz 145 G s0 s1 s2).bind fun G1 => self136 (w32 (p4 + 1)) G1
set_option maxHeartbeats 4000000 in
theorem sjX9_sayAt_288 {ad : Nat → Nat → Nat} {Cn : Nat → Nat} {H : PH} {G G' : GS} {rr : Int} {fself136 : Int → PH → RO} {self136 : Int → GS → GO} {p0 p2 p3 p4 s0 s1 s2 b0 bs0 : Int} (ih136 : ∀ (ad : Nat → Nat → Nat) (Cn : Nat → Nat) (H : PH) (G : GS) (v4 : Int) , SimA ad Cn H G → vrel ad Cn 100 b0 p0 → self136 v4 G = some (rr, G') → RS ad Cn (fself136 v4 H) 0 rr G') (hS : SimA ad Cn H G) (w0 : vrel ad Cn 100 b0 p0) (ws0 : vrel ad Cn 145 bs0 s0) (h : gjX9_sayAt_288 self136 p0 p2 p3 p4 s0 s1 s2 G = some (rr, G')) : RS ad Cn (jX9_sayAt_288 fself136 b0 p2 p3 p4 bs0 s1 s2 H) 0 rr G' := by
  unfold gjX9_sayAt_288 at h
  unfold jX9_sayAt_288
  obtain ⟨G1, eG1, h⟩ := bnd h
  refine rb_stz 145 hS ws0 rfl eG1 rfl ?_
  intro H hS
  exact ih136 _ _ _ _ (w32 (p4 + 1))  hS w0  h
def gjX9_sayAt_252 (self136 : Int → GS → GO) (p0 p2 p3 p4 p5 : Int) (G : GS) : GO :=
  (gl 100 G p0 45).bind fun x1 => (gl 100 G p0 19).bind fun x2 => (gl 119 G x2 p2).bind fun x3 => (if x3 ≠ 3 then gjX9_sayAt_288 self136 p0 p2 p3 p4 x1 (w32 ((w32 (6 * p2)) + p4)) p5 G
  else (if p5 ≠ 0 then gjX9_sayAt_288 self136 p0 p2 p3 p4 x1 (w32 ((w32 (6 * p2)) + p4)) 0 G
  else gjX9_sayAt_288 self136 p0 p2 p3 p4 x1 (w32 ((w32 (6 * p2)) + p4)) 1 G))
set_option maxHeartbeats 4000000 in
theorem sjX9_sayAt_252 {ad : Nat → Nat → Nat} {Cn : Nat → Nat} {H : PH} {G G' : GS} {rr : Int} {fself136 : Int → PH → RO} {self136 : Int → GS → GO} {p0 p2 p3 p4 p5 b0 : Int} (ih136 : ∀ (ad : Nat → Nat → Nat) (Cn : Nat → Nat) (H : PH) (G : GS) (v4 : Int) , SimA ad Cn H G → vrel ad Cn 100 b0 p0 → self136 v4 G = some (rr, G') → RS ad Cn (fself136 v4 H) 0 rr G') (hS : SimA ad Cn H G) (w0 : vrel ad Cn 100 b0 p0) (h : gjX9_sayAt_252 self136 p0 p2 p3 p4 p5 G = some (rr, G')) : RS ad Cn (jX9_sayAt_252 fself136 b0 p2 p3 p4 p5 H) 0 rr G' := by
  unfold gjX9_sayAt_252 at h
  unfold jX9_sayAt_252
  obtain ⟨x1, ex1, h⟩ := bnd h
  refine rb_ldr 100 145 hS w0 ex1 rfl rfl ?_
  intro bx1 wx1
  obtain ⟨x2, ex2, h⟩ := bnd h
  refine rb_ldr 100 119 hS w0 ex2 rfl rfl ?_
  intro bx2 wx2
  obtain ⟨x3, ex3, h⟩ := bnd h
  refine rb_ld 119 hS wx2 ex3 rfl rfl ?_
  by_cases hc270 : x3 ≠ 3
  · have h := iteT hc270 h
    refine rif_t hc270 ?_
    exact sjX9_sayAt_288 ih136 hS w0 wx1 h
  · have h := iteF hc270 h
    refine rif_f hc270 ?_
    by_cases hc275 : p5 ≠ 0
    · have h := iteT hc275 h
      refine rif_t hc275 ?_
      exact sjX9_sayAt_288 ih136 hS w0 wx1 h
    · have h := iteF hc275 h
      refine rif_f hc275 ?_
      exact sjX9_sayAt_288 ih136 hS w0 wx1 h
def gjX9_sayAt_250 (self136 : Int → GS → GO) (p0 p2 p3 p4 s0 : Int) (G : GS) : GO :=
  gjX9_sayAt_252 self136 p0 p2 p3 p4 s0 G
set_option maxHeartbeats 4000000 in
theorem sjX9_sayAt_250 {ad : Nat → Nat → Nat} {Cn : Nat → Nat} {H : PH} {G G' : GS} {rr : Int} {fself136 : Int → PH → RO} {self136 : Int → GS → GO} {p0 p2 p3 p4 s0 b0 : Int} (ih136 : ∀ (ad : Nat → Nat → Nat) (Cn : Nat → Nat) (H : PH) (G : GS) (v4 : Int) , SimA ad Cn H G → vrel ad Cn 100 b0 p0 → self136 v4 G = some (rr, G') → RS ad Cn (fself136 v4 H) 0 rr G') (hS : SimA ad Cn H G) (w0 : vrel ad Cn 100 b0 p0) (h : gjX9_sayAt_250 self136 p0 p2 p3 p4 s0 G = some (rr, G')) : RS ad Cn (jX9_sayAt_250 fself136 b0 p2 p3 p4 s0 H) 0 rr G' := by
  unfold gjX9_sayAt_250 at h
  unfold jX9_sayAt_250
  exact sjX9_sayAt_252 ih136 hS w0 h
def gjX9_sayAt_245 (self136 : Int → GS → GO) (p0 p2 p3 p4 : Int) (G : GS) : GO :=
  gjX9_sayAt_250 self136 p0 p2 p3 p4 1 G
set_option maxHeartbeats 4000000 in
theorem sjX9_sayAt_245 {ad : Nat → Nat → Nat} {Cn : Nat → Nat} {H : PH} {G G' : GS} {rr : Int} {fself136 : Int → PH → RO} {self136 : Int → GS → GO} {p0 p2 p3 p4 b0 : Int} (ih136 : ∀ (ad : Nat → Nat → Nat) (Cn : Nat → Nat) (H : PH) (G : GS) (v4 : Int) , SimA ad Cn H G → vrel ad Cn 100 b0 p0 → self136 v4 G = some (rr, G') → RS ad Cn (fself136 v4 H) 0 rr G') (hS : SimA ad Cn H G) (w0 : vrel ad Cn 100 b0 p0) (h : gjX9_sayAt_245 self136 p0 p2 p3 p4 G = some (rr, G')) : RS ad Cn (jX9_sayAt_245 fself136 b0 p2 p3 p4 H) 0 rr G' := by
  unfold gjX9_sayAt_245 at h
  unfold jX9_sayAt_245
  exact sjX9_sayAt_250 ih136 hS w0 h
def gjX9_sayAt_210 (self136 : Int → GS → GO) (p0 p2 p3 p4 s0 : Int) (G : GS) : GO :=
  gjX9_sayAt_252 self136 p0 p2 p3 p4 s0 G
set_option maxHeartbeats 4000000 in
theorem sjX9_sayAt_210 {ad : Nat → Nat → Nat} {Cn : Nat → Nat} {H : PH} {G G' : GS} {rr : Int} {fself136 : Int → PH → RO} {self136 : Int → GS → GO} {p0 p2 p3 p4 s0 b0 : Int} (ih136 : ∀ (ad : Nat → Nat → Nat) (Cn : Nat → Nat) (H : PH) (G : GS) (v4 : Int) , SimA ad Cn H G → vrel ad Cn 100 b0 p0 → self136 v4 G = some (rr, G') → RS ad Cn (fself136 v4 H) 0 rr G') (hS : SimA ad Cn H G) (w0 : vrel ad Cn 100 b0 p0) (h : gjX9_sayAt_210 self136 p0 p2 p3 p4 s0 G = some (rr, G')) : RS ad Cn (jX9_sayAt_210 fself136 b0 p2 p3 p4 s0 H) 0 rr G' := by
  unfold gjX9_sayAt_210 at h
  unfold jX9_sayAt_210
  exact sjX9_sayAt_252 ih136 hS w0 h
def gjX9_sayAt_209 (self136 : Int → GS → GO) (p0 p2 p3 p4 : Int) (G : GS) : GO :=
  gjX9_sayAt_210 self136 p0 p2 p3 p4 0 G
set_option maxHeartbeats 4000000 in
theorem sjX9_sayAt_209 {ad : Nat → Nat → Nat} {Cn : Nat → Nat} {H : PH} {G G' : GS} {rr : Int} {fself136 : Int → PH → RO} {self136 : Int → GS → GO} {p0 p2 p3 p4 b0 : Int} (ih136 : ∀ (ad : Nat → Nat → Nat) (Cn : Nat → Nat) (H : PH) (G : GS) (v4 : Int) , SimA ad Cn H G → vrel ad Cn 100 b0 p0 → self136 v4 G = some (rr, G') → RS ad Cn (fself136 v4 H) 0 rr G') (hS : SimA ad Cn H G) (w0 : vrel ad Cn 100 b0 p0) (h : gjX9_sayAt_209 self136 p0 p2 p3 p4 G = some (rr, G')) : RS ad Cn (jX9_sayAt_209 fself136 b0 p2 p3 p4 H) 0 rr G' := by
  unfold gjX9_sayAt_209 at h
  unfold jX9_sayAt_209
  exact sjX9_sayAt_210 ih136 hS w0 h
def gjX9_sayAt_173 (self136 : Int → GS → GO) (p0 p2 p3 p4 s0 : Int) (G : GS) : GO :=
  (gl 100 G p0 19).bind fun x1 => (gl 119 G x1 p2).bind fun x2 => (if x2 ≠ 1 then (gl 100 G p0 19).bind fun x3 => (gl 119 G x3 p2).bind fun x4 => (if x4 ≠ 2 then gjX9_sayAt_252 self136 p0 p2 p3 p4 s0 G
  else (if s0 ≠ 0 then gjX9_sayAt_245 self136 p0 p2 p3 p4 G
  else (gl 100 G p0 24).bind fun x5 => (gl 124 G x5 p2).bind fun x6 => (g_X9_isSaid p0 x6 p4 G).bind fun z7 => (if z7.1 = 0 then gjX9_sayAt_250 self136 p0 p2 p3 p4 0 z7.2
  else gjX9_sayAt_245 self136 p0 p2 p3 p4 z7.2)))
  else (if s0 = 0 then gjX9_sayAt_209 self136 p0 p2 p3 p4 G
  else (gl 100 G p0 24).bind fun x8 => (gl 124 G x8 p2).bind fun x9 => (g_X9_isSaid p0 x9 p4 G).bind fun z10 => (if z10.1 = 0 then gjX9_sayAt_209 self136 p0 p2 p3 p4 z10.2
  else gjX9_sayAt_210 self136 p0 p2 p3 p4 1 z10.2)))
set_option maxHeartbeats 4000000 in
theorem sjX9_sayAt_173 {ad : Nat → Nat → Nat} {Cn : Nat → Nat} {H : PH} {G G' : GS} {rr : Int} {fself136 : Int → PH → RO} {self136 : Int → GS → GO} {p0 p2 p3 p4 s0 b0 : Int} (ih136 : ∀ (ad : Nat → Nat → Nat) (Cn : Nat → Nat) (H : PH) (G : GS) (v4 : Int) , SimA ad Cn H G → vrel ad Cn 100 b0 p0 → self136 v4 G = some (rr, G') → RS ad Cn (fself136 v4 H) 0 rr G') (hS : SimA ad Cn H G) (w0 : vrel ad Cn 100 b0 p0) (h : gjX9_sayAt_173 self136 p0 p2 p3 p4 s0 G = some (rr, G')) : RS ad Cn (jX9_sayAt_173 fself136 b0 p2 p3 p4 s0 H) 0 rr G' := by
  unfold gjX9_sayAt_173 at h
  unfold jX9_sayAt_173
  obtain ⟨x1, ex1, h⟩ := bnd h
  refine rb_ldr 100 119 hS w0 ex1 rfl rfl ?_
  intro bx1 wx1
  obtain ⟨x2, ex2, h⟩ := bnd h
  refine rb_ld 119 hS wx1 ex2 rfl rfl ?_
  by_cases hc182 : x2 ≠ 1
  · have h := iteT hc182 h
    refine rif_t hc182 ?_
    obtain ⟨x3, ex3, h⟩ := bnd h
    refine rb_ldr 100 119 hS w0 ex3 rfl rfl ?_
    intro bx3 wx3
    obtain ⟨x4, ex4, h⟩ := bnd h
    refine rb_ld 119 hS wx3 ex4 rfl rfl ?_
    by_cases hc222 : x4 ≠ 2
    · have h := iteT hc222 h
      refine rif_t hc222 ?_
      exact sjX9_sayAt_252 ih136 hS w0 h
    · have h := iteF hc222 h
      refine rif_f hc222 ?_
      by_cases hc227 : s0 ≠ 0
      · have h := iteT hc227 h
        refine rif_t hc227 ?_
        exact sjX9_sayAt_245 ih136 hS w0 h
      · have h := iteF hc227 h
        refine rif_f hc227 ?_
        obtain ⟨x5, ex5, h⟩ := bnd h
        refine rb_ldr 100 124 hS w0 ex5 rfl rfl ?_
        intro bx5 wx5
        obtain ⟨x6, ex6, h⟩ := bnd h
        refine rb_ld 124 hS wx5 ex6 rfl rfl ?_
        obtain ⟨z7, ez7, h⟩ := bnd h
        refine rb_call (ρc := 0) (s_X9_isSaid hS w0 ez7) ?_
        intro ad Cn bz7 H hS hx wz7
        dsimp only
        obtain rfl : bz7 = z7.1 := wz7
        have w0 := w0.mono hx
        by_cases hc242 : z7.1 = 0
        · have h := iteT hc242 h
          refine rif_t hc242 ?_
          exact sjX9_sayAt_250 ih136 hS w0 h
        · have h := iteF hc242 h
          refine rif_f hc242 ?_
          exact sjX9_sayAt_245 ih136 hS w0 h
  · have h := iteF hc182 h
    refine rif_f hc182 ?_
    by_cases hc187 : s0 = 0
    · have h := iteT hc187 h
      refine rif_t hc187 ?_
      exact sjX9_sayAt_209 ih136 hS w0 h
    · have h := iteF hc187 h
      refine rif_f hc187 ?_
      obtain ⟨x8, ex8, h⟩ := bnd h
      refine rb_ldr 100 124 hS w0 ex8 rfl rfl ?_
      intro bx8 wx8
      obtain ⟨x9, ex9, h⟩ := bnd h
      refine rb_ld 124 hS wx8 ex9 rfl rfl ?_
      obtain ⟨z10, ez10, h⟩ := bnd h
      refine rb_call (ρc := 0) (s_X9_isSaid hS w0 ez10) ?_
      intro ad Cn bz10 H hS hx wz10
      dsimp only
      obtain rfl : bz10 = z10.1 := wz10
      have w0 := w0.mono hx
      by_cases hc202 : z10.1 = 0
      · have h := iteT hc202 h
        refine rif_t hc202 ?_
        exact sjX9_sayAt_209 ih136 hS w0 h
      · have h := iteF hc202 h
        refine rif_f hc202 ?_
        exact sjX9_sayAt_210 ih136 hS w0 h
def glX9_sayAt_136 (p0 p2 p3 : Int) (self136 : Int → GS → GO) (p4 : Int) (G : GS) : GO :=
  (if p4 > p3 then some (0, G)
  else (gl 100 G p0 19).bind fun x1 => (gl 119 G x1 p2).bind fun x2 => (if x2 ≠ 0 then (gl 100 G p0 23).bind fun x3 => (gl 123 G x3 p2).bind fun x4 => (g_X9_isSaid p0 x4 p4 G).bind fun z5 => gjX9_sayAt_173 self136 p0 p2 p3 p4 z5.1 z5.2
  else (g_X9_isAsked p0 p2 p4 G).bind fun z6 => gjX9_sayAt_173 self136 p0 p2 p3 p4 z6.1 z6.2))
set_option maxHeartbeats 4000000 in
theorem slX9_sayAt_136 {G' : GS} {rr : Int} {p0 p2 p3 b0 : Int} : ∀ (n : Nat) (ad : Nat → Nat → Nat) (Cn : Nat → Nat) (H : PH) (G : GS) (p4 : Int) , SimA ad Cn H G → vrel ad Cn 100 b0 p0 → lh1 (glX9_sayAt_136 p0 p2 p3) n p4 G = some (rr, G') → RS ad Cn (lq1 (lX9_sayAt_136 b0 p2 p3) n p4 H) 0 rr G' := by
  intro n
  induction n with
  | zero => intro ad Cn H G p4 hS w0 h; cases h
  | succ n ih136 =>
    intro ad Cn H G p4 hS w0 h
    rw [lh1_s] at h
    rw [lq1_s]
    generalize lh1 (glX9_sayAt_136 p0 p2 p3) n = self136 at ih136 h
    generalize lq1 (lX9_sayAt_136 b0 p2 p3) n = fself136 at ih136 ⊢
    unfold glX9_sayAt_136 at h
    unfold lX9_sayAt_136
    by_cases hc139 : p4 > p3
    · have h := iteT hc139 h
      refine rif_t hc139 ?_
      cases h
      exact rret hS rfl
    · have h := iteF hc139 h
      refine rif_f hc139 ?_
      obtain ⟨x1, ex1, h⟩ := bnd h
      refine rb_ldr 100 119 hS w0 ex1 rfl rfl ?_
      intro bx1 wx1
      obtain ⟨x2, ex2, h⟩ := bnd h
      refine rb_ld 119 hS wx1 ex2 rfl rfl ?_
      by_cases hc148 : x2 ≠ 0
      · have h := iteT hc148 h
        refine rif_t hc148 ?_
        obtain ⟨x3, ex3, h⟩ := bnd h
        refine rb_ldr 100 123 hS w0 ex3 rfl rfl ?_
        intro bx3 wx3
        obtain ⟨x4, ex4, h⟩ := bnd h
        refine rb_ld 123 hS wx3 ex4 rfl rfl ?_
        obtain ⟨z5, ez5, h⟩ := bnd h
        refine rb_call (ρc := 0) (s_X9_isSaid hS w0 ez5) ?_
        intro ad Cn bz5 H hS hx wz5
        dsimp only
        obtain rfl : bz5 = z5.1 := wz5
        have w0 := w0.mono hx
        exact sjX9_sayAt_173 ih136 hS w0 h
      · have h := iteF hc148 h
        refine rif_f hc148 ?_
        obtain ⟨z6, ez6, h⟩ := bnd h
        refine rb_call (ρc := 0) (s_X9_isAsked hS w0 ez6) ?_
        intro ad Cn bz6 H hS hx wz6
        dsimp only
        obtain rfl : bz6 = z6.1 := wz6
        have w0 := w0.mono hx
        exact sjX9_sayAt_173 ih136 hS w0 h
def gjX9_sayAt_134 (p0 p2 p3 s0 : Int) (G : GS) : GO :=
  lh1 (glX9_sayAt_136 p0 p2 p3) 6000 s0 G
set_option maxHeartbeats 4000000 in
theorem sjX9_sayAt_134 {ad : Nat → Nat → Nat} {Cn : Nat → Nat} {H : PH} {G G' : GS} {rr : Int} {p0 p2 p3 s0 b0 : Int} (hS : SimA ad Cn H G) (w0 : vrel ad Cn 100 b0 p0) (h : gjX9_sayAt_134 p0 p2 p3 s0 G = some (rr, G')) : RS ad Cn (jX9_sayAt_134 b0 p2 p3 s0 H) 0 rr G' := by
  unfold gjX9_sayAt_134 at h
  unfold jX9_sayAt_134
  exact slX9_sayAt_136 6000 _ _ _ _ s0  hS w0 h
def gjX9_sayAt_119 (p0 p2 s0 : Int) (G : GS) : GO :=
  (gl 100 G p0 25).bind fun x1 => (gl 125 G x1 p2).bind fun x2 => (if x2 ≥ 0 then gjX9_sayAt_134 p0 p2 s0 1 G
  else gjX9_sayAt_134 p0 p2 s0 0 G)
set_option maxHeartbeats 4000000 in
theorem sjX9_sayAt_119 {ad : Nat → Nat → Nat} {Cn : Nat → Nat} {H : PH} {G G' : GS} {rr : Int} {p0 p2 s0 b0 : Int} (hS : SimA ad Cn H G) (w0 : vrel ad Cn 100 b0 p0) (h : gjX9_sayAt_119 p0 p2 s0 G = some (rr, G')) : RS ad Cn (jX9_sayAt_119 b0 p2 s0 H) 0 rr G' := by
  unfold gjX9_sayAt_119 at h
  unfold jX9_sayAt_119
  obtain ⟨x1, ex1, h⟩ := bnd h
  refine rb_ldr 100 125 hS w0 ex1 rfl rfl ?_
  intro bx1 wx1
  obtain ⟨x2, ex2, h⟩ := bnd h
  refine rb_ld 125 hS wx1 ex2 rfl rfl ?_
  by_cases hc126 : x2 ≥ 0
  · have h := iteT hc126 h
    refine rif_t hc126 ?_
    exact sjX9_sayAt_134 hS w0 h
  · have h := iteF hc126 h
    refine rif_f hc126 ?_
    exact sjX9_sayAt_134 hS w0 h
def gjX9_sayAt_93 (s0 s1 s2 : Int) (G : GS) : GO :=
  (gsz 145 G s0 s1 s2).bind fun G1 => some (0, G1)
set_option maxHeartbeats 4000000 in
theorem sjX9_sayAt_93 {ad : Nat → Nat → Nat} {Cn : Nat → Nat} {H : PH} {G G' : GS} {rr : Int} {s0 s1 s2 bs0 : Int} (hS : SimA ad Cn H G) (ws0 : vrel ad Cn 145 bs0 s0) (h : gjX9_sayAt_93 s0 s1 s2 G = some (rr, G')) : RS ad Cn (jX9_sayAt_93 bs0 s1 s2 H) 0 rr G' := by
  unfold gjX9_sayAt_93 at h
  unfold jX9_sayAt_93
  obtain ⟨G1, eG1, h⟩ := bnd h
  refine rb_stz 145 hS ws0 rfl eG1 rfl ?_
  intro H hS
  cases h
  exact rret hS rfl
def gjX9_sayAt_62 (self15 : Int → Int → GS → GO) (p0 p1 p2 p4 s0 s1 : Int) (G : GS) : GO :=
  self15 (w32 (s0 + s1)) (w32 (p4 + 1)) G
set_option maxHeartbeats 4000000 in
theorem sjX9_sayAt_62 {ad : Nat → Nat → Nat} {Cn : Nat → Nat} {H : PH} {G G' : GS} {rr : Int} {fself15 : Int → Int → PH → RO} {self15 : Int → Int → GS → GO} {p0 p1 p2 p4 s0 s1 b0 : Int} (ih15 : ∀ (ad : Nat → Nat → Nat) (Cn : Nat → Nat) (H : PH) (G : GS) (v3 v4 : Int) , SimA ad Cn H G → vrel ad Cn 100 b0 p0 → self15 v3 v4 G = some (rr, G') → RS ad Cn (fself15 v3 v4 H) 0 rr G') (hS : SimA ad Cn H G) (w0 : vrel ad Cn 100 b0 p0) (h : gjX9_sayAt_62 self15 p0 p1 p2 p4 s0 s1 G = some (rr, G')) : RS ad Cn (jX9_sayAt_62 fself15 b0 p1 p2 p4 s0 s1 H) 0 rr G' := by
  unfold gjX9_sayAt_62 at h
  unfold jX9_sayAt_62
  exact ih15 _ _ _ _ (w32 (s0 + s1)) (w32 (p4 + 1))  hS w0  h
def glX9_sayAt_15 (p0 p1 p2 : Int) (self15 : Int → Int → GS → GO) (p3 p4 : Int) (G : GS) : GO :=
  (gl 100 G p0 25).bind fun x1 => (gl 100 G p0 23).bind fun x2 => (gl 123 G x2 p2).bind fun x3 => (gl 125 G x1 x3).bind fun x4 => (g_X9_persons p0 p1 x4 G).bind fun z5 => (if p4 > z5.1 then (gl 100 z5.2 p0 45).bind fun x6 => (gl 100 z5.2 p0 20).bind fun x7 => (gl 120 z5.2 x7 p2).bind fun x8 => (if p3 < x8 then gjX9_sayAt_93 x6 (w32 (6 * p2)) 0 z5.2
  else gjX9_sayAt_93 x6 (w32 (6 * p2)) 1 z5.2)
  else (gl 100 z5.2 p0 45).bind fun x9 => (gl 100 z5.2 p0 23).bind fun x10 => (gl 123 z5.2 x10 p2).bind fun x11 => (gl 145 z5.2 x9 (w32 ((w32 (6 * x11)) + p4))).bind fun x12 => (if x12 = 0 then gjX9_sayAt_62 self15 p0 p1 p2 p4 p3 0 z5.2
  else gjX9_sayAt_62 self15 p0 p1 p2 p4 p3 1 z5.2))
set_option maxHeartbeats 4000000 in
theorem slX9_sayAt_15 {G' : GS} {rr : Int} {p0 p1 p2 b0 : Int} : ∀ (n : Nat) (ad : Nat → Nat → Nat) (Cn : Nat → Nat) (H : PH) (G : GS) (p3 p4 : Int) , SimA ad Cn H G → vrel ad Cn 100 b0 p0 → lh2 (glX9_sayAt_15 p0 p1 p2) n p3 p4 G = some (rr, G') → RS ad Cn (lq2 (lX9_sayAt_15 b0 p1 p2) n p3 p4 H) 0 rr G' := by
  intro n
  induction n with
  | zero => intro ad Cn H G p3 p4 hS w0 h; cases h
  | succ n ih15 =>
    intro ad Cn H G p3 p4 hS w0 h
    rw [lh2_s] at h
    rw [lq2_s]
    generalize lh2 (glX9_sayAt_15 p0 p1 p2) n = self15 at ih15 h
    generalize lq2 (lX9_sayAt_15 b0 p1 p2) n = fself15 at ih15 ⊢
    unfold glX9_sayAt_15 at h
    unfold lX9_sayAt_15
    obtain ⟨x1, ex1, h⟩ := bnd h
    refine rb_ldr 100 125 hS w0 ex1 rfl rfl ?_
    intro bx1 wx1
    obtain ⟨x2, ex2, h⟩ := bnd h
    refine rb_ldr 100 123 hS w0 ex2 rfl rfl ?_
    intro bx2 wx2
    obtain ⟨x3, ex3, h⟩ := bnd h
    refine rb_ld 123 hS wx2 ex3 rfl rfl ?_
    obtain ⟨x4, ex4, h⟩ := bnd h
    refine rb_ld 125 hS wx1 ex4 rfl rfl ?_
    obtain ⟨z5, ez5, h⟩ := bnd h
    refine rb_call (ρc := 0) (s_X9_persons hS w0 ez5) ?_
    intro ad Cn bz5 H hS hx wz5
    dsimp only
    obtain rfl : bz5 = z5.1 := wz5
    have w0 := w0.mono hx
    by_cases hc33 : p4 > z5.1
    · have h := iteT hc33 h
      refine rif_t hc33 ?_
      obtain ⟨x6, ex6, h⟩ := bnd h
      refine rb_ldr 100 145 hS w0 ex6 rfl rfl ?_
      intro bx6 wx6
      obtain ⟨x7, ex7, h⟩ := bnd h
      refine rb_ldr 100 120 hS w0 ex7 rfl rfl ?_
      intro bx7 wx7
      obtain ⟨x8, ex8, h⟩ := bnd h
      refine rb_ld 120 hS wx7 ex8 rfl rfl ?_
      by_cases hc85 : p3 < x8
      · have h := iteT hc85 h
        refine rif_t hc85 ?_
        exact sjX9_sayAt_93 hS wx6 h
      · have h := iteF hc85 h
        refine rif_f hc85 ?_
        exact sjX9_sayAt_93 hS wx6 h
    · have h := iteF hc33 h
      refine rif_f hc33 ?_
      obtain ⟨x9, ex9, h⟩ := bnd h
      refine rb_ldr 100 145 hS w0 ex9 rfl rfl ?_
      intro bx9 wx9
      obtain ⟨x10, ex10, h⟩ := bnd h
      refine rb_ldr 100 123 hS w0 ex10 rfl rfl ?_
      intro bx10 wx10
      obtain ⟨x11, ex11, h⟩ := bnd h
      refine rb_ld 123 hS wx10 ex11 rfl rfl ?_
      obtain ⟨x12, ex12, h⟩ := bnd h
      refine rb_ld 145 hS wx9 ex12 rfl rfl ?_
      by_cases hc54 : x12 = 0
      · have h := iteT hc54 h
        refine rif_t hc54 ?_
        exact sjX9_sayAt_62 ih15 hS w0 h
      · have h := iteF hc54 h
        refine rif_f hc54 ?_
        exact sjX9_sayAt_62 ih15 hS w0 h
def g_X9_sayAt (a0 a1 a2 : Int) (G : GS) : GO := gvm a0 <|
  (gl 100 G a0 19).bind fun x1 => (gl 119 G x1 a2).bind fun x2 => (if x2 ≠ 4 then (gl 100 G a0 25).bind fun x3 => (gl 125 G x3 a2).bind fun x4 => (if x4 ≥ 0 then (gl 100 G a0 25).bind fun x5 => (gl 125 G x5 a2).bind fun x6 => (g_X9_persons a0 a1 x6 G).bind fun z7 => gjX9_sayAt_119 a0 a2 z7.1 z7.2
  else gjX9_sayAt_119 a0 a2 0 G)
  else lh2 (glX9_sayAt_15 a0 a1 a2) 6000 0 1 G)
set_option maxHeartbeats 4000000 in
theorem s_X9_sayAt {ad : Nat → Nat → Nat} {Cn : Nat → Nat} {H : PH} {G G' : GS} {rr : Int} {a0 a1 a2 b0 : Int} (hS : SimA ad Cn H G) (w0 : vrel ad Cn 100 b0 a0) (h : g_X9_sayAt a0 a1 a2 G = some (rr, G')) : RS ad Cn (f_X9_sayAt b0 a1 a2 H) 0 rr G' := by
  unfold g_X9_sayAt at h
  unfold f_X9_sayAt
  obtain ⟨hv, h⟩ := gvm_spec h
  refine rb_vm 100 9 hS w0 hv rfl ?_
  obtain ⟨x1, ex1, h⟩ := bnd h
  refine rb_ldr 100 119 hS w0 ex1 rfl rfl ?_
  intro bx1 wx1
  obtain ⟨x2, ex2, h⟩ := bnd h
  refine rb_ld 119 hS wx1 ex2 rfl rfl ?_
  by_cases hc7 : x2 ≠ 4
  · have h := iteT hc7 h
    refine rif_t hc7 ?_
    obtain ⟨x3, ex3, h⟩ := bnd h
    refine rb_ldr 100 125 hS w0 ex3 rfl rfl ?_
    intro bx3 wx3
    obtain ⟨x4, ex4, h⟩ := bnd h
    refine rb_ld 125 hS wx3 ex4 rfl rfl ?_
    by_cases hc101 : x4 ≥ 0
    · have h := iteT hc101 h
      refine rif_t hc101 ?_
      obtain ⟨x5, ex5, h⟩ := bnd h
      refine rb_ldr 100 125 hS w0 ex5 rfl rfl ?_
      intro bx5 wx5
      obtain ⟨x6, ex6, h⟩ := bnd h
      refine rb_ld 125 hS wx5 ex6 rfl rfl ?_
      obtain ⟨z7, ez7, h⟩ := bnd h
      refine rb_call (ρc := 0) (s_X9_persons hS w0 ez7) ?_
      intro ad Cn bz7 H hS hx wz7
      dsimp only
      obtain rfl : bz7 = z7.1 := wz7
      have w0 := w0.mono hx
      exact sjX9_sayAt_119 hS w0 h
    · have h := iteF hc101 h
      refine rif_f hc101 ?_
      exact sjX9_sayAt_119 hS w0 h
  · have h := iteF hc7 h
    refine rif_f hc7 ?_
    exact slX9_sayAt_15 6000 _ _ _ _ 0 1  hS w0 h
/-! HouseholdVault$Sheet.<init>()V by roles -/
def g_X6_init (a0 : Int) (G : GS) : GO := gvm a0 <|
  (gn 32 120 G).bind fun z1 => (gs 31 z1.2 a0 0 z1.1).bind fun G2 => (gn 33 120 G2).bind fun z3 => (gs 31 z3.2 a0 1 z3.1).bind fun G4 => (gl 31 G4 a0 1).bind fun x5 => (gfl 33 x5 1 G4).bind fun z6 => some (0, z6.2)
set_option maxHeartbeats 4000000 in
theorem s_X6_init {ad : Nat → Nat → Nat} {Cn : Nat → Nat} {H : PH} {G G' : GS} {rr : Int} {a0 b0 : Int} (hS : SimA ad Cn H G) (w0 : vrel ad Cn 31 b0 a0) (h : g_X6_init a0 G = some (rr, G')) : RS ad Cn (f_X6_init b0 H) 0 rr G' := by
  unfold g_X6_init at h
  unfold f_X6_init
  obtain ⟨hv, h⟩ := gvm_spec h
  refine rb_vm 31 6 hS w0 hv rfl ?_
  obtain ⟨z1, ez1, h⟩ := bnd h
  refine rb_newa 32 hS ez1 rfl (fun _ => rfl) ?_
  intro ad Cn bz1 H hS hx wz1
  dsimp only
  have w0 := w0.mono hx
  obtain ⟨G2, eG2, h⟩ := bnd h
  refine rb_st 31 (k := 0) hS w0 (show rrel _ _ 33 _ _ from wz1) eG2 rfl ?_
  intro H hS
  obtain ⟨z3, ez3, h⟩ := bnd h
  refine rb_newa 33 hS ez3 rfl (fun _ => rfl) ?_
  intro ad Cn bz3 H hS hx wz3
  dsimp only
  have w0 := w0.mono hx
  obtain ⟨G4, eG4, h⟩ := bnd h
  refine rb_st 31 (k := 1) hS w0 (show rrel _ _ 34 _ _ from wz3) eG4 rfl ?_
  intro H hS
  obtain ⟨x5, ex5, h⟩ := bnd h
  refine rb_ldr 31 33 hS w0 ex5 rfl rfl ?_
  intro bx5 wx5
  obtain ⟨z6, ez6, h⟩ := bnd h
  refine rb_call (ρc := 0) (sfl_J7_fill_53178 33 hS wx5 rfl (fun _ => rfl) ez6) ?_
  intro ad Cn bz6 H hS hx wz6
  dsimp only
  have w0 := w0.mono hx
  cases h
  exact rret hS rfl
/-! HouseholdVault$Table.<init>()V by roles -/
def g_X7_init (a0 : Int) (G : GS) : GO := gvm a0 <|
  (gn 8 81 G).bind fun z1 => (gs 7 z1.2 a0 3 z1.1).bind fun G2 => (gn 9 81 G2).bind fun z3 => (gs 7 z3.2 a0 4 z3.1).bind fun G4 => (gn 10 81 G4).bind fun z5 => (gs 7 z5.2 a0 5 z5.1).bind fun G6 => (gn 11 81 G6).bind fun z7 => (gs 7 z7.2 a0 6 z7.1).bind fun G8 => (gn 12 9 G8).bind fun z9 => (gs 7 z9.2 a0 7 z9.1).bind fun G10 => some (0, G10)
set_option maxHeartbeats 4000000 in
theorem s_X7_init {ad : Nat → Nat → Nat} {Cn : Nat → Nat} {H : PH} {G G' : GS} {rr : Int} {a0 b0 : Int} (hS : SimA ad Cn H G) (w0 : vrel ad Cn 7 b0 a0) (h : g_X7_init a0 G = some (rr, G')) : RS ad Cn (f_X7_init b0 H) 0 rr G' := by
  unfold g_X7_init at h
  unfold f_X7_init
  obtain ⟨hv, h⟩ := gvm_spec h
  refine rb_vm 7 7 hS w0 hv rfl ?_
  obtain ⟨z1, ez1, h⟩ := bnd h
  refine rb_newa 8 hS ez1 rfl (fun _ => rfl) ?_
  intro ad Cn bz1 H hS hx wz1
  dsimp only
  have w0 := w0.mono hx
  obtain ⟨G2, eG2, h⟩ := bnd h
  refine rb_st 7 (k := 3) hS w0 (show rrel _ _ 9 _ _ from wz1) eG2 rfl ?_
  intro H hS
  obtain ⟨z3, ez3, h⟩ := bnd h
  refine rb_newa 9 hS ez3 rfl (fun _ => rfl) ?_
  intro ad Cn bz3 H hS hx wz3
  dsimp only
  have w0 := w0.mono hx
  obtain ⟨G4, eG4, h⟩ := bnd h
  refine rb_st 7 (k := 4) hS w0 (show rrel _ _ 10 _ _ from wz3) eG4 rfl ?_
  intro H hS
  obtain ⟨z5, ez5, h⟩ := bnd h
  refine rb_newa 10 hS ez5 rfl (fun _ => rfl) ?_
  intro ad Cn bz5 H hS hx wz5
  dsimp only
  have w0 := w0.mono hx
  obtain ⟨G6, eG6, h⟩ := bnd h
  refine rb_st 7 (k := 5) hS w0 (show rrel _ _ 11 _ _ from wz5) eG6 rfl ?_
  intro H hS
  obtain ⟨z7, ez7, h⟩ := bnd h
  refine rb_newa 11 hS ez7 rfl (fun _ => rfl) ?_
  intro ad Cn bz7 H hS hx wz7
  dsimp only
  have w0 := w0.mono hx
  obtain ⟨G8, eG8, h⟩ := bnd h
  refine rb_st 7 (k := 6) hS w0 (show rrel _ _ 12 _ _ from wz7) eG8 rfl ?_
  intro H hS
  obtain ⟨z9, ez9, h⟩ := bnd h
  refine rb_newa 12 hS ez9 rfl (fun _ => rfl) ?_
  intro ad Cn bz9 H hS hx wz9
  dsimp only
  have w0 := w0.mono hx
  obtain ⟨G10, eG10, h⟩ := bnd h
  refine rb_st 7 (k := 7) hS w0 (show rrel _ _ 13 _ _ from wz9) eG10 rfl ?_
  intro H hS
  cases h
  exact rret hS rfl
