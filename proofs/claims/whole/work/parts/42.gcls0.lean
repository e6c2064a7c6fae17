/-! HouseholdVault$Condition.<init>(IIIJIII)V by roles -/
def g_X0_init (a0 a1 a2 a3 a4 a5 a6 a7 : Int) (G : GS) : GO := gvm a0 <|
  (gs 40 G a0 0 a1).bind fun G1 => (gs 40 G1 a0 1 a2).bind fun G2 => (gs 40 G2 a0 2 a3).bind fun G3 => (gs 40 G3 a0 3 a4).bind fun G4 => (gs 40 G4 a0 4 a5).bind fun G5 => (gs 40 G5 a0 5 a6).bind fun G6 => (gs 40 G6 a0 6 a7).bind fun G7 => some (0, G7)
set_option maxHeartbeats 4000000 in
theorem s_X0_init {ad : Nat → Nat → Nat} {Cn : Nat → Nat} {H : PH} {G G' : GS} {rr : Int} {a0 a1 a2 a3 a4 a5 a6 a7 b0 : Int} (hS : SimA ad Cn H G) (w0 : vrel ad Cn 40 b0 a0) (h : g_X0_init a0 a1 a2 a3 a4 a5 a6 a7 G = some (rr, G')) : RS ad Cn (f_X0_init b0 a1 a2 a3 a4 a5 a6 a7 H) 0 rr G' := by
  unfold g_X0_init at h
  unfold f_X0_init
  obtain ⟨hv, h⟩ := gvm_spec h
  refine rb_vm 40 0 hS w0 hv rfl ?_
  obtain ⟨G1, eG1, h⟩ := bnd h
  refine rb_st 40 hS w0 (show rrel _ _ 0 _ _ from rfl) eG1 rfl ?_
  intro H hS
  obtain ⟨G2, eG2, h⟩ := bnd h
  refine rb_st 40 hS w0 (show rrel _ _ 0 _ _ from rfl) eG2 rfl ?_
  intro H hS
  obtain ⟨G3, eG3, h⟩ := bnd h
  refine rb_st 40 hS w0 (show rrel _ _ 0 _ _ from rfl) eG3 rfl ?_
  intro H hS
  obtain ⟨G4, eG4, h⟩ := bnd h
  refine rb_st 40 hS w0 (show rrel _ _ 0 _ _ from rfl) eG4 rfl ?_
  intro H hS
  obtain ⟨G5, eG5, h⟩ := bnd h
  refine rb_st 40 hS w0 (show rrel _ _ 0 _ _ from rfl) eG5 rfl ?_
  intro H hS
  obtain ⟨G6, eG6, h⟩ := bnd h
  refine rb_st 40 hS w0 (show rrel _ _ 0 _ _ from rfl) eG6 rfl ?_
  intro H hS
  obtain ⟨G7, eG7, h⟩ := bnd h
  refine rb_st 40 hS w0 (show rrel _ _ 0 _ _ from rfl) eG7 rfl ?_
  intro H hS
  cases h
  exact rret hS rfl
/-! HouseholdVault$Condition.fits(JIZ)Z by roles -/
def g_X0_fits (a0 a1 a2 a3 : Int) (G : GS) : GO := gvm a0 <|
  (gl 40 G a0 0).bind fun x1 => (if x1 ≠ 3 then (if a2 = 0 then (gl 40 G a0 0).bind fun x2 => (if x2 ≠ 1 then (gl 40 G a0 0).bind fun x3 => (if x3 ≠ 2 then (if a3 = 0 then (gl 40 G a0 3).bind fun x4 => (if (lc a1 x4) ≠ 0 then some (0, G)
  else some (1, G))
  else (gl 40 G a0 3).bind fun x5 => (if (lc (l_and (l_shr a1 (w32 x5)) 1) 0) = 0 then some (0, G)
  else some (1, G)))
  else (gl 40 G a0 3).bind fun x6 => (if (lc a1 x6) ≤ 0 then some (0, G)
  else some (1, G)))
  else (gl 40 G a0 3).bind fun x7 => (if (lc a1 x7) ≥ 0 then some (0, G)
  else some (1, G)))
  else some (0, G))
  else (if a2 = 0 then some (0, G)
  else some (1, G)))
set_option maxHeartbeats 4000000 in
theorem s_X0_fits {ad : Nat → Nat → Nat} {Cn : Nat → Nat} {H : PH} {G G' : GS} {rr : Int} {a0 a1 a2 a3 b0 : Int} (hS : SimA ad Cn H G) (w0 : vrel ad Cn 40 b0 a0) (h : g_X0_fits a0 a1 a2 a3 G = some (rr, G')) : RS ad Cn (f_X0_fits b0 a1 a2 a3 H) 0 rr G' := by
  unfold g_X0_fits at h
  unfold f_X0_fits
  obtain ⟨hv, h⟩ := gvm_spec h
  refine rb_vm 40 0 hS w0 hv rfl ?_
  obtain ⟨x1, ex1, h⟩ := bnd h
  refine rb_ld 40 hS w0 ex1 rfl rfl ?_
  by_cases hc5 : x1 ≠ 3
  · have h := iteT hc5 h
    refine rif_t hc5 ?_
    by_cases hc19 : a2 = 0
    · have h := iteT hc19 h
      refine rif_t hc19 ?_
      obtain ⟨x2, ex2, h⟩ := bnd h
      refine rb_ld 40 hS w0 ex2 rfl rfl ?_
      by_cases hc29 : x2 ≠ 1
      · have h := iteT hc29 h
        refine rif_t hc29 ?_
        obtain ⟨x3, ex3, h⟩ := bnd h
        refine rb_ld 40 hS w0 ex3 rfl rfl ?_
        by_cases hc52 : x3 ≠ 2
        · have h := iteT hc52 h
          refine rif_t hc52 ?_
          by_cases hc72 : a3 = 0
          · have h := iteT hc72 h
            refine rif_t hc72 ?_
            obtain ⟨x4, ex4, h⟩ := bnd h
            refine rb_ld 40 hS w0 ex4 rfl rfl ?_
            by_cases hc103 : (lc a1 x4) ≠ 0
            · have h := iteT hc103 h
              refine rif_t hc103 ?_
              cases h
              exact rret hS rfl
            · have h := iteF hc103 h
              refine rif_f hc103 ?_
              cases h
              exact rret hS rfl
          · have h := iteF hc72 h
            refine rif_f hc72 ?_
            obtain ⟨x5, ex5, h⟩ := bnd h
            refine rb_ld 40 hS w0 ex5 rfl rfl ?_
            by_cases hc86 : (lc (l_and (l_shr a1 (w32 x5)) 1) 0) = 0
            · have h := iteT hc86 h
              refine rif_t hc86 ?_
              cases h
              exact rret hS rfl
            · have h := iteF hc86 h
              refine rif_f hc86 ?_
              cases h
              exact rret hS rfl
        · have h := iteF hc52 h
          refine rif_f hc52 ?_
          obtain ⟨x6, ex6, h⟩ := bnd h
          refine rb_ld 40 hS w0 ex6 rfl rfl ?_
          by_cases hc61 : (lc a1 x6) ≤ 0
          · have h := iteT hc61 h
            refine rif_t hc61 ?_
            cases h
            exact rret hS rfl
          · have h := iteF hc61 h
            refine rif_f hc61 ?_
            cases h
            exact rret hS rfl
      · have h := iteF hc29 h
        refine rif_f hc29 ?_
        obtain ⟨x7, ex7, h⟩ := bnd h
        refine rb_ld 40 hS w0 ex7 rfl rfl ?_
        by_cases hc38 : (lc a1 x7) ≥ 0
        · have h := iteT hc38 h
          refine rif_t hc38 ?_
          cases h
          exact rret hS rfl
        · have h := iteF hc38 h
          refine rif_f hc38 ?_
          cases h
          exact rret hS rfl
    · have h := iteF hc19 h
      refine rif_f hc19 ?_
      cases h
      exact rret hS rfl
  · have h := iteF hc5 h
    refine rif_f hc5 ?_
    by_cases hc9 : a2 = 0
    · have h := iteT hc9 h
      refine rif_t hc9 ?_
      cases h
      exact rret hS rfl
    · have h := iteF hc9 h
      refine rif_f hc9 ?_
      cases h
      exact rret hS rfl
/-! HouseholdVault$Edition.<init>([LHouseholdVault$Sheet;I)V by roles -/
def g_X1_init (a0 a1 a2 : Int) (G : GS) : GO := gvm a0 <|
  (gs 50 G a0 0 a1).bind fun G1 => (gs 50 G1 a0 1 a2).bind fun G2 => some (0, G2)
set_option maxHeartbeats 4000000 in
theorem s_X1_init {ad : Nat → Nat → Nat} {Cn : Nat → Nat} {H : PH} {G G' : GS} {rr : Int} {a0 a1 a2 b0 b1 : Int} (hS : SimA ad Cn H G) (w0 : vrel ad Cn 50 b0 a0) (w1 : vrel ad Cn 51 b1 a1) (h : g_X1_init a0 a1 a2 G = some (rr, G')) : RS ad Cn (f_X1_init b0 b1 a2 H) 0 rr G' := by
  unfold g_X1_init at h
  unfold f_X1_init
  obtain ⟨hv, h⟩ := gvm_spec h
  refine rb_vm 50 1 hS w0 hv rfl ?_
  obtain ⟨G1, eG1, h⟩ := bnd h
  refine rb_st 50 (k := 0) hS w0 (show rrel _ _ 52 _ _ from w1) eG1 rfl ?_
  intro H hS
  obtain ⟨G2, eG2, h⟩ := bnd h
  refine rb_st 50 hS w0 (show rrel _ _ 0 _ _ from rfl) eG2 rfl ?_
  intro H hS
  cases h
  exact rret hS rfl
/-! HouseholdVault$Finder.<init>()V by roles -/
def g_X2_init (a0 : Int) (G : GS) : GO := gvm a0 <|
  some (0, G)
set_option maxHeartbeats 4000000 in
theorem s_X2_init {ad : Nat → Nat → Nat} {Cn : Nat → Nat} {H : PH} {G G' : GS} {rr : Int} {a0 b0 : Int} (hS : SimA ad Cn H G) (w0 : vrel ad Cn 13 b0 a0) (h : g_X2_init a0 G = some (rr, G')) : RS ad Cn (f_X2_init b0 H) 0 rr G' := by
  unfold g_X2_init at h
  unfold f_X2_init
  obtain ⟨hv, h⟩ := gvm_spec h
  refine rb_vm 13 2 hS w0 hv rfl ?_
  cases h
  exact rret hS rfl
/-! HouseholdVault$Finder.start(I)V by roles -/
def g_X2_start (a0 a1 : Int) (G : GS) : GO := gvm a0 <|
  (gs 13 G a0 0 a1).bind fun G1 => (gs 13 G1 a0 1 0).bind fun G2 => some (0, G2)
set_option maxHeartbeats 4000000 in
theorem s_X2_start {ad : Nat → Nat → Nat} {Cn : Nat → Nat} {H : PH} {G G' : GS} {rr : Int} {a0 a1 b0 : Int} (hS : SimA ad Cn H G) (w0 : vrel ad Cn 13 b0 a0) (h : g_X2_start a0 a1 G = some (rr, G')) : RS ad Cn (f_X2_start b0 a1 H) 0 rr G' := by
  unfold g_X2_start at h
  unfold f_X2_start
  obtain ⟨hv, h⟩ := gvm_spec h
  refine rb_vm 13 2 hS w0 hv rfl ?_
  obtain ⟨G1, eG1, h⟩ := bnd h
  refine rb_st 13 hS w0 (show rrel _ _ 0 _ _ from rfl) eG1 rfl ?_
  intro H hS
  obtain ⟨G2, eG2, h⟩ := bnd h
  refine rb_st 13 hS w0 (show rrel _ _ 0 _ _ from rfl) eG2 rfl ?_
  intro H hS
  cases h
  exact rret hS rfl
/-! HouseholdVault$Finder.meet(III)V by roles -/
def gjX2_meet_26 (p0 : Int) (G : GS) : GO :=
  (gl 13 G p0 1).bind fun x1 => (gs 13 G p0 1 (w32 (x1 + 1))).bind fun G2 => some (0, G2)
set_option maxHeartbeats 4000000 in
theorem sjX2_meet_26 {ad : Nat → Nat → Nat} {Cn : Nat → Nat} {H : PH} {G G' : GS} {rr : Int} {p0 b0 : Int} (hS : SimA ad Cn H G) (w0 : vrel ad Cn 13 b0 p0) (h : gjX2_meet_26 p0 G = some (rr, G')) : RS ad Cn (jX2_meet_26 b0 H) 0 rr G' := by
  unfold gjX2_meet_26 at h
  unfold jX2_meet_26
  obtain ⟨x1, ex1, h⟩ := bnd h
  refine rb_ld 13 hS w0 ex1 rfl rfl ?_
  obtain ⟨G2, eG2, h⟩ := bnd h
  refine rb_st 13 hS w0 (show rrel _ _ 0 _ _ from rfl) eG2 rfl ?_
  intro H hS
  cases h
  exact rret hS rfl
def g_X2_meet (a0 a1 a2 a3 : Int) (G : GS) : GO := gvm a0 <|
  (gl 13 G a0 1).bind fun x1 => (gl 13 G a0 0).bind fun x2 => (if x1 ≠ x2 then gjX2_meet_26 a0 G
  else (gs 13 G a0 2 a1).bind fun G3 => (gs 13 G3 a0 3 a2).bind fun G4 => (gs 13 G4 a0 4 a3).bind fun G5 => gjX2_meet_26 a0 G5)
set_option maxHeartbeats 4000000 in
theorem s_X2_meet {ad : Nat → Nat → Nat} {Cn : Nat → Nat} {H : PH} {G G' : GS} {rr : Int} {a0 a1 a2 a3 b0 : Int} (hS : SimA ad Cn H G) (w0 : vrel ad Cn 13 b0 a0) (h : g_X2_meet a0 a1 a2 a3 G = some (rr, G')) : RS ad Cn (f_X2_meet b0 a1 a2 a3 H) 0 rr G' := by
  unfold g_X2_meet at h
  unfold f_X2_meet
  obtain ⟨hv, h⟩ := gvm_spec h
  refine rb_vm 13 2 hS w0 hv rfl ?_
  obtain ⟨x1, ex1, h⟩ := bnd h
  refine rb_ld 13 hS w0 ex1 rfl rfl ?_
  obtain ⟨x2, ex2, h⟩ := bnd h
  refine rb_ld 13 hS w0 ex2 rfl rfl ?_
  by_cases hc8 : x1 ≠ x2
  · have h := iteT hc8 h
    refine rif_t hc8 ?_
    exact sjX2_meet_26 hS w0 h
  · have h := iteF hc8 h
    refine rif_f hc8 ?_
    obtain ⟨G3, eG3, h⟩ := bnd h
    refine rb_st 13 hS w0 (show rrel _ _ 0 _ _ from rfl) eG3 rfl ?_
    intro H hS
    obtain ⟨G4, eG4, h⟩ := bnd h
    refine rb_st 13 hS w0 (show rrel _ _ 0 _ _ from rfl) eG4 rfl ?_
    intro H hS
    obtain ⟨G5, eG5, h⟩ := bnd h
    refine rb_st 13 hS w0 (show rrel _ _ 0 _ _ from rfl) eG5 rfl ?_
    intro H hS
    exact sjX2_meet_26 hS w0 h
/-! HouseholdVault$Finder.told(III)I by roles -/
def g_X2_told (a0 a1 a2 a3 : Int) (G : GS) : GO := gvm a0 <|
  (if a1 < 0 then some (a3, G)
  else (if a1 ≥ a2 then some (a3, G)
  else (gl 13 G a0 0).bind fun x1 => (gl 13 G a0 1).bind fun x2 => (if x1 < x2 then (if a1 ≠ 0 then (if a1 ≠ 1 then (gl 13 G a0 4).bind fun x3 => some (x3, G)
  else (gl 13 G a0 3).bind fun x4 => some (x4, G))
  else (gl 13 G a0 2).bind fun x5 => some (x5, G))
  else some (a3, G))))
set_option maxHeartbeats 4000000 in
theorem s_X2_told {ad : Nat → Nat → Nat} {Cn : Nat → Nat} {H : PH} {G G' : GS} {rr : Int} {a0 a1 a2 a3 b0 : Int} (hS : SimA ad Cn H G) (w0 : vrel ad Cn 13 b0 a0) (h : g_X2_told a0 a1 a2 a3 G = some (rr, G')) : RS ad Cn (f_X2_told b0 a1 a2 a3 H) 0 rr G' := by
  unfold g_X2_told at h
  unfold f_X2_told
  obtain ⟨hv, h⟩ := gvm_spec h
  refine rb_vm 13 2 hS w0 hv rfl ?_
  by_cases hc1 : a1 < 0
  · have h := iteT hc1 h
    refine rif_t hc1 ?_
    cases h
    exact rret hS rfl
  · have h := iteF hc1 h
    refine rif_f hc1 ?_
    by_cases hc6 : a1 ≥ a2
    · have h := iteT hc6 h
      refine rif_t hc6 ?_
      cases h
      exact rret hS rfl
    · have h := iteF hc6 h
      refine rif_f hc6 ?_
      obtain ⟨x1, ex1, h⟩ := bnd h
      refine rb_ld 13 hS w0 ex1 rfl rfl ?_
      obtain ⟨x2, ex2, h⟩ := bnd h
      refine rb_ld 13 hS w0 ex2 rfl rfl ?_
      by_cases hc17 : x1 < x2
      · have h := iteT hc17 h
        refine rif_t hc17 ?_
        by_cases hc23 : a1 ≠ 0
        · have h := iteT hc23 h
          refine rif_t hc23 ?_
          by_cases hc33 : a1 ≠ 1
          · have h := iteT hc33 h
            refine rif_t hc33 ?_
            obtain ⟨x3, ex3, h⟩ := bnd h
            refine rb_ld 13 hS w0 ex3 rfl rfl ?_
            cases h
            exact rret hS rfl
          · have h := iteF hc33 h
            refine rif_f hc33 ?_
            obtain ⟨x4, ex4, h⟩ := bnd h
            refine rb_ld 13 hS w0 ex4 rfl rfl ?_
            cases h
            exact rret hS rfl
        · have h := iteF hc23 h
          refine rif_f hc23 ?_
          obtain ⟨x5, ex5, h⟩ := bnd h
          refine rb_ld 13 hS w0 ex5 rfl rfl ?_
          cases h
          exact rret hS rfl
      · have h := iteF hc17 h
        refine rif_f hc17 ?_
        cases h
        exact rret hS rfl
/-! HouseholdVault$Form.<init>()V by roles -/
def g_X3_init (a0 : Int) (G : GS) : GO := gvm a0 <|
  (gn 2 24 G).bind fun z1 => (gs 1 z1.2 a0 0 z1.1).bind fun G2 => (gn 3 60 G2).bind fun z3 => (gs 1 z3.2 a0 2 z3.1).bind fun G4 => (gn 4 84 G4).bind fun z5 => (gs 1 z5.2 a0 4 z5.1).bind fun G6 => some (0, G6)
set_option maxHeartbeats 4000000 in
theorem s_X3_init {ad : Nat → Nat → Nat} {Cn : Nat → Nat} {H : PH} {G G' : GS} {rr : Int} {a0 b0 : Int} (hS : SimA ad Cn H G) (w0 : vrel ad Cn 1 b0 a0) (h : g_X3_init a0 G = some (rr, G')) : RS ad Cn (f_X3_init b0 H) 0 rr G' := by
  unfold g_X3_init at h
  unfold f_X3_init
  obtain ⟨hv, h⟩ := gvm_spec h
  refine rb_vm 1 3 hS w0 hv rfl ?_
  obtain ⟨z1, ez1, h⟩ := bnd h
  refine rb_newa 2 hS ez1 rfl (fun _ => rfl) ?_
  intro ad Cn bz1 H hS hx wz1
  dsimp only
  have w0 := w0.mono hx
  obtain ⟨G2, eG2, h⟩ := bnd h
  refine rb_st 1 (k := 0) hS w0 (show rrel _ _ 3 _ _ from wz1) eG2 rfl ?_
  intro H hS
  obtain ⟨z3, ez3, h⟩ := bnd h
  refine rb_newa 3 hS ez3 rfl (fun _ => rfl) ?_
  intro ad Cn bz3 H hS hx wz3
  dsimp only
  have w0 := w0.mono hx
  obtain ⟨G4, eG4, h⟩ := bnd h
  refine rb_st 1 (k := 2) hS w0 (show rrel _ _ 4 _ _ from wz3) eG4 rfl ?_
  intro H hS
  obtain ⟨z5, ez5, h⟩ := bnd h
  refine rb_newa 4 hS ez5 rfl (fun _ => rfl) ?_
  intro ad Cn bz5 H hS hx wz5
  dsimp only
  have w0 := w0.mono hx
  obtain ⟨G6, eG6, h⟩ := bnd h
  refine rb_st 1 (k := 4) hS w0 (show rrel _ _ 5 _ _ from wz5) eG6 rfl ?_
  intro H hS
  cases h
  exact rret hS rfl
/-! HouseholdVault$Form.questionOf(I)LHouseholdVault$Question; by roles -/
def g_X3_questionOf (a0 a1 : Int) (G : GS) : GO := gvm a0 <|
  (if a1 < 0 then some ((-1), G)
  else (gl 1 G a0 1).bind fun x1 => (if a1 ≥ x1 then some ((-1), G)
  else (gl 1 G a0 0).bind fun x2 => (gl 2 G x2 a1).bind fun x3 => some (x3, G)))
set_option maxHeartbeats 4000000 in
theorem s_X3_questionOf {ad : Nat → Nat → Nat} {Cn : Nat → Nat} {H : PH} {G G' : GS} {rr : Int} {a0 a1 b0 : Int} (hS : SimA ad Cn H G) (w0 : vrel ad Cn 1 b0 a0) (h : g_X3_questionOf a0 a1 G = some (rr, G')) : RS ad Cn (f_X3_questionOf b0 a1 H) 21 rr G' := by
  unfold g_X3_questionOf at h
  unfold f_X3_questionOf
  obtain ⟨hv, h⟩ := gvm_spec h
  refine rb_vm 1 3 hS w0 hv rfl ?_
  by_cases hc1 : a1 < 0
  · have h := iteT hc1 h
    refine rif_t hc1 ?_
    cases h
    exact rret hS vrel.nul
  · have h := iteF hc1 h
    refine rif_f hc1 ?_
    obtain ⟨x1, ex1, h⟩ := bnd h
    refine rb_ld 1 hS w0 ex1 rfl rfl ?_
    by_cases hc9 : a1 ≥ x1
    · have h := iteT hc9 h
      refine rif_t hc9 ?_
      cases h
      exact rret hS vrel.nul
    · have h := iteF hc9 h
      refine rif_f hc9 ?_
      obtain ⟨x2, ex2, h⟩ := bnd h
      refine rb_ldr 1 2 hS w0 ex2 rfl rfl ?_
      intro bx2 wx2
      obtain ⟨x3, ex3, h⟩ := bnd h
      refine rb_ldr 2 20 hS wx2 ex3 rfl rfl ?_
      intro bx3 wx3
      cases h
      exact rret hS wx3
/-! HouseholdVault$Form.conditionOf(I)LHouseholdVault$Condition; by roles -/
def g_X3_conditionOf (a0 a1 : Int) (G : GS) : GO := gvm a0 <|
  (if a1 < 0 then some ((-1), G)
  else (gl 1 G a0 3).bind fun x1 => (if a1 ≥ x1 then some ((-1), G)
  else (gl 1 G a0 2).bind fun x2 => (gl 3 G x2 a1).bind fun x3 => some (x3, G)))
set_option maxHeartbeats 4000000 in
theorem s_X3_conditionOf {ad : Nat → Nat → Nat} {Cn : Nat → Nat} {H : PH} {G G' : GS} {rr : Int} {a0 a1 b0 : Int} (hS : SimA ad Cn H G) (w0 : vrel ad Cn 1 b0 a0) (h : g_X3_conditionOf a0 a1 G = some (rr, G')) : RS ad Cn (f_X3_conditionOf b0 a1 H) 41 rr G' := by
  unfold g_X3_conditionOf at h
  unfold f_X3_conditionOf
  obtain ⟨hv, h⟩ := gvm_spec h
  refine rb_vm 1 3 hS w0 hv rfl ?_
  by_cases hc1 : a1 < 0
  · have h := iteT hc1 h
    refine rif_t hc1 ?_
    cases h
    exact rret hS vrel.nul
  · have h := iteF hc1 h
    refine rif_f hc1 ?_
    obtain ⟨x1, ex1, h⟩ := bnd h
    refine rb_ld 1 hS w0 ex1 rfl rfl ?_
    by_cases hc9 : a1 ≥ x1
    · have h := iteT hc9 h
      refine rif_t hc9 ?_
      cases h
      exact rret hS vrel.nul
    · have h := iteF hc9 h
      refine rif_f hc9 ?_
      obtain ⟨x2, ex2, h⟩ := bnd h
      refine rb_ldr 1 3 hS w0 ex2 rfl rfl ?_
      intro bx2 wx2
      obtain ⟨x3, ex3, h⟩ := bnd h
      refine rb_ldr 3 40 hS wx2 ex3 rfl rfl ?_
      intro bx3 wx3
      cases h
      exact rret hS wx3
/-! HouseholdVault$Form.questionsAreFull()Z by roles -/
def g_X3_questionsAreFull (a0 : Int) (G : GS) : GO := gvm a0 <|
  (gl 1 G a0 1).bind fun x1 => (if x1 < 24 then some (0, G)
  else some (1, G))
set_option maxHeartbeats 4000000 in
theorem s_X3_questionsAreFull {ad : Nat → Nat → Nat} {Cn : Nat → Nat} {H : PH} {G G' : GS} {rr : Int} {a0 b0 : Int} (hS : SimA ad Cn H G) (w0 : vrel ad Cn 1 b0 a0) (h : g_X3_questionsAreFull a0 G = some (rr, G')) : RS ad Cn (f_X3_questionsAreFull b0 H) 0 rr G' := by
  unfold g_X3_questionsAreFull at h
  unfold f_X3_questionsAreFull
  obtain ⟨hv, h⟩ := gvm_spec h
  refine rb_vm 1 3 hS w0 hv rfl ?_
  obtain ⟨x1, ex1, h⟩ := bnd h
  refine rb_ld 1 hS w0 ex1 rfl rfl ?_
  by_cases hc6 : x1 < 24
  · have h := iteT hc6 h
    refine rif_t hc6 ?_
    cases h
    exact rret hS rfl
  · have h := iteF hc6 h
    refine rif_f hc6 ?_
    cases h
    exact rret hS rfl
/-! HouseholdVault$Form.conditionsAreFull(I)Z by roles -/
def gjX3_conditionsAreFull_15 (G : GS) : GO :=
  some (1, G)
set_option maxHeartbeats 4000000 in
theorem sjX3_conditionsAreFull_15 {ad : Nat → Nat → Nat} {Cn : Nat → Nat} {H : PH} {G G' : GS} {rr : Int} (hS : SimA ad Cn H G)  (h : gjX3_conditionsAreFull_15  G = some (rr, G')) : RS ad Cn (jX3_conditionsAreFull_15  H) 0 rr G' := by
  unfold gjX3_conditionsAreFull_15 at h
  unfold jX3_conditionsAreFull_15
  cases h
  exact rret hS rfl
def g_X3_conditionsAreFull (a0 a1 : Int) (G : GS) : GO := gvm a0 <|
  (gl 1 G a0 3).bind fun x1 => (if x1 ≥ 60 then gjX3_conditionsAreFull_15  G
  else (if a1 ≤ 30 then some (0, G)
  else gjX3_conditionsAreFull_15  G))
set_option maxHeartbeats 4000000 in
theorem s_X3_conditionsAreFull {ad : Nat → Nat → Nat} {Cn : Nat → Nat} {H : PH} {G G' : GS} {rr : Int} {a0 a1 b0 : Int} (hS : SimA ad Cn H G) (w0 : vrel ad Cn 1 b0 a0) (h : g_X3_conditionsAreFull a0 a1 G = some (rr, G')) : RS ad Cn (f_X3_conditionsAreFull b0 a1 H) 0 rr G' := by
  unfold g_X3_conditionsAreFull at h
  unfold f_X3_conditionsAreFull
  obtain ⟨hv, h⟩ := gvm_spec h
  refine rb_vm 1 3 hS w0 hv rfl ?_
  obtain ⟨x1, ex1, h⟩ := bnd h
  refine rb_ld 1 hS w0 ex1 rfl rfl ?_
  by_cases hc6 : x1 ≥ 60
  · have h := iteT hc6 h
    refine rif_t hc6 ?_
    exact sjX3_conditionsAreFull_15 hS h
  · have h := iteF hc6 h
    refine rif_f hc6 ?_
    by_cases hc12 : a1 ≤ 30
    · have h := iteT hc12 h
      refine rif_t hc12 ?_
      cases h
      exact rret hS rfl
    · have h := iteF hc12 h
      refine rif_f hc12 ?_
      exact sjX3_conditionsAreFull_15 hS h
/-! HouseholdVault$Form.addStep(I)I by roles -/
def g_X3_addStep (a0 a1 : Int) (G : GS) : GO := gvm a0 <|
  (gl 1 G a0 4).bind fun x1 => (gl 1 G a0 5).bind fun x2 => (gs 4 G x1 x2 a1).bind fun G3 => (gl 1 G3 a0 5).bind fun x4 => (gs 1 G3 a0 5 (w32 (x4 + 1))).bind fun G5 => (gl 1 G5 a0 5).bind fun x6 => some ((w32 (x6 - 1)), G5)
set_option maxHeartbeats 4000000 in
theorem s_X3_addStep {ad : Nat → Nat → Nat} {Cn : Nat → Nat} {H : PH} {G G' : GS} {rr : Int} {a0 a1 b0 : Int} (hS : SimA ad Cn H G) (w0 : vrel ad Cn 1 b0 a0) (h : g_X3_addStep a0 a1 G = some (rr, G')) : RS ad Cn (f_X3_addStep b0 a1 H) 0 rr G' := by
  unfold g_X3_addStep at h
  unfold f_X3_addStep
  obtain ⟨hv, h⟩ := gvm_spec h
  refine rb_vm 1 3 hS w0 hv rfl ?_
  obtain ⟨x1, ex1, h⟩ := bnd h
  refine rb_ldr 1 4 hS w0 ex1 rfl rfl ?_
  intro bx1 wx1
  obtain ⟨x2, ex2, h⟩ := bnd h
  refine rb_ld 1 hS w0 ex2 rfl rfl ?_
  obtain ⟨G3, eG3, h⟩ := bnd h
  refine rb_st 4 hS wx1 (show rrel _ _ 0 _ _ from rfl) eG3 rfl ?_
  intro H hS
  obtain ⟨x4, ex4, h⟩ := bnd h
  refine rb_ld 1 hS w0 ex4 rfl rfl ?_
  obtain ⟨G5, eG5, h⟩ := bnd h
  refine rb_st 1 hS w0 (show rrel _ _ 0 _ _ from rfl) eG5 rfl ?_
  intro H hS
  obtain ⟨x6, ex6, h⟩ := bnd h
  refine rb_ld 1 hS w0 ex6 rfl rfl ?_
  cases h
  exact rret hS rfl
/-! HouseholdVault$Form.addQuestion(LHouseholdVault$Question;)I by roles -/
def gjX3_addQuestion_39 (p0 : Int) (G : GS) : GO :=
  (gl 1 G p0 1).bind fun x1 => (gs 1 G p0 1 (w32 (x1 + 1))).bind fun G2 => (gl 1 G2 p0 1).bind fun x3 => some ((w32 (x3 - 1)), G2)
set_option maxHeartbeats 4000000 in
theorem sjX3_addQuestion_39 {ad : Nat → Nat → Nat} {Cn : Nat → Nat} {H : PH} {G G' : GS} {rr : Int} {p0 b0 : Int} (hS : SimA ad Cn H G) (w0 : vrel ad Cn 1 b0 p0) (h : gjX3_addQuestion_39 p0 G = some (rr, G')) : RS ad Cn (jX3_addQuestion_39 b0 H) 0 rr G' := by
  unfold gjX3_addQuestion_39 at h
  unfold jX3_addQuestion_39
  obtain ⟨x1, ex1, h⟩ := bnd h
  refine rb_ld 1 hS w0 ex1 rfl rfl ?_
  obtain ⟨G2, eG2, h⟩ := bnd h
  refine rb_st 1 hS w0 (show rrel _ _ 0 _ _ from rfl) eG2 rfl ?_
  intro H hS
  obtain ⟨x3, ex3, h⟩ := bnd h
  refine rb_ld 1 hS w0 ex3 rfl rfl ?_
  cases h
  exact rret hS rfl
def g_X3_addQuestion (a0 a1 : Int) (G : GS) : GO := gvm a0 <|
  (g_X3_questionsAreFull a0 G).bind fun z1 => (if z1.1 = 0 then (gl 1 z1.2 a0 0).bind fun x2 => (gl 1 z1.2 a0 1).bind fun x3 => (gsa 2 z1.2 x2 x3 a1).bind fun G4 => (gl 20 G4 a1 2).bind fun x5 => (if x5 = 0 then gjX3_addQuestion_39 a0 G4
  else (gl 1 G4 a0 1).bind fun x6 => (g_X3_addStep a0 x6 G4).bind fun z7 => (gs 20 z7.2 a1 12 z7.1).bind fun G8 => gjX3_addQuestion_39 a0 G8)
  else some ((-4), z1.2))
set_option maxHeartbeats 4000000 in
theorem s_X3_addQuestion {ad : Nat → Nat → Nat} {Cn : Nat → Nat} {H : PH} {G G' : GS} {rr : Int} {a0 a1 b0 b1 : Int} (hS : SimA ad Cn H G) (w0 : vrel ad Cn 1 b0 a0) (w1 : vrel ad Cn 20 b1 a1) (h : g_X3_addQuestion a0 a1 G = some (rr, G')) : RS ad Cn (f_X3_addQuestion b0 b1 H) 0 rr G' := by
  unfold g_X3_addQuestion at h
  unfold f_X3_addQuestion
  obtain ⟨hv, h⟩ := gvm_spec h
  refine rb_vm 1 3 hS w0 hv rfl ?_
  obtain ⟨z1, ez1, h⟩ := bnd h
  refine rb_call (ρc := 0) (s_X3_questionsAreFull hS w0 ez1) ?_
  intro ad Cn bz1 H hS hx wz1
  dsimp only
  obtain rfl : bz1 = z1.1 := wz1
  have w0 := w0.mono hx
  have w1 := w1.mono hx
  by_cases hc4 : z1.1 = 0
  · have h := iteT hc4 h
    refine rif_t hc4 ?_
    obtain ⟨x2, ex2, h⟩ := bnd h
    refine rb_ldr 1 2 hS w0 ex2 rfl rfl ?_
    intro bx2 wx2
    obtain ⟨x3, ex3, h⟩ := bnd h
    refine rb_ld 1 hS w0 ex3 rfl rfl ?_
    obtain ⟨G4, eG4, h⟩ := bnd h
    refine rb_sta 2 20 5 hS wx2 w1 rfl rfl eG4 rfl ?_
    intro H hS
    obtain ⟨x5, ex5, h⟩ := bnd h
    refine rb_ld 20 hS w1 ex5 rfl rfl ?_
    by_cases hc24 : x5 = 0
    · have h := iteT hc24 h
      refine rif_t hc24 ?_
      exact sjX3_addQuestion_39 hS w0 h
    · have h := iteF hc24 h
      refine rif_f hc24 ?_
      obtain ⟨x6, ex6, h⟩ := bnd h
      refine rb_ld 1 hS w0 ex6 rfl rfl ?_
      obtain ⟨z7, ez7, h⟩ := bnd h
      refine rb_call (ρc := 0) (s_X3_addStep hS w0 ez7) ?_
      intro ad Cn bz7 H hS hx wz7
      dsimp only
      obtain rfl : bz7 = z7.1 := wz7
      have w0 := w0.mono hx
      have w1 := w1.mono hx
      obtain ⟨G8, eG8, h⟩ := bnd h
      refine rb_st 20 hS w1 (show rrel _ _ 0 _ _ from rfl) eG8 rfl ?_
      intro H hS
      exact sjX3_addQuestion_39 hS w0 h
  · have h := iteF hc4 h
    refine rif_f hc4 ?_
    cases h
    exact rret hS rfl
/-! HouseholdVault$Form.addCondition(LHouseholdVault$Condition;)I by roles -/
def g_X3_addCondition (a0 a1 : Int) (G : GS) : GO := gvm a0 <|
  (gl 40 G a1 5).bind fun x1 => (g_X3_conditionsAreFull a0 x1 G).bind fun z2 => (if z2.1 = 0 then (gl 1 z2.2 a0 2).bind fun x3 => (gl 1 z2.2 a0 3).bind fun x4 => (gsa 3 z2.2 x3 x4 a1).bind fun G5 => (gl 1 G5 a0 3).bind fun x6 => (g_X3_addStep a0 (w32 (24 + x6)) G5).bind fun z7 => (gl 1 z7.2 a0 3).bind fun x8 => (gs 1 z7.2 a0 3 (w32 (x8 + 1))).bind fun G9 => (gl 1 G9 a0 3).bind fun x10 => some ((w32 (x10 - 1)), G9)
  else some ((-4), z2.2))
set_option maxHeartbeats 4000000 in
theorem s_X3_addCondition {ad : Nat → Nat → Nat} {Cn : Nat → Nat} {H : PH} {G G' : GS} {rr : Int} {a0 a1 b0 b1 : Int} (hS : SimA ad Cn H G) (w0 : vrel ad Cn 1 b0 a0) (w1 : vrel ad Cn 40 b1 a1) (h : g_X3_addCondition a0 a1 G = some (rr, G')) : RS ad Cn (f_X3_addCondition b0 b1 H) 0 rr G' := by
  unfold g_X3_addCondition at h
  unfold f_X3_addCondition
  obtain ⟨hv, h⟩ := gvm_spec h
  refine rb_vm 1 3 hS w0 hv rfl ?_
  obtain ⟨x1, ex1, h⟩ := bnd h
  refine rb_ld 40 hS w1 ex1 rfl rfl ?_
  obtain ⟨z2, ez2, h⟩ := bnd h
  refine rb_call (ρc := 0) (s_X3_conditionsAreFull hS w0 ez2) ?_
  intro ad Cn bz2 H hS hx wz2
  dsimp only
  obtain rfl : bz2 = z2.1 := wz2
  have w0 := w0.mono hx
  have w1 := w1.mono hx
  by_cases hc8 : z2.1 = 0
  · have h := iteT hc8 h
    refine rif_t hc8 ?_
    obtain ⟨x3, ex3, h⟩ := bnd h
    refine rb_ldr 1 3 hS w0 ex3 rfl rfl ?_
    intro bx3 wx3
    obtain ⟨x4, ex4, h⟩ := bnd h
    refine rb_ld 1 hS w0 ex4 rfl rfl ?_
    obtain ⟨G5, eG5, h⟩ := bnd h
    refine rb_sta 3 40 0 hS wx3 w1 rfl rfl eG5 rfl ?_
    intro H hS
    obtain ⟨x6, ex6, h⟩ := bnd h
    refine rb_ld 1 hS w0 ex6 rfl rfl ?_
    obtain ⟨z7, ez7, h⟩ := bnd h
    refine rb_call (ρc := 0) (s_X3_addStep hS w0 ez7) ?_
    intro ad Cn bz7 H hS hx wz7
    dsimp only
    obtain rfl : bz7 = z7.1 := wz7
    have w0 := w0.mono hx
    have w1 := w1.mono hx
    obtain ⟨x8, ex8, h⟩ := bnd h
    refine rb_ld 1 hS w0 ex8 rfl rfl ?_
    obtain ⟨G9, eG9, h⟩ := bnd h
    refine rb_st 1 hS w0 (show rrel _ _ 0 _ _ from rfl) eG9 rfl ?_
    intro H hS
    obtain ⟨x10, ex10, h⟩ := bnd h
    refine rb_ld 1 hS w0 ex10 rfl rfl ?_
    cases h
    exact rret hS rfl
  · have h := iteF hc8 h
    refine rif_f hc8 ?_
    cases h
    exact rret hS rfl
/-! HouseholdVault$Form.hasMarked()Z by roles -/
def glX3_hasMarked_2 (p0 : Int) (self2 : Int → GS → GO) (p1 : Int) (G : GS) : GO :=
  (gl 1 G p0 1).bind fun x1 => (if p1 ≥ x1 then some (0, G)
  else (gl 1 G p0 0).bind fun x2 => (gl 2 G x2 p1).bind fun x3 => (gl 20 G x3 11).bind fun x4 => (if x4 = 0 then self2 (w32 (p1 + 1)) G
  else some (1, G)))
set_option maxHeartbeats 4000000 in
theorem slX3_hasMarked_2 {G' : GS} {rr : Int} {p0 b0 : Int} : ∀ (n : Nat) (ad : Nat → Nat → Nat) (Cn : Nat → Nat) (H : PH) (G : GS) (p1 : Int) , SimA ad Cn H G → vrel ad Cn 1 b0 p0 → lh1 (glX3_hasMarked_2 p0) n p1 G = some (rr, G') → RS ad Cn (lq1 (lX3_hasMarked_2 b0) n p1 H) 0 rr G' := by
  intro n
  induction n with
  | zero => intro ad Cn H G p1 hS w0 h; cases h
  | succ n ih2 =>
    intro ad Cn H G p1 hS w0 h
    rw [lh1_s] at h
    rw [lq1_s]
    generalize lh1 (glX3_hasMarked_2 p0) n = self2 at ih2 h
    generalize lq1 (lX3_hasMarked_2 b0) n = fself2 at ih2 ⊢
    unfold glX3_hasMarked_2 at h
    unfold lX3_hasMarked_2
    obtain ⟨x1, ex1, h⟩ := bnd h
    refine rb_ld 1 hS w0 ex1 rfl rfl ?_
    by_cases hc7 : p1 ≥ x1
    · have h := iteT hc7 h
      refine rif_t hc7 ?_
      cases h
      exact rret hS rfl
    · have h := iteF hc7 h
      refine rif_f hc7 ?_
      obtain ⟨x2, ex2, h⟩ := bnd h
      refine rb_ldr 1 2 hS w0 ex2 rfl rfl ?_
      intro bx2 wx2
      obtain ⟨x3, ex3, h⟩ := bnd h
      refine rb_ldr 2 20 hS wx2 ex3 rfl rfl ?_
      intro bx3 wx3
      obtain ⟨x4, ex4, h⟩ := bnd h
      refine rb_ld 20 hS wx3 ex4 rfl rfl ?_
      by_cases hc19 : x4 = 0
      · have h := iteT hc19 h
        refine rif_t hc19 ?_
        exact ih2 _ _ _ _ (w32 (p1 + 1))  hS w0  h
      · have h := iteF hc19 h
        refine rif_f hc19 ?_
        cases h
        exact rret hS rfl
def g_X3_hasMarked (a0 : Int) (G : GS) : GO := gvm a0 <|
  lh1 (glX3_hasMarked_2 a0) 6000 0 G
set_option maxHeartbeats 4000000 in
theorem s_X3_hasMarked {ad : Nat → Nat → Nat} {Cn : Nat → Nat} {H : PH} {G G' : GS} {rr : Int} {a0 b0 : Int} (hS : SimA ad Cn H G) (w0 : vrel ad Cn 1 b0 a0) (h : g_X3_hasMarked a0 G = some (rr, G')) : RS ad Cn (f_X3_hasMarked b0 H) 0 rr G' := by
  unfold g_X3_hasMarked at h
  unfold f_X3_hasMarked
  obtain ⟨hv, h⟩ := gvm_spec h
  refine rb_vm 1 3 hS w0 hv rfl ?_
  exact slX3_hasMarked_2 6000 _ _ _ _ 0  hS w0 h
/-! HouseholdVault.spot(II)I by roles -/
def gjX8_spot_12 (s0 s1 : Int) (G : GS) : GO :=
  some ((w32 (s0 + s1)), G)
set_option maxHeartbeats 4000000 in
theorem sjX8_spot_12 {ad : Nat → Nat → Nat} {Cn : Nat → Nat} {H : PH} {G G' : GS} {rr : Int} {s0 s1 : Int} (hS : SimA ad Cn H G)  (h : gjX8_spot_12 s0 s1 G = some (rr, G')) : RS ad Cn (jX8_spot_12 s0 s1 H) 0 rr G' := by
  unfold gjX8_spot_12 at h
  unfold jX8_spot_12
  cases h
  exact rret hS rfl
def g_X8_spot (a0 a1 : Int) (G : GS) : GO :=
  (if a1 ≤ 0 then gjX8_spot_12 (w32 (a0 * 5)) 0 G
  else gjX8_spot_12 (w32 (a0 * 5)) a1 G)
set_option maxHeartbeats 4000000 in
theorem s_X8_spot {ad : Nat → Nat → Nat} {Cn : Nat → Nat} {H : PH} {G G' : GS} {rr : Int} {a0 a1 : Int} (hS : SimA ad Cn H G)  (h : g_X8_spot a0 a1 G = some (rr, G')) : RS ad Cn (f_X8_spot a0 a1 H) 0 rr G' := by
  unfold g_X8_spot at h
  unfold f_X8_spot
  by_cases hc4 : a1 ≤ 0
  · have h := iteT hc4 h
    refine rif_t hc4 ?_
    exact sjX8_spot_12 hS h
  · have h := iteF hc4 h
    refine rif_f hc4 ?_
    exact sjX8_spot_12 hS h
/-! HouseholdVault$Sheet.persons(I)I by roles -/
def g_X6_persons (a0 a1 : Int) (G : GS) : GO := gvm a0 <|
  (gl 31 G a0 0).bind fun x1 => (g_X8_spot a1 (-1) G).bind fun z2 => (gl 32 z2.2 x1 z2.1).bind fun x3 => some ((w32 x3), z2.2)
set_option maxHeartbeats 4000000 in
theorem s_X6_persons {ad : Nat → Nat → Nat} {Cn : Nat → Nat} {H : PH} {G G' : GS} {rr : Int} {a0 a1 b0 : Int} (hS : SimA ad Cn H G) (w0 : vrel ad Cn 31 b0 a0) (h : g_X6_persons a0 a1 G = some (rr, G')) : RS ad Cn (f_X6_persons b0 a1 H) 0 rr G' := by
  unfold g_X6_persons at h
  unfold f_X6_persons
  obtain ⟨hv, h⟩ := gvm_spec h
  refine rb_vm 31 6 hS w0 hv rfl ?_
  obtain ⟨x1, ex1, h⟩ := bnd h
  refine rb_ldr 31 32 hS w0 ex1 rfl rfl ?_
  intro bx1 wx1
  obtain ⟨z2, ez2, h⟩ := bnd h
  refine rb_call (ρc := 0) (s_X8_spot hS ez2) ?_
  intro ad Cn bz2 H hS hx wz2
  dsimp only
  obtain rfl : bz2 = z2.1 := wz2
  have w0 := w0.mono hx
  have wx1 := wx1.mono hx
  obtain ⟨x3, ex3, h⟩ := bnd h
  refine rb_ld 32 hS wx1 ex3 rfl rfl ?_
  cases h
  exact rret hS rfl
/-! HouseholdVault.placesOf(LHouseholdVault$Sheet;I)I by roles -/
def g_X8_placesOf (a0 a1 : Int) (G : GS) : GO :=
  (if a1 ≠ (-1) then (g_X6_persons a0 a1 G).bind fun z1 => some (z1.1, z1.2)
  else some (1, G))
set_option maxHeartbeats 4000000 in
theorem s_X8_placesOf {ad : Nat → Nat → Nat} {Cn : Nat → Nat} {H : PH} {G G' : GS} {rr : Int} {a0 a1 b0 : Int} (hS : SimA ad Cn H G) (w0 : vrel ad Cn 31 b0 a0) (h : g_X8_placesOf a0 a1 G = some (rr, G')) : RS ad Cn (f_X8_placesOf b0 a1 H) 0 rr G' := by
  unfold g_X8_placesOf at h
  unfold f_X8_placesOf
  by_cases hc2 : a1 ≠ (-1)
  · have h := iteT hc2 h
    refine rif_t hc2 ?_
    obtain ⟨z1, ez1, h⟩ := bnd h
    refine rb_call (ρc := 0) (s_X6_persons hS w0 ez1) ?_
    intro ad Cn bz1 H hS hx wz1
    dsimp only
    obtain rfl : bz1 = z1.1 := wz1
    have w0 := w0.mono hx
    cases h
    exact rret hS rfl
  · have h := iteF hc2 h
    refine rif_f hc2 ?_
    cases h
    exact rret hS rfl
/-! HouseholdVault$Form.spread(LHouseholdVault$Household;II)I by roles -/
def g_X3_spread (a0 a1 a2 a3 : Int) (G : GS) : GO := gvm a0 <|
  (gl 1 G a0 2).bind fun x1 => (gl 3 G x1 a2).bind fun x2 => (gl 40 G x2 4).bind fun x3 => (if x3 = (-1) then (gl 30 G a1 1).bind fun x4 => (gl 34 G x4 a2).bind fun x5 => (if x5 ≠ 0 then some (a3, G)
  else some (0, G))
  else (gl 30 G a1 1).bind fun x6 => (gl 34 G x6 a2).bind fun x7 => some (x7, G))
set_option maxHeartbeats 4000000 in
theorem s_X3_spread {ad : Nat → Nat → Nat} {Cn : Nat → Nat} {H : PH} {G G' : GS} {rr : Int} {a0 a1 a2 a3 b0 b1 : Int} (hS : SimA ad Cn H G) (w0 : vrel ad Cn 1 b0 a0) (w1 : vrel ad Cn 30 b1 a1) (h : g_X3_spread a0 a1 a2 a3 G = some (rr, G')) : RS ad Cn (f_X3_spread b0 b1 a2 a3 H) 0 rr G' := by
  unfold g_X3_spread at h
  unfold f_X3_spread
  obtain ⟨hv, h⟩ := gvm_spec h
  refine rb_vm 1 3 hS w0 hv rfl ?_
  obtain ⟨x1, ex1, h⟩ := bnd h
  refine rb_ldr 1 3 hS w0 ex1 rfl rfl ?_
  intro bx1 wx1
  obtain ⟨x2, ex2, h⟩ := bnd h
  refine rb_ldr 3 40 hS wx1 ex2 rfl rfl ?_
  intro bx2 wx2
  obtain ⟨x3, ex3, h⟩ := bnd h
  refine rb_ld 40 hS wx2 ex3 rfl rfl ?_
  by_cases hc10 : x3 = (-1)
  · have h := iteT hc10 h
    refine rif_t hc10 ?_
    obtain ⟨x4, ex4, h⟩ := bnd h
    refine rb_ldr 30 34 hS w1 ex4 rfl rfl ?_
    intro bx4 wx4
    obtain ⟨x5, ex5, h⟩ := bnd h
    refine rb_ld 34 hS wx4 ex5 rfl rfl ?_
    by_cases hc26 : x5 ≠ 0
    · have h := iteT hc26 h
      refine rif_t hc26 ?_
      cases h
      exact rret hS rfl
    · have h := iteF hc26 h
      refine rif_f hc26 ?_
      cases h
      exact rret hS rfl
  · have h := iteF hc10 h
    refine rif_f hc10 ?_
    obtain ⟨x6, ex6, h⟩ := bnd h
    refine rb_ldr 30 34 hS w1 ex6 rfl rfl ?_
    intro bx6 wx6
    obtain ⟨x7, ex7, h⟩ := bnd h
    refine rb_ld 34 hS wx6 ex7 rfl rfl ?_
    cases h
    exact rret hS rfl
/-! java/lang/Integer.bitCount(I)I by roles -/
def g_J6_bitCount_0f7a4 (a0 : Int) (G : GS) : GO :=
  some ((i_and (w32 ((w32 ((i_and (w32 ((w32 ((i_and (w32 (a0 - (i_and (i_ushr a0 1) 1431655765))) 858993459) + (i_and (i_ushr (w32 (a0 - (i_and (i_ushr a0 1) 1431655765))) 2) 858993459))) + (i_ushr (w32 ((i_and (w32 (a0 - (i_and (i_ushr a0 1) 1431655765))) 858993459) + (i_and (i_ushr (w32 (a0 - (i_and (i_ushr a0 1) 1431655765))) 2) 858993459))) 4))) 252645135) + (i_ushr (i_and (w32 ((w32 ((i_and (w32 (a0 - (i_and (i_ushr a0 1) 1431655765))) 858993459) + (i_and (i_ushr (w32 (a0 - (i_and (i_ushr a0 1) 1431655765))) 2) 858993459))) + (i_ushr (w32 ((i_and (w32 (a0 - (i_and (i_ushr a0 1) 1431655765))) 858993459) + (i_and (i_ushr (w32 (a0 - (i_and (i_ushr a0 1) 1431655765))) 2) 858993459))) 4))) 252645135) 8))) + (i_ushr (w32 ((i_and (w32 ((w32 ((i_and (w32 (a0 - (i_and (i_ushr a0 1) 1431655765))) 858993459) + (i_and (i_ushr (w32 (a0 - (i_and (i_ushr a0 1) 1431655765))) 2) 858993459))) + (i_ushr (w32 ((i_and (w32 (a0 - (i_and (i_ushr a0 1) 1431655765))) 858993459) + (i_and (i_ushr (w32 (a0 - (i_and (i_ushr a0 1) 1431655765))) 2) 858993459))) 4))) 252645135) + (i_ushr (i_and (w32 ((w32 ((i_and (w32 (a0 - (i_and (i_ushr a0 1) 1431655765))) 858993459) + (i_and (i_ushr (w32 (a0 - (i_and (i_ushr a0 1) 1431655765))) 2) 858993459))) + (i_ushr (w32 ((i_and (w32 (a0 - (i_and (i_ushr a0 1) 1431655765))) 858993459) + (i_and (i_ushr (w32 (a0 - (i_and (i_ushr a0 1) 1431655765))) 2) 858993459))) 4))) 252645135) 8))) 16))) 63), G)
set_option maxHeartbeats 4000000 in
theorem s_J6_bitCount_0f7a4 {ad : Nat → Nat → Nat} {Cn : Nat → Nat} {H : PH} {G G' : GS} {rr : Int} {a0 : Int} (hS : SimA ad Cn H G)  (h : g_J6_bitCount_0f7a4 a0 G = some (rr, G')) : RS ad Cn (f_J6_bitCount_0f7a4 a0 H) 0 rr G' := by
  unfold g_J6_bitCount_0f7a4 at h
  unfold f_J6_bitCount_0f7a4
  cases h
  exact rret hS rfl
/-! HouseholdVault$Form.bitsOfAsk(LHouseholdVault$Sheet;LHouseholdVault$Condition;I)I by roles -/
def gjX3_bitsOfAsk_78 (self29 : Int → Int → GS → GO) (p1 p2 p3 p4 p5 p6 : Int) (G : GS) : GO :=
  self29 p5 (w32 (p6 + 1)) G
set_option maxHeartbeats 4000000 in
theorem sjX3_bitsOfAsk_78 {ad : Nat → Nat → Nat} {Cn : Nat → Nat} {H : PH} {G G' : GS} {rr : Int} {fself29 : Int → Int → PH → RO} {self29 : Int → Int → GS → GO} {p1 p2 p3 p4 p5 p6 b1 b2 : Int} (ih29 : ∀ (ad : Nat → Nat → Nat) (Cn : Nat → Nat) (H : PH) (G : GS) (v5 v6 : Int) , SimA ad Cn H G → vrel ad Cn 31 b1 p1 → vrel ad Cn 40 b2 p2 → self29 v5 v6 G = some (rr, G') → RS ad Cn (fself29 v5 v6 H) 0 rr G') (hS : SimA ad Cn H G) (w1 : vrel ad Cn 31 b1 p1) (w2 : vrel ad Cn 40 b2 p2) (h : gjX3_bitsOfAsk_78 self29 p1 p2 p3 p4 p5 p6 G = some (rr, G')) : RS ad Cn (jX3_bitsOfAsk_78 fself29 b1 b2 p3 p4 p5 p6 H) 0 rr G' := by
  unfold gjX3_bitsOfAsk_78 at h
  unfold jX3_bitsOfAsk_78
  exact ih29 _ _ _ _ p5 (w32 (p6 + 1))  hS w1 w2  h
def glX3_bitsOfAsk_29 (p1 p2 p3 p4 : Int) (self29 : Int → Int → GS → GO) (p5 p6 : Int) (G : GS) : GO :=
  (if p6 ≥ p3 then some (p5, G)
  else (gl 40 G p2 1).bind fun x1 => (g_X8_spot x1 p6 G).bind fun z2 => (gl 31 z2.2 p1 0).bind fun x3 => (gl 32 z2.2 x3 z2.1).bind fun x4 => (gl 31 z2.2 p1 1).bind fun x5 => (gl 33 z2.2 x5 z2.1).bind fun x6 => (g_X0_fits p2 x4 x6 p4 z2.2).bind fun z7 => (if z7.1 = 0 then gjX3_bitsOfAsk_78 self29 p1 p2 p3 p4 p5 p6 z7.2
  else gjX3_bitsOfAsk_78 self29 p1 p2 p3 p4 (i_or p5 (i_shl 1 p6)) p6 z7.2))
set_option maxHeartbeats 4000000 in
theorem slX3_bitsOfAsk_29 {G' : GS} {rr : Int} {p1 p2 p3 p4 b1 b2 : Int} : ∀ (n : Nat) (ad : Nat → Nat → Nat) (Cn : Nat → Nat) (H : PH) (G : GS) (p5 p6 : Int) , SimA ad Cn H G → vrel ad Cn 31 b1 p1 → vrel ad Cn 40 b2 p2 → lh2 (glX3_bitsOfAsk_29 p1 p2 p3 p4) n p5 p6 G = some (rr, G') → RS ad Cn (lq2 (lX3_bitsOfAsk_29 b1 b2 p3 p4) n p5 p6 H) 0 rr G' := by
  intro n
  induction n with
  | zero => intro ad Cn H G p5 p6 hS w1 w2 h; cases h
  | succ n ih29 =>
    intro ad Cn H G p5 p6 hS w1 w2 h
    rw [lh2_s] at h
    rw [lq2_s]
    generalize lh2 (glX3_bitsOfAsk_29 p1 p2 p3 p4) n = self29 at ih29 h
    generalize lq2 (lX3_bitsOfAsk_29 b1 b2 p3 p4) n = fself29 at ih29 ⊢
    unfold glX3_bitsOfAsk_29 at h
    unfold lX3_bitsOfAsk_29
    by_cases hc32 : p6 ≥ p3
    · have h := iteT hc32 h
      refine rif_t hc32 ?_
      cases h
      exact rret hS rfl
    · have h := iteF hc32 h
      refine rif_f hc32 ?_
      obtain ⟨x1, ex1, h⟩ := bnd h
      refine rb_ld 40 hS w2 ex1 rfl rfl ?_
      obtain ⟨z2, ez2, h⟩ := bnd h
      refine rb_call (ρc := 0) (s_X8_spot hS ez2) ?_
      intro ad Cn bz2 H hS hx wz2
      dsimp only
      obtain rfl : bz2 = z2.1 := wz2
      have w1 := w1.mono hx
      have w2 := w2.mono hx
      obtain ⟨x3, ex3, h⟩ := bnd h
      refine rb_ldr 31 32 hS w1 ex3 rfl rfl ?_
      intro bx3 wx3
      obtain ⟨x4, ex4, h⟩ := bnd h
      refine rb_ld 32 hS wx3 ex4 rfl rfl ?_
      obtain ⟨x5, ex5, h⟩ := bnd h
      refine rb_ldr 31 33 hS w1 ex5 rfl rfl ?_
      intro bx5 wx5
      obtain ⟨x6, ex6, h⟩ := bnd h
      refine rb_ld 33 hS wx5 ex6 rfl rfl ?_
      obtain ⟨z7, ez7, h⟩ := bnd h
      refine rb_call (ρc := 0) (s_X0_fits hS w2 ez7) ?_
      intro ad Cn bz7 H hS hx wz7
      dsimp only
      obtain rfl : bz7 = z7.1 := wz7
      have w1 := w1.mono hx
      have w2 := w2.mono hx
      by_cases hc66 : z7.1 = 0
      · have h := iteT hc66 h
        refine rif_t hc66 ?_
        exact sjX3_bitsOfAsk_78 ih29 hS w1 w2 h
      · have h := iteF hc66 h
        refine rif_f hc66 ?_
        exact sjX3_bitsOfAsk_78 ih29 hS w1 w2 h
def gjX3_bitsOfAsk_21 (p1 p2 p3 s0 : Int) (G : GS) : GO :=
  lh2 (glX3_bitsOfAsk_29 p1 p2 p3 s0) 6000 0 0 G
set_option maxHeartbeats 4000000 in
theorem sjX3_bitsOfAsk_21 {ad : Nat → Nat → Nat} {Cn : Nat → Nat} {H : PH} {G G' : GS} {rr : Int} {p1 p2 p3 s0 b1 b2 : Int} (hS : SimA ad Cn H G) (w1 : vrel ad Cn 31 b1 p1) (w2 : vrel ad Cn 40 b2 p2) (h : gjX3_bitsOfAsk_21 p1 p2 p3 s0 G = some (rr, G')) : RS ad Cn (jX3_bitsOfAsk_21 b1 b2 p3 s0 H) 0 rr G' := by
  unfold gjX3_bitsOfAsk_21 at h
  unfold jX3_bitsOfAsk_21
  exact slX3_bitsOfAsk_29 6000 _ _ _ _ 0 0  hS w1 w2 h
def g_X3_bitsOfAsk (a0 a1 a2 a3 : Int) (G : GS) : GO := gvm a0 <|
  (gl 1 G a0 0).bind fun x1 => (gl 40 G a2 1).bind fun x2 => (gl 2 G x1 x2).bind fun x3 => (gl 20 G x3 0).bind fun x4 => (if x4 ≠ 1 then gjX3_bitsOfAsk_21 a1 a2 a3 0 G
  else gjX3_bitsOfAsk_21 a1 a2 a3 1 G)
set_option maxHeartbeats 4000000 in
theorem s_X3_bitsOfAsk {ad : Nat → Nat → Nat} {Cn : Nat → Nat} {H : PH} {G G' : GS} {rr : Int} {a0 a1 a2 a3 b0 b1 b2 : Int} (hS : SimA ad Cn H G) (w0 : vrel ad Cn 1 b0 a0) (w1 : vrel ad Cn 31 b1 a1) (w2 : vrel ad Cn 40 b2 a2) (h : g_X3_bitsOfAsk a0 a1 a2 a3 G = some (rr, G')) : RS ad Cn (f_X3_bitsOfAsk b0 b1 b2 a3 H) 0 rr G' := by
  unfold g_X3_bitsOfAsk at h
  unfold f_X3_bitsOfAsk
  obtain ⟨hv, h⟩ := gvm_spec h
  refine rb_vm 1 3 hS w0 hv rfl ?_
  obtain ⟨x1, ex1, h⟩ := bnd h
  refine rb_ldr 1 2 hS w0 ex1 rfl rfl ?_
  intro bx1 wx1
  obtain ⟨x2, ex2, h⟩ := bnd h
  refine rb_ld 40 hS w2 ex2 rfl rfl ?_
  obtain ⟨x3, ex3, h⟩ := bnd h
  refine rb_ldr 2 20 hS wx1 ex3 rfl rfl ?_
  intro bx3 wx3
  obtain ⟨x4, ex4, h⟩ := bnd h
  refine rb_ld 20 hS wx3 ex4 rfl rfl ?_
  by_cases hc13 : x4 ≠ 1
  · have h := iteT hc13 h
    refine rif_t hc13 ?_
    exact sjX3_bitsOfAsk_21 hS w1 w2 h
  · have h := iteF hc13 h
    refine rif_f hc13 ?_
    exact sjX3_bitsOfAsk_21 hS w1 w2 h
/-! HouseholdVault$Form.makeTruths(LHouseholdVault$Household;I)V by roles -/
def gjX3_makeTruths_182 (s0 s1 s2 : Int) (G : GS) : GO :=
  (gs 34 G s0 s1 s2).bind fun G1 => some (0, G1)
set_option maxHeartbeats 4000000 in
theorem sjX3_makeTruths_182 {ad : Nat → Nat → Nat} {Cn : Nat → Nat} {H : PH} {G G' : GS} {rr : Int} {s0 s1 s2 bs0 : Int} (hS : SimA ad Cn H G) (ws0 : vrel ad Cn 34 bs0 s0) (h : gjX3_makeTruths_182 s0 s1 s2 G = some (rr, G')) : RS ad Cn (jX3_makeTruths_182 bs0 s1 s2 H) 0 rr G' := by
  unfold gjX3_makeTruths_182 at h
  unfold jX3_makeTruths_182
  obtain ⟨G1, eG1, h⟩ := bnd h
  refine rb_st 34 hS ws0 (show rrel _ _ 0 _ _ from rfl) eG1 rfl ?_
  intro H hS
  cases h
  exact rret hS rfl
def g_X3_makeTruths (a0 a1 a2 : Int) (G : GS) : GO := gvm a0 <|
  (gl 1 G a0 2).bind fun x1 => (gl 3 G x1 a2).bind fun x2 => (gl 30 G a1 0).bind fun x3 => (gl 40 G x2 4).bind fun x4 => (g_X8_placesOf x3 x4 G).bind fun z5 => (gl 40 z5.2 x2 0).bind fun x6 => (if x6 < 4 ∨ 7 < x6 then (gl 30 z5.2 a1 1).bind fun x7 => (gl 30 z5.2 a1 0).bind fun x8 => (g_X3_bitsOfAsk a0 x8 x2 z5.1 z5.2).bind fun z9 => (gs 34 z9.2 x7 a2 z9.1).bind fun G10 => some (0, G10)
  else List.getD [(gl 30 z5.2 a1 1).bind fun x11 => (gl 40 z5.2 x2 1).bind fun x12 => (g_X3_spread a0 a1 x12 (w32 ((i_shl 1 z5.1) - 1)) z5.2).bind fun z13 => (gl 40 z13.2 x2 2).bind fun x14 => (g_X3_spread a0 a1 x14 (w32 ((i_shl 1 z5.1) - 1)) z13.2).bind fun z15 => (gs 34 z15.2 x11 a2 (i_and z13.1 z15.1)).bind fun G16 => some (0, G16), (gl 30 z5.2 a1 1).bind fun x17 => (gl 40 z5.2 x2 1).bind fun x18 => (g_X3_spread a0 a1 x18 (w32 ((i_shl 1 z5.1) - 1)) z5.2).bind fun z19 => (gl 40 z19.2 x2 2).bind fun x20 => (g_X3_spread a0 a1 x20 (w32 ((i_shl 1 z5.1) - 1)) z19.2).bind fun z21 => (gs 34 z21.2 x17 a2 (i_or z19.1 z21.1)).bind fun G22 => some (0, G22), (gl 30 z5.2 a1 1).bind fun x23 => (gl 30 z5.2 a1 1).bind fun x24 => (gl 40 z5.2 x2 1).bind fun x25 => (gl 34 z5.2 x24 x25).bind fun x26 => (gs 34 z5.2 x23 a2 (i_and (w32 ((i_shl 1 z5.1) - 1)) (i_xor x26 (-1)))).bind fun G27 => some (0, G27), (gl 30 z5.2 a1 1).bind fun x28 => (gl 30 z5.2 a1 1).bind fun x29 => (gl 40 z5.2 x2 1).bind fun x30 => (gl 34 z5.2 x29 x30).bind fun x31 => (g_J6_bitCount_0f7a4 x31 z5.2).bind fun z32 => (gl 40 z32.2 x2 3).bind fun x33 => (if (lc z32.1 x33) < 0 then gjX3_makeTruths_182 x28 a2 0 z32.2
  else gjX3_makeTruths_182 x28 a2 1 z32.2)] (x6 - 4).toNat none)
set_option maxHeartbeats 4000000 in
theorem s_X3_makeTruths {ad : Nat → Nat → Nat} {Cn : Nat → Nat} {H : PH} {G G' : GS} {rr : Int} {a0 a1 a2 b0 b1 : Int} (hS : SimA ad Cn H G) (w0 : vrel ad Cn 1 b0 a0) (w1 : vrel ad Cn 30 b1 a1) (h : g_X3_makeTruths a0 a1 a2 G = some (rr, G')) : RS ad Cn (f_X3_makeTruths b0 b1 a2 H) 0 rr G' := by
  unfold g_X3_makeTruths at h
  unfold f_X3_makeTruths
  obtain ⟨hv, h⟩ := gvm_spec h
  refine rb_vm 1 3 hS w0 hv rfl ?_
  obtain ⟨x1, ex1, h⟩ := bnd h
  refine rb_ldr 1 3 hS w0 ex1 rfl rfl ?_
  intro bx1 wx1
  obtain ⟨x2, ex2, h⟩ := bnd h
  refine rb_ldr 3 40 hS wx1 ex2 rfl rfl ?_
  intro bx2 wx2
  obtain ⟨x3, ex3, h⟩ := bnd h
  refine rb_ldr 30 31 hS w1 ex3 rfl rfl ?_
  intro bx3 wx3
  obtain ⟨x4, ex4, h⟩ := bnd h
  refine rb_ld 40 hS wx2 ex4 rfl rfl ?_
  obtain ⟨z5, ez5, h⟩ := bnd h
  refine rb_call (ρc := 0) (s_X8_placesOf hS wx3 ez5) ?_
  intro ad Cn bz5 H hS hx wz5
  dsimp only
  obtain rfl : bz5 = z5.1 := wz5
  have w0 := w0.mono hx
  have w1 := w1.mono hx
  have wx2 := wx2.mono hx
  obtain ⟨x6, ex6, h⟩ := bnd h
  refine rb_ld 40 hS wx2 ex6 rfl rfl ?_
  by_cases hc : x6 < 4 ∨ 7 < x6
  · have h := iteT hc h
    refine rif_t hc ?_
    obtain ⟨x7, ex7, h⟩ := bnd h
    refine rb_ldr 30 34 hS w1 ex7 rfl rfl ?_
    intro bx7 wx7
    obtain ⟨x8, ex8, h⟩ := bnd h
    refine rb_ldr 30 31 hS w1 ex8 rfl rfl ?_
    intro bx8 wx8
    obtain ⟨z9, ez9, h⟩ := bnd h
    refine rb_call (ρc := 0) (s_X3_bitsOfAsk hS w0 wx8 wx2 ez9) ?_
    intro ad Cn bz9 H hS hx wz9
    dsimp only
    obtain rfl : bz9 = z9.1 := wz9
    have w0 := w0.mono hx
    have w1 := w1.mono hx
    have wx2 := wx2.mono hx
    have wx7 := wx7.mono hx
    obtain ⟨G10, eG10, h⟩ := bnd h
    refine rb_st 34 hS wx7 (show rrel _ _ 0 _ _ from rfl) eG10 rfl ?_
    intro H hS
    cases h
    exact rret hS rfl
  · have h := iteF hc h
    refine rif_f hc ?_
    obtain ⟨i, hin, ha⟩ := sw_case 4 hc (by decide)
    have h := sw_at ha h
    refine rsw ha ?_
    match i, hin, h with
    | 0, hin, h =>
      have h : ((gl 30 z5.2 a1 1).bind fun x11 => (gl 40 z5.2 x2 1).bind fun x12 => (g_X3_spread a0 a1 x12 (w32 ((i_shl 1 z5.1) - 1)) z5.2).bind fun z13 => (gl 40 z13.2 x2 2).bind fun x14 => (g_X3_spread a0 a1 x14 (w32 ((i_shl 1 z5.1) - 1)) z13.2).bind fun z15 => (gs 34 z15.2 x11 a2 (i_and z13.1 z15.1)).bind fun G16 => some (0, G16) : GO) = some (rr, G') := h
      simp only [List.getD_cons_succ, List.getD_cons_zero]
      obtain ⟨x11, ex11, h⟩ := bnd h
      refine rb_ldr 30 34 hS w1 ex11 rfl rfl ?_
      intro bx11 wx11
      obtain ⟨x12, ex12, h⟩ := bnd h
      refine rb_ld 40 hS wx2 ex12 rfl rfl ?_
      obtain ⟨z13, ez13, h⟩ := bnd h
      refine rb_call (ρc := 0) (s_X3_spread hS w0 w1 ez13) ?_
      intro ad Cn bz13 H hS hx wz13
      dsimp only
      obtain rfl : bz13 = z13.1 := wz13
      have w0 := w0.mono hx
      have w1 := w1.mono hx
      have wx2 := wx2.mono hx
      have wx11 := wx11.mono hx
      obtain ⟨x14, ex14, h⟩ := bnd h
      refine rb_ld 40 hS wx2 ex14 rfl rfl ?_
      obtain ⟨z15, ez15, h⟩ := bnd h
      refine rb_call (ρc := 0) (s_X3_spread hS w0 w1 ez15) ?_
      intro ad Cn bz15 H hS hx wz15
      dsimp only
      obtain rfl : bz15 = z15.1 := wz15
      have w0 := w0.mono hx
      have w1 := w1.mono hx
      have wx2 := wx2.mono hx
      have wx11 := wx11.mono hx
      obtain ⟨G16, eG16, h⟩ := bnd h
      refine rb_st 34 hS wx11 (show rrel _ _ 0 _ _ from rfl) eG16 rfl ?_
      intro H hS
      cases h
      exact rret hS rfl
    | 1, hin, h =>
      have h : ((gl 30 z5.2 a1 1).bind fun x17 => (gl 40 z5.2 x2 1).bind fun x18 => (g_X3_spread a0 a1 x18 (w32 ((i_shl 1 z5.1) - 1)) z5.2).bind fun z19 => (gl 40 z19.2 x2 2).bind fun x20 => (g_X3_spread a0 a1 x20 (w32 ((i_shl 1 z5.1) - 1)) z19.2).bind fun z21 => (gs 34 z21.2 x17 a2 (i_or z19.1 z21.1)).bind fun G22 => some (0, G22) : GO) = some (rr, G') := h
      simp only [List.getD_cons_succ, List.getD_cons_zero]
      obtain ⟨x17, ex17, h⟩ := bnd h
      refine rb_ldr 30 34 hS w1 ex17 rfl rfl ?_
      intro bx17 wx17
      obtain ⟨x18, ex18, h⟩ := bnd h
      refine rb_ld 40 hS wx2 ex18 rfl rfl ?_
      obtain ⟨z19, ez19, h⟩ := bnd h
      refine rb_call (ρc := 0) (s_X3_spread hS w0 w1 ez19) ?_
      intro ad Cn bz19 H hS hx wz19
      dsimp only
      obtain rfl : bz19 = z19.1 := wz19
      have w0 := w0.mono hx
      have w1 := w1.mono hx
      have wx2 := wx2.mono hx
      have wx17 := wx17.mono hx
      obtain ⟨x20, ex20, h⟩ := bnd h
      refine rb_ld 40 hS wx2 ex20 rfl rfl ?_
      obtain ⟨z21, ez21, h⟩ := bnd h
      refine rb_call (ρc := 0) (s_X3_spread hS w0 w1 ez21) ?_
      intro ad Cn bz21 H hS hx wz21
      dsimp only
      obtain rfl : bz21 = z21.1 := wz21
      have w0 := w0.mono hx
      have w1 := w1.mono hx
      have wx2 := wx2.mono hx
      have wx17 := wx17.mono hx
      obtain ⟨G22, eG22, h⟩ := bnd h
      refine rb_st 34 hS wx17 (show rrel _ _ 0 _ _ from rfl) eG22 rfl ?_
      intro H hS
      cases h
      exact rret hS rfl
    | 2, hin, h =>
      have h : ((gl 30 z5.2 a1 1).bind fun x23 => (gl 30 z5.2 a1 1).bind fun x24 => (gl 40 z5.2 x2 1).bind fun x25 => (gl 34 z5.2 x24 x25).bind fun x26 => (gs 34 z5.2 x23 a2 (i_and (w32 ((i_shl 1 z5.1) - 1)) (i_xor x26 (-1)))).bind fun G27 => some (0, G27) : GO) = some (rr, G') := h
      simp only [List.getD_cons_succ, List.getD_cons_zero]
      obtain ⟨x23, ex23, h⟩ := bnd h
      refine rb_ldr 30 34 hS w1 ex23 rfl rfl ?_
      intro bx23 wx23
      obtain ⟨x24, ex24, h⟩ := bnd h
      refine rb_ldr 30 34 hS w1 ex24 rfl rfl ?_
      intro bx24 wx24
      obtain ⟨x25, ex25, h⟩ := bnd h
      refine rb_ld 40 hS wx2 ex25 rfl rfl ?_
      obtain ⟨x26, ex26, h⟩ := bnd h
      refine rb_ld 34 hS wx24 ex26 rfl rfl ?_
      obtain ⟨G27, eG27, h⟩ := bnd h
      refine rb_st 34 hS wx23 (show rrel _ _ 0 _ _ from rfl) eG27 rfl ?_
      intro H hS
      cases h
      exact rret hS rfl
    | 3, hin, h =>
      have h : ((gl 30 z5.2 a1 1).bind fun x28 => (gl 30 z5.2 a1 1).bind fun x29 => (gl 40 z5.2 x2 1).bind fun x30 => (gl 34 z5.2 x29 x30).bind fun x31 => (g_J6_bitCount_0f7a4 x31 z5.2).bind fun z32 => (gl 40 z32.2 x2 3).bind fun x33 => (if (lc z32.1 x33) < 0 then gjX3_makeTruths_182 x28 a2 0 z32.2
  else gjX3_makeTruths_182 x28 a2 1 z32.2) : GO) = some (rr, G') := h
      simp only [List.getD_cons_succ, List.getD_cons_zero]
      obtain ⟨x28, ex28, h⟩ := bnd h
      refine rb_ldr 30 34 hS w1 ex28 rfl rfl ?_
      intro bx28 wx28
      obtain ⟨x29, ex29, h⟩ := bnd h
      refine rb_ldr 30 34 hS w1 ex29 rfl rfl ?_
      intro bx29 wx29
      obtain ⟨x30, ex30, h⟩ := bnd h
      refine rb_ld 40 hS wx2 ex30 rfl rfl ?_
      obtain ⟨x31, ex31, h⟩ := bnd h
      refine rb_ld 34 hS wx29 ex31 rfl rfl ?_
      obtain ⟨z32, ez32, h⟩ := bnd h
      refine rb_call (ρc := 0) (s_J6_bitCount_0f7a4 hS ez32) ?_
      intro ad Cn bz32 H hS hx wz32
      dsimp only
      obtain rfl : bz32 = z32.1 := wz32
      have w0 := w0.mono hx
      have w1 := w1.mono hx
      have wx2 := wx2.mono hx
      have wx28 := wx28.mono hx
      obtain ⟨x33, ex33, h⟩ := bnd h
      refine rb_ld 40 hS wx2 ex33 rfl rfl ?_
      by_cases hc174 : (lc z32.1 x33) < 0
      · have h := iteT hc174 h
        refine rif_t hc174 ?_
        exact sjX3_makeTruths_182 hS wx28 h
      · have h := iteF hc174 h
        refine rif_f hc174 ?_
        exact sjX3_makeTruths_182 hS wx28 h
    | i + 4, hin, h => exact absurd hin (by omega)
/-! HouseholdVault$Question.rowAround(J)I by roles -/
def gjX5_rowAround_34 (self2 : Int → GS → GO) (p0 p1 p3 : Int) (G : GS) : GO :=
  self2 (w32 (p3 + 1)) G
set_option maxHeartbeats 4000000 in
theorem sjX5_rowAround_34 {ad : Nat → Nat → Nat} {Cn : Nat → Nat} {H : PH} {G G' : GS} {rr : Int} {fself2 : Int → PH → RO} {self2 : Int → GS → GO} {p0 p1 p3 b0 : Int} (ih2 : ∀ (ad : Nat → Nat → Nat) (Cn : Nat → Nat) (H : PH) (G : GS) (v3 : Int) , SimA ad Cn H G → vrel ad Cn 20 b0 p0 → self2 v3 G = some (rr, G') → RS ad Cn (fself2 v3 H) 0 rr G') (hS : SimA ad Cn H G) (w0 : vrel ad Cn 20 b0 p0) (h : gjX5_rowAround_34 self2 p0 p1 p3 G = some (rr, G')) : RS ad Cn (jX5_rowAround_34 fself2 b0 p1 p3 H) 0 rr G' := by
  unfold gjX5_rowAround_34 at h
  unfold jX5_rowAround_34
  exact ih2 _ _ _ _ (w32 (p3 + 1))  hS w0  h
def glX5_rowAround_2 (p0 p1 : Int) (self2 : Int → GS → GO) (p3 : Int) (G : GS) : GO :=
  (gl 20 G p0 9).bind fun x1 => (if p3 ≥ x1 then some ((-1), G)
  else (gl 20 G p0 6).bind fun x2 => (gl 22 G x2 p3).bind fun x3 => (if (lc x3 p1) > 0 then gjX5_rowAround_34 self2 p0 p1 p3 G
  else (gl 20 G p0 7).bind fun x4 => (gl 23 G x4 p3).bind fun x5 => (if (lc p1 x5) > 0 then gjX5_rowAround_34 self2 p0 p1 p3 G
  else some (p3, G))))
set_option maxHeartbeats 4000000 in
theorem slX5_rowAround_2 {G' : GS} {rr : Int} {p0 p1 b0 : Int} : ∀ (n : Nat) (ad : Nat → Nat → Nat) (Cn : Nat → Nat) (H : PH) (G : GS) (p3 : Int) , SimA ad Cn H G → vrel ad Cn 20 b0 p0 → lh1 (glX5_rowAround_2 p0 p1) n p3 G = some (rr, G') → RS ad Cn (lq1 (lX5_rowAround_2 b0 p1) n p3 H) 0 rr G' := by
  intro n
  induction n with
  | zero => intro ad Cn H G p3 hS w0 h; cases h
  | succ n ih2 =>
    intro ad Cn H G p3 hS w0 h
    rw [lh1_s] at h
    rw [lq1_s]
    generalize lh1 (glX5_rowAround_2 p0 p1) n = self2 at ih2 h
    generalize lq1 (lX5_rowAround_2 b0 p1) n = fself2 at ih2 ⊢
    unfold glX5_rowAround_2 at h
    unfold lX5_rowAround_2
    obtain ⟨x1, ex1, h⟩ := bnd h
    refine rb_ld 20 hS w0 ex1 rfl rfl ?_
    by_cases hc7 : p3 ≥ x1
    · have h := iteT hc7 h
      refine rif_t hc7 ?_
      cases h
      exact rret hS rfl
    · have h := iteF hc7 h
      refine rif_f hc7 ?_
      obtain ⟨x2, ex2, h⟩ := bnd h
      refine rb_ldr 20 22 hS w0 ex2 rfl rfl ?_
      intro bx2 wx2
      obtain ⟨x3, ex3, h⟩ := bnd h
      refine rb_ld 22 hS wx2 ex3 rfl rfl ?_
      by_cases hc18 : (lc x3 p1) > 0
      · have h := iteT hc18 h
        refine rif_t hc18 ?_
        exact sjX5_rowAround_34 ih2 hS w0 h
      · have h := iteF hc18 h
        refine rif_f hc18 ?_
        obtain ⟨x4, ex4, h⟩ := bnd h
        refine rb_ldr 20 23 hS w0 ex4 rfl rfl ?_
        intro bx4 wx4
        obtain ⟨x5, ex5, h⟩ := bnd h
        refine rb_ld 23 hS wx4 ex5 rfl rfl ?_
        by_cases hc29 : (lc p1 x5) > 0
        · have h := iteT hc29 h
          refine rif_t hc29 ?_
          exact sjX5_rowAround_34 ih2 hS w0 h
        · have h := iteF hc29 h
          refine rif_f hc29 ?_
          cases h
          exact rret hS rfl
def g_X5_rowAround (a0 a1 : Int) (G : GS) : GO := gvm a0 <|
  lh1 (glX5_rowAround_2 a0 a1) 6000 0 G
set_option maxHeartbeats 4000000 in
theorem s_X5_rowAround {ad : Nat → Nat → Nat} {Cn : Nat → Nat} {H : PH} {G G' : GS} {rr : Int} {a0 a1 b0 : Int} (hS : SimA ad Cn H G) (w0 : vrel ad Cn 20 b0 a0) (h : g_X5_rowAround a0 a1 G = some (rr, G')) : RS ad Cn (f_X5_rowAround b0 a1 H) 0 rr G' := by
  unfold g_X5_rowAround at h
  unfold f_X5_rowAround
  obtain ⟨hv, h⟩ := gvm_spec h
  refine rb_vm 20 5 hS w0 hv rfl ?_
  exact slX5_rowAround_2 6000 _ _ _ _ 0  hS w0 h
/-! HouseholdVault$Sheet.lack(II)V by roles -/
def g_X6_lack (a0 a1 a2 : Int) (G : GS) : GO := gvm a0 <|
  (gl 31 G a0 0).bind fun x1 => (gs 32 G x1 a1 0).bind fun G2 => (gl 31 G2 a0 1).bind fun x3 => (gs 33 G2 x3 a1 a2).bind fun G4 => some (0, G4)
set_option maxHeartbeats 4000000 in
theorem s_X6_lack {ad : Nat → Nat → Nat} {Cn : Nat → Nat} {H : PH} {G G' : GS} {rr : Int} {a0 a1 a2 b0 : Int} (hS : SimA ad Cn H G) (w0 : vrel ad Cn 31 b0 a0) (h : g_X6_lack a0 a1 a2 G = some (rr, G')) : RS ad Cn (f_X6_lack b0 a1 a2 H) 0 rr G' := by
  unfold g_X6_lack at h
  unfold f_X6_lack
  obtain ⟨hv, h⟩ := gvm_spec h
  refine rb_vm 31 6 hS w0 hv rfl ?_
  obtain ⟨x1, ex1, h⟩ := bnd h
  refine rb_ldr 31 32 hS w0 ex1 rfl rfl ?_
  intro bx1 wx1
  obtain ⟨G2, eG2, h⟩ := bnd h
  refine rb_st 32 hS wx1 (show rrel _ _ 0 _ _ from rfl) eG2 rfl ?_
  intro H hS
  obtain ⟨x3, ex3, h⟩ := bnd h
  refine rb_ldr 31 33 hS w0 ex3 rfl rfl ?_
  intro bx3 wx3
  obtain ⟨G4, eG4, h⟩ := bnd h
  refine rb_st 33 hS wx3 (show rrel _ _ 0 _ _ from rfl) eG4 rfl ?_
  intro H hS
  cases h
  exact rret hS rfl
/-! HouseholdVault$Sheet.put(IJ)V by roles -/
def g_X6_put (a0 a1 a2 : Int) (G : GS) : GO := gvm a0 <|
  (gl 31 G a0 0).bind fun x1 => (gs 32 G x1 a1 a2).bind fun G2 => (gl 31 G2 a0 1).bind fun x3 => (gs 33 G2 x3 a1 0).bind fun G4 => some (0, G4)
set_option maxHeartbeats 4000000 in
theorem s_X6_put {ad : Nat → Nat → Nat} {Cn : Nat → Nat} {H : PH} {G G' : GS} {rr : Int} {a0 a1 a2 b0 : Int} (hS : SimA ad Cn H G) (w0 : vrel ad Cn 31 b0 a0) (h : g_X6_put a0 a1 a2 G = some (rr, G')) : RS ad Cn (f_X6_put b0 a1 a2 H) 0 rr G' := by
  unfold g_X6_put at h
  unfold f_X6_put
  obtain ⟨hv, h⟩ := gvm_spec h
  refine rb_vm 31 6 hS w0 hv rfl ?_
  obtain ⟨x1, ex1, h⟩ := bnd h
  refine rb_ldr 31 32 hS w0 ex1 rfl rfl ?_
  intro bx1 wx1
  obtain ⟨G2, eG2, h⟩ := bnd h
  refine rb_st 32 hS wx1 (show rrel _ _ 0 _ _ from rfl) eG2 rfl ?_
  intro H hS
  obtain ⟨x3, ex3, h⟩ := bnd h
  refine rb_ldr 31 33 hS w0 ex3 rfl rfl ?_
  intro bx3 wx3
  obtain ⟨G4, eG4, h⟩ := bnd h
  refine rb_st 33 hS wx3 (show rrel _ _ 0 _ _ from rfl) eG4 rfl ?_
  intro H hS
  cases h
  exact rret hS rfl
/-! HouseholdVault$Form.makeMapped(LHouseholdVault$Sheet;I)V by roles -/
def gjX3_makeMapped_115 (self20 : Int → GS → GO) (p1 p2 p3 p4 p5 : Int) (G : GS) : GO :=
  self20 (w32 (p5 + 1)) G
set_option maxHeartbeats 4000000 in
theorem sjX3_makeMapped_115 {ad : Nat → Nat → Nat} {Cn : Nat → Nat} {H : PH} {G G' : GS} {rr : Int} {fself20 : Int → PH → RO} {self20 : Int → GS → GO} {p1 p2 p3 p4 p5 b1 b3 : Int} (ih20 : ∀ (ad : Nat → Nat → Nat) (Cn : Nat → Nat) (H : PH) (G : GS) (v5 : Int) , SimA ad Cn H G → vrel ad Cn 31 b1 p1 → vrel ad Cn 20 b3 p3 → self20 v5 G = some (rr, G') → RS ad Cn (fself20 v5 H) 0 rr G') (hS : SimA ad Cn H G) (w1 : vrel ad Cn 31 b1 p1) (w3 : vrel ad Cn 20 b3 p3) (h : gjX3_makeMapped_115 self20 p1 p2 p3 p4 p5 G = some (rr, G')) : RS ad Cn (jX3_makeMapped_115 fself20 b1 p2 b3 p4 p5 H) 0 rr G' := by
  unfold gjX3_makeMapped_115 at h
  unfold jX3_makeMapped_115
  exact ih20 _ _ _ _ (w32 (p5 + 1))  hS w1 w3  h
def glX3_makeMapped_20 (p1 p2 p3 p4 : Int) (self20 : Int → GS → GO) (p5 : Int) (G : GS) : GO :=
  (if p5 ≥ p4 then some (0, G)
  else (gl 20 G p3 3).bind fun x1 => (g_X8_spot x1 p5 G).bind fun z2 => (g_X8_spot p2 p5 z2.2).bind fun z3 => (gl 31 z3.2 p1 0).bind fun x4 => (gl 32 z3.2 x4 z2.1).bind fun x5 => (g_X5_rowAround p3 x5 z3.2).bind fun z6 => (gl 31 z6.2 p1 1).bind fun x7 => (gl 33 z6.2 x7 z2.1).bind fun x8 => (if x8 = 0 then (if z6.1 ≠ (-1) then (gl 20 z6.2 p3 8).bind fun x9 => (gl 24 z6.2 x9 z6.1).bind fun x10 => (g_X6_put p1 z3.1 x10 z6.2).bind fun z11 => gjX3_makeMapped_115 self20 p1 p2 p3 p4 p5 z11.2
  else (g_X6_lack p1 z3.1 4 z6.2).bind fun z12 => gjX3_makeMapped_115 self20 p1 p2 p3 p4 p5 z12.2)
  else (gl 31 z6.2 p1 1).bind fun x13 => (gl 33 z6.2 x13 z2.1).bind fun x14 => (g_X6_lack p1 z3.1 x14 z6.2).bind fun z15 => gjX3_makeMapped_115 self20 p1 p2 p3 p4 p5 z15.2))
set_option maxHeartbeats 4000000 in
theorem slX3_makeMapped_20 {G' : GS} {rr : Int} {p1 p2 p3 p4 b1 b3 : Int} : ∀ (n : Nat) (ad : Nat → Nat → Nat) (Cn : Nat → Nat) (H : PH) (G : GS) (p5 : Int) , SimA ad Cn H G → vrel ad Cn 31 b1 p1 → vrel ad Cn 20 b3 p3 → lh1 (glX3_makeMapped_20 p1 p2 p3 p4) n p5 G = some (rr, G') → RS ad Cn (lq1 (lX3_makeMapped_20 b1 p2 b3 p4) n p5 H) 0 rr G' := by
  intro n
  induction n with
  | zero => intro ad Cn H G p5 hS w1 w3 h; cases h
  | succ n ih20 =>
    intro ad Cn H G p5 hS w1 w3 h
    rw [lh1_s] at h
    rw [lq1_s]
    generalize lh1 (glX3_makeMapped_20 p1 p2 p3 p4) n = self20 at ih20 h
    generalize lq1 (lX3_makeMapped_20 b1 p2 b3 p4) n = fself20 at ih20 ⊢
    unfold glX3_makeMapped_20 at h
    unfold lX3_makeMapped_20
    by_cases hc24 : p5 ≥ p4
    · have h := iteT hc24 h
      refine rif_t hc24 ?_
      cases h
      exact rret hS rfl
    · have h := iteF hc24 h
      refine rif_f hc24 ?_
      obtain ⟨x1, ex1, h⟩ := bnd h
      refine rb_ld 20 hS w3 ex1 rfl rfl ?_
      obtain ⟨z2, ez2, h⟩ := bnd h
      refine rb_call (ρc := 0) (s_X8_spot hS ez2) ?_
      intro ad Cn bz2 H hS hx wz2
      dsimp only
      obtain rfl : bz2 = z2.1 := wz2
      have w1 := w1.mono hx
      have w3 := w3.mono hx
      obtain ⟨z3, ez3, h⟩ := bnd h
      refine rb_call (ρc := 0) (s_X8_spot hS ez3) ?_
      intro ad Cn bz3 H hS hx wz3
      dsimp only
      obtain rfl : bz3 = z3.1 := wz3
      have w1 := w1.mono hx
      have w3 := w3.mono hx
      obtain ⟨x4, ex4, h⟩ := bnd h
      refine rb_ldr 31 32 hS w1 ex4 rfl rfl ?_
      intro bx4 wx4
      obtain ⟨x5, ex5, h⟩ := bnd h
      refine rb_ld 32 hS wx4 ex5 rfl rfl ?_
      obtain ⟨z6, ez6, h⟩ := bnd h
      refine rb_call (ρc := 0) (s_X5_rowAround hS w3 ez6) ?_
      intro ad Cn bz6 H hS hx wz6
      dsimp only
      obtain rfl : bz6 = z6.1 := wz6
      have w1 := w1.mono hx
      have w3 := w3.mono hx
      obtain ⟨x7, ex7, h⟩ := bnd h
      refine rb_ldr 31 33 hS w1 ex7 rfl rfl ?_
      intro bx7 wx7
      obtain ⟨x8, ex8, h⟩ := bnd h
      refine rb_ld 33 hS wx7 ex8 rfl rfl ?_
      by_cases hc66 : x8 = 0
      · have h := iteT hc66 h
        refine rif_t hc66 ?_
        by_cases hc88 : z6.1 ≠ (-1)
        · have h := iteT hc88 h
          refine rif_t hc88 ?_
          obtain ⟨x9, ex9, h⟩ := bnd h
          refine rb_ldr 20 24 hS w3 ex9 rfl rfl ?_
          intro bx9 wx9
          obtain ⟨x10, ex10, h⟩ := bnd h
          refine rb_ld 24 hS wx9 ex10 rfl rfl ?_
          obtain ⟨z11, ez11, h⟩ := bnd h
          refine rb_call (ρc := 0) (s_X6_put hS w1 ez11) ?_
          intro ad Cn bz11 H hS hx wz11
          dsimp only
          obtain rfl : bz11 = z11.1 := wz11
          have w1 := w1.mono hx
          have w3 := w3.mono hx
          exact sjX3_makeMapped_115 ih20 hS w1 w3 h
        · have h := iteF hc88 h
          refine rif_f hc88 ?_
          obtain ⟨z12, ez12, h⟩ := bnd h
          refine rb_call (ρc := 0) (s_X6_lack hS w1 ez12) ?_
          intro ad Cn bz12 H hS hx wz12
          dsimp only
          obtain rfl : bz12 = z12.1 := wz12
          have w1 := w1.mono hx
          have w3 := w3.mono hx
          exact sjX3_makeMapped_115 ih20 hS w1 w3 h
      · have h := iteF hc66 h
        refine rif_f hc66 ?_
        obtain ⟨x13, ex13, h⟩ := bnd h
        refine rb_ldr 31 33 hS w1 ex13 rfl rfl ?_
        intro bx13 wx13
        obtain ⟨x14, ex14, h⟩ := bnd h
        refine rb_ld 33 hS wx13 ex14 rfl rfl ?_
        obtain ⟨z15, ez15, h⟩ := bnd h
        refine rb_call (ρc := 0) (s_X6_lack hS w1 ez15) ?_
        intro ad Cn bz15 H hS hx wz15
        dsimp only
        obtain rfl : bz15 = z15.1 := wz15
        have w1 := w1.mono hx
        have w3 := w3.mono hx
        exact sjX3_makeMapped_115 ih20 hS w1 w3 h
def g_X3_makeMapped (a0 a1 a2 : Int) (G : GS) : GO := gvm a0 <|
  (gl 1 G a0 0).bind fun x1 => (gl 2 G x1 a2).bind fun x2 => (gl 20 G x2 1).bind fun x3 => (g_X8_placesOf a1 x3 G).bind fun z4 => lh1 (glX3_makeMapped_20 a1 a2 x2 z4.1) 6000 0 z4.2
set_option maxHeartbeats 4000000 in
theorem s_X3_makeMapped {ad : Nat → Nat → Nat} {Cn : Nat → Nat} {H : PH} {G G' : GS} {rr : Int} {a0 a1 a2 b0 b1 : Int} (hS : SimA ad Cn H G) (w0 : vrel ad Cn 1 b0 a0) (w1 : vrel ad Cn 31 b1 a1) (h : g_X3_makeMapped a0 a1 a2 G = some (rr, G')) : RS ad Cn (f_X3_makeMapped b0 b1 a2 H) 0 rr G' := by
  unfold g_X3_makeMapped at h
  unfold f_X3_makeMapped
  obtain ⟨hv, h⟩ := gvm_spec h
  refine rb_vm 1 3 hS w0 hv rfl ?_
  obtain ⟨x1, ex1, h⟩ := bnd h
  refine rb_ldr 1 2 hS w0 ex1 rfl rfl ?_
  intro bx1 wx1
  obtain ⟨x2, ex2, h⟩ := bnd h
  refine rb_ldr 2 20 hS wx1 ex2 rfl rfl ?_
  intro bx2 wx2
  obtain ⟨x3, ex3, h⟩ := bnd h
  refine rb_ld 20 hS wx2 ex3 rfl rfl ?_
  obtain ⟨z4, ez4, h⟩ := bnd h
  refine rb_call (ρc := 0) (s_X8_placesOf hS w1 ez4) ?_
  intro ad Cn bz4 H hS hx wz4
  dsimp only
  obtain rfl : bz4 = z4.1 := wz4
  have w0 := w0.mono hx
  have w1 := w1.mono hx
  have wx2 := wx2.mono hx
  exact slX3_makeMapped_20 6000 _ _ _ _ 0  hS w1 wx2 h
/-! HouseholdVault$Form.makeSum(LHouseholdVault$Sheet;I)V by roles -/
def gjX3_makeSum_121 (p1 p2 : Int) (G : GS) : GO :=
  (g_X8_spot p2 (-1) G).bind fun z1 => (g_X6_lack p1 z1.1 5 z1.2).bind fun z2 => some (0, z2.2)
set_option maxHeartbeats 4000000 in
theorem sjX3_makeSum_121 {ad : Nat → Nat → Nat} {Cn : Nat → Nat} {H : PH} {G G' : GS} {rr : Int} {p1 p2 b1 : Int} (hS : SimA ad Cn H G) (w1 : vrel ad Cn 31 b1 p1) (h : gjX3_makeSum_121 p1 p2 G = some (rr, G')) : RS ad Cn (jX3_makeSum_121 b1 p2 H) 0 rr G' := by
  unfold gjX3_makeSum_121 at h
  unfold jX3_makeSum_121
  obtain ⟨z1, ez1, h⟩ := bnd h
  refine rb_call (ρc := 0) (s_X8_spot hS ez1) ?_
  intro ad Cn bz1 H hS hx wz1
  dsimp only
  obtain rfl : bz1 = z1.1 := wz1
  have w1 := w1.mono hx
  obtain ⟨z2, ez2, h⟩ := bnd h
  refine rb_call (ρc := 0) (s_X6_lack hS w1 ez2) ?_
  intro ad Cn bz2 H hS hx wz2
  dsimp only
  obtain rfl : bz2 = z2.1 := wz2
  have w1 := w1.mono hx
  cases h
  exact rret hS rfl
def gjX3_makeSum_109 (p1 p2 p5 p7 s0 : Int) (G : GS) : GO :=
  (if p7 ≠ 0 then gjX3_makeSum_121 p1 p2 G
  else (if s0 = 0 then (g_X8_spot p2 (-1) G).bind fun z1 => (g_X6_put p1 z1.1 p5 z1.2).bind fun z2 => some (0, z2.2)
  else gjX3_makeSum_121 p1 p2 G))
set_option maxHeartbeats 4000000 in
theorem sjX3_makeSum_109 {ad : Nat → Nat → Nat} {Cn : Nat → Nat} {H : PH} {G G' : GS} {rr : Int} {p1 p2 p5 p7 s0 b1 : Int} (hS : SimA ad Cn H G) (w1 : vrel ad Cn 31 b1 p1) (h : gjX3_makeSum_109 p1 p2 p5 p7 s0 G = some (rr, G')) : RS ad Cn (jX3_makeSum_109 b1 p2 p5 p7 s0 H) 0 rr G' := by
  unfold gjX3_makeSum_109 at h
  unfold jX3_makeSum_109
  by_cases hc113 : p7 ≠ 0
  · have h := iteT hc113 h
    refine rif_t hc113 ?_
    exact sjX3_makeSum_121 hS w1 h
  · have h := iteF hc113 h
    refine rif_f hc113 ?_
    by_cases hc118 : s0 = 0
    · have h := iteT hc118 h
      refine rif_t hc118 ?_
      obtain ⟨z1, ez1, h⟩ := bnd h
      refine rb_call (ρc := 0) (s_X8_spot hS ez1) ?_
      intro ad Cn bz1 H hS hx wz1
      dsimp only
      obtain rfl : bz1 = z1.1 := wz1
      have w1 := w1.mono hx
      obtain ⟨z2, ez2, h⟩ := bnd h
      refine rb_call (ρc := 0) (s_X6_put hS w1 ez2) ?_
      intro ad Cn bz2 H hS hx wz2
      dsimp only
      obtain rfl : bz2 = z2.1 := wz2
      have w1 := w1.mono hx
      cases h
      exact rret hS rfl
    · have h := iteF hc118 h
      refine rif_f hc118 ?_
      exact sjX3_makeSum_121 hS w1 h
def gjX3_makeSum_108 (p1 p2 p5 p7 : Int) (G : GS) : GO :=
  gjX3_makeSum_109 p1 p2 p5 p7 0 G
set_option maxHeartbeats 4000000 in
theorem sjX3_makeSum_108 {ad : Nat → Nat → Nat} {Cn : Nat → Nat} {H : PH} {G G' : GS} {rr : Int} {p1 p2 p5 p7 b1 : Int} (hS : SimA ad Cn H G) (w1 : vrel ad Cn 31 b1 p1) (h : gjX3_makeSum_108 p1 p2 p5 p7 G = some (rr, G')) : RS ad Cn (jX3_makeSum_108 b1 p2 p5 p7 H) 0 rr G' := by
  unfold gjX3_makeSum_108 at h
  unfold jX3_makeSum_108
  exact sjX3_makeSum_109 hS w1 h
def gjX3_makeSum_80 (self34 : Int → Int → Int → GS → GO) (p1 p2 p3 p4 p5 p7 p8 : Int) (G : GS) : GO :=
  self34 p5 p7 (w32 (p8 + 1)) G
set_option maxHeartbeats 4000000 in
theorem sjX3_makeSum_80 {ad : Nat → Nat → Nat} {Cn : Nat → Nat} {H : PH} {G G' : GS} {rr : Int} {fself34 : Int → Int → Int → PH → RO} {self34 : Int → Int → Int → GS → GO} {p1 p2 p3 p4 p5 p7 p8 b1 b3 : Int} (ih34 : ∀ (ad : Nat → Nat → Nat) (Cn : Nat → Nat) (H : PH) (G : GS) (v5 v7 v8 : Int) , SimA ad Cn H G → vrel ad Cn 31 b1 p1 → vrel ad Cn 20 b3 p3 → self34 v5 v7 v8 G = some (rr, G') → RS ad Cn (fself34 v5 v7 v8 H) 0 rr G') (hS : SimA ad Cn H G) (w1 : vrel ad Cn 31 b1 p1) (w3 : vrel ad Cn 20 b3 p3) (h : gjX3_makeSum_80 self34 p1 p2 p3 p4 p5 p7 p8 G = some (rr, G')) : RS ad Cn (jX3_makeSum_80 fself34 b1 p2 b3 p4 p5 p7 p8 H) 0 rr G' := by
  unfold gjX3_makeSum_80 at h
  unfold jX3_makeSum_80
  exact ih34 _ _ _ _ p5 p7 (w32 (p8 + 1))  hS w1 w3  h
def glX3_makeSum_34 (p1 p2 p3 p4 : Int) (self34 : Int → Int → Int → GS → GO) (p5 p7 p8 : Int) (G : GS) : GO :=
  (if p8 ≥ p4 then (gl 20 G p3 0).bind fun x1 => (if x1 ≠ 2 then gjX3_makeSum_108 p1 p2 p5 p7 G
  else (if (lc p5 (w32 p5)) = 0 then gjX3_makeSum_108 p1 p2 p5 p7 G
  else gjX3_makeSum_109 p1 p2 p5 p7 1 G))
  else (gl 20 G p3 3).bind fun x2 => (g_X8_spot x2 p8 G).bind fun z3 => (gl 31 z3.2 p1 1).bind fun x4 => (gl 33 z3.2 x4 z3.1).bind fun x5 => (if x5 = 0 then (gl 31 z3.2 p1 0).bind fun x6 => (gl 32 z3.2 x6 z3.1).bind fun x7 => gjX3_makeSum_80 self34 p1 p2 p3 p4 (w64 (p5 + x7)) 0 p8 z3.2
  else gjX3_makeSum_80 self34 p1 p2 p3 p4 p5 p7 p8 z3.2))
set_option maxHeartbeats 4000000 in
theorem slX3_makeSum_34 {G' : GS} {rr : Int} {p1 p2 p3 p4 b1 b3 : Int} : ∀ (n : Nat) (ad : Nat → Nat → Nat) (Cn : Nat → Nat) (H : PH) (G : GS) (p5 p7 p8 : Int) , SimA ad Cn H G → vrel ad Cn 31 b1 p1 → vrel ad Cn 20 b3 p3 → lh3 (glX3_makeSum_34 p1 p2 p3 p4) n p5 p7 p8 G = some (rr, G') → RS ad Cn (lq3 (lX3_makeSum_34 b1 p2 b3 p4) n p5 p7 p8 H) 0 rr G' := by
  intro n
  induction n with
  | zero => intro ad Cn H G p5 p7 p8 hS w1 w3 h; cases h
  | succ n ih34 =>
    intro ad Cn H G p5 p7 p8 hS w1 w3 h
    rw [lh3_s] at h
    rw [lq3_s]
    generalize lh3 (glX3_makeSum_34 p1 p2 p3 p4) n = self34 at ih34 h
    generalize lq3 (lX3_makeSum_34 b1 p2 b3 p4) n = fself34 at ih34 ⊢
    unfold glX3_makeSum_34 at h
    unfold lX3_makeSum_34
    by_cases hc38 : p8 ≥ p4
    · have h := iteT hc38 h
      refine rif_t hc38 ?_
      obtain ⟨x1, ex1, h⟩ := bnd h
      refine rb_ld 20 hS w3 ex1 rfl rfl ?_
      by_cases hc91 : x1 ≠ 2
      · have h := iteT hc91 h
        refine rif_t hc91 ?_
        exact sjX3_makeSum_108 hS w1 h
      · have h := iteF hc91 h
        refine rif_f hc91 ?_
        by_cases hc101 : (lc p5 (w32 p5)) = 0
        · have h := iteT hc101 h
          refine rif_t hc101 ?_
          exact sjX3_makeSum_108 hS w1 h
        · have h := iteF hc101 h
          refine rif_f hc101 ?_
          exact sjX3_makeSum_109 hS w1 h
    · have h := iteF hc38 h
      refine rif_f hc38 ?_
      obtain ⟨x2, ex2, h⟩ := bnd h
      refine rb_ld 20 hS w3 ex2 rfl rfl ?_
      obtain ⟨z3, ez3, h⟩ := bnd h
      refine rb_call (ρc := 0) (s_X8_spot hS ez3) ?_
      intro ad Cn bz3 H hS hx wz3
      dsimp only
      obtain rfl : bz3 = z3.1 := wz3
      have w1 := w1.mono hx
      have w3 := w3.mono hx
      obtain ⟨x4, ex4, h⟩ := bnd h
      refine rb_ldr 31 33 hS w1 ex4 rfl rfl ?_
      intro bx4 wx4
      obtain ⟨x5, ex5, h⟩ := bnd h
      refine rb_ld 33 hS wx4 ex5 rfl rfl ?_
      by_cases hc59 : x5 = 0
      · have h := iteT hc59 h
        refine rif_t hc59 ?_
        obtain ⟨x6, ex6, h⟩ := bnd h
        refine rb_ldr 31 32 hS w1 ex6 rfl rfl ?_
        intro bx6 wx6
        obtain ⟨x7, ex7, h⟩ := bnd h
        refine rb_ld 32 hS wx6 ex7 rfl rfl ?_
        exact sjX3_makeSum_80 ih34 hS w1 w3 h
      · have h := iteF hc59 h
        refine rif_f hc59 ?_
        exact sjX3_makeSum_80 ih34 hS w1 w3 h
def g_X3_makeSum (a0 a1 a2 : Int) (G : GS) : GO := gvm a0 <|
  (gl 1 G a0 0).bind fun x1 => (gl 2 G x1 a2).bind fun x2 => (gl 1 G a0 0).bind fun x3 => (gl 20 G x2 3).bind fun x4 => (gl 2 G x3 x4).bind fun x5 => (gl 20 G x5 1).bind fun x6 => (g_X6_persons a1 x6 G).bind fun z7 => lh3 (glX3_makeSum_34 a1 a2 x2 z7.1) 6000 0 1 0 z7.2
set_option maxHeartbeats 4000000 in
theorem s_X3_makeSum {ad : Nat → Nat → Nat} {Cn : Nat → Nat} {H : PH} {G G' : GS} {rr : Int} {a0 a1 a2 b0 b1 : Int} (hS : SimA ad Cn H G) (w0 : vrel ad Cn 1 b0 a0) (w1 : vrel ad Cn 31 b1 a1) (h : g_X3_makeSum a0 a1 a2 G = some (rr, G')) : RS ad Cn (f_X3_makeSum b0 b1 a2 H) 0 rr G' := by
  unfold g_X3_makeSum at h
  unfold f_X3_makeSum
  obtain ⟨hv, h⟩ := gvm_spec h
  refine rb_vm 1 3 hS w0 hv rfl ?_
  obtain ⟨x1, ex1, h⟩ := bnd h
  refine rb_ldr 1 2 hS w0 ex1 rfl rfl ?_
  intro bx1 wx1
  obtain ⟨x2, ex2, h⟩ := bnd h
  refine rb_ldr 2 20 hS wx1 ex2 rfl rfl ?_
  intro bx2 wx2
  obtain ⟨x3, ex3, h⟩ := bnd h
  refine rb_ldr 1 2 hS w0 ex3 rfl rfl ?_
  intro bx3 wx3
  obtain ⟨x4, ex4, h⟩ := bnd h
  refine rb_ld 20 hS wx2 ex4 rfl rfl ?_
  obtain ⟨x5, ex5, h⟩ := bnd h
  refine rb_ldr 2 20 hS wx3 ex5 rfl rfl ?_
  intro bx5 wx5
  obtain ⟨x6, ex6, h⟩ := bnd h
  refine rb_ld 20 hS wx5 ex6 rfl rfl ?_
  obtain ⟨z7, ez7, h⟩ := bnd h
  refine rb_call (ρc := 0) (s_X6_persons hS w1 ez7) ?_
  intro ad Cn bz7 H hS hx wz7
  dsimp only
  obtain rfl : bz7 = z7.1 := wz7
  have w0 := w0.mono hx
  have w1 := w1.mono hx
  have wx2 := wx2.mono hx
  exact slX3_makeSum_34 6000 _ _ _ _ 0 1 0  hS w1 wx2 h
/-! HouseholdVault$Form.makeHowMany(LHouseholdVault$Household;I)V by roles -/
def g_X3_makeHowMany (a0 a1 a2 : Int) (G : GS) : GO := gvm a0 <|
  (gl 30 G a1 0).bind fun x1 => (g_X8_spot a2 (-1) G).bind fun z2 => (gl 30 z2.2 a1 1).bind fun x3 => (gl 1 z2.2 a0 0).bind fun x4 => (gl 2 z2.2 x4 a2).bind fun x5 => (gl 20 z2.2 x5 3).bind fun x6 => (gl 34 z2.2 x3 x6).bind fun x7 => (g_J6_bitCount_0f7a4 x7 z2.2).bind fun z8 => (g_X6_put x1 z2.1 z8.1 z8.2).bind fun z9 => some (0, z9.2)
set_option maxHeartbeats 4000000 in
theorem s_X3_makeHowMany {ad : Nat → Nat → Nat} {Cn : Nat → Nat} {H : PH} {G G' : GS} {rr : Int} {a0 a1 a2 b0 b1 : Int} (hS : SimA ad Cn H G) (w0 : vrel ad Cn 1 b0 a0) (w1 : vrel ad Cn 30 b1 a1) (h : g_X3_makeHowMany a0 a1 a2 G = some (rr, G')) : RS ad Cn (f_X3_makeHowMany b0 b1 a2 H) 0 rr G' := by
  unfold g_X3_makeHowMany at h
  unfold f_X3_makeHowMany
  obtain ⟨hv, h⟩ := gvm_spec h
  refine rb_vm 1 3 hS w0 hv rfl ?_
  obtain ⟨x1, ex1, h⟩ := bnd h
  refine rb_ldr 30 31 hS w1 ex1 rfl rfl ?_
  intro bx1 wx1
  obtain ⟨z2, ez2, h⟩ := bnd h
  refine rb_call (ρc := 0) (s_X8_spot hS ez2) ?_
  intro ad Cn bz2 H hS hx wz2
  dsimp only
  obtain rfl : bz2 = z2.1 := wz2
  have w0 := w0.mono hx
  have w1 := w1.mono hx
  have wx1 := wx1.mono hx
  obtain ⟨x3, ex3, h⟩ := bnd h
  refine rb_ldr 30 34 hS w1 ex3 rfl rfl ?_
  intro bx3 wx3
  obtain ⟨x4, ex4, h⟩ := bnd h
  refine rb_ldr 1 2 hS w0 ex4 rfl rfl ?_
  intro bx4 wx4
  obtain ⟨x5, ex5, h⟩ := bnd h
  refine rb_ldr 2 20 hS wx4 ex5 rfl rfl ?_
  intro bx5 wx5
  obtain ⟨x6, ex6, h⟩ := bnd h
  refine rb_ld 20 hS wx5 ex6 rfl rfl ?_
  obtain ⟨x7, ex7, h⟩ := bnd h
  refine rb_ld 34 hS wx3 ex7 rfl rfl ?_
  obtain ⟨z8, ez8, h⟩ := bnd h
  refine rb_call (ρc := 0) (s_J6_bitCount_0f7a4 hS ez8) ?_
  intro ad Cn bz8 H hS hx wz8
  dsimp only
  obtain rfl : bz8 = z8.1 := wz8
  have w0 := w0.mono hx
  have w1 := w1.mono hx
  have wx1 := wx1.mono hx
  obtain ⟨z9, ez9, h⟩ := bnd h
  refine rb_call (ρc := 0) (s_X6_put hS wx1 ez9) ?_
  intro ad Cn bz9 H hS hx wz9
  dsimp only
  obtain rfl : bz9 = z9.1 := wz9
  have w0 := w0.mono hx
  have w1 := w1.mono hx
  cases h
  exact rret hS rfl
/-! HouseholdVault$Form.settle(LHouseholdVault$Household;)V by roles -/
def gjX3_settle_94 (self5 : Int → GS → GO) (p0 p1 p2 : Int) (G : GS) : GO :=
  self5 (w32 (p2 + 1)) G
set_option maxHeartbeats 4000000 in
theorem sjX3_settle_94 {ad : Nat → Nat → Nat} {Cn : Nat → Nat} {H : PH} {G G' : GS} {rr : Int} {fself5 : Int → PH → RO} {self5 : Int → GS → GO} {p0 p1 p2 b0 b1 : Int} (ih5 : ∀ (ad : Nat → Nat → Nat) (Cn : Nat → Nat) (H : PH) (G : GS) (v2 : Int) , SimA ad Cn H G → vrel ad Cn 1 b0 p0 → vrel ad Cn 30 b1 p1 → self5 v2 G = some (rr, G') → RS ad Cn (fself5 v2 H) 0 rr G') (hS : SimA ad Cn H G) (w0 : vrel ad Cn 1 b0 p0) (w1 : vrel ad Cn 30 b1 p1) (h : gjX3_settle_94 self5 p0 p1 p2 G = some (rr, G')) : RS ad Cn (jX3_settle_94 fself5 b0 b1 p2 H) 0 rr G' := by
  unfold gjX3_settle_94 at h
  unfold jX3_settle_94
  exact ih5 _ _ _ _ (w32 (p2 + 1))  hS w0 w1  h
def glX3_settle_5 (p0 p1 : Int) (self5 : Int → GS → GO) (p2 : Int) (G : GS) : GO :=
  (gl 1 G p0 5).bind fun x1 => (if p2 ≥ x1 then (gl 1 G p0 5).bind fun x2 => (gs 30 G p1 2 x2).bind fun G3 => some (0, G3)
  else (gl 1 G p0 4).bind fun x4 => (gl 4 G x4 p2).bind fun x5 => (if x5 < 24 then (gl 1 G p0 0).bind fun x6 => (gl 2 G x6 x5).bind fun x7 => (gl 20 G x7 2).bind fun x8 => (if x8 ≠ 1 then (gl 1 G p0 0).bind fun x9 => (gl 2 G x9 x5).bind fun x10 => (gl 20 G x10 2).bind fun x11 => (if x11 ≠ 3 then (g_X3_makeHowMany p0 p1 x5 G).bind fun z12 => gjX3_settle_94 self5 p0 p1 p2 z12.2
  else (gl 30 G p1 0).bind fun x13 => (g_X3_makeSum p0 x13 x5 G).bind fun z14 => gjX3_settle_94 self5 p0 p1 p2 z14.2)
  else (gl 30 G p1 0).bind fun x15 => (g_X3_makeMapped p0 x15 x5 G).bind fun z16 => gjX3_settle_94 self5 p0 p1 p2 z16.2)
  else (g_X3_makeTruths p0 p1 (w32 (x5 - 24)) G).bind fun z17 => gjX3_settle_94 self5 p0 p1 p2 z17.2))
set_option maxHeartbeats 4000000 in
theorem slX3_settle_5 {G' : GS} {rr : Int} {p0 p1 b0 b1 : Int} : ∀ (n : Nat) (ad : Nat → Nat → Nat) (Cn : Nat → Nat) (H : PH) (G : GS) (p2 : Int) , SimA ad Cn H G → vrel ad Cn 1 b0 p0 → vrel ad Cn 30 b1 p1 → lh1 (glX3_settle_5 p0 p1) n p2 G = some (rr, G') → RS ad Cn (lq1 (lX3_settle_5 b0 b1) n p2 H) 0 rr G' := by
  intro n
  induction n with
  | zero => intro ad Cn H G p2 hS w0 w1 h; cases h
  | succ n ih5 =>
    intro ad Cn H G p2 hS w0 w1 h
    rw [lh1_s] at h
    rw [lq1_s]
    generalize lh1 (glX3_settle_5 p0 p1) n = self5 at ih5 h
    generalize lq1 (lX3_settle_5 b0 b1) n = fself5 at ih5 ⊢
    unfold glX3_settle_5 at h
    unfold lX3_settle_5
    obtain ⟨x1, ex1, h⟩ := bnd h
    refine rb_ld 1 hS w0 ex1 rfl rfl ?_
    by_cases hc10 : p2 ≥ x1
    · have h := iteT hc10 h
      refine rif_t hc10 ?_
      obtain ⟨x2, ex2, h⟩ := bnd h
      refine rb_ld 1 hS w0 ex2 rfl rfl ?_
      obtain ⟨G3, eG3, h⟩ := bnd h
      refine rb_st 30 hS w1 (show rrel _ _ 0 _ _ from rfl) eG3 rfl ?_
      intro H hS
      cases h
      exact rret hS rfl
    · have h := iteF hc10 h
      refine rif_f hc10 ?_
      obtain ⟨x4, ex4, h⟩ := bnd h
      refine rb_ldr 1 4 hS w0 ex4 rfl rfl ?_
      intro bx4 wx4
      obtain ⟨x5, ex5, h⟩ := bnd h
      refine rb_ld 4 hS wx4 ex5 rfl rfl ?_
      by_cases hc23 : x5 < 24
      · have h := iteT hc23 h
        refine rif_t hc23 ?_
        obtain ⟨x6, ex6, h⟩ := bnd h
        refine rb_ldr 1 2 hS w0 ex6 rfl rfl ?_
        intro bx6 wx6
        obtain ⟨x7, ex7, h⟩ := bnd h
        refine rb_ldr 2 20 hS wx6 ex7 rfl rfl ?_
        intro bx7 wx7
        obtain ⟨x8, ex8, h⟩ := bnd h
        refine rb_ld 20 hS wx7 ex8 rfl rfl ?_
        by_cases hc48 : x8 ≠ 1
        · have h := iteT hc48 h
          refine rif_t hc48 ?_
          obtain ⟨x9, ex9, h⟩ := bnd h
          refine rb_ldr 1 2 hS w0 ex9 rfl rfl ?_
          intro bx9 wx9
          obtain ⟨x10, ex10, h⟩ := bnd h
          refine rb_ldr 2 20 hS wx9 ex10 rfl rfl ?_
          intro bx10 wx10
          obtain ⟨x11, ex11, h⟩ := bnd h
          refine rb_ld 20 hS wx10 ex11 rfl rfl ?_
          by_cases hc73 : x11 ≠ 3
          · have h := iteT hc73 h
            refine rif_t hc73 ?_
            obtain ⟨z12, ez12, h⟩ := bnd h
            refine rb_call (ρc := 0) (s_X3_makeHowMany hS w0 w1 ez12) ?_
            intro ad Cn bz12 H hS hx wz12
            dsimp only
            obtain rfl : bz12 = z12.1 := wz12
            have w0 := w0.mono hx
            have w1 := w1.mono hx
            exact sjX3_settle_94 ih5 hS w0 w1 h
          · have h := iteF hc73 h
            refine rif_f hc73 ?_
            obtain ⟨x13, ex13, h⟩ := bnd h
            refine rb_ldr 30 31 hS w1 ex13 rfl rfl ?_
            intro bx13 wx13
            obtain ⟨z14, ez14, h⟩ := bnd h
            refine rb_call (ρc := 0) (s_X3_makeSum hS w0 wx13 ez14) ?_
            intro ad Cn bz14 H hS hx wz14
            dsimp only
            obtain rfl : bz14 = z14.1 := wz14
            have w0 := w0.mono hx
            have w1 := w1.mono hx
            exact sjX3_settle_94 ih5 hS w0 w1 h
        · have h := iteF hc48 h
          refine rif_f hc48 ?_
          obtain ⟨x15, ex15, h⟩ := bnd h
          refine rb_ldr 30 31 hS w1 ex15 rfl rfl ?_
          intro bx15 wx15
          obtain ⟨z16, ez16, h⟩ := bnd h
          refine rb_call (ρc := 0) (s_X3_makeMapped hS w0 wx15 ez16) ?_
          intro ad Cn bz16 H hS hx wz16
          dsimp only
          obtain rfl : bz16 = z16.1 := wz16
          have w0 := w0.mono hx
          have w1 := w1.mono hx
          exact sjX3_settle_94 ih5 hS w0 w1 h
      · have h := iteF hc23 h
        refine rif_f hc23 ?_
        obtain ⟨z17, ez17, h⟩ := bnd h
        refine rb_call (ρc := 0) (s_X3_makeTruths hS w0 w1 ez17) ?_
        intro ad Cn bz17 H hS hx wz17
        dsimp only
        obtain rfl : bz17 = z17.1 := wz17
        have w0 := w0.mono hx
        have w1 := w1.mono hx
        exact sjX3_settle_94 ih5 hS w0 w1 h
def g_X3_settle (a0 a1 : Int) (G : GS) : GO := gvm a0 <|
  (gl 30 G a1 2).bind fun x1 => lh1 (glX3_settle_5 a0 a1) 6000 x1 G
set_option maxHeartbeats 4000000 in
theorem s_X3_settle {ad : Nat → Nat → Nat} {Cn : Nat → Nat} {H : PH} {G G' : GS} {rr : Int} {a0 a1 b0 b1 : Int} (hS : SimA ad Cn H G) (w0 : vrel ad Cn 1 b0 a0) (w1 : vrel ad Cn 30 b1 a1) (h : g_X3_settle a0 a1 G = some (rr, G')) : RS ad Cn (f_X3_settle b0 b1 H) 0 rr G' := by
  unfold g_X3_settle at h
  unfold f_X3_settle
  obtain ⟨hv, h⟩ := gvm_spec h
  refine rb_vm 1 3 hS w0 hv rfl ?_
  obtain ⟨x1, ex1, h⟩ := bnd h
  refine rb_ld 30 hS w1 ex1 rfl rfl ?_
  exact slX3_settle_5 6000 _ _ _ _ x1  hS w0 w1 h
/-! HouseholdVault$Sheet.<init>()V by roles -/
def g_X6_init (a0 : Int) (G : GS) : GO := gvm a0 <|
  (gn 32 120 G).bind fun z1 => (gs 31 z1.2 a0 0 z1.1).bind fun G2 => (gn 33 120 G2).bind fun z3 => (gs 31 z3.2 a0 1 z3.1).bind fun G4 => (gl 31 G4 a0 1).bind fun x5 => (gfl 33 x5 1 G4).bind fun z6 => some (0, z6.2)
set_option maxHeartbeats 4000000 in
theorem s_X6_init {ad : Nat → Nat → Nat} {Cn : Nat → Nat} {H : PH} {G G' : GS} {rr : Int} {a0 b0 : Int} (hS : SimA ad Cn H G) (w0 : vrel ad Cn 31 b0 a0) (h : g_X6_init a0 G = some (rr, G')) : RS ad Cn (f_X6_init b0 H) 0 rr G' := by
  unfold g_X6_init at h
  unfold f_X6_init
  obtain ⟨hv, h⟩ := gvm_spec h
  refine rb_vm 31 6 hS w0 hv rfl ?_
  obtain ⟨z1, ez1, h⟩ := bnd h
  refine rb_newa 32 hS ez1 rfl (fun _ => rfl) ?_
  intro ad Cn bz1 H hS hx wz1
  dsimp only
  have w0 := w0.mono hx
  obtain ⟨G2, eG2, h⟩ := bnd h
  refine rb_st 31 (k := 0) hS w0 (show rrel _ _ 33 _ _ from wz1) eG2 rfl ?_
  intro H hS
  obtain ⟨z3, ez3, h⟩ := bnd h
  refine rb_newa 33 hS ez3 rfl (fun _ => rfl) ?_
  intro ad Cn bz3 H hS hx wz3
  dsimp only
  have w0 := w0.mono hx
  obtain ⟨G4, eG4, h⟩ := bnd h
  refine rb_st 31 (k := 1) hS w0 (show rrel _ _ 34 _ _ from wz3) eG4 rfl ?_
  intro H hS
  obtain ⟨x5, ex5, h⟩ := bnd h
  refine rb_ldr 31 33 hS w0 ex5 rfl rfl ?_
  intro bx5 wx5
  obtain ⟨z6, ez6, h⟩ := bnd h
  refine rb_call (ρc := 0) (sfl_J7_fill_53178 33 hS wx5 rfl (fun _ => rfl) ez6) ?_
  intro ad Cn bz6 H hS hx wz6
  dsimp only
  have w0 := w0.mono hx
  cases h
  exact rret hS rfl
/-! HouseholdVault$Household.<init>()V by roles -/
def g_X4_init (a0 : Int) (G : GS) : GO := gvm a0 <|
  (gn 31 (cN 6 : Int) G).bind fun z1 => (g_X6_init z1.1 z1.2).bind fun z2 => (gs 30 z2.2 a0 0 z1.1).bind fun G3 => (gn 34 60 G3).bind fun z4 => (gs 30 z4.2 a0 1 z4.1).bind fun G5 => (gs 30 G5 a0 3 2520).bind fun G6 => some (0, G6)
set_option maxHeartbeats 4000000 in
theorem s_X4_init {ad : Nat → Nat → Nat} {Cn : Nat → Nat} {H : PH} {G G' : GS} {rr : Int} {a0 b0 : Int} (hS : SimA ad Cn H G) (w0 : vrel ad Cn 30 b0 a0) (h : g_X4_init a0 G = some (rr, G')) : RS ad Cn (f_X4_init b0 H) 0 rr G' := by
  unfold g_X4_init at h
  unfold f_X4_init
  obtain ⟨hv, h⟩ := gvm_spec h
  refine rb_vm 30 4 hS w0 hv rfl ?_
  obtain ⟨z1, ez1, h⟩ := bnd h
  refine rb_newo 31 hS ez1 rfl (by decide) ?_
  intro ad Cn bz1 H hS hx wz1
  dsimp only
  have w0 := w0.mono hx
  obtain ⟨z2, ez2, h⟩ := bnd h
  refine rb_call (ρc := 0) (s_X6_init hS wz1 ez2) ?_
  intro ad Cn bz2 H hS hx wz2
  dsimp only
  obtain rfl : bz2 = z2.1 := wz2
  have w0 := w0.mono hx
  have wz1 := wz1.mono hx
  obtain ⟨G3, eG3, h⟩ := bnd h
  refine rb_st 30 (k := 0) hS w0 (show rrel _ _ 32 _ _ from wz1) eG3 rfl ?_
  intro H hS
  obtain ⟨z4, ez4, h⟩ := bnd h
  refine rb_newa 34 hS ez4 rfl (fun _ => rfl) ?_
  intro ad Cn bz4 H hS hx wz4
  dsimp only
  have w0 := w0.mono hx
  obtain ⟨G5, eG5, h⟩ := bnd h
  refine rb_st 30 (k := 1) hS w0 (show rrel _ _ 35 _ _ from wz4) eG5 rfl ?_
  intro H hS
  obtain ⟨G6, eG6, h⟩ := bnd h
  refine rb_st 30 hS w0 (show rrel _ _ 0 _ _ from rfl) eG6 rfl ?_
  intro H hS
  cases h
  exact rret hS rfl
/-! HouseholdVault$Household.unsettle(I)V by roles -/
def g_X4_unsettle (a0 a1 : Int) (G : GS) : GO := gvm a0 <|
  (gl 30 G a0 2).bind fun x1 => (gs 30 G a0 2 (imin x1 a1)).bind fun G2 => some (0, G2)
set_option maxHeartbeats 4000000 in
theorem s_X4_unsettle {ad : Nat → Nat → Nat} {Cn : Nat → Nat} {H : PH} {G G' : GS} {rr : Int} {a0 a1 b0 : Int} (hS : SimA ad Cn H G) (w0 : vrel ad Cn 30 b0 a0) (h : g_X4_unsettle a0 a1 G = some (rr, G')) : RS ad Cn (f_X4_unsettle b0 a1 H) 0 rr G' := by
  unfold g_X4_unsettle at h
  unfold f_X4_unsettle
  obtain ⟨hv, h⟩ := gvm_spec h
  refine rb_vm 30 4 hS w0 hv rfl ?_
  obtain ⟨x1, ex1, h⟩ := bnd h
  refine rb_ld 30 hS w0 ex1 rfl rfl ?_
  obtain ⟨G2, eG2, h⟩ := bnd h
  refine rb_st 30 hS w0 (show rrel _ _ 0 _ _ from rfl) eG2 rfl ?_
  intro H hS
  cases h
  exact rret hS rfl
/-! HouseholdVault$Household.isSo(III)Z by roles -/
def gjX4_isSo_10 (p0 p1 s0 : Int) (G : GS) : GO :=
  (gl 30 G p0 1).bind fun x1 => (gl 34 G x1 p1).bind fun x2 => (if (i_and (i_shr x2 s0) 1) = 0 then some (0, G)
  else some (1, G))
set_option maxHeartbeats 4000000 in
theorem sjX4_isSo_10 {ad : Nat → Nat → Nat} {Cn : Nat → Nat} {H : PH} {G G' : GS} {rr : Int} {p0 p1 s0 b0 : Int} (hS : SimA ad Cn H G) (w0 : vrel ad Cn 30 b0 p0) (h : gjX4_isSo_10 p0 p1 s0 G = some (rr, G')) : RS ad Cn (jX4_isSo_10 b0 p1 s0 H) 0 rr G' := by
  unfold gjX4_isSo_10 at h
  unfold jX4_isSo_10
  obtain ⟨x1, ex1, h⟩ := bnd h
  refine rb_ldr 30 34 hS w0 ex1 rfl rfl ?_
  intro bx1 wx1
  obtain ⟨x2, ex2, h⟩ := bnd h
  refine rb_ld 34 hS wx1 ex2 rfl rfl ?_
  by_cases hc23 : (i_and (i_shr x2 s0) 1) = 0
  · have h := iteT hc23 h
    refine rif_t hc23 ?_
    cases h
    exact rret hS rfl
  · have h := iteF hc23 h
    refine rif_f hc23 ?_
    cases h
    exact rret hS rfl
def g_X4_isSo (a0 a1 a2 a3 : Int) (G : GS) : GO := gvm a0 <|
  (if a2 ≠ (-1) then gjX4_isSo_10 a0 a1 a3 G
  else gjX4_isSo_10 a0 a1 0 G)
set_option maxHeartbeats 4000000 in
theorem s_X4_isSo {ad : Nat → Nat → Nat} {Cn : Nat → Nat} {H : PH} {G G' : GS} {rr : Int} {a0 a1 a2 a3 b0 : Int} (hS : SimA ad Cn H G) (w0 : vrel ad Cn 30 b0 a0) (h : g_X4_isSo a0 a1 a2 a3 G = some (rr, G')) : RS ad Cn (f_X4_isSo b0 a1 a2 a3 H) 0 rr G' := by
  unfold g_X4_isSo at h
  unfold f_X4_isSo
  obtain ⟨hv, h⟩ := gvm_spec h
  refine rb_vm 30 4 hS w0 hv rfl ?_
  by_cases hc2 : a2 ≠ (-1)
  · have h := iteT hc2 h
    refine rif_t hc2 ?_
    exact sjX4_isSo_10 hS w0 h
  · have h := iteF hc2 h
    refine rif_f hc2 ?_
    exact sjX4_isSo_10 hS w0 h
/-! HouseholdVault$Question.<init>(IIII)V by roles -/
def gjX5_init_44 (p0 s0 : Int) (G : GS) : GO :=
  (gn 22 s0 G).bind fun z1 => (gs 20 z1.2 p0 6 z1.1).bind fun G2 => (gn 23 s0 G2).bind fun z3 => (gs 20 z3.2 p0 7 z3.1).bind fun G4 => (gn 24 s0 G4).bind fun z5 => (gs 20 z5.2 p0 8 z5.1).bind fun G6 => (gs 20 G6 p0 10 (-1)).bind fun G7 => some (0, G7)
set_option maxHeartbeats 4000000 in
theorem sjX5_init_44 {ad : Nat → Nat → Nat} {Cn : Nat → Nat} {H : PH} {G G' : GS} {rr : Int} {p0 s0 b0 : Int} (hS : SimA ad Cn H G) (w0 : vrel ad Cn 20 b0 p0) (h : gjX5_init_44 p0 s0 G = some (rr, G')) : RS ad Cn (jX5_init_44 b0 s0 H) 0 rr G' := by
  unfold gjX5_init_44 at h
  unfold jX5_init_44
  obtain ⟨z1, ez1, h⟩ := bnd h
  refine rb_newa 22 hS ez1 rfl (fun _ => rfl) ?_
  intro ad Cn bz1 H hS hx wz1
  dsimp only
  have w0 := w0.mono hx
  obtain ⟨G2, eG2, h⟩ := bnd h
  refine rb_st 20 (k := 6) hS w0 (show rrel _ _ 23 _ _ from wz1) eG2 rfl ?_
  intro H hS
  obtain ⟨z3, ez3, h⟩ := bnd h
  refine rb_newa 23 hS ez3 rfl (fun _ => rfl) ?_
  intro ad Cn bz3 H hS hx wz3
  dsimp only
  have w0 := w0.mono hx
  obtain ⟨G4, eG4, h⟩ := bnd h
  refine rb_st 20 (k := 7) hS w0 (show rrel _ _ 24 _ _ from wz3) eG4 rfl ?_
  intro H hS
  obtain ⟨z5, ez5, h⟩ := bnd h
  refine rb_newa 24 hS ez5 rfl (fun _ => rfl) ?_
  intro ad Cn bz5 H hS hx wz5
  dsimp only
  have w0 := w0.mono hx
  obtain ⟨G6, eG6, h⟩ := bnd h
  refine rb_st 20 (k := 8) hS w0 (show rrel _ _ 25 _ _ from wz5) eG6 rfl ?_
  intro H hS
  obtain ⟨G7, eG7, h⟩ := bnd h
  refine rb_st 20 hS w0 (show rrel _ _ 0 _ _ from rfl) eG7 rfl ?_
  intro H hS
  cases h
  exact rret hS rfl
def g_X5_init (a0 a1 a2 a3 a4 : Int) (G : GS) : GO := gvm a0 <|
  (gs 20 G a0 0 a1).bind fun G1 => (gs 20 G1 a0 1 a2).bind fun G2 => (gs 20 G2 a0 2 a3).bind fun G3 => (gs 20 G3 a0 3 a4).bind fun G4 => (gn 21 8 G4).bind fun z5 => (gs 20 z5.2 a0 4 z5.1).bind fun G6 => (if a3 ≠ 1 then gjX5_init_44 a0 0 G6
  else gjX5_init_44 a0 8 G6)
set_option maxHeartbeats 4000000 in
theorem s_X5_init {ad : Nat → Nat → Nat} {Cn : Nat → Nat} {H : PH} {G G' : GS} {rr : Int} {a0 a1 a2 a3 a4 b0 : Int} (hS : SimA ad Cn H G) (w0 : vrel ad Cn 20 b0 a0) (h : g_X5_init a0 a1 a2 a3 a4 G = some (rr, G')) : RS ad Cn (f_X5_init b0 a1 a2 a3 a4 H) 0 rr G' := by
  unfold g_X5_init at h
  unfold f_X5_init
  obtain ⟨hv, h⟩ := gvm_spec h
  refine rb_vm 20 5 hS w0 hv rfl ?_
  obtain ⟨G1, eG1, h⟩ := bnd h
  refine rb_st 20 hS w0 (show rrel _ _ 0 _ _ from rfl) eG1 rfl ?_
  intro H hS
  obtain ⟨G2, eG2, h⟩ := bnd h
  refine rb_st 20 hS w0 (show rrel _ _ 0 _ _ from rfl) eG2 rfl ?_
  intro H hS
  obtain ⟨G3, eG3, h⟩ := bnd h
  refine rb_st 20 hS w0 (show rrel _ _ 0 _ _ from rfl) eG3 rfl ?_
  intro H hS
  obtain ⟨G4, eG4, h⟩ := bnd h
  refine rb_st 20 hS w0 (show rrel _ _ 0 _ _ from rfl) eG4 rfl ?_
  intro H hS
  obtain ⟨z5, ez5, h⟩ := bnd h
  refine rb_newa 21 hS ez5 rfl (fun _ => rfl) ?_
  intro ad Cn bz5 H hS hx wz5
  dsimp only
  have w0 := w0.mono hx
  obtain ⟨G6, eG6, h⟩ := bnd h
  refine rb_st 20 (k := 4) hS w0 (show rrel _ _ 22 _ _ from wz5) eG6 rfl ?_
  intro H hS
  by_cases hc35 : a3 ≠ 1
  · have h := iteT hc35 h
    refine rif_t hc35 ?_
    exact sjX5_init_44 hS w0 h
  · have h := iteF hc35 h
    refine rif_f hc35 ?_
    exact sjX5_init_44 hS w0 h
/-! HouseholdVault$Question.codeIndex(J)I by roles -/
def glX5_codeIndex_2 (p0 p1 : Int) (self2 : Int → GS → GO) (p3 : Int) (G : GS) : GO :=
  (gl 20 G p0 5).bind fun x1 => (if p3 ≥ x1 then some ((-1), G)
  else (gl 20 G p0 4).bind fun x2 => (gl 21 G x2 p3).bind fun x3 => (if (lc x3 p1) ≠ 0 then self2 (w32 (p3 + 1)) G
  else some (p3, G)))
set_option maxHeartbeats 4000000 in
theorem slX5_codeIndex_2 {G' : GS} {rr : Int} {p0 p1 b0 : Int} : ∀ (n : Nat) (ad : Nat → Nat → Nat) (Cn : Nat → Nat) (H : PH) (G : GS) (p3 : Int) , SimA ad Cn H G → vrel ad Cn 20 b0 p0 → lh1 (glX5_codeIndex_2 p0 p1) n p3 G = some (rr, G') → RS ad Cn (lq1 (lX5_codeIndex_2 b0 p1) n p3 H) 0 rr G' := by
  intro n
  induction n with
  | zero => intro ad Cn H G p3 hS w0 h; cases h
  | succ n ih2 =>
    intro ad Cn H G p3 hS w0 h
    rw [lh1_s] at h
    rw [lq1_s]
    generalize lh1 (glX5_codeIndex_2 p0 p1) n = self2 at ih2 h
    generalize lq1 (lX5_codeIndex_2 b0 p1) n = fself2 at ih2 ⊢
    unfold glX5_codeIndex_2 at h
    unfold lX5_codeIndex_2
    obtain ⟨x1, ex1, h⟩ := bnd h
    refine rb_ld 20 hS w0 ex1 rfl rfl ?_
    by_cases hc7 : p3 ≥ x1
    · have h := iteT hc7 h
      refine rif_t hc7 ?_
      cases h
      exact rret hS rfl
    · have h := iteF hc7 h
      refine rif_f hc7 ?_
      obtain ⟨x2, ex2, h⟩ := bnd h
      refine rb_ldr 20 21 hS w0 ex2 rfl rfl ?_
      intro bx2 wx2
      obtain ⟨x3, ex3, h⟩ := bnd h
      refine rb_ld 21 hS wx2 ex3 rfl rfl ?_
      by_cases hc19 : (lc x3 p1) ≠ 0
      · have h := iteT hc19 h
        refine rif_t hc19 ?_
        exact ih2 _ _ _ _ (w32 (p3 + 1))  hS w0  h
      · have h := iteF hc19 h
        refine rif_f hc19 ?_
        cases h
        exact rret hS rfl
def g_X5_codeIndex (a0 a1 : Int) (G : GS) : GO := gvm a0 <|
  lh1 (glX5_codeIndex_2 a0 a1) 6000 0 G
set_option maxHeartbeats 4000000 in
theorem s_X5_codeIndex {ad : Nat → Nat → Nat} {Cn : Nat → Nat} {H : PH} {G G' : GS} {rr : Int} {a0 a1 b0 : Int} (hS : SimA ad Cn H G) (w0 : vrel ad Cn 20 b0 a0) (h : g_X5_codeIndex a0 a1 G = some (rr, G')) : RS ad Cn (f_X5_codeIndex b0 a1 H) 0 rr G' := by
  unfold g_X5_codeIndex at h
  unfold f_X5_codeIndex
  obtain ⟨hv, h⟩ := gvm_spec h
  refine rb_vm 20 5 hS w0 hv rfl ?_
  exact slX5_codeIndex_2 6000 _ _ _ _ 0  hS w0 h
/-! HouseholdVault$Question.addCode(I)V by roles -/
def g_X5_addCode (a0 a1 : Int) (G : GS) : GO := gvm a0 <|
  (gl 20 G a0 5).bind fun x1 => (if x1 < 8 then (gl 20 G a0 4).bind fun x2 => (gl 20 G a0 5).bind fun x3 => (gs 21 G x2 x3 a1).bind fun G4 => (gl 20 G4 a0 5).bind fun x5 => (gs 20 G4 a0 5 (w32 (x5 + 1))).bind fun G6 => some (0, G6)
  else some (0, G))
set_option maxHeartbeats 4000000 in
theorem s_X5_addCode {ad : Nat → Nat → Nat} {Cn : Nat → Nat} {H : PH} {G G' : GS} {rr : Int} {a0 a1 b0 : Int} (hS : SimA ad Cn H G) (w0 : vrel ad Cn 20 b0 a0) (h : g_X5_addCode a0 a1 G = some (rr, G')) : RS ad Cn (f_X5_addCode b0 a1 H) 0 rr G' := by
  unfold g_X5_addCode at h
  unfold f_X5_addCode
  obtain ⟨hv, h⟩ := gvm_spec h
  refine rb_vm 20 5 hS w0 hv rfl ?_
  obtain ⟨x1, ex1, h⟩ := bnd h
  refine rb_ld 20 hS w0 ex1 rfl rfl ?_
  by_cases hc6 : x1 < 8
  · have h := iteT hc6 h
    refine rif_t hc6 ?_
    obtain ⟨x2, ex2, h⟩ := bnd h
    refine rb_ldr 20 21 hS w0 ex2 rfl rfl ?_
    intro bx2 wx2
    obtain ⟨x3, ex3, h⟩ := bnd h
    refine rb_ld 20 hS w0 ex3 rfl rfl ?_
    obtain ⟨G4, eG4, h⟩ := bnd h
    refine rb_st 21 hS wx2 (show rrel _ _ 0 _ _ from rfl) eG4 rfl ?_
    intro H hS
    obtain ⟨x5, ex5, h⟩ := bnd h
    refine rb_ld 20 hS w0 ex5 rfl rfl ?_
    obtain ⟨G6, eG6, h⟩ := bnd h
    refine rb_st 20 hS w0 (show rrel _ _ 0 _ _ from rfl) eG6 rfl ?_
    intro H hS
    cases h
    exact rret hS rfl
  · have h := iteF hc6 h
    refine rif_f hc6 ?_
    cases h
    exact rret hS rfl
/-! HouseholdVault$Question.addRow(JJI)V by roles -/
def g_X5_addRow (a0 a1 a2 a3 : Int) (G : GS) : GO := gvm a0 <|
  (gl 20 G a0 9).bind fun x1 => (gl 20 G a0 8).bind fun x2 => (gal 24 G x2).bind fun x3 => (if x1 < x3 then (gl 20 G a0 6).bind fun x4 => (gl 20 G a0 9).bind fun x5 => (gs 22 G x4 x5 a1).bind fun G6 => (gl 20 G6 a0 7).bind fun x7 => (gl 20 G6 a0 9).bind fun x8 => (gs 23 G6 x7 x8 a2).bind fun G9 => (gl 20 G9 a0 8).bind fun x10 => (gl 20 G9 a0 9).bind fun x11 => (gs 24 G9 x10 x11 a3).bind fun G12 => (gl 20 G12 a0 9).bind fun x13 => (gs 20 G12 a0 9 (w32 (x13 + 1))).bind fun G14 => (g_X5_codeIndex a0 a3 G14).bind fun z15 => (if z15.1 ≠ (-1) then some (0, z15.2)
  else (g_X5_addCode a0 a3 z15.2).bind fun z16 => some (0, z16.2))
  else some (0, G))
set_option maxHeartbeats 4000000 in
theorem s_X5_addRow {ad : Nat → Nat → Nat} {Cn : Nat → Nat} {H : PH} {G G' : GS} {rr : Int} {a0 a1 a2 a3 b0 : Int} (hS : SimA ad Cn H G) (w0 : vrel ad Cn 20 b0 a0) (h : g_X5_addRow a0 a1 a2 a3 G = some (rr, G')) : RS ad Cn (f_X5_addRow b0 a1 a2 a3 H) 0 rr G' := by
  unfold g_X5_addRow at h
  unfold f_X5_addRow
  obtain ⟨hv, h⟩ := gvm_spec h
  refine rb_vm 20 5 hS w0 hv rfl ?_
  obtain ⟨x1, ex1, h⟩ := bnd h
  refine rb_ld 20 hS w0 ex1 rfl rfl ?_
  obtain ⟨x2, ex2, h⟩ := bnd h
  refine rb_ldr 20 24 hS w0 ex2 rfl rfl ?_
  intro bx2 wx2
  obtain ⟨x3, ex3, h⟩ := bnd h
  refine rb_al 24 hS wx2 ex3 (by decide) ?_
  by_cases hc9 : x1 < x3
  · have h := iteT hc9 h
    refine rif_t hc9 ?_
    obtain ⟨x4, ex4, h⟩ := bnd h
    refine rb_ldr 20 22 hS w0 ex4 rfl rfl ?_
    intro bx4 wx4
    obtain ⟨x5, ex5, h⟩ := bnd h
    refine rb_ld 20 hS w0 ex5 rfl rfl ?_
    obtain ⟨G6, eG6, h⟩ := bnd h
    refine rb_st 22 hS wx4 (show rrel _ _ 0 _ _ from rfl) eG6 rfl ?_
    intro H hS
    obtain ⟨x7, ex7, h⟩ := bnd h
    refine rb_ldr 20 23 hS w0 ex7 rfl rfl ?_
    intro bx7 wx7
    obtain ⟨x8, ex8, h⟩ := bnd h
    refine rb_ld 20 hS w0 ex8 rfl rfl ?_
    obtain ⟨G9, eG9, h⟩ := bnd h
    refine rb_st 23 hS wx7 (show rrel _ _ 0 _ _ from rfl) eG9 rfl ?_
    intro H hS
    obtain ⟨x10, ex10, h⟩ := bnd h
    refine rb_ldr 20 24 hS w0 ex10 rfl rfl ?_
    intro bx10 wx10
    obtain ⟨x11, ex11, h⟩ := bnd h
    refine rb_ld 20 hS w0 ex11 rfl rfl ?_
    obtain ⟨G12, eG12, h⟩ := bnd h
    refine rb_st 24 hS wx10 (show rrel _ _ 0 _ _ from rfl) eG12 rfl ?_
    intro H hS
    obtain ⟨x13, ex13, h⟩ := bnd h
    refine rb_ld 20 hS w0 ex13 rfl rfl ?_
    obtain ⟨G14, eG14, h⟩ := bnd h
    refine rb_st 20 hS w0 (show rrel _ _ 0 _ _ from rfl) eG14 rfl ?_
    intro H hS
    obtain ⟨z15, ez15, h⟩ := bnd h
    refine rb_call (ρc := 0) (s_X5_codeIndex hS w0 ez15) ?_
    intro ad Cn bz15 H hS hx wz15
    dsimp only
    obtain rfl : bz15 = z15.1 := wz15
    have w0 := w0.mono hx
    by_cases hc62 : z15.1 ≠ (-1)
    · have h := iteT hc62 h
      refine rif_t hc62 ?_
      cases h
      exact rret hS rfl
    · have h := iteF hc62 h
      refine rif_f hc62 ?_
      obtain ⟨z16, ez16, h⟩ := bnd h
      refine rb_call (ρc := 0) (s_X5_addCode hS w0 ez16) ?_
      intro ad Cn bz16 H hS hx wz16
      dsimp only
      obtain rfl : bz16 = z16.1 := wz16
      have w0 := w0.mono hx
      cases h
      exact rret hS rfl
  · have h := iteF hc9 h
    refine rif_f hc9 ?_
    cases h
    exact rret hS rfl
