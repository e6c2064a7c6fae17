/-! HouseholdVault$Question.takes(J)Z by roles -/
def g_X5_takes (a0 a1 : Int) (G : GS) : GO := gvm a0 <|
  (gl 20 G a0 0).bind fun x1 => (if x1 < 0 ∨ 4 < x1 then (if (lc a1 0) < 0 then some (0, G)
  else (if (lc a1 5) > 0 then some (0, G)
  else some (1, G)))
  else List.getD [(g_X5_codeIndex a0 a1 G).bind fun z2 => (if z2.1 = (-1) then some (0, z2.2)
  else some (1, z2.2)), (if (lc a1 0) < 0 then some (0, G)
  else (gl 20 G a0 5).bind fun x3 => (if (lc a1 (l_shl 1 x3)) ≥ 0 then some (0, G)
  else some (1, G))), (if (lc a1 (w32 a1)) ≠ 0 then some (0, G)
  else some (1, G)), (if (lc a1 (-1000000000000000)) < 0 then some (0, G)
  else (if (lc a1 1000000000000000) > 0 then some (0, G)
  else some (1, G))), (if (lc a1 (-30000)) < 0 then some (0, G)
  else (if (lc a1 30000) > 0 then some (0, G)
  else some (1, G)))] (x1 - 0).toNat none)
set_option maxHeartbeats 4000000 in
theorem s_X5_takes {ad : Nat → Nat → Nat} {Cn : Nat → Nat} {H : PH} {G G' : GS} {rr : Int} {a0 a1 b0 : Int} (hS : SimA ad Cn H G) (w0 : vrel ad Cn 20 b0 a0) (h : g_X5_takes a0 a1 G = some (rr, G')) : RS ad Cn (f_X5_takes b0 a1 H) 0 rr G' := by
  unfold g_X5_takes at h
  unfold f_X5_takes
  obtain ⟨hv, h⟩ := gvm_spec h
  refine rb_vm 20 5 hS w0 hv rfl ?_
  obtain ⟨x1, ex1, h⟩ := bnd h
  refine rb_ld 20 hS w0 ex1 rfl rfl ?_
  by_cases hc : x1 < 0 ∨ 4 < x1
  · have h := iteT hc h
    refine rif_t hc ?_
    by_cases hc139 : (lc a1 0) < 0
    · have h := iteT hc139 h
      refine rif_t hc139 ?_
      cases h
      exact rret hS rfl
    · have h := iteF hc139 h
      refine rif_f hc139 ?_
      by_cases hc147 : (lc a1 5) > 0
      · have h := iteT hc147 h
        refine rif_t hc147 ?_
        cases h
        exact rret hS rfl
      · have h := iteF hc147 h
        refine rif_f hc147 ?_
        cases h
        exact rret hS rfl
  · have h := iteF hc h
    refine rif_f hc ?_
    obtain ⟨i, hin, ha⟩ := sw_case 5 hc (by decide)
    have h := sw_at ha h
    refine rsw ha ?_
    match i, hin, h with
    | 0, hin, h =>
      have h : ((g_X5_codeIndex a0 a1 G).bind fun z2 => (if z2.1 = (-1) then some (0, z2.2)
  else some (1, z2.2)) : GO) = some (rr, G') := h
      simp only [List.getD_cons_succ, List.getD_cons_zero]
      obtain ⟨z2, ez2, h⟩ := bnd h
      refine rb_call (ρc := 0) (s_X5_codeIndex hS w0 ez2) ?_
      intro ad Cn bz2 H hS hx wz2
      dsimp only
      obtain rfl : bz2 = z2.1 := wz2
      have w0 := w0.mono hx
      by_cases hc46 : z2.1 = (-1)
      · have h := iteT hc46 h
        refine rif_t hc46 ?_
        cases h
        exact rret hS rfl
      · have h := iteF hc46 h
        refine rif_f hc46 ?_
        cases h
        exact rret hS rfl
    | 1, hin, h =>
      have h : ((if (lc a1 0) < 0 then some (0, G)
  else (gl 20 G a0 5).bind fun x3 => (if (lc a1 (l_shl 1 x3)) ≥ 0 then some (0, G)
  else some (1, G))) : GO) = some (rr, G') := h
      simp only [List.getD_cons_succ, List.getD_cons_zero]
      by_cases hc58 : (lc a1 0) < 0
      · have h := iteT hc58 h
        refine rif_t hc58 ?_
        cases h
        exact rret hS rfl
      · have h := iteF hc58 h
        refine rif_f hc58 ?_
        obtain ⟨x3, ex3, h⟩ := bnd h
        refine rb_ld 20 hS w0 ex3 rfl rfl ?_
        by_cases hc69 : (lc a1 (l_shl 1 x3)) ≥ 0
        · have h := iteT hc69 h
          refine rif_t hc69 ?_
          cases h
          exact rret hS rfl
        · have h := iteF hc69 h
          refine rif_f hc69 ?_
          cases h
          exact rret hS rfl
    | 2, hin, h =>
      have h : ((if (lc a1 (w32 a1)) ≠ 0 then some (0, G)
  else some (1, G)) : GO) = some (rr, G') := h
      simp only [List.getD_cons_succ, List.getD_cons_zero]
      by_cases hc83 : (lc a1 (w32 a1)) ≠ 0
      · have h := iteT hc83 h
        refine rif_t hc83 ?_
        cases h
        exact rret hS rfl
      · have h := iteF hc83 h
        refine rif_f hc83 ?_
        cases h
        exact rret hS rfl
    | 3, hin, h =>
      have h : ((if (lc a1 (-1000000000000000)) < 0 then some (0, G)
  else (if (lc a1 1000000000000000) > 0 then some (0, G)
  else some (1, G))) : GO) = some (rr, G') := h
      simp only [List.getD_cons_succ, List.getD_cons_zero]
      by_cases hc97 : (lc a1 (-1000000000000000)) < 0
      · have h := iteT hc97 h
        refine rif_t hc97 ?_
        cases h
        exact rret hS rfl
      · have h := iteF hc97 h
        refine rif_f hc97 ?_
        by_cases hc105 : (lc a1 1000000000000000) > 0
        · have h := iteT hc105 h
          refine rif_t hc105 ?_
          cases h
          exact rret hS rfl
        · have h := iteF hc105 h
          refine rif_f hc105 ?_
          cases h
          exact rret hS rfl
    | 4, hin, h =>
      have h : ((if (lc a1 (-30000)) < 0 then some (0, G)
  else (if (lc a1 30000) > 0 then some (0, G)
  else some (1, G))) : GO) = some (rr, G') := h
      simp only [List.getD_cons_succ, List.getD_cons_zero]
      by_cases hc119 : (lc a1 (-30000)) < 0
      · have h := iteT hc119 h
        refine rif_t hc119 ?_
        cases h
        exact rret hS rfl
      · have h := iteF hc119 h
        refine rif_f hc119 ?_
        by_cases hc127 : (lc a1 30000) > 0
        · have h := iteT hc127 h
          refine rif_t hc127 ?_
          cases h
          exact rret hS rfl
        · have h := iteF hc127 h
          refine rif_f hc127 ?_
          cases h
          exact rret hS rfl
    | i + 5, hin, h => exact absurd hin (by omega)
/-! HouseholdVault$Question.makesLines()Z by roles -/
def g_X5_makesLines (a0 : Int) (G : GS) : GO := gvm a0 <|
  (gl 20 G a0 0).bind fun x1 => (if x1 ≠ 0 then some (0, G)
  else (gl 20 G a0 1).bind fun x2 => (if x2 ≠ (-1) then some (0, G)
  else some (1, G)))
set_option maxHeartbeats 4000000 in
theorem s_X5_makesLines {ad : Nat → Nat → Nat} {Cn : Nat → Nat} {H : PH} {G G' : GS} {rr : Int} {a0 b0 : Int} (hS : SimA ad Cn H G) (w0 : vrel ad Cn 20 b0 a0) (h : g_X5_makesLines a0 G = some (rr, G')) : RS ad Cn (f_X5_makesLines b0 H) 0 rr G' := by
  unfold g_X5_makesLines at h
  unfold f_X5_makesLines
  obtain ⟨hv, h⟩ := gvm_spec h
  refine rb_vm 20 5 hS w0 hv rfl ?_
  obtain ⟨x1, ex1, h⟩ := bnd h
  refine rb_ld 20 hS w0 ex1 rfl rfl ?_
  by_cases hc4 : x1 ≠ 0
  · have h := iteT hc4 h
    refine rif_t hc4 ?_
    cases h
    exact rret hS rfl
  · have h := iteF hc4 h
    refine rif_f hc4 ?_
    obtain ⟨x2, ex2, h⟩ := bnd h
    refine rb_ld 20 hS w0 ex2 rfl rfl ?_
    by_cases hc12 : x2 ≠ (-1)
    · have h := iteT hc12 h
      refine rif_t hc12 ?_
      cases h
      exact rret hS rfl
    · have h := iteF hc12 h
      refine rif_f hc12 ?_
      cases h
      exact rret hS rfl
/-! HouseholdVault$Question.lineOf(LHouseholdVault$Sheet;I)I by roles -/
def g_X5_lineOf (a0 a1 a2 : Int) (G : GS) : GO := gvm a0 <|
  (gl 31 G a1 1).bind fun x1 => (gl 33 G x1 a2).bind fun x2 => (if x2 = 0 then (gl 31 G a1 0).bind fun x3 => (gl 32 G x3 a2).bind fun x4 => (g_X5_codeIndex a0 x4 G).bind fun z5 => (if z5.1 ≠ (-1) then some (z5.1, z5.2)
  else (gl 20 z5.2 a0 5).bind fun x6 => some (x6, z5.2))
  else (gl 20 G a0 5).bind fun x7 => some (x7, G))
set_option maxHeartbeats 4000000 in
theorem s_X5_lineOf {ad : Nat → Nat → Nat} {Cn : Nat → Nat} {H : PH} {G G' : GS} {rr : Int} {a0 a1 a2 b0 b1 : Int} (hS : SimA ad Cn H G) (w0 : vrel ad Cn 20 b0 a0) (w1 : vrel ad Cn 31 b1 a1) (h : g_X5_lineOf a0 a1 a2 G = some (rr, G')) : RS ad Cn (f_X5_lineOf b0 b1 a2 H) 0 rr G' := by
  unfold g_X5_lineOf at h
  unfold f_X5_lineOf
  obtain ⟨hv, h⟩ := gvm_spec h
  refine rb_vm 20 5 hS w0 hv rfl ?_
  obtain ⟨x1, ex1, h⟩ := bnd h
  refine rb_ldr 31 33 hS w1 ex1 rfl rfl ?_
  intro bx1 wx1
  obtain ⟨x2, ex2, h⟩ := bnd h
  refine rb_ld 33 hS wx1 ex2 rfl rfl ?_
  by_cases hc6 : x2 = 0
  · have h := iteT hc6 h
    refine rif_t hc6 ?_
    obtain ⟨x3, ex3, h⟩ := bnd h
    refine rb_ldr 31 32 hS w1 ex3 rfl rfl ?_
    intro bx3 wx3
    obtain ⟨x4, ex4, h⟩ := bnd h
    refine rb_ld 32 hS wx3 ex4 rfl rfl ?_
    obtain ⟨z5, ez5, h⟩ := bnd h
    refine rb_call (ρc := 0) (s_X5_codeIndex hS w0 ez5) ?_
    intro ad Cn bz5 H hS hx wz5
    dsimp only
    obtain rfl : bz5 = z5.1 := wz5
    have w0 := w0.mono hx
    have w1 := w1.mono hx
    by_cases hc27 : z5.1 ≠ (-1)
    · have h := iteT hc27 h
      refine rif_t hc27 ?_
      cases h
      exact rret hS rfl
    · have h := iteF hc27 h
      refine rif_f hc27 ?_
      obtain ⟨x6, ex6, h⟩ := bnd h
      refine rb_ld 20 hS w0 ex6 rfl rfl ?_
      cases h
      exact rret hS rfl
  · have h := iteF hc6 h
    refine rif_f hc6 ?_
    obtain ⟨x7, ex7, h⟩ := bnd h
    refine rb_ld 20 hS w0 ex7 rfl rfl ?_
    cases h
    exact rret hS rfl
/-! HouseholdVault$Sheet.<init>(LHouseholdVault$Sheet;I)V by roles -/
def g_X6_init_ (a0 a1 a2 : Int) (G : GS) : GO := gvm a0 <|
  (gl 31 G a1 0).bind fun x1 => (gcp 32 32 x1 (w32 ((imin (imax a2 0) 24) * 5)) G).bind fun z2 => (gs 31 z2.2 a0 0 z2.1).bind fun G3 => (gl 31 G3 a1 1).bind fun x4 => (gcp 33 33 x4 (w32 ((imin (imax a2 0) 24) * 5)) G3).bind fun z5 => (gs 31 z5.2 a0 1 z5.1).bind fun G6 => some (0, G6)
set_option maxHeartbeats 4000000 in
theorem s_X6_init_ {ad : Nat → Nat → Nat} {Cn : Nat → Nat} {H : PH} {G G' : GS} {rr : Int} {a0 a1 a2 b0 b1 : Int} (hS : SimA ad Cn H G) (w0 : vrel ad Cn 31 b0 a0) (w1 : vrel ad Cn 31 b1 a1) (h : g_X6_init_ a0 a1 a2 G = some (rr, G')) : RS ad Cn (f_X6_init_ b0 b1 a2 H) 0 rr G' := by
  unfold g_X6_init_ at h
  unfold f_X6_init_
  obtain ⟨hv, h⟩ := gvm_spec h
  refine rb_vm 31 6 hS w0 hv rfl ?_
  obtain ⟨x1, ex1, h⟩ := bnd h
  refine rb_ldr 31 32 hS w1 ex1 rfl rfl ?_
  intro bx1 wx1
  obtain ⟨z2, ez2, h⟩ := bnd h
  refine rb_call (ρc := 33) (scp_J7_copyOf_c38d5 32 32 hS wx1 rfl rfl (fun _ => rfl) (fun _ => rfl) ez2) ?_
  intro ad Cn bz2 H hS hx wz2
  dsimp only
  have w0 := w0.mono hx
  have w1 := w1.mono hx
  obtain ⟨G3, eG3, h⟩ := bnd h
  refine rb_st 31 (k := 0) hS w0 (show rrel _ _ 33 _ _ from wz2) eG3 rfl ?_
  intro H hS
  obtain ⟨x4, ex4, h⟩ := bnd h
  refine rb_ldr 31 33 hS w1 ex4 rfl rfl ?_
  intro bx4 wx4
  obtain ⟨z5, ez5, h⟩ := bnd h
  refine rb_call (ρc := 34) (scp_J7_copyOf_59c91 33 33 hS wx4 rfl rfl (fun _ => rfl) (fun _ => rfl) ez5) ?_
  intro ad Cn bz5 H hS hx wz5
  dsimp only
  have w0 := w0.mono hx
  have w1 := w1.mono hx
  obtain ⟨G6, eG6, h⟩ := bnd h
  refine rb_st 31 (k := 1) hS w0 (show rrel _ _ 34 _ _ from wz5) eG6 rfl ?_
  intro H hS
  cases h
  exact rret hS rfl
/-! HouseholdVault$Sheet.isLike(LHouseholdVault$Sheet;I)Z by roles -/
def g_X6_isLike (a0 a1 a2 : Int) (G : GS) : GO := gvm a0 <|
  (gl 31 G a0 0).bind fun x1 => (gl 32 G x1 a2).bind fun x2 => (gl 31 G a1 0).bind fun x3 => (gl 32 G x3 a2).bind fun x4 => (if (lc x2 x4) ≠ 0 then some (0, G)
  else (gl 31 G a0 1).bind fun x5 => (gl 33 G x5 a2).bind fun x6 => (gl 31 G a1 1).bind fun x7 => (gl 33 G x7 a2).bind fun x8 => (if x6 ≠ x8 then some (0, G)
  else some (1, G)))
set_option maxHeartbeats 4000000 in
theorem s_X6_isLike {ad : Nat → Nat → Nat} {Cn : Nat → Nat} {H : PH} {G G' : GS} {rr : Int} {a0 a1 a2 b0 b1 : Int} (hS : SimA ad Cn H G) (w0 : vrel ad Cn 31 b0 a0) (w1 : vrel ad Cn 31 b1 a1) (h : g_X6_isLike a0 a1 a2 G = some (rr, G')) : RS ad Cn (f_X6_isLike b0 b1 a2 H) 0 rr G' := by
  unfold g_X6_isLike at h
  unfold f_X6_isLike
  obtain ⟨hv, h⟩ := gvm_spec h
  refine rb_vm 31 6 hS w0 hv rfl ?_
  obtain ⟨x1, ex1, h⟩ := bnd h
  refine rb_ldr 31 32 hS w0 ex1 rfl rfl ?_
  intro bx1 wx1
  obtain ⟨x2, ex2, h⟩ := bnd h
  refine rb_ld 32 hS wx1 ex2 rfl rfl ?_
  obtain ⟨x3, ex3, h⟩ := bnd h
  refine rb_ldr 31 32 hS w1 ex3 rfl rfl ?_
  intro bx3 wx3
  obtain ⟨x4, ex4, h⟩ := bnd h
  refine rb_ld 32 hS wx3 ex4 rfl rfl ?_
  by_cases hc13 : (lc x2 x4) ≠ 0
  · have h := iteT hc13 h
    refine rif_t hc13 ?_
    cases h
    exact rret hS rfl
  · have h := iteF hc13 h
    refine rif_f hc13 ?_
    obtain ⟨x5, ex5, h⟩ := bnd h
    refine rb_ldr 31 33 hS w0 ex5 rfl rfl ?_
    intro bx5 wx5
    obtain ⟨x6, ex6, h⟩ := bnd h
    refine rb_ld 33 hS wx5 ex6 rfl rfl ?_
    obtain ⟨x7, ex7, h⟩ := bnd h
    refine rb_ldr 31 33 hS w1 ex7 rfl rfl ?_
    intro bx7 wx7
    obtain ⟨x8, ex8, h⟩ := bnd h
    refine rb_ld 33 hS wx7 ex8 rfl rfl ?_
    by_cases hc28 : x6 ≠ x8
    · have h := iteT hc28 h
      refine rif_t hc28 ?_
      cases h
      exact rret hS rfl
    · have h := iteF hc28 h
      refine rif_f hc28 ?_
      cases h
      exact rret hS rfl
/-! HouseholdVault$Sheet.takeFrom(LHouseholdVault$Sheet;I)Z by roles -/
def g_X6_takeFrom (a0 a1 a2 : Int) (G : GS) : GO := gvm a0 <|
  (gl 31 G a0 1).bind fun x1 => (gl 33 G x1 a2).bind fun x2 => (if x2 = 0 then some (0, G)
  else (gl 31 G a1 1).bind fun x3 => (gl 33 G x3 a2).bind fun x4 => (if x4 = 0 then (gl 31 G a1 0).bind fun x5 => (gl 32 G x5 a2).bind fun x6 => (g_X6_put a0 a2 x6 G).bind fun z7 => some (1, z7.2)
  else some (0, G)))
set_option maxHeartbeats 4000000 in
theorem s_X6_takeFrom {ad : Nat → Nat → Nat} {Cn : Nat → Nat} {H : PH} {G G' : GS} {rr : Int} {a0 a1 a2 b0 b1 : Int} (hS : SimA ad Cn H G) (w0 : vrel ad Cn 31 b0 a0) (w1 : vrel ad Cn 31 b1 a1) (h : g_X6_takeFrom a0 a1 a2 G = some (rr, G')) : RS ad Cn (f_X6_takeFrom b0 b1 a2 H) 0 rr G' := by
  unfold g_X6_takeFrom at h
  unfold f_X6_takeFrom
  obtain ⟨hv, h⟩ := gvm_spec h
  refine rb_vm 31 6 hS w0 hv rfl ?_
  obtain ⟨x1, ex1, h⟩ := bnd h
  refine rb_ldr 31 33 hS w0 ex1 rfl rfl ?_
  intro bx1 wx1
  obtain ⟨x2, ex2, h⟩ := bnd h
  refine rb_ld 33 hS wx1 ex2 rfl rfl ?_
  by_cases hc6 : x2 = 0
  · have h := iteT hc6 h
    refine rif_t hc6 ?_
    cases h
    exact rret hS rfl
  · have h := iteF hc6 h
    refine rif_f hc6 ?_
    obtain ⟨x3, ex3, h⟩ := bnd h
    refine rb_ldr 31 33 hS w1 ex3 rfl rfl ?_
    intro bx3 wx3
    obtain ⟨x4, ex4, h⟩ := bnd h
    refine rb_ld 33 hS wx3 ex4 rfl rfl ?_
    by_cases hc15 : x4 = 0
    · have h := iteT hc15 h
      refine rif_t hc15 ?_
      obtain ⟨x5, ex5, h⟩ := bnd h
      refine rb_ldr 31 32 hS w1 ex5 rfl rfl ?_
      intro bx5 wx5
      obtain ⟨x6, ex6, h⟩ := bnd h
      refine rb_ld 32 hS wx5 ex6 rfl rfl ?_
      obtain ⟨z7, ez7, h⟩ := bnd h
      refine rb_call (ρc := 0) (s_X6_put hS w0 ez7) ?_
      intro ad Cn bz7 H hS hx wz7
      dsimp only
      obtain rfl : bz7 = z7.1 := wz7
      have w0 := w0.mono hx
      have w1 := w1.mono hx
      cases h
      exact rret hS rfl
    · have h := iteF hc15 h
      refine rif_f hc15 ?_
      cases h
      exact rret hS rfl
/-! HouseholdVault$Table.<init>()V by roles -/
def g_X7_init (a0 : Int) (G : GS) : GO := gvm a0 <|
  (gn 8 81 G).bind fun z1 => (gs 7 z1.2 a0 3 z1.1).bind fun G2 => (gn 9 81 G2).bind fun z3 => (gs 7 z3.2 a0 4 z3.1).bind fun G4 => (gn 10 81 G4).bind fun z5 => (gs 7 z5.2 a0 5 z5.1).bind fun G6 => (gn 11 81 G6).bind fun z7 => (gs 7 z7.2 a0 6 z7.1).bind fun G8 => (gn 12 9 G8).bind fun z9 => (gs 7 z9.2 a0 7 z9.1).bind fun G10 => some (0, G10)
set_option maxHeartbeats 4000000 in
theorem s_X7_init {ad : Nat → Nat → Nat} {Cn : Nat → Nat} {H : PH} {G G' : GS} {rr : Int} {a0 b0 : Int} (hS : SimA ad Cn H G) (w0 : vrel ad Cn 7 b0 a0) (h : g_X7_init a0 G = some (rr, G')) : RS ad Cn (f_X7_init b0 H) 0 rr G' := by
  unfold g_X7_init at h
  unfold f_X7_init
  obtain ⟨hv, h⟩ := gvm_spec h
  refine rb_vm 7 7 hS w0 hv rfl ?_
  obtain ⟨z1, ez1, h⟩ := bnd h
  refine rb_newa 8 hS ez1 rfl (fun _ => rfl) ?_
  intro ad Cn bz1 H hS hx wz1
  dsimp only
  have w0 := w0.mono hx
  obtain ⟨G2, eG2, h⟩ := bnd h
  refine rb_st 7 (k := 3) hS w0 (show rrel _ _ 9 _ _ from wz1) eG2 rfl ?_
  intro H hS
  obtain ⟨z3, ez3, h⟩ := bnd h
  refine rb_newa 9 hS ez3 rfl (fun _ => rfl) ?_
  intro ad Cn bz3 H hS hx wz3
  dsimp only
  have w0 := w0.mono hx
  obtain ⟨G4, eG4, h⟩ := bnd h
  refine rb_st 7 (k := 4) hS w0 (show rrel _ _ 10 _ _ from wz3) eG4 rfl ?_
  intro H hS
  obtain ⟨z5, ez5, h⟩ := bnd h
  refine rb_newa 10 hS ez5 rfl (fun _ => rfl) ?_
  intro ad Cn bz5 H hS hx wz5
  dsimp only
  have w0 := w0.mono hx
  obtain ⟨G6, eG6, h⟩ := bnd h
  refine rb_st 7 (k := 5) hS w0 (show rrel _ _ 11 _ _ from wz5) eG6 rfl ?_
  intro H hS
  obtain ⟨z7, ez7, h⟩ := bnd h
  refine rb_newa 11 hS ez7 rfl (fun _ => rfl) ?_
  intro ad Cn bz7 H hS hx wz7
  dsimp only
  have w0 := w0.mono hx
  obtain ⟨G8, eG8, h⟩ := bnd h
  refine rb_st 7 (k := 6) hS w0 (show rrel _ _ 12 _ _ from wz7) eG8 rfl ?_
  intro H hS
  obtain ⟨z9, ez9, h⟩ := bnd h
  refine rb_newa 12 hS ez9 rfl (fun _ => rfl) ?_
  intro ad Cn bz9 H hS hx wz9
  dsimp only
  have w0 := w0.mono hx
  obtain ⟨G10, eG10, h⟩ := bnd h
  refine rb_st 7 (k := 7) hS w0 (show rrel _ _ 13 _ _ from wz9) eG10 rfl ?_
  intro H hS
  cases h
  exact rret hS rfl
/-! HouseholdVault$Table.holdNone()V by roles -/
def g_X7_holdNone (a0 : Int) (G : GS) : GO := gvm a0 <|
  (gl 7 G a0 7).bind fun x1 => (gfl 12 x1 0 G).bind fun z2 => (gs 7 z2.2 a0 8 0).bind fun G3 => some (0, G3)
set_option maxHeartbeats 4000000 in
theorem s_X7_holdNone {ad : Nat → Nat → Nat} {Cn : Nat → Nat} {H : PH} {G G' : GS} {rr : Int} {a0 b0 : Int} (hS : SimA ad Cn H G) (w0 : vrel ad Cn 7 b0 a0) (h : g_X7_holdNone a0 G = some (rr, G')) : RS ad Cn (f_X7_holdNone b0 H) 0 rr G' := by
  unfold g_X7_holdNone at h
  unfold f_X7_holdNone
  obtain ⟨hv, h⟩ := gvm_spec h
  refine rb_vm 7 7 hS w0 hv rfl ?_
  obtain ⟨x1, ex1, h⟩ := bnd h
  refine rb_ldr 7 12 hS w0 ex1 rfl rfl ?_
  intro bx1 wx1
  obtain ⟨z2, ez2, h⟩ := bnd h
  refine rb_call (ρc := 0) (sfl_J7_fill_53178 12 hS wx1 rfl (fun _ => rfl) ez2) ?_
  intro ad Cn bz2 H hS hx wz2
  dsimp only
  have w0 := w0.mono hx
  obtain ⟨G3, eG3, h⟩ := bnd h
  refine rb_st 7 hS w0 (show rrel _ _ 0 _ _ from rfl) eG3 rfl ?_
  intro H hS
  cases h
  exact rret hS rfl
/-! HouseholdVault$Table.start(IIZ)V by roles -/
def g_X7_start (a0 a1 a2 a3 : Int) (G : GS) : GO := gvm a0 <|
  (gs 7 G a0 0 a1).bind fun G1 => (gs 7 G1 a0 1 a2).bind fun G2 => (gsz 7 G2 a0 2 a3).bind fun G3 => (gl 7 G3 a0 3).bind fun x4 => (gfl 8 x4 0 G3).bind fun z5 => (gl 7 z5.2 a0 4).bind fun x6 => (gfl 9 x6 0 z5.2).bind fun z7 => (gl 7 z7.2 a0 5).bind fun x8 => (gfl 10 x8 0 z7.2).bind fun z9 => (g_X7_holdNone a0 z9.2).bind fun z10 => some (0, z10.2)
set_option maxHeartbeats 4000000 in
theorem s_X7_start {ad : Nat → Nat → Nat} {Cn : Nat → Nat} {H : PH} {G G' : GS} {rr : Int} {a0 a1 a2 a3 b0 : Int} (hS : SimA ad Cn H G) (w0 : vrel ad Cn 7 b0 a0) (h : g_X7_start a0 a1 a2 a3 G = some (rr, G')) : RS ad Cn (f_X7_start b0 a1 a2 a3 H) 0 rr G' := by
  unfold g_X7_start at h
  unfold f_X7_start
  obtain ⟨hv, h⟩ := gvm_spec h
  refine rb_vm 7 7 hS w0 hv rfl ?_
  obtain ⟨G1, eG1, h⟩ := bnd h
  refine rb_st 7 hS w0 (show rrel _ _ 0 _ _ from rfl) eG1 rfl ?_
  intro H hS
  obtain ⟨G2, eG2, h⟩ := bnd h
  refine rb_st 7 hS w0 (show rrel _ _ 0 _ _ from rfl) eG2 rfl ?_
  intro H hS
  obtain ⟨G3, eG3, h⟩ := bnd h
  refine rb_stz 7 hS w0 rfl eG3 rfl ?_
  intro H hS
  obtain ⟨x4, ex4, h⟩ := bnd h
  refine rb_ldr 7 8 hS w0 ex4 rfl rfl ?_
  intro bx4 wx4
  obtain ⟨z5, ez5, h⟩ := bnd h
  refine rb_call (ρc := 0) (sfl_J7_fill_53178 8 hS wx4 rfl (fun _ => rfl) ez5) ?_
  intro ad Cn bz5 H hS hx wz5
  dsimp only
  have w0 := w0.mono hx
  obtain ⟨x6, ex6, h⟩ := bnd h
  refine rb_ldr 7 9 hS w0 ex6 rfl rfl ?_
  intro bx6 wx6
  obtain ⟨z7, ez7, h⟩ := bnd h
  refine rb_call (ρc := 0) (sfl_J7_fill_d0a16 9 hS wx6 rfl (fun _ => rfl) ez7) ?_
  intro ad Cn bz7 H hS hx wz7
  dsimp only
  have w0 := w0.mono hx
  obtain ⟨x8, ex8, h⟩ := bnd h
  refine rb_ldr 7 10 hS w0 ex8 rfl rfl ?_
  intro bx8 wx8
  obtain ⟨z9, ez9, h⟩ := bnd h
  refine rb_call (ρc := 0) (sfl_J7_fill_53178 10 hS wx8 rfl (fun _ => rfl) ez9) ?_
  intro ad Cn bz9 H hS hx wz9
  dsimp only
  have w0 := w0.mono hx
  obtain ⟨z10, ez10, h⟩ := bnd h
  refine rb_call (ρc := 0) (s_X7_holdNone hS w0 ez10) ?_
  intro ad Cn bz10 H hS hx wz10
  dsimp only
  obtain rfl : bz10 = z10.1 := wz10
  have w0 := w0.mono hx
  cases h
  exact rret hS rfl
/-! HouseholdVault$Table.isNone()Z by roles -/
def g_X7_isNone (a0 : Int) (G : GS) : GO := gvm a0 <|
  (gl 7 G a0 0).bind fun x1 => (if x1 ≠ 0 then some (0, G)
  else some (1, G))
set_option maxHeartbeats 4000000 in
theorem s_X7_isNone {ad : Nat → Nat → Nat} {Cn : Nat → Nat} {H : PH} {G G' : GS} {rr : Int} {a0 b0 : Int} (hS : SimA ad Cn H G) (w0 : vrel ad Cn 7 b0 a0) (h : g_X7_isNone a0 G = some (rr, G')) : RS ad Cn (f_X7_isNone b0 H) 0 rr G' := by
  unfold g_X7_isNone at h
  unfold f_X7_isNone
  obtain ⟨hv, h⟩ := gvm_spec h
  refine rb_vm 7 7 hS w0 hv rfl ?_
  obtain ⟨x1, ex1, h⟩ := bnd h
  refine rb_ld 7 hS w0 ex1 rfl rfl ?_
  by_cases hc4 : x1 ≠ 0
  · have h := iteT hc4 h
    refine rif_t hc4 ?_
    cases h
    exact rret hS rfl
  · have h := iteF hc4 h
    refine rif_f hc4 ?_
    cases h
    exact rret hS rfl
/-! HouseholdVault$Table.cells()I by roles -/
def g_X7_cells (a0 : Int) (G : GS) : GO := gvm a0 <|
  (gl 7 G a0 0).bind fun x1 => (gl 7 G a0 1).bind fun x2 => some ((w32 (x1 * x2)), G)
set_option maxHeartbeats 4000000 in
theorem s_X7_cells {ad : Nat → Nat → Nat} {Cn : Nat → Nat} {H : PH} {G G' : GS} {rr : Int} {a0 b0 : Int} (hS : SimA ad Cn H G) (w0 : vrel ad Cn 7 b0 a0) (h : g_X7_cells a0 G = some (rr, G')) : RS ad Cn (f_X7_cells b0 H) 0 rr G' := by
  unfold g_X7_cells at h
  unfold f_X7_cells
  obtain ⟨hv, h⟩ := gvm_spec h
  refine rb_vm 7 7 hS w0 hv rfl ?_
  obtain ⟨x1, ex1, h⟩ := bnd h
  refine rb_ld 7 hS w0 ex1 rfl rfl ?_
  obtain ⟨x2, ex2, h⟩ := bnd h
  refine rb_ld 7 hS w0 ex2 rfl rfl ?_
  cases h
  exact rret hS rfl
/-! HouseholdVault$Table.hasCell(II)Z by roles -/
def g_X7_hasCell (a0 a1 a2 : Int) (G : GS) : GO := gvm a0 <|
  (if a1 < 0 then some (0, G)
  else (gl 7 G a0 0).bind fun x1 => (if a1 ≥ x1 then some (0, G)
  else (if a2 < 0 then some (0, G)
  else (gl 7 G a0 1).bind fun x2 => (if a2 ≥ x2 then some (0, G)
  else some (1, G)))))
set_option maxHeartbeats 4000000 in
theorem s_X7_hasCell {ad : Nat → Nat → Nat} {Cn : Nat → Nat} {H : PH} {G G' : GS} {rr : Int} {a0 a1 a2 b0 : Int} (hS : SimA ad Cn H G) (w0 : vrel ad Cn 7 b0 a0) (h : g_X7_hasCell a0 a1 a2 G = some (rr, G')) : RS ad Cn (f_X7_hasCell b0 a1 a2 H) 0 rr G' := by
  unfold g_X7_hasCell at h
  unfold f_X7_hasCell
  obtain ⟨hv, h⟩ := gvm_spec h
  refine rb_vm 7 7 hS w0 hv rfl ?_
  by_cases hc1 : a1 < 0
  · have h := iteT hc1 h
    refine rif_t hc1 ?_
    cases h
    exact rret hS rfl
  · have h := iteF hc1 h
    refine rif_f hc1 ?_
    obtain ⟨x1, ex1, h⟩ := bnd h
    refine rb_ld 7 hS w0 ex1 rfl rfl ?_
    by_cases hc9 : a1 ≥ x1
    · have h := iteT hc9 h
      refine rif_t hc9 ?_
      cases h
      exact rret hS rfl
    · have h := iteF hc9 h
      refine rif_f hc9 ?_
      by_cases hc13 : a2 < 0
      · have h := iteT hc13 h
        refine rif_t hc13 ?_
        cases h
        exact rret hS rfl
      · have h := iteF hc13 h
        refine rif_f hc13 ?_
        obtain ⟨x2, ex2, h⟩ := bnd h
        refine rb_ld 7 hS w0 ex2 rfl rfl ?_
        by_cases hc21 : a2 ≥ x2
        · have h := iteT hc21 h
          refine rif_t hc21 ?_
          cases h
          exact rret hS rfl
        · have h := iteF hc21 h
          refine rif_f hc21 ?_
          cases h
          exact rret hS rfl
/-! HouseholdVault$Table.at(II)I by roles -/
def g_X7_at (a0 a1 a2 : Int) (G : GS) : GO := gvm a0 <|
  (gl 7 G a0 1).bind fun x1 => some ((w32 ((w32 (a1 * x1)) + a2)), G)
set_option maxHeartbeats 4000000 in
theorem s_X7_at {ad : Nat → Nat → Nat} {Cn : Nat → Nat} {H : PH} {G G' : GS} {rr : Int} {a0 a1 a2 b0 : Int} (hS : SimA ad Cn H G) (w0 : vrel ad Cn 7 b0 a0) (h : g_X7_at a0 a1 a2 G = some (rr, G')) : RS ad Cn (f_X7_at b0 a1 a2 H) 0 rr G' := by
  unfold g_X7_at at h
  unfold f_X7_at
  obtain ⟨hv, h⟩ := gvm_spec h
  refine rb_vm 7 7 hS w0 hv rfl ?_
  obtain ⟨x1, ex1, h⟩ := bnd h
  refine rb_ld 7 hS w0 ex1 rfl rfl ?_
  cases h
  exact rret hS rfl
/-! HouseholdVault$Table.add(III)V by roles -/
def g_X7_add (a0 a1 a2 a3 : Int) (G : GS) : GO := gvm a0 <|
  (g_X7_hasCell a0 a1 a2 G).bind fun z1 => (if z1.1 ≠ 0 then (gl 7 z1.2 a0 3).bind fun x2 => (g_X7_at a0 a1 a2 z1.2).bind fun z3 => (gl 8 z3.2 x2 z3.1).bind fun x4 => (gs 8 z3.2 x2 z3.1 (w32 (x4 + 1))).bind fun G5 => (gl 7 G5 a0 4).bind fun x6 => (g_X7_at a0 a1 a2 G5).bind fun z7 => (gl 9 z7.2 x6 z7.1).bind fun x8 => (gs 9 z7.2 x6 z7.1 (w64 (x8 + a3))).bind fun G9 => some (0, G9)
  else some (0, z1.2))
set_option maxHeartbeats 4000000 in
theorem s_X7_add {ad : Nat → Nat → Nat} {Cn : Nat → Nat} {H : PH} {G G' : GS} {rr : Int} {a0 a1 a2 a3 b0 : Int} (hS : SimA ad Cn H G) (w0 : vrel ad Cn 7 b0 a0) (h : g_X7_add a0 a1 a2 a3 G = some (rr, G')) : RS ad Cn (f_X7_add b0 a1 a2 a3 H) 0 rr G' := by
  unfold g_X7_add at h
  unfold f_X7_add
  obtain ⟨hv, h⟩ := gvm_spec h
  refine rb_vm 7 7 hS w0 hv rfl ?_
  obtain ⟨z1, ez1, h⟩ := bnd h
  refine rb_call (ρc := 0) (s_X7_hasCell hS w0 ez1) ?_
  intro ad Cn bz1 H hS hx wz1
  dsimp only
  obtain rfl : bz1 = z1.1 := wz1
  have w0 := w0.mono hx
  by_cases hc6 : z1.1 ≠ 0
  · have h := iteT hc6 h
    refine rif_t hc6 ?_
    obtain ⟨x2, ex2, h⟩ := bnd h
    refine rb_ldr 7 8 hS w0 ex2 rfl rfl ?_
    intro bx2 wx2
    obtain ⟨z3, ez3, h⟩ := bnd h
    refine rb_call (ρc := 0) (s_X7_at hS w0 ez3) ?_
    intro ad Cn bz3 H hS hx wz3
    dsimp only
    obtain rfl : bz3 = z3.1 := wz3
    have w0 := w0.mono hx
    have wx2 := wx2.mono hx
    obtain ⟨x4, ex4, h⟩ := bnd h
    refine rb_ld 8 hS wx2 ex4 rfl rfl ?_
    obtain ⟨G5, eG5, h⟩ := bnd h
    refine rb_st 8 hS wx2 (show rrel _ _ 0 _ _ from rfl) eG5 rfl ?_
    intro H hS
    obtain ⟨x6, ex6, h⟩ := bnd h
    refine rb_ldr 7 9 hS w0 ex6 rfl rfl ?_
    intro bx6 wx6
    obtain ⟨z7, ez7, h⟩ := bnd h
    refine rb_call (ρc := 0) (s_X7_at hS w0 ez7) ?_
    intro ad Cn bz7 H hS hx wz7
    dsimp only
    obtain rfl : bz7 = z7.1 := wz7
    have w0 := w0.mono hx
    have wx6 := wx6.mono hx
    obtain ⟨x8, ex8, h⟩ := bnd h
    refine rb_ld 9 hS wx6 ex8 rfl rfl ?_
    obtain ⟨G9, eG9, h⟩ := bnd h
    refine rb_st 9 hS wx6 (show rrel _ _ 0 _ _ from rfl) eG9 rfl ?_
    intro H hS
    cases h
    exact rret hS rfl
  · have h := iteF hc6 h
    refine rif_f hc6 ?_
    cases h
    exact rret hS rfl
/-! HouseholdVault$Table.giveOneMore()V by roles -/
def gjX7_giveOneMore_30 (self4 : Int → Int → GS → GO) (p0 p1 p2 : Int) (G : GS) : GO :=
  self4 p1 (w32 (p2 + 1)) G
set_option maxHeartbeats 4000000 in
theorem sjX7_giveOneMore_30 {ad : Nat → Nat → Nat} {Cn : Nat → Nat} {H : PH} {G G' : GS} {rr : Int} {fself4 : Int → Int → PH → RO} {self4 : Int → Int → GS → GO} {p0 p1 p2 b0 : Int} (ih4 : ∀ (ad : Nat → Nat → Nat) (Cn : Nat → Nat) (H : PH) (G : GS) (v1 v2 : Int) , SimA ad Cn H G → vrel ad Cn 7 b0 p0 → self4 v1 v2 G = some (rr, G') → RS ad Cn (fself4 v1 v2 H) 0 rr G') (hS : SimA ad Cn H G) (w0 : vrel ad Cn 7 b0 p0) (h : gjX7_giveOneMore_30 self4 p0 p1 p2 G = some (rr, G')) : RS ad Cn (jX7_giveOneMore_30 fself4 b0 p1 p2 H) 0 rr G' := by
  unfold gjX7_giveOneMore_30 at h
  unfold jX7_giveOneMore_30
  exact ih4 _ _ _ _ p1 (w32 (p2 + 1))  hS w0  h
def glX7_giveOneMore_4 (p0 : Int) (self4 : Int → Int → GS → GO) (p1 p2 : Int) (G : GS) : GO :=
  (g_X7_cells p0 G).bind fun z1 => (if p2 ≥ z1.1 then (gl 7 z1.2 p0 5).bind fun x2 => (gl 10 z1.2 x2 p1).bind fun x3 => (gs 10 z1.2 x2 p1 (w32 (x3 + 1))).bind fun G4 => (gl 7 G4 p0 6).bind fun x5 => (gs 11 G4 x5 p1 (-1)).bind fun G6 => some (0, G6)
  else (gl 7 z1.2 p0 6).bind fun x7 => (gl 11 z1.2 x7 p2).bind fun x8 => (gl 7 z1.2 p0 6).bind fun x9 => (gl 11 z1.2 x9 p1).bind fun x10 => (if (lc x8 x10) ≤ 0 then gjX7_giveOneMore_30 self4 p0 p1 p2 z1.2
  else gjX7_giveOneMore_30 self4 p0 p2 p2 z1.2))
set_option maxHeartbeats 4000000 in
theorem slX7_giveOneMore_4 {G' : GS} {rr : Int} {p0 b0 : Int} : ∀ (n : Nat) (ad : Nat → Nat → Nat) (Cn : Nat → Nat) (H : PH) (G : GS) (p1 p2 : Int) , SimA ad Cn H G → vrel ad Cn 7 b0 p0 → lh2 (glX7_giveOneMore_4 p0) n p1 p2 G = some (rr, G') → RS ad Cn (lq2 (lX7_giveOneMore_4 b0) n p1 p2 H) 0 rr G' := by
  intro n
  induction n with
  | zero => intro ad Cn H G p1 p2 hS w0 h; cases h
  | succ n ih4 =>
    intro ad Cn H G p1 p2 hS w0 h
    rw [lh2_s] at h
    rw [lq2_s]
    generalize lh2 (glX7_giveOneMore_4 p0) n = self4 at ih4 h
    generalize lq2 (lX7_giveOneMore_4 b0) n = fself4 at ih4 ⊢
    unfold glX7_giveOneMore_4 at h
    unfold lX7_giveOneMore_4
    obtain ⟨z1, ez1, h⟩ := bnd h
    refine rb_call (ρc := 0) (s_X7_cells hS w0 ez1) ?_
    intro ad Cn bz1 H hS hx wz1
    dsimp only
    obtain rfl : bz1 = z1.1 := wz1
    have w0 := w0.mono hx
    by_cases hc9 : p2 ≥ z1.1
    · have h := iteT hc9 h
      refine rif_t hc9 ?_
      obtain ⟨x2, ex2, h⟩ := bnd h
      refine rb_ldr 7 10 hS w0 ex2 rfl rfl ?_
      intro bx2 wx2
      obtain ⟨x3, ex3, h⟩ := bnd h
      refine rb_ld 10 hS wx2 ex3 rfl rfl ?_
      obtain ⟨G4, eG4, h⟩ := bnd h
      refine rb_st 10 hS wx2 (show rrel _ _ 0 _ _ from rfl) eG4 rfl ?_
      intro H hS
      obtain ⟨x5, ex5, h⟩ := bnd h
      refine rb_ldr 7 11 hS w0 ex5 rfl rfl ?_
      intro bx5 wx5
      obtain ⟨G6, eG6, h⟩ := bnd h
      refine rb_st 11 hS wx5 (show rrel _ _ 0 _ _ from rfl) eG6 rfl ?_
      intro H hS
      cases h
      exact rret hS rfl
    · have h := iteF hc9 h
      refine rif_f hc9 ?_
      obtain ⟨x7, ex7, h⟩ := bnd h
      refine rb_ldr 7 11 hS w0 ex7 rfl rfl ?_
      intro bx7 wx7
      obtain ⟨x8, ex8, h⟩ := bnd h
      refine rb_ld 11 hS wx7 ex8 rfl rfl ?_
      obtain ⟨x9, ex9, h⟩ := bnd h
      refine rb_ldr 7 11 hS w0 ex9 rfl rfl ?_
      intro bx9 wx9
      obtain ⟨x10, ex10, h⟩ := bnd h
      refine rb_ld 11 hS wx9 ex10 rfl rfl ?_
      by_cases hc25 : (lc x8 x10) ≤ 0
      · have h := iteT hc25 h
        refine rif_t hc25 ?_
        exact sjX7_giveOneMore_30 ih4 hS w0 h
      · have h := iteF hc25 h
        refine rif_f hc25 ?_
        exact sjX7_giveOneMore_30 ih4 hS w0 h
def g_X7_giveOneMore (a0 : Int) (G : GS) : GO := gvm a0 <|
  lh2 (glX7_giveOneMore_4 a0) 6000 0 1 G
set_option maxHeartbeats 4000000 in
theorem s_X7_giveOneMore {ad : Nat → Nat → Nat} {Cn : Nat → Nat} {H : PH} {G G' : GS} {rr : Int} {a0 b0 : Int} (hS : SimA ad Cn H G) (w0 : vrel ad Cn 7 b0 a0) (h : g_X7_giveOneMore a0 G = some (rr, G')) : RS ad Cn (f_X7_giveOneMore b0 H) 0 rr G' := by
  unfold g_X7_giveOneMore at h
  unfold f_X7_giveOneMore
  obtain ⟨hv, h⟩ := gvm_spec h
  refine rb_vm 7 7 hS w0 hv rfl ?_
  exact slX7_giveOneMore_4 6000 _ _ _ _ 0 1  hS w0 h
/-! HouseholdVault$Table.reckonShares(I)Z by roles -/
def glX7_reckonShares_121 (p0 p4 : Int) (self121 : Int → GS → GO) (p5 : Int) (G : GS) : GO :=
  (if p5 ≥ p4 then some (1, G)
  else (g_X7_giveOneMore p0 G).bind fun z1 => self121 (w32 (p5 + 1)) z1.2)
set_option maxHeartbeats 4000000 in
theorem slX7_reckonShares_121 {G' : GS} {rr : Int} {p0 p4 b0 : Int} : ∀ (n : Nat) (ad : Nat → Nat → Nat) (Cn : Nat → Nat) (H : PH) (G : GS) (p5 : Int) , SimA ad Cn H G → vrel ad Cn 7 b0 p0 → lh1 (glX7_reckonShares_121 p0 p4) n p5 G = some (rr, G') → RS ad Cn (lq1 (lX7_reckonShares_121 b0 p4) n p5 H) 0 rr G' := by
  intro n
  induction n with
  | zero => intro ad Cn H G p5 hS w0 h; cases h
  | succ n ih121 =>
    intro ad Cn H G p5 hS w0 h
    rw [lh1_s] at h
    rw [lq1_s]
    generalize lh1 (glX7_reckonShares_121 p0 p4) n = self121 at ih121 h
    generalize lq1 (lX7_reckonShares_121 b0 p4) n = fself121 at ih121 ⊢
    unfold glX7_reckonShares_121 at h
    unfold lX7_reckonShares_121
    by_cases hc125 : p5 ≥ p4
    · have h := iteT hc125 h
      refine rif_t hc125 ?_
      cases h
      exact rret hS rfl
    · have h := iteF hc125 h
      refine rif_f hc125 ?_
      obtain ⟨z1, ez1, h⟩ := bnd h
      refine rb_call (ρc := 0) (s_X7_giveOneMore hS w0 ez1) ?_
      intro ad Cn bz1 H hS hx wz1
      dsimp only
      obtain rfl : bz1 = z1.1 := wz1
      have w0 := w0.mono hx
      exact ih121 _ _ _ _ (w32 (p5 + 1))  hS w0  h
def glX7_reckonShares_52 (p0 p1 p2 : Int) (self52 : Int → Int → GS → GO) (p4 p5 : Int) (G : GS) : GO :=
  (g_X7_cells p0 G).bind fun z1 => (if p5 ≥ z1.1 then lh1 (glX7_reckonShares_121 p0 p4) 6000 0 z1.2
  else (gl 7 z1.2 p0 5).bind fun x2 => (gl 7 z1.2 p0 4).bind fun x3 => (gl 9 z1.2 x3 p5).bind fun x4 => (if p2 = 0 then none else (gs 10 z1.2 x2 p5 (w32 (w64 (Int.tdiv (w64 (p1 * x4)) p2)))).bind fun G5 => (gl 7 G5 p0 6).bind fun x6 => (gl 7 G5 p0 4).bind fun x7 => (gl 9 G5 x7 p5).bind fun x8 => (if p2 = 0 then none else (gs 11 G5 x6 p5 (Int.tmod (w64 (p1 * x8)) p2)).bind fun G9 => (gl 7 G9 p0 5).bind fun x10 => (gl 10 G9 x10 p5).bind fun x11 => self52 (w32 (p4 - x11)) (w32 (p5 + 1)) G9)))
set_option maxHeartbeats 4000000 in
theorem slX7_reckonShares_52 {G' : GS} {rr : Int} {p0 p1 p2 b0 : Int} : ∀ (n : Nat) (ad : Nat → Nat → Nat) (Cn : Nat → Nat) (H : PH) (G : GS) (p4 p5 : Int) , SimA ad Cn H G → vrel ad Cn 7 b0 p0 → lh2 (glX7_reckonShares_52 p0 p1 p2) n p4 p5 G = some (rr, G') → RS ad Cn (lq2 (lX7_reckonShares_52 b0 p1 p2) n p4 p5 H) 0 rr G' := by
  intro n
  induction n with
  | zero => intro ad Cn H G p4 p5 hS w0 h; cases h
  | succ n ih52 =>
    intro ad Cn H G p4 p5 hS w0 h
    rw [lh2_s] at h
    rw [lq2_s]
    generalize lh2 (glX7_reckonShares_52 p0 p1 p2) n = self52 at ih52 h
    generalize lq2 (lX7_reckonShares_52 b0 p1 p2) n = fself52 at ih52 ⊢
    unfold glX7_reckonShares_52 at h
    unfold lX7_reckonShares_52
    obtain ⟨z1, ez1, h⟩ := bnd h
    refine rb_call (ρc := 0) (s_X7_cells hS w0 ez1) ?_
    intro ad Cn bz1 H hS hx wz1
    dsimp only
    obtain rfl : bz1 = z1.1 := wz1
    have w0 := w0.mono hx
    by_cases hc58 : p5 ≥ z1.1
    · have h := iteT hc58 h
      refine rif_t hc58 ?_
      exact slX7_reckonShares_121 6000 _ _ _ _ 0  hS w0 h
    · have h := iteF hc58 h
      refine rif_f hc58 ?_
      obtain ⟨x2, ex2, h⟩ := bnd h
      refine rb_ldr 7 10 hS w0 ex2 rfl rfl ?_
      intro bx2 wx2
      obtain ⟨x3, ex3, h⟩ := bnd h
      refine rb_ldr 7 9 hS w0 ex3 rfl rfl ?_
      intro bx3 wx3
      obtain ⟨x4, ex4, h⟩ := bnd h
      refine rb_ld 9 hS wx3 ex4 rfl rfl ?_
      by_cases hz78 : p2 = 0
      · rw [if_pos hz78] at h; cases h
      have h := iteF hz78 h
      refine rif_f hz78 ?_
      obtain ⟨G5, eG5, h⟩ := bnd h
      refine rb_st 10 hS wx2 (show rrel _ _ 0 _ _ from rfl) eG5 rfl ?_
      intro H hS
      obtain ⟨x6, ex6, h⟩ := bnd h
      refine rb_ldr 7 11 hS w0 ex6 rfl rfl ?_
      intro bx6 wx6
      obtain ⟨x7, ex7, h⟩ := bnd h
      refine rb_ldr 7 9 hS w0 ex7 rfl rfl ?_
      intro bx7 wx7
      obtain ⟨x8, ex8, h⟩ := bnd h
      refine rb_ld 9 hS wx7 ex8 rfl rfl ?_
      by_cases hz98 : p2 = 0
      · rw [if_pos hz98] at h; cases h
      have h := iteF hz98 h
      refine rif_f hz98 ?_
      obtain ⟨G9, eG9, h⟩ := bnd h
      refine rb_st 11 hS wx6 (show rrel _ _ 0 _ _ from rfl) eG9 rfl ?_
      intro H hS
      obtain ⟨x10, ex10, h⟩ := bnd h
      refine rb_ldr 7 10 hS w0 ex10 rfl rfl ?_
      intro bx10 wx10
      obtain ⟨x11, ex11, h⟩ := bnd h
      refine rb_ld 10 hS wx10 ex11 rfl rfl ?_
      exact ih52 _ _ _ _ (w32 (p4 - x11)) (w32 (p5 + 1))  hS w0  h
def glX7_reckonShares_13 (p0 p1 : Int) (self13 : Int → Int → GS → GO) (p2 p4 : Int) (G : GS) : GO :=
  (g_X7_cells p0 G).bind fun z1 => (if p4 ≥ z1.1 then (if (lc p2 0) > 0 then lh2 (glX7_reckonShares_52 p0 p1 p2) 6000 p1 0 z1.2
  else some (0, z1.2))
  else (gl 7 z1.2 p0 4).bind fun x2 => (gl 9 z1.2 x2 p4).bind fun x3 => self13 (w64 (p2 + x3)) (w32 (p4 + 1)) z1.2)
set_option maxHeartbeats 4000000 in
theorem slX7_reckonShares_13 {G' : GS} {rr : Int} {p0 p1 b0 : Int} : ∀ (n : Nat) (ad : Nat → Nat → Nat) (Cn : Nat → Nat) (H : PH) (G : GS) (p2 p4 : Int) , SimA ad Cn H G → vrel ad Cn 7 b0 p0 → lh2 (glX7_reckonShares_13 p0 p1) n p2 p4 G = some (rr, G') → RS ad Cn (lq2 (lX7_reckonShares_13 b0 p1) n p2 p4 H) 0 rr G' := by
  intro n
  induction n with
  | zero => intro ad Cn H G p2 p4 hS w0 h; cases h
  | succ n ih13 =>
    intro ad Cn H G p2 p4 hS w0 h
    rw [lh2_s] at h
    rw [lq2_s]
    generalize lh2 (glX7_reckonShares_13 p0 p1) n = self13 at ih13 h
    generalize lq2 (lX7_reckonShares_13 b0 p1) n = fself13 at ih13 ⊢
    unfold glX7_reckonShares_13 at h
    unfold lX7_reckonShares_13
    obtain ⟨z1, ez1, h⟩ := bnd h
    refine rb_call (ρc := 0) (s_X7_cells hS w0 ez1) ?_
    intro ad Cn bz1 H hS hx wz1
    dsimp only
    obtain rfl : bz1 = z1.1 := wz1
    have w0 := w0.mono hx
    by_cases hc19 : p4 ≥ z1.1
    · have h := iteT hc19 h
      refine rif_t hc19 ?_
      by_cases hc41 : (lc p2 0) > 0
      · have h := iteT hc41 h
        refine rif_t hc41 ?_
        exact slX7_reckonShares_52 6000 _ _ _ _ p1 0  hS w0 h
      · have h := iteF hc41 h
        refine rif_f hc41 ?_
        cases h
        exact rret hS rfl
    · have h := iteF hc19 h
      refine rif_f hc19 ?_
      obtain ⟨x2, ex2, h⟩ := bnd h
      refine rb_ldr 7 9 hS w0 ex2 rfl rfl ?_
      intro bx2 wx2
      obtain ⟨x3, ex3, h⟩ := bnd h
      refine rb_ld 9 hS wx2 ex3 rfl rfl ?_
      exact ih13 _ _ _ _ (w64 (p2 + x3)) (w32 (p4 + 1))  hS w0  h
def g_X7_reckonShares (a0 a1 : Int) (G : GS) : GO := gvm a0 <|
  (gl 7 G a0 5).bind fun x1 => (gfl 10 x1 0 G).bind fun z2 => lh2 (glX7_reckonShares_13 a0 a1) 6000 0 0 z2.2
set_option maxHeartbeats 4000000 in
theorem s_X7_reckonShares {ad : Nat → Nat → Nat} {Cn : Nat → Nat} {H : PH} {G G' : GS} {rr : Int} {a0 a1 b0 : Int} (hS : SimA ad Cn H G) (w0 : vrel ad Cn 7 b0 a0) (h : g_X7_reckonShares a0 a1 G = some (rr, G')) : RS ad Cn (f_X7_reckonShares b0 a1 H) 0 rr G' := by
  unfold g_X7_reckonShares at h
  unfold f_X7_reckonShares
  obtain ⟨hv, h⟩ := gvm_spec h
  refine rb_vm 7 7 hS w0 hv rfl ?_
  obtain ⟨x1, ex1, h⟩ := bnd h
  refine rb_ldr 7 10 hS w0 ex1 rfl rfl ?_
  intro bx1 wx1
  obtain ⟨z2, ez2, h⟩ := bnd h
  refine rb_call (ρc := 0) (sfl_J7_fill_53178 10 hS wx1 rfl (fun _ => rfl) ez2) ?_
  intro ad Cn bz2 H hS hx wz2
  dsimp only
  have w0 := w0.mono hx
  exact slX7_reckonShares_13 6000 _ _ _ _ 0 0  hS w0 h
/-! HouseholdVault$Table.isHeld(II)Z by roles -/
def g_X7_isHeld (a0 a1 a2 : Int) (G : GS) : GO := gvm a0 <|
  (gl 7 G a0 7).bind fun x1 => (gl 12 G x1 a1).bind fun x2 => (if (i_and (i_shr x2 a2) 1) = 0 then some (0, G)
  else some (1, G))
set_option maxHeartbeats 4000000 in
theorem s_X7_isHeld {ad : Nat → Nat → Nat} {Cn : Nat → Nat} {H : PH} {G G' : GS} {rr : Int} {a0 a1 a2 b0 : Int} (hS : SimA ad Cn H G) (w0 : vrel ad Cn 7 b0 a0) (h : g_X7_isHeld a0 a1 a2 G = some (rr, G')) : RS ad Cn (f_X7_isHeld b0 a1 a2 H) 0 rr G' := by
  unfold g_X7_isHeld at h
  unfold f_X7_isHeld
  obtain ⟨hv, h⟩ := gvm_spec h
  refine rb_vm 7 7 hS w0 hv rfl ?_
  obtain ⟨x1, ex1, h⟩ := bnd h
  refine rb_ldr 7 12 hS w0 ex1 rfl rfl ?_
  intro bx1 wx1
  obtain ⟨x2, ex2, h⟩ := bnd h
  refine rb_ld 12 hS wx1 ex2 rfl rfl ?_
  by_cases hc10 : (i_and (i_shr x2 a2) 1) = 0
  · have h := iteT hc10 h
    refine rif_t hc10 ?_
    cases h
    exact rret hS rfl
  · have h := iteF hc10 h
    refine rif_f hc10 ?_
    cases h
    exact rret hS rfl
/-! HouseholdVault$Table.hold(II)V by roles -/
def g_X7_hold (a0 a1 a2 : Int) (G : GS) : GO := gvm a0 <|
  (gl 7 G a0 7).bind fun x1 => (gl 12 G x1 a1).bind fun x2 => (gs 12 G x1 a1 (i_or x2 (i_shl 1 a2))).bind fun G3 => (gl 7 G3 a0 8).bind fun x4 => (gs 7 G3 a0 8 (w32 (x4 + 1))).bind fun G5 => some (0, G5)
set_option maxHeartbeats 4000000 in
theorem s_X7_hold {ad : Nat → Nat → Nat} {Cn : Nat → Nat} {H : PH} {G G' : GS} {rr : Int} {a0 a1 a2 b0 : Int} (hS : SimA ad Cn H G) (w0 : vrel ad Cn 7 b0 a0) (h : g_X7_hold a0 a1 a2 G = some (rr, G')) : RS ad Cn (f_X7_hold b0 a1 a2 H) 0 rr G' := by
  unfold g_X7_hold at h
  unfold f_X7_hold
  obtain ⟨hv, h⟩ := gvm_spec h
  refine rb_vm 7 7 hS w0 hv rfl ?_
  obtain ⟨x1, ex1, h⟩ := bnd h
  refine rb_ldr 7 12 hS w0 ex1 rfl rfl ?_
  intro bx1 wx1
  obtain ⟨x2, ex2, h⟩ := bnd h
  refine rb_ld 12 hS wx1 ex2 rfl rfl ?_
  obtain ⟨G3, eG3, h⟩ := bnd h
  refine rb_st 12 hS wx1 (show rrel _ _ 0 _ _ from rfl) eG3 rfl ?_
  intro H hS
  obtain ⟨x4, ex4, h⟩ := bnd h
  refine rb_ld 7 hS w0 ex4 rfl rfl ?_
  obtain ⟨G5, eG5, h⟩ := bnd h
  refine rb_st 7 hS w0 (show rrel _ _ 0 _ _ from rfl) eG5 rfl ?_
  intro H hS
  cases h
  exact rret hS rfl
/-! HouseholdVault$Table.holdBelow(I)V by roles -/
def gjX7_holdBelow_54 (self6 : Int → GS → GO) (self16 : Int → GS → GO) (p0 p1 p2 p3 : Int) (G : GS) : GO :=
  self16 (w32 (p3 + 1)) G
set_option maxHeartbeats 4000000 in
theorem sjX7_holdBelow_54 {ad : Nat → Nat → Nat} {Cn : Nat → Nat} {H : PH} {G G' : GS} {rr : Int} {fself6 : Int → PH → RO} {self6 : Int → GS → GO} {fself16 : Int → PH → RO} {self16 : Int → GS → GO} {p0 p1 p2 p3 b0 : Int} (ih6 : ∀ (ad : Nat → Nat → Nat) (Cn : Nat → Nat) (H : PH) (G : GS) (v2 : Int) , SimA ad Cn H G → vrel ad Cn 7 b0 p0 → self6 v2 G = some (rr, G') → RS ad Cn (fself6 v2 H) 0 rr G') (ih16 : ∀ (ad : Nat → Nat → Nat) (Cn : Nat → Nat) (H : PH) (G : GS) (v3 : Int) , SimA ad Cn H G → vrel ad Cn 7 b0 p0 → self16 v3 G = some (rr, G') → RS ad Cn (fself16 v3 H) 0 rr G') (hS : SimA ad Cn H G) (w0 : vrel ad Cn 7 b0 p0) (h : gjX7_holdBelow_54 self6 self16 p0 p1 p2 p3 G = some (rr, G')) : RS ad Cn (jX7_holdBelow_54 fself6 fself16 b0 p1 p2 p3 H) 0 rr G' := by
  unfold gjX7_holdBelow_54 at h
  unfold jX7_holdBelow_54
  exact ih16 _ _ _ _ (w32 (p3 + 1))  hS w0  h
def glX7_holdBelow_16 (self6 : Int → GS → GO) (p0 p1 p2 : Int) (self16 : Int → GS → GO) (p3 : Int) (G : GS) : GO :=
  (gl 7 G p0 1).bind fun x1 => (if p3 ≥ x1 then self6 (w32 (p2 + 1)) G
  else (gl 7 G p0 3).bind fun x2 => (g_X7_at p0 p2 p3 G).bind fun z3 => (gl 8 z3.2 x2 z3.1).bind fun x4 => (if x4 ≤ 0 then gjX7_holdBelow_54 self6 self16 p0 p1 p2 p3 z3.2
  else (if x4 ≥ p1 then gjX7_holdBelow_54 self6 self16 p0 p1 p2 p3 z3.2
  else (g_X7_hold p0 p2 p3 z3.2).bind fun z5 => gjX7_holdBelow_54 self6 self16 p0 p1 p2 p3 z5.2)))
set_option maxHeartbeats 4000000 in
theorem slX7_holdBelow_16 {G' : GS} {rr : Int} {fself6 : Int → PH → RO} {self6 : Int → GS → GO} {p0 p1 p2 b0 : Int} (ih6 : ∀ (ad : Nat → Nat → Nat) (Cn : Nat → Nat) (H : PH) (G : GS) (v2 : Int) , SimA ad Cn H G → vrel ad Cn 7 b0 p0 → self6 v2 G = some (rr, G') → RS ad Cn (fself6 v2 H) 0 rr G') : ∀ (n : Nat) (ad : Nat → Nat → Nat) (Cn : Nat → Nat) (H : PH) (G : GS) (p3 : Int) , SimA ad Cn H G → vrel ad Cn 7 b0 p0 → lh1 (glX7_holdBelow_16 self6 p0 p1 p2) n p3 G = some (rr, G') → RS ad Cn (lq1 (lX7_holdBelow_16 fself6 b0 p1 p2) n p3 H) 0 rr G' := by
  intro n
  induction n with
  | zero => intro ad Cn H G p3 hS w0 h; cases h
  | succ n ih16 =>
    intro ad Cn H G p3 hS w0 h
    rw [lh1_s] at h
    rw [lq1_s]
    generalize lh1 (glX7_holdBelow_16 self6 p0 p1 p2) n = self16 at ih16 h
    generalize lq1 (lX7_holdBelow_16 fself6 b0 p1 p2) n = fself16 at ih16 ⊢
    unfold glX7_holdBelow_16 at h
    unfold lX7_holdBelow_16
    obtain ⟨x1, ex1, h⟩ := bnd h
    refine rb_ld 7 hS w0 ex1 rfl rfl ?_
    by_cases hc21 : p3 ≥ x1
    · have h := iteT hc21 h
      refine rif_t hc21 ?_
      exact ih6 _ _ _ _ (w32 (p2 + 1))  hS w0  h
    · have h := iteF hc21 h
      refine rif_f hc21 ?_
      obtain ⟨x2, ex2, h⟩ := bnd h
      refine rb_ldr 7 8 hS w0 ex2 rfl rfl ?_
      intro bx2 wx2
      obtain ⟨z3, ez3, h⟩ := bnd h
      refine rb_call (ρc := 0) (s_X7_at hS w0 ez3) ?_
      intro ad Cn bz3 H hS hx wz3
      dsimp only
      obtain rfl : bz3 = z3.1 := wz3
      have w0 := w0.mono hx
      have wx2 := wx2.mono hx
      obtain ⟨x4, ex4, h⟩ := bnd h
      refine rb_ld 8 hS wx2 ex4 rfl rfl ?_
      by_cases hc39 : x4 ≤ 0
      · have h := iteT hc39 h
        refine rif_t hc39 ?_
        exact sjX7_holdBelow_54 ih6 ih16 hS w0 h
      · have h := iteF hc39 h
        refine rif_f hc39 ?_
        by_cases hc45 : x4 ≥ p1
        · have h := iteT hc45 h
          refine rif_t hc45 ?_
          exact sjX7_holdBelow_54 ih6 ih16 hS w0 h
        · have h := iteF hc45 h
          refine rif_f hc45 ?_
          obtain ⟨z5, ez5, h⟩ := bnd h
          refine rb_call (ρc := 0) (s_X7_hold hS w0 ez5) ?_
          intro ad Cn bz5 H hS hx wz5
          dsimp only
          obtain rfl : bz5 = z5.1 := wz5
          have w0 := w0.mono hx
          exact sjX7_holdBelow_54 ih6 ih16 hS w0 h
def glX7_holdBelow_6 (p0 p1 : Int) (self6 : Int → GS → GO) (p2 : Int) (G : GS) : GO :=
  (gl 7 G p0 0).bind fun x1 => (if p2 ≥ x1 then some (0, G)
  else lh1 (glX7_holdBelow_16 self6 p0 p1 p2) 6000 0 G)
set_option maxHeartbeats 4000000 in
theorem slX7_holdBelow_6 {G' : GS} {rr : Int} {p0 p1 b0 : Int} : ∀ (n : Nat) (ad : Nat → Nat → Nat) (Cn : Nat → Nat) (H : PH) (G : GS) (p2 : Int) , SimA ad Cn H G → vrel ad Cn 7 b0 p0 → lh1 (glX7_holdBelow_6 p0 p1) n p2 G = some (rr, G') → RS ad Cn (lq1 (lX7_holdBelow_6 b0 p1) n p2 H) 0 rr G' := by
  intro n
  induction n with
  | zero => intro ad Cn H G p2 hS w0 h; cases h
  | succ n ih6 =>
    intro ad Cn H G p2 hS w0 h
    rw [lh1_s] at h
    rw [lq1_s]
    generalize lh1 (glX7_holdBelow_6 p0 p1) n = self6 at ih6 h
    generalize lq1 (lX7_holdBelow_6 b0 p1) n = fself6 at ih6 ⊢
    unfold glX7_holdBelow_6 at h
    unfold lX7_holdBelow_6
    obtain ⟨x1, ex1, h⟩ := bnd h
    refine rb_ld 7 hS w0 ex1 rfl rfl ?_
    by_cases hc11 : p2 ≥ x1
    · have h := iteT hc11 h
      refine rif_t hc11 ?_
      cases h
      exact rret hS rfl
    · have h := iteF hc11 h
      refine rif_f hc11 ?_
      exact slX7_holdBelow_16 ih6 6000 _ _ _ _ 0  hS w0 h
def g_X7_holdBelow (a0 a1 : Int) (G : GS) : GO := gvm a0 <|
  (g_X7_holdNone a0 G).bind fun z1 => lh1 (glX7_holdBelow_6 a0 a1) 6000 0 z1.2
set_option maxHeartbeats 4000000 in
theorem s_X7_holdBelow {ad : Nat → Nat → Nat} {Cn : Nat → Nat} {H : PH} {G G' : GS} {rr : Int} {a0 a1 b0 : Int} (hS : SimA ad Cn H G) (w0 : vrel ad Cn 7 b0 a0) (h : g_X7_holdBelow a0 a1 G = some (rr, G')) : RS ad Cn (f_X7_holdBelow b0 a1 H) 0 rr G' := by
  unfold g_X7_holdBelow at h
  unfold f_X7_holdBelow
  obtain ⟨hv, h⟩ := gvm_spec h
  refine rb_vm 7 7 hS w0 hv rfl ?_
  obtain ⟨z1, ez1, h⟩ := bnd h
  refine rb_call (ρc := 0) (s_X7_holdNone hS w0 ez1) ?_
  intro ad Cn bz1 H hS hx wz1
  dsimp only
  obtain rfl : bz1 = z1.1 := wz1
  have w0 := w0.mono hx
  exact slX7_holdBelow_6 6000 _ _ _ _ 0  hS w0 h
/-! HouseholdVault$Table.isFree(II)Z by roles -/
def gjX7_isFree_89 (self37 : Int → Int → GS → GO) (self52 : Int → Int → GS → GO) (p0 p1 p2 p3 p4 p5 p6 : Int) (G : GS) : GO :=
  self52 p3 (w32 (p6 + 1)) G
set_option maxHeartbeats 4000000 in
theorem sjX7_isFree_89 {ad : Nat → Nat → Nat} {Cn : Nat → Nat} {H : PH} {G G' : GS} {rr : Int} {fself37 : Int → Int → PH → RO} {self37 : Int → Int → GS → GO} {fself52 : Int → Int → PH → RO} {self52 : Int → Int → GS → GO} {p0 p1 p2 p3 p4 p5 p6 b0 : Int} (ih37 : ∀ (ad : Nat → Nat → Nat) (Cn : Nat → Nat) (H : PH) (G : GS) (v3 v4 : Int) , SimA ad Cn H G → vrel ad Cn 7 b0 p0 → self37 v3 v4 G = some (rr, G') → RS ad Cn (fself37 v3 v4 H) 0 rr G') (ih52 : ∀ (ad : Nat → Nat → Nat) (Cn : Nat → Nat) (H : PH) (G : GS) (v3 v6 : Int) , SimA ad Cn H G → vrel ad Cn 7 b0 p0 → self52 v3 v6 G = some (rr, G') → RS ad Cn (fself52 v3 v6 H) 0 rr G') (hS : SimA ad Cn H G) (w0 : vrel ad Cn 7 b0 p0) (h : gjX7_isFree_89 self37 self52 p0 p1 p2 p3 p4 p5 p6 G = some (rr, G')) : RS ad Cn (jX7_isFree_89 fself37 fself52 b0 p1 p2 p3 p4 p5 p6 H) 0 rr G' := by
  unfold gjX7_isFree_89 at h
  unfold jX7_isFree_89
  exact ih52 _ _ _ _ p3 (w32 (p6 + 1))  hS w0  h
def glX7_isFree_52 (self37 : Int → Int → GS → GO) (p0 p1 p2 p4 p5 : Int) (self52 : Int → Int → GS → GO) (p3 p6 : Int) (G : GS) : GO :=
  (gl 7 G p0 0).bind fun x1 => (if p6 ≥ x1 then (if (i_and (i_shr p3 p2) 1) = 0 then (if p3 ≠ p5 then self37 p3 (w32 (p4 + 1)) G
  else some (0, G))
  else some (1, G))
  else (if p6 = p1 then gjX7_isFree_89 self37 self52 p0 p1 p2 p3 p4 p5 p6 G
  else (gl 7 G p0 7).bind fun x2 => (gl 12 G x2 p6).bind fun x3 => (if (i_and x3 p3) = 0 then gjX7_isFree_89 self37 self52 p0 p1 p2 p3 p4 p5 p6 G
  else (gl 7 G p0 7).bind fun x4 => (gl 12 G x4 p6).bind fun x5 => gjX7_isFree_89 self37 self52 p0 p1 p2 (i_or p3 x5) p4 p5 p6 G)))
set_option maxHeartbeats 4000000 in
theorem slX7_isFree_52 {G' : GS} {rr : Int} {fself37 : Int → Int → PH → RO} {self37 : Int → Int → GS → GO} {p0 p1 p2 p4 p5 b0 : Int} (ih37 : ∀ (ad : Nat → Nat → Nat) (Cn : Nat → Nat) (H : PH) (G : GS) (v3 v4 : Int) , SimA ad Cn H G → vrel ad Cn 7 b0 p0 → self37 v3 v4 G = some (rr, G') → RS ad Cn (fself37 v3 v4 H) 0 rr G') : ∀ (n : Nat) (ad : Nat → Nat → Nat) (Cn : Nat → Nat) (H : PH) (G : GS) (p3 p6 : Int) , SimA ad Cn H G → vrel ad Cn 7 b0 p0 → lh2 (glX7_isFree_52 self37 p0 p1 p2 p4 p5) n p3 p6 G = some (rr, G') → RS ad Cn (lq2 (lX7_isFree_52 fself37 b0 p1 p2 p4 p5) n p3 p6 H) 0 rr G' := by
  intro n
  induction n with
  | zero => intro ad Cn H G p3 p6 hS w0 h; cases h
  | succ n ih52 =>
    intro ad Cn H G p3 p6 hS w0 h
    rw [lh2_s] at h
    rw [lq2_s]
    generalize lh2 (glX7_isFree_52 self37 p0 p1 p2 p4 p5) n = self52 at ih52 h
    generalize lq2 (lX7_isFree_52 fself37 b0 p1 p2 p4 p5) n = fself52 at ih52 ⊢
    unfold glX7_isFree_52 at h
    unfold lX7_isFree_52
    obtain ⟨x1, ex1, h⟩ := bnd h
    refine rb_ld 7 hS w0 ex1 rfl rfl ?_
    by_cases hc58 : p6 ≥ x1
    · have h := iteT hc58 h
      refine rif_t hc58 ?_
      by_cases hc100 : (i_and (i_shr p3 p2) 1) = 0
      · have h := iteT hc100 h
        refine rif_t hc100 ?_
        by_cases hc108 : p3 ≠ p5
        · have h := iteT hc108 h
          refine rif_t hc108 ?_
          exact ih37 _ _ _ _ p3 (w32 (p4 + 1))  hS w0  h
        · have h := iteF hc108 h
          refine rif_f hc108 ?_
          cases h
          exact rret hS rfl
      · have h := iteF hc100 h
        refine rif_f hc100 ?_
        cases h
        exact rret hS rfl
    · have h := iteF hc58 h
      refine rif_f hc58 ?_
      by_cases hc64 : p6 = p1
      · have h := iteT hc64 h
        refine rif_t hc64 ?_
        exact sjX7_isFree_89 ih37 ih52 hS w0 h
      · have h := iteF hc64 h
        refine rif_f hc64 ?_
        obtain ⟨x2, ex2, h⟩ := bnd h
        refine rb_ldr 7 12 hS w0 ex2 rfl rfl ?_
        intro bx2 wx2
        obtain ⟨x3, ex3, h⟩ := bnd h
        refine rb_ld 12 hS wx2 ex3 rfl rfl ?_
        by_cases hc76 : (i_and x3 p3) = 0
        · have h := iteT hc76 h
          refine rif_t hc76 ?_
          exact sjX7_isFree_89 ih37 ih52 hS w0 h
        · have h := iteF hc76 h
          refine rif_f hc76 ?_
          obtain ⟨x4, ex4, h⟩ := bnd h
          refine rb_ldr 7 12 hS w0 ex4 rfl rfl ?_
          intro bx4 wx4
          obtain ⟨x5, ex5, h⟩ := bnd h
          refine rb_ld 12 hS wx4 ex5 rfl rfl ?_
          exact sjX7_isFree_89 ih37 ih52 hS w0 h
def glX7_isFree_37 (p0 p1 p2 : Int) (self37 : Int → Int → GS → GO) (p3 p4 : Int) (G : GS) : GO :=
  (gl 7 G p0 0).bind fun x1 => (if p4 ≥ x1 then some (0, G)
  else lh2 (glX7_isFree_52 self37 p0 p1 p2 p4 p3) 6000 p3 0 G)
set_option maxHeartbeats 4000000 in
theorem slX7_isFree_37 {G' : GS} {rr : Int} {p0 p1 p2 b0 : Int} : ∀ (n : Nat) (ad : Nat → Nat → Nat) (Cn : Nat → Nat) (H : PH) (G : GS) (p3 p4 : Int) , SimA ad Cn H G → vrel ad Cn 7 b0 p0 → lh2 (glX7_isFree_37 p0 p1 p2) n p3 p4 G = some (rr, G') → RS ad Cn (lq2 (lX7_isFree_37 b0 p1 p2) n p3 p4 H) 0 rr G' := by
  intro n
  induction n with
  | zero => intro ad Cn H G p3 p4 hS w0 h; cases h
  | succ n ih37 =>
    intro ad Cn H G p3 p4 hS w0 h
    rw [lh2_s] at h
    rw [lq2_s]
    generalize lh2 (glX7_isFree_37 p0 p1 p2) n = self37 at ih37 h
    generalize lq2 (lX7_isFree_37 b0 p1 p2) n = fself37 at ih37 ⊢
    unfold glX7_isFree_37 at h
    unfold lX7_isFree_37
    obtain ⟨x1, ex1, h⟩ := bnd h
    refine rb_ld 7 hS w0 ex1 rfl rfl ?_
    by_cases hc43 : p4 ≥ x1
    · have h := iteT hc43 h
      refine rif_t hc43 ?_
      cases h
      exact rret hS rfl
    · have h := iteF hc43 h
      refine rif_f hc43 ?_
      exact slX7_isFree_52 ih37 6000 _ _ _ _ p3 0  hS w0 h
def g_X7_isFree (a0 a1 a2 : Int) (G : GS) : GO := gvm a0 <|
  (gl 7 G a0 2).bind fun x1 => (if x1 ≠ 0 then (gl 7 G a0 7).bind fun x2 => (gl 12 G x2 a1).bind fun x3 => lh2 (glX7_isFree_37 a0 a1 a2) 6000 (i_and x3 (i_xor (i_shl 1 a2) (-1))) 0 G
  else (gl 7 G a0 8).bind fun x4 => (if x4 ≤ 1 then some (0, G)
  else some (1, G)))
set_option maxHeartbeats 4000000 in
theorem s_X7_isFree {ad : Nat → Nat → Nat} {Cn : Nat → Nat} {H : PH} {G G' : GS} {rr : Int} {a0 a1 a2 b0 : Int} (hS : SimA ad Cn H G) (w0 : vrel ad Cn 7 b0 a0) (h : g_X7_isFree a0 a1 a2 G = some (rr, G')) : RS ad Cn (f_X7_isFree b0 a1 a2 H) 0 rr G' := by
  unfold g_X7_isFree at h
  unfold f_X7_isFree
  obtain ⟨hv, h⟩ := gvm_spec h
  refine rb_vm 7 7 hS w0 hv rfl ?_
  obtain ⟨x1, ex1, h⟩ := bnd h
  refine rb_ld 7 hS w0 ex1 rfl rfl ?_
  by_cases hc4 : x1 ≠ 0
  · have h := iteT hc4 h
    refine rif_t hc4 ?_
    obtain ⟨x2, ex2, h⟩ := bnd h
    refine rb_ldr 7 12 hS w0 ex2 rfl rfl ?_
    intro bx2 wx2
    obtain ⟨x3, ex3, h⟩ := bnd h
    refine rb_ld 12 hS wx2 ex3 rfl rfl ?_
    exact slX7_isFree_37 6000 _ _ _ _ (i_and x3 (i_xor (i_shl 1 a2) (-1))) 0  hS w0 h
  · have h := iteF hc4 h
    refine rif_f hc4 ?_
    obtain ⟨x4, ex4, h⟩ := bnd h
    refine rb_ld 7 hS w0 ex4 rfl rfl ?_
    by_cases hc12 : x4 ≤ 1
    · have h := iteT hc12 h
      refine rif_t hc12 ?_
      cases h
      exact rret hS rfl
    · have h := iteF hc12 h
      refine rif_f hc12 ?_
      cases h
      exact rret hS rfl
/-! HouseholdVault$Table.firstFollowing()I by roles -/
def gjX7_firstFollowing_45 (self2 : Int → GS → GO) (self12 : Int → GS → GO) (p0 p1 p2 : Int) (G : GS) : GO :=
  self12 (w32 (p2 + 1)) G
set_option maxHeartbeats 4000000 in
theorem sjX7_firstFollowing_45 {ad : Nat → Nat → Nat} {Cn : Nat → Nat} {H : PH} {G G' : GS} {rr : Int} {fself2 : Int → PH → RO} {self2 : Int → GS → GO} {fself12 : Int → PH → RO} {self12 : Int → GS → GO} {p0 p1 p2 b0 : Int} (ih2 : ∀ (ad : Nat → Nat → Nat) (Cn : Nat → Nat) (H : PH) (G : GS) (v1 : Int) , SimA ad Cn H G → vrel ad Cn 7 b0 p0 → self2 v1 G = some (rr, G') → RS ad Cn (fself2 v1 H) 0 rr G') (ih12 : ∀ (ad : Nat → Nat → Nat) (Cn : Nat → Nat) (H : PH) (G : GS) (v2 : Int) , SimA ad Cn H G → vrel ad Cn 7 b0 p0 → self12 v2 G = some (rr, G') → RS ad Cn (fself12 v2 H) 0 rr G') (hS : SimA ad Cn H G) (w0 : vrel ad Cn 7 b0 p0) (h : gjX7_firstFollowing_45 self2 self12 p0 p1 p2 G = some (rr, G')) : RS ad Cn (jX7_firstFollowing_45 fself2 fself12 b0 p1 p2 H) 0 rr G' := by
  unfold gjX7_firstFollowing_45 at h
  unfold jX7_firstFollowing_45
  exact ih12 _ _ _ _ (w32 (p2 + 1))  hS w0  h
def glX7_firstFollowing_12 (self2 : Int → GS → GO) (p0 p1 : Int) (self12 : Int → GS → GO) (p2 : Int) (G : GS) : GO :=
  (gl 7 G p0 1).bind fun x1 => (if p2 ≥ x1 then self2 (w32 (p1 + 1)) G
  else (g_X7_isHeld p0 p1 p2 G).bind fun z2 => (if z2.1 = 0 then gjX7_firstFollowing_45 self2 self12 p0 p1 p2 z2.2
  else (g_X7_isFree p0 p1 p2 z2.2).bind fun z3 => (if z3.1 ≠ 0 then gjX7_firstFollowing_45 self2 self12 p0 p1 p2 z3.2
  else (g_X7_at p0 p1 p2 z3.2).bind fun z4 => some (z4.1, z4.2))))
set_option maxHeartbeats 4000000 in
theorem slX7_firstFollowing_12 {G' : GS} {rr : Int} {fself2 : Int → PH → RO} {self2 : Int → GS → GO} {p0 p1 b0 : Int} (ih2 : ∀ (ad : Nat → Nat → Nat) (Cn : Nat → Nat) (H : PH) (G : GS) (v1 : Int) , SimA ad Cn H G → vrel ad Cn 7 b0 p0 → self2 v1 G = some (rr, G') → RS ad Cn (fself2 v1 H) 0 rr G') : ∀ (n : Nat) (ad : Nat → Nat → Nat) (Cn : Nat → Nat) (H : PH) (G : GS) (p2 : Int) , SimA ad Cn H G → vrel ad Cn 7 b0 p0 → lh1 (glX7_firstFollowing_12 self2 p0 p1) n p2 G = some (rr, G') → RS ad Cn (lq1 (lX7_firstFollowing_12 fself2 b0 p1) n p2 H) 0 rr G' := by
  intro n
  induction n with
  | zero => intro ad Cn H G p2 hS w0 h; cases h
  | succ n ih12 =>
    intro ad Cn H G p2 hS w0 h
    rw [lh1_s] at h
    rw [lq1_s]
    generalize lh1 (glX7_firstFollowing_12 self2 p0 p1) n = self12 at ih12 h
    generalize lq1 (lX7_firstFollowing_12 fself2 b0 p1) n = fself12 at ih12 ⊢
    unfold glX7_firstFollowing_12 at h
    unfold lX7_firstFollowing_12
    obtain ⟨x1, ex1, h⟩ := bnd h
    refine rb_ld 7 hS w0 ex1 rfl rfl ?_
    by_cases hc17 : p2 ≥ x1
    · have h := iteT hc17 h
      refine rif_t hc17 ?_
      exact ih2 _ _ _ _ (w32 (p1 + 1))  hS w0  h
    · have h := iteF hc17 h
      refine rif_f hc17 ?_
      obtain ⟨z2, ez2, h⟩ := bnd h
      refine rb_call (ρc := 0) (s_X7_isHeld hS w0 ez2) ?_
      intro ad Cn bz2 H hS hx wz2
      dsimp only
      obtain rfl : bz2 = z2.1 := wz2
      have w0 := w0.mono hx
      by_cases hc26 : z2.1 = 0
      · have h := iteT hc26 h
        refine rif_t hc26 ?_
        exact sjX7_firstFollowing_45 ih2 ih12 hS w0 h
      · have h := iteF hc26 h
        refine rif_f hc26 ?_
        obtain ⟨z3, ez3, h⟩ := bnd h
        refine rb_call (ρc := 0) (s_X7_isFree hS w0 ez3) ?_
        intro ad Cn bz3 H hS hx wz3
        dsimp only
        obtain rfl : bz3 = z3.1 := wz3
        have w0 := w0.mono hx
        by_cases hc35 : z3.1 ≠ 0
        · have h := iteT hc35 h
          refine rif_t hc35 ?_
          exact sjX7_firstFollowing_45 ih2 ih12 hS w0 h
        · have h := iteF hc35 h
          refine rif_f hc35 ?_
          obtain ⟨z4, ez4, h⟩ := bnd h
          refine rb_call (ρc := 0) (s_X7_at hS w0 ez4) ?_
          intro ad Cn bz4 H hS hx wz4
          dsimp only
          obtain rfl : bz4 = z4.1 := wz4
          have w0 := w0.mono hx
          cases h
          exact rret hS rfl
def glX7_firstFollowing_2 (p0 : Int) (self2 : Int → GS → GO) (p1 : Int) (G : GS) : GO :=
  (gl 7 G p0 0).bind fun x1 => (if p1 ≥ x1 then some ((-1), G)
  else lh1 (glX7_firstFollowing_12 self2 p0 p1) 6000 0 G)
set_option maxHeartbeats 4000000 in
theorem slX7_firstFollowing_2 {G' : GS} {rr : Int} {p0 b0 : Int} : ∀ (n : Nat) (ad : Nat → Nat → Nat) (Cn : Nat → Nat) (H : PH) (G : GS) (p1 : Int) , SimA ad Cn H G → vrel ad Cn 7 b0 p0 → lh1 (glX7_firstFollowing_2 p0) n p1 G = some (rr, G') → RS ad Cn (lq1 (lX7_firstFollowing_2 b0) n p1 H) 0 rr G' := by
  intro n
  induction n with
  | zero => intro ad Cn H G p1 hS w0 h; cases h
  | succ n ih2 =>
    intro ad Cn H G p1 hS w0 h
    rw [lh1_s] at h
    rw [lq1_s]
    generalize lh1 (glX7_firstFollowing_2 p0) n = self2 at ih2 h
    generalize lq1 (lX7_firstFollowing_2 b0) n = fself2 at ih2 ⊢
    unfold glX7_firstFollowing_2 at h
    unfold lX7_firstFollowing_2
    obtain ⟨x1, ex1, h⟩ := bnd h
    refine rb_ld 7 hS w0 ex1 rfl rfl ?_
    by_cases hc7 : p1 ≥ x1
    · have h := iteT hc7 h
      refine rif_t hc7 ?_
      cases h
      exact rret hS rfl
    · have h := iteF hc7 h
      refine rif_f hc7 ?_
      exact slX7_firstFollowing_12 ih2 6000 _ _ _ _ 0  hS w0 h
def g_X7_firstFollowing (a0 : Int) (G : GS) : GO := gvm a0 <|
  lh1 (glX7_firstFollowing_2 a0) 6000 0 G
set_option maxHeartbeats 4000000 in
theorem s_X7_firstFollowing {ad : Nat → Nat → Nat} {Cn : Nat → Nat} {H : PH} {G G' : GS} {rr : Int} {a0 b0 : Int} (hS : SimA ad Cn H G) (w0 : vrel ad Cn 7 b0 a0) (h : g_X7_firstFollowing a0 G = some (rr, G')) : RS ad Cn (f_X7_firstFollowing b0 H) 0 rr G' := by
  unfold g_X7_firstFollowing at h
  unfold f_X7_firstFollowing
  obtain ⟨hv, h⟩ := gvm_spec h
  refine rb_vm 7 7 hS w0 hv rfl ?_
  exact slX7_firstFollowing_2 6000 _ _ _ _ 0  hS w0 h
/-! HouseholdVault$Table.leastOpen(IIII)I by roles -/
def gjX7_leastOpen_75 (self6 : Int → Int → GS → GO) (self15 : Int → Int → GS → GO) (p0 p2 p3 p4 p5 p6 p7 : Int) (G : GS) : GO :=
  self15 p5 (w32 (p7 + 1)) G
set_option maxHeartbeats 4000000 in
theorem sjX7_leastOpen_75 {ad : Nat → Nat → Nat} {Cn : Nat → Nat} {H : PH} {G G' : GS} {rr : Int} {fself6 : Int → Int → PH → RO} {self6 : Int → Int → GS → GO} {fself15 : Int → Int → PH → RO} {self15 : Int → Int → GS → GO} {p0 p2 p3 p4 p5 p6 p7 b0 : Int} (ih6 : ∀ (ad : Nat → Nat → Nat) (Cn : Nat → Nat) (H : PH) (G : GS) (v5 v6 : Int) , SimA ad Cn H G → vrel ad Cn 7 b0 p0 → self6 v5 v6 G = some (rr, G') → RS ad Cn (fself6 v5 v6 H) 0 rr G') (ih15 : ∀ (ad : Nat → Nat → Nat) (Cn : Nat → Nat) (H : PH) (G : GS) (v5 v7 : Int) , SimA ad Cn H G → vrel ad Cn 7 b0 p0 → self15 v5 v7 G = some (rr, G') → RS ad Cn (fself15 v5 v7 H) 0 rr G') (hS : SimA ad Cn H G) (w0 : vrel ad Cn 7 b0 p0) (h : gjX7_leastOpen_75 self6 self15 p0 p2 p3 p4 p5 p6 p7 G = some (rr, G')) : RS ad Cn (jX7_leastOpen_75 fself6 fself15 b0 p2 p3 p4 p5 p6 p7 H) 0 rr G' := by
  unfold gjX7_leastOpen_75 at h
  unfold jX7_leastOpen_75
  exact ih15 _ _ _ _ p5 (w32 (p7 + 1))  hS w0  h
def gjX7_leastOpen_65 (self6 : Int → Int → GS → GO) (self15 : Int → Int → GS → GO) (p0 p2 p3 p4 p6 p7 : Int) (G : GS) : GO :=
  (g_X7_at p0 p6 p7 G).bind fun z1 => gjX7_leastOpen_75 self6 self15 p0 p2 p3 p4 z1.1 p6 p7 z1.2
set_option maxHeartbeats 4000000 in
theorem sjX7_leastOpen_65 {ad : Nat → Nat → Nat} {Cn : Nat → Nat} {H : PH} {G G' : GS} {rr : Int} {fself6 : Int → Int → PH → RO} {self6 : Int → Int → GS → GO} {fself15 : Int → Int → PH → RO} {self15 : Int → Int → GS → GO} {p0 p2 p3 p4 p6 p7 b0 : Int} (ih6 : ∀ (ad : Nat → Nat → Nat) (Cn : Nat → Nat) (H : PH) (G : GS) (v5 v6 : Int) , SimA ad Cn H G → vrel ad Cn 7 b0 p0 → self6 v5 v6 G = some (rr, G') → RS ad Cn (fself6 v5 v6 H) 0 rr G') (ih15 : ∀ (ad : Nat → Nat → Nat) (Cn : Nat → Nat) (H : PH) (G : GS) (v5 v7 : Int) , SimA ad Cn H G → vrel ad Cn 7 b0 p0 → self15 v5 v7 G = some (rr, G') → RS ad Cn (fself15 v5 v7 H) 0 rr G') (hS : SimA ad Cn H G) (w0 : vrel ad Cn 7 b0 p0) (h : gjX7_leastOpen_65 self6 self15 p0 p2 p3 p4 p6 p7 G = some (rr, G')) : RS ad Cn (jX7_leastOpen_65 fself6 fself15 b0 p2 p3 p4 p6 p7 H) 0 rr G' := by
  unfold gjX7_leastOpen_65 at h
  unfold jX7_leastOpen_65
  obtain ⟨z1, ez1, h⟩ := bnd h
  refine rb_call (ρc := 0) (s_X7_at hS w0 ez1) ?_
  intro ad Cn bz1 H hS hx wz1
  dsimp only
  obtain rfl : bz1 = z1.1 := wz1
  have w0 := w0.mono hx
  exact sjX7_leastOpen_75 ih6 ih15 hS w0 h
def glX7_leastOpen_15 (self6 : Int → Int → GS → GO) (p0 p2 p3 p4 p6 : Int) (self15 : Int → Int → GS → GO) (p5 p7 : Int) (G : GS) : GO :=
  (if p7 ≥ p4 then self6 p5 (w32 (p6 + 1)) G
  else (g_X7_isHeld p0 p6 p7 G).bind fun z1 => (if z1.1 = 0 then (if p5 = (-1) then gjX7_leastOpen_65 self6 self15 p0 p2 p3 p4 p6 p7 z1.2
  else (gl 7 z1.2 p0 3).bind fun x2 => (g_X7_at p0 p6 p7 z1.2).bind fun z3 => (gl 8 z3.2 x2 z3.1).bind fun x4 => (gl 7 z3.2 p0 3).bind fun x5 => (gl 8 z3.2 x5 p5).bind fun x6 => (if x4 ≥ x6 then gjX7_leastOpen_75 self6 self15 p0 p2 p3 p4 p5 p6 p7 z3.2
  else gjX7_leastOpen_65 self6 self15 p0 p2 p3 p4 p6 p7 z3.2))
  else gjX7_leastOpen_75 self6 self15 p0 p2 p3 p4 p5 p6 p7 z1.2))
set_option maxHeartbeats 4000000 in
theorem slX7_leastOpen_15 {G' : GS} {rr : Int} {fself6 : Int → Int → PH → RO} {self6 : Int → Int → GS → GO} {p0 p2 p3 p4 p6 b0 : Int} (ih6 : ∀ (ad : Nat → Nat → Nat) (Cn : Nat → Nat) (H : PH) (G : GS) (v5 v6 : Int) , SimA ad Cn H G → vrel ad Cn 7 b0 p0 → self6 v5 v6 G = some (rr, G') → RS ad Cn (fself6 v5 v6 H) 0 rr G') : ∀ (n : Nat) (ad : Nat → Nat → Nat) (Cn : Nat → Nat) (H : PH) (G : GS) (p5 p7 : Int) , SimA ad Cn H G → vrel ad Cn 7 b0 p0 → lh2 (glX7_leastOpen_15 self6 p0 p2 p3 p4 p6) n p5 p7 G = some (rr, G') → RS ad Cn (lq2 (lX7_leastOpen_15 fself6 b0 p2 p3 p4 p6) n p5 p7 H) 0 rr G' := by
  intro n
  induction n with
  | zero => intro ad Cn H G p5 p7 hS w0 h; cases h
  | succ n ih15 =>
    intro ad Cn H G p5 p7 hS w0 h
    rw [lh2_s] at h
    rw [lq2_s]
    generalize lh2 (glX7_leastOpen_15 self6 p0 p2 p3 p4 p6) n = self15 at ih15 h
    generalize lq2 (lX7_leastOpen_15 fself6 b0 p2 p3 p4 p6) n = fself15 at ih15 ⊢
    unfold glX7_leastOpen_15 at h
    unfold lX7_leastOpen_15
    by_cases hc19 : p7 ≥ p4
    · have h := iteT hc19 h
      refine rif_t hc19 ?_
      exact ih6 _ _ _ _ p5 (w32 (p6 + 1))  hS w0  h
    · have h := iteF hc19 h
      refine rif_f hc19 ?_
      obtain ⟨z1, ez1, h⟩ := bnd h
      refine rb_call (ρc := 0) (s_X7_isHeld hS w0 ez1) ?_
      intro ad Cn bz1 H hS hx wz1
      dsimp only
      obtain rfl : bz1 = z1.1 := wz1
      have w0 := w0.mono hx
      by_cases hc30 : z1.1 = 0
      · have h := iteT hc30 h
        refine rif_t hc30 ?_
        by_cases hc39 : p5 = (-1)
        · have h := iteT hc39 h
          refine rif_t hc39 ?_
          exact sjX7_leastOpen_65 ih6 ih15 hS w0 h
        · have h := iteF hc39 h
          refine rif_f hc39 ?_
          obtain ⟨x2, ex2, h⟩ := bnd h
          refine rb_ldr 7 8 hS w0 ex2 rfl rfl ?_
          intro bx2 wx2
          obtain ⟨z3, ez3, h⟩ := bnd h
          refine rb_call (ρc := 0) (s_X7_at hS w0 ez3) ?_
          intro ad Cn bz3 H hS hx wz3
          dsimp only
          obtain rfl : bz3 = z3.1 := wz3
          have w0 := w0.mono hx
          have wx2 := wx2.mono hx
          obtain ⟨x4, ex4, h⟩ := bnd h
          refine rb_ld 8 hS wx2 ex4 rfl rfl ?_
          obtain ⟨x5, ex5, h⟩ := bnd h
          refine rb_ldr 7 8 hS w0 ex5 rfl rfl ?_
          intro bx5 wx5
          obtain ⟨x6, ex6, h⟩ := bnd h
          refine rb_ld 8 hS wx5 ex6 rfl rfl ?_
          by_cases hc62 : x4 ≥ x6
          · have h := iteT hc62 h
            refine rif_t hc62 ?_
            exact sjX7_leastOpen_75 ih6 ih15 hS w0 h
          · have h := iteF hc62 h
            refine rif_f hc62 ?_
            exact sjX7_leastOpen_65 ih6 ih15 hS w0 h
      · have h := iteF hc30 h
        refine rif_f hc30 ?_
        exact sjX7_leastOpen_75 ih6 ih15 hS w0 h
def glX7_leastOpen_6 (p0 p2 p3 p4 : Int) (self6 : Int → Int → GS → GO) (p5 p6 : Int) (G : GS) : GO :=
  (if p6 ≥ p2 then some (p5, G)
  else lh2 (glX7_leastOpen_15 self6 p0 p2 p3 p4 p6) 6000 p5 p3 G)
set_option maxHeartbeats 4000000 in
theorem slX7_leastOpen_6 {G' : GS} {rr : Int} {p0 p2 p3 p4 b0 : Int} : ∀ (n : Nat) (ad : Nat → Nat → Nat) (Cn : Nat → Nat) (H : PH) (G : GS) (p5 p6 : Int) , SimA ad Cn H G → vrel ad Cn 7 b0 p0 → lh2 (glX7_leastOpen_6 p0 p2 p3 p4) n p5 p6 G = some (rr, G') → RS ad Cn (lq2 (lX7_leastOpen_6 b0 p2 p3 p4) n p5 p6 H) 0 rr G' := by
  intro n
  induction n with
  | zero => intro ad Cn H G p5 p6 hS w0 h; cases h
  | succ n ih6 =>
    intro ad Cn H G p5 p6 hS w0 h
    rw [lh2_s] at h
    rw [lq2_s]
    generalize lh2 (glX7_leastOpen_6 p0 p2 p3 p4) n = self6 at ih6 h
    generalize lq2 (lX7_leastOpen_6 b0 p2 p3 p4) n = fself6 at ih6 ⊢
    unfold glX7_leastOpen_6 at h
    unfold lX7_leastOpen_6
    by_cases hc9 : p6 ≥ p2
    · have h := iteT hc9 h
      refine rif_t hc9 ?_
      cases h
      exact rret hS rfl
    · have h := iteF hc9 h
      refine rif_f hc9 ?_
      exact slX7_leastOpen_15 ih6 6000 _ _ _ _ p5 p3  hS w0 h
def g_X7_leastOpen (a0 a1 a2 a3 a4 : Int) (G : GS) : GO := gvm a0 <|
  lh2 (glX7_leastOpen_6 a0 a2 a3 a4) 6000 (-1) a1 G
set_option maxHeartbeats 4000000 in
theorem s_X7_leastOpen {ad : Nat → Nat → Nat} {Cn : Nat → Nat} {H : PH} {G G' : GS} {rr : Int} {a0 a1 a2 a3 a4 b0 : Int} (hS : SimA ad Cn H G) (w0 : vrel ad Cn 7 b0 a0) (h : g_X7_leastOpen a0 a1 a2 a3 a4 G = some (rr, G')) : RS ad Cn (f_X7_leastOpen b0 a1 a2 a3 a4 H) 0 rr G' := by
  unfold g_X7_leastOpen at h
  unfold f_X7_leastOpen
  obtain ⟨hv, h⟩ := gvm_spec h
  refine rb_vm 7 7 hS w0 hv rfl ?_
  exact slX7_leastOpen_6 6000 _ _ _ _ (-1) a1  hS w0 h
/-! HouseholdVault$Table.coverFor(II)I by roles -/
def gjX7_coverFor_33 (p0 p3 : Int) (G : GS) : GO :=
  (if p3 ≠ (-1) then some (p3, G)
  else (gl 7 G p0 0).bind fun x1 => (gl 7 G p0 1).bind fun x2 => (g_X7_leastOpen p0 0 x1 0 x2 G).bind fun z3 => some (z3.1, z3.2))
set_option maxHeartbeats 4000000 in
theorem sjX7_coverFor_33 {ad : Nat → Nat → Nat} {Cn : Nat → Nat} {H : PH} {G G' : GS} {rr : Int} {p0 p3 b0 : Int} (hS : SimA ad Cn H G) (w0 : vrel ad Cn 7 b0 p0) (h : gjX7_coverFor_33 p0 p3 G = some (rr, G')) : RS ad Cn (jX7_coverFor_33 b0 p3 H) 0 rr G' := by
  unfold gjX7_coverFor_33 at h
  unfold jX7_coverFor_33
  by_cases hc35 : p3 ≠ (-1)
  · have h := iteT hc35 h
    refine rif_t hc35 ?_
    cases h
    exact rret hS rfl
  · have h := iteF hc35 h
    refine rif_f hc35 ?_
    obtain ⟨x1, ex1, h⟩ := bnd h
    refine rb_ld 7 hS w0 ex1 rfl rfl ?_
    obtain ⟨x2, ex2, h⟩ := bnd h
    refine rb_ld 7 hS w0 ex2 rfl rfl ?_
    obtain ⟨z3, ez3, h⟩ := bnd h
    refine rb_call (ρc := 0) (s_X7_leastOpen hS w0 ez3) ?_
    intro ad Cn bz3 H hS hx wz3
    dsimp only
    obtain rfl : bz3 = z3.1 := wz3
    have w0 := w0.mono hx
    cases h
    exact rret hS rfl
def g_X7_coverFor (a0 a1 a2 : Int) (G : GS) : GO := gvm a0 <|
  (gl 7 G a0 1).bind fun x1 => (g_X7_leastOpen a0 a1 (w32 (a1 + 1)) 0 x1 G).bind fun z2 => (if z2.1 ≠ (-1) then gjX7_coverFor_33 a0 z2.1 z2.2
  else (gl 7 z2.2 a0 0).bind fun x3 => (g_X7_leastOpen a0 0 x3 a2 (w32 (a2 + 1)) z2.2).bind fun z4 => gjX7_coverFor_33 a0 z4.1 z4.2)
set_option maxHeartbeats 4000000 in
theorem s_X7_coverFor {ad : Nat → Nat → Nat} {Cn : Nat → Nat} {H : PH} {G G' : GS} {rr : Int} {a0 a1 a2 b0 : Int} (hS : SimA ad Cn H G) (w0 : vrel ad Cn 7 b0 a0) (h : g_X7_coverFor a0 a1 a2 G = some (rr, G')) : RS ad Cn (f_X7_coverFor b0 a1 a2 H) 0 rr G' := by
  unfold g_X7_coverFor at h
  unfold f_X7_coverFor
  obtain ⟨hv, h⟩ := gvm_spec h
  refine rb_vm 7 7 hS w0 hv rfl ?_
  obtain ⟨x1, ex1, h⟩ := bnd h
  refine rb_ld 7 hS w0 ex1 rfl rfl ?_
  obtain ⟨z2, ez2, h⟩ := bnd h
  refine rb_call (ρc := 0) (s_X7_leastOpen hS w0 ez2) ?_
  intro ad Cn bz2 H hS hx wz2
  dsimp only
  obtain rfl : bz2 = z2.1 := wz2
  have w0 := w0.mono hx
  by_cases hc16 : z2.1 ≠ (-1)
  · have h := iteT hc16 h
    refine rif_t hc16 ?_
    exact sjX7_coverFor_33 hS w0 h
  · have h := iteF hc16 h
    refine rif_f hc16 ?_
    obtain ⟨x3, ex3, h⟩ := bnd h
    refine rb_ld 7 hS w0 ex3 rfl rfl ?_
    obtain ⟨z4, ez4, h⟩ := bnd h
    refine rb_call (ρc := 0) (s_X7_leastOpen hS w0 ez4) ?_
    intro ad Cn bz4 H hS hx wz4
    dsimp only
    obtain rfl : bz4 = z4.1 := wz4
    have w0 := w0.mono hx
    exact sjX7_coverFor_33 hS w0 h
/-! HouseholdVault$Table.holdUntilNoneFollows()V by roles -/
def glX7_holdUntilNoneFollows_2 (p0 : Int) (self2 : Int → GS → GO) (p1 : Int) (G : GS) : GO :=
  (if p1 ≥ 81 then some (0, G)
  else (g_X7_firstFollowing p0 G).bind fun z1 => (if z1.1 = (-1) then some (0, z1.2)
  else (gl 7 z1.2 p0 1).bind fun x2 => (if x2 ≠ 0 then (gl 7 z1.2 p0 1).bind fun x3 => (if x3 = 0 then none else (gl 7 z1.2 p0 1).bind fun x4 => (if x4 = 0 then none else (g_X7_coverFor p0 (w32 (Int.tdiv z1.1 x3)) (Int.tmod z1.1 x4) z1.2).bind fun z5 => (if z5.1 ≠ (-1) then (gl 7 z5.2 p0 1).bind fun x6 => (if x6 = 0 then none else (gl 7 z5.2 p0 1).bind fun x7 => (if x7 = 0 then none else (g_X7_hold p0 (w32 (Int.tdiv z5.1 x6)) (Int.tmod z5.1 x7) z5.2).bind fun z8 => self2 (w32 (p1 + 1)) z8.2))
  else some (0, z5.2))))
  else some (0, z1.2))))
set_option maxHeartbeats 4000000 in
theorem slX7_holdUntilNoneFollows_2 {G' : GS} {rr : Int} {p0 b0 : Int} : ∀ (n : Nat) (ad : Nat → Nat → Nat) (Cn : Nat → Nat) (H : PH) (G : GS) (p1 : Int) , SimA ad Cn H G → vrel ad Cn 7 b0 p0 → lh1 (glX7_holdUntilNoneFollows_2 p0) n p1 G = some (rr, G') → RS ad Cn (lq1 (lX7_holdUntilNoneFollows_2 b0) n p1 H) 0 rr G' := by
  intro n
  induction n with
  | zero => intro ad Cn H G p1 hS w0 h; cases h
  | succ n ih2 =>
    intro ad Cn H G p1 hS w0 h
    rw [lh1_s] at h
    rw [lq1_s]
    generalize lh1 (glX7_holdUntilNoneFollows_2 p0) n = self2 at ih2 h
    generalize lq1 (lX7_holdUntilNoneFollows_2 b0) n = fself2 at ih2 ⊢
    unfold glX7_holdUntilNoneFollows_2 at h
    unfold lX7_holdUntilNoneFollows_2
    by_cases hc5 : p1 ≥ 81
    · have h := iteT hc5 h
      refine rif_t hc5 ?_
      cases h
      exact rret hS rfl
    · have h := iteF hc5 h
      refine rif_f hc5 ?_
      obtain ⟨z1, ez1, h⟩ := bnd h
      refine rb_call (ρc := 0) (s_X7_firstFollowing hS w0 ez1) ?_
      intro ad Cn bz1 H hS hx wz1
      dsimp only
      obtain rfl : bz1 = z1.1 := wz1
      have w0 := w0.mono hx
      by_cases hc15 : z1.1 = (-1)
      · have h := iteT hc15 h
        refine rif_t hc15 ?_
        cases h
        exact rret hS rfl
      · have h := iteF hc15 h
        refine rif_f hc15 ?_
        obtain ⟨x2, ex2, h⟩ := bnd h
        refine rb_ld 7 hS w0 ex2 rfl rfl ?_
        by_cases hc22 : x2 ≠ 0
        · have h := iteT hc22 h
          refine rif_t hc22 ?_
          obtain ⟨x3, ex3, h⟩ := bnd h
          refine rb_ld 7 hS w0 ex3 rfl rfl ?_
          by_cases hz32 : x3 = 0
          · rw [if_pos hz32] at h; cases h
          have h := iteF hz32 h
          refine rif_f hz32 ?_
          obtain ⟨x4, ex4, h⟩ := bnd h
          refine rb_ld 7 hS w0 ex4 rfl rfl ?_
          by_cases hz38 : x4 = 0
          · rw [if_pos hz38] at h; cases h
          have h := iteF hz38 h
          refine rif_f hz38 ?_
          obtain ⟨z5, ez5, h⟩ := bnd h
          refine rb_call (ρc := 0) (s_X7_coverFor hS w0 ez5) ?_
          intro ad Cn bz5 H hS hx wz5
          dsimp only
          obtain rfl : bz5 = z5.1 := wz5
          have w0 := w0.mono hx
          by_cases hc45 : z5.1 ≠ (-1)
          · have h := iteT hc45 h
            refine rif_t hc45 ?_
            obtain ⟨x6, ex6, h⟩ := bnd h
            refine rb_ld 7 hS w0 ex6 rfl rfl ?_
            by_cases hz55 : x6 = 0
            · rw [if_pos hz55] at h; cases h
            have h := iteF hz55 h
            refine rif_f hz55 ?_
            obtain ⟨x7, ex7, h⟩ := bnd h
            refine rb_ld 7 hS w0 ex7 rfl rfl ?_
            by_cases hz61 : x7 = 0
            · rw [if_pos hz61] at h; cases h
            have h := iteF hz61 h
            refine rif_f hz61 ?_
            obtain ⟨z8, ez8, h⟩ := bnd h
            refine rb_call (ρc := 0) (s_X7_hold hS w0 ez8) ?_
            intro ad Cn bz8 H hS hx wz8
            dsimp only
            obtain rfl : bz8 = z8.1 := wz8
            have w0 := w0.mono hx
            exact ih2 _ _ _ _ (w32 (p1 + 1))  hS w0  h
          · have h := iteF hc45 h
            refine rif_f hc45 ?_
            cases h
            exact rret hS rfl
        · have h := iteF hc22 h
          refine rif_f hc22 ?_
          cases h
          exact rret hS rfl
def g_X7_holdUntilNoneFollows (a0 : Int) (G : GS) : GO := gvm a0 <|
  lh1 (glX7_holdUntilNoneFollows_2 a0) 6000 0 G
set_option maxHeartbeats 4000000 in
theorem s_X7_holdUntilNoneFollows {ad : Nat → Nat → Nat} {Cn : Nat → Nat} {H : PH} {G G' : GS} {rr : Int} {a0 b0 : Int} (hS : SimA ad Cn H G) (w0 : vrel ad Cn 7 b0 a0) (h : g_X7_holdUntilNoneFollows a0 G = some (rr, G')) : RS ad Cn (f_X7_holdUntilNoneFollows b0 H) 0 rr G' := by
  unfold g_X7_holdUntilNoneFollows at h
  unfold f_X7_holdUntilNoneFollows
  obtain ⟨hv, h⟩ := gvm_spec h
  refine rb_vm 7 7 hS w0 hv rfl ?_
  exact slX7_holdUntilNoneFollows_2 6000 _ _ _ _ 0  hS w0 h
/-! HouseholdVault.<init>()V by roles -/
def g_X8_init (a0 : Int) (G : GS) : GO := gvm a0 <|
  (gn 1 (cN 3 : Int) G).bind fun z1 => (g_X3_init z1.1 z1.2).bind fun z2 => (gs 0 z2.2 a0 0 z1.1).bind fun G3 => (gn 5 40 G3).bind fun z4 => (gs 0 z4.2 a0 1 z4.1).bind fun G5 => (gn 6 6 G5).bind fun z6 => (gs 0 z6.2 a0 3 z6.1).bind fun G7 => (gn 7 (cN 7 : Int) G7).bind fun z8 => (g_X7_init z8.1 z8.2).bind fun z9 => (gs 0 z9.2 a0 5 z8.1).bind fun G10 => (gn 13 (cN 2 : Int) G10).bind fun z11 => (g_X2_init z11.1 z11.2).bind fun z12 => (gs 0 z12.2 a0 6 z11.1).bind fun G13 => (gn 14 40 G13).bind fun z14 => (gs 0 z14.2 a0 7 z14.1).bind fun G15 => some (0, G15)
set_option maxHeartbeats 4000000 in
theorem s_X8_init {ad : Nat → Nat → Nat} {Cn : Nat → Nat} {H : PH} {G G' : GS} {rr : Int} {a0 b0 : Int} (hS : SimA ad Cn H G) (w0 : vrel ad Cn 0 b0 a0) (h : g_X8_init a0 G = some (rr, G')) : RS ad Cn (f_X8_init b0 H) 0 rr G' := by
  unfold g_X8_init at h
  unfold f_X8_init
  obtain ⟨hv, h⟩ := gvm_spec h
  refine rb_vm 0 8 hS w0 hv rfl ?_
  obtain ⟨z1, ez1, h⟩ := bnd h
  refine rb_newo 1 hS ez1 rfl (by decide) ?_
  intro ad Cn bz1 H hS hx wz1
  dsimp only
  have w0 := w0.mono hx
  obtain ⟨z2, ez2, h⟩ := bnd h
  refine rb_call (ρc := 0) (s_X3_init hS wz1 ez2) ?_
  intro ad Cn bz2 H hS hx wz2
  dsimp only
  obtain rfl : bz2 = z2.1 := wz2
  have w0 := w0.mono hx
  have wz1 := wz1.mono hx
  obtain ⟨G3, eG3, h⟩ := bnd h
  refine rb_st 0 (k := 0) hS w0 (show rrel _ _ 2 _ _ from wz1) eG3 rfl ?_
  intro H hS
  obtain ⟨z4, ez4, h⟩ := bnd h
  refine rb_newa 5 hS ez4 rfl (fun _ => rfl) ?_
  intro ad Cn bz4 H hS hx wz4
  dsimp only
  have w0 := w0.mono hx
  obtain ⟨G5, eG5, h⟩ := bnd h
  refine rb_st 0 (k := 1) hS w0 (show rrel _ _ 6 _ _ from wz4) eG5 rfl ?_
  intro H hS
  obtain ⟨z6, ez6, h⟩ := bnd h
  refine rb_newa 6 hS ez6 rfl (fun _ => rfl) ?_
  intro ad Cn bz6 H hS hx wz6
  dsimp only
  have w0 := w0.mono hx
  obtain ⟨G7, eG7, h⟩ := bnd h
  refine rb_st 0 (k := 3) hS w0 (show rrel _ _ 7 _ _ from wz6) eG7 rfl ?_
  intro H hS
  obtain ⟨z8, ez8, h⟩ := bnd h
  refine rb_newo 7 hS ez8 rfl (by decide) ?_
  intro ad Cn bz8 H hS hx wz8
  dsimp only
  have w0 := w0.mono hx
  obtain ⟨z9, ez9, h⟩ := bnd h
  refine rb_call (ρc := 0) (s_X7_init hS wz8 ez9) ?_
  intro ad Cn bz9 H hS hx wz9
  dsimp only
  obtain rfl : bz9 = z9.1 := wz9
  have w0 := w0.mono hx
  have wz8 := wz8.mono hx
  obtain ⟨G10, eG10, h⟩ := bnd h
  refine rb_st 0 (k := 5) hS w0 (show rrel _ _ 8 _ _ from wz8) eG10 rfl ?_
  intro H hS
  obtain ⟨z11, ez11, h⟩ := bnd h
  refine rb_newo 13 hS ez11 rfl (by decide) ?_
  intro ad Cn bz11 H hS hx wz11
  dsimp only
  have w0 := w0.mono hx
  obtain ⟨z12, ez12, h⟩ := bnd h
  refine rb_call (ρc := 0) (s_X2_init hS wz11 ez12) ?_
  intro ad Cn bz12 H hS hx wz12
  dsimp only
  obtain rfl : bz12 = z12.1 := wz12
  have w0 := w0.mono hx
  have wz11 := wz11.mono hx
  obtain ⟨G13, eG13, h⟩ := bnd h
  refine rb_st 0 (k := 6) hS w0 (show rrel _ _ 14 _ _ from wz11) eG13 rfl ?_
  intro H hS
  obtain ⟨z14, ez14, h⟩ := bnd h
  refine rb_newa 14 hS ez14 rfl (fun _ => rfl) ?_
  intro ad Cn bz14 H hS hx wz14
  dsimp only
  have w0 := w0.mono hx
  obtain ⟨G15, eG15, h⟩ := bnd h
  refine rb_st 0 (k := 7) hS w0 (show rrel _ _ 15 _ _ from wz14) eG15 rfl ?_
  intro H hS
  cases h
  exact rret hS rfl
/-! HouseholdVault.emptyEverywhere(I)V by roles -/
def glX8_emptyEverywhere_2 (p0 p1 : Int) (self2 : Int → GS → GO) (p2 : Int) (G : GS) : GO :=
  (gl 0 G p0 2).bind fun x1 => (if p2 ≥ x1 then some (0, G)
  else (gl 0 G p0 1).bind fun x2 => (gl 5 G x2 p2).bind fun x3 => (gl 30 G x3 0).bind fun x4 => (g_X8_spot p1 (-1) G).bind fun z5 => (g_X6_put x4 z5.1 0 z5.2).bind fun z6 => self2 (w32 (p2 + 1)) z6.2)
set_option maxHeartbeats 4000000 in
theorem slX8_emptyEverywhere_2 {G' : GS} {rr : Int} {p0 p1 b0 : Int} : ∀ (n : Nat) (ad : Nat → Nat → Nat) (Cn : Nat → Nat) (H : PH) (G : GS) (p2 : Int) , SimA ad Cn H G → vrel ad Cn 0 b0 p0 → lh1 (glX8_emptyEverywhere_2 p0 p1) n p2 G = some (rr, G') → RS ad Cn (lq1 (lX8_emptyEverywhere_2 b0 p1) n p2 H) 0 rr G' := by
  intro n
  induction n with
  | zero => intro ad Cn H G p2 hS w0 h; cases h
  | succ n ih2 =>
    intro ad Cn H G p2 hS w0 h
    rw [lh1_s] at h
    rw [lq1_s]
    generalize lh1 (glX8_emptyEverywhere_2 p0 p1) n = self2 at ih2 h
    generalize lq1 (lX8_emptyEverywhere_2 b0 p1) n = fself2 at ih2 ⊢
    unfold glX8_emptyEverywhere_2 at h
    unfold lX8_emptyEverywhere_2
    obtain ⟨x1, ex1, h⟩ := bnd h
    refine rb_ld 0 hS w0 ex1 rfl rfl ?_
    by_cases hc7 : p2 ≥ x1
    · have h := iteT hc7 h
      refine rif_t hc7 ?_
      cases h
      exact rret hS rfl
    · have h := iteF hc7 h
      refine rif_f hc7 ?_
      obtain ⟨x2, ex2, h⟩ := bnd h
      refine rb_ldr 0 5 hS w0 ex2 rfl rfl ?_
      intro bx2 wx2
      obtain ⟨x3, ex3, h⟩ := bnd h
      refine rb_ldr 5 30 hS wx2 ex3 rfl rfl ?_
      intro bx3 wx3
      obtain ⟨x4, ex4, h⟩ := bnd h
      refine rb_ldr 30 31 hS wx3 ex4 rfl rfl ?_
      intro bx4 wx4
      obtain ⟨z5, ez5, h⟩ := bnd h
      refine rb_call (ρc := 0) (s_X8_spot hS ez5) ?_
      intro ad Cn bz5 H hS hx wz5
      dsimp only
      obtain rfl : bz5 = z5.1 := wz5
      have w0 := w0.mono hx
      have wx4 := wx4.mono hx
      obtain ⟨z6, ez6, h⟩ := bnd h
      refine rb_call (ρc := 0) (s_X6_put hS wx4 ez6) ?_
      intro ad Cn bz6 H hS hx wz6
      dsimp only
      obtain rfl : bz6 = z6.1 := wz6
      have w0 := w0.mono hx
      exact ih2 _ _ _ _ (w32 (p2 + 1))  hS w0  h
def g_X8_emptyEverywhere (a0 a1 : Int) (G : GS) : GO := gvm a0 <|
  lh1 (glX8_emptyEverywhere_2 a0 a1) 6000 0 G
set_option maxHeartbeats 4000000 in
theorem s_X8_emptyEverywhere {ad : Nat → Nat → Nat} {Cn : Nat → Nat} {H : PH} {G G' : GS} {rr : Int} {a0 a1 b0 : Int} (hS : SimA ad Cn H G) (w0 : vrel ad Cn 0 b0 a0) (h : g_X8_emptyEverywhere a0 a1 G = some (rr, G')) : RS ad Cn (f_X8_emptyEverywhere b0 a1 H) 0 rr G' := by
  unfold g_X8_emptyEverywhere at h
  unfold f_X8_emptyEverywhere
  obtain ⟨hv, h⟩ := gvm_spec h
  refine rb_vm 0 8 hS w0 hv rfl ?_
  exact slX8_emptyEverywhere_2 6000 _ _ _ _ 0  hS w0 h
/-! HouseholdVault.question(II)I by roles -/
def gjX8_question_47 (p0 p1 p2 : Int) (G : GS) : GO :=
  (gl 0 G p0 0).bind fun x1 => (g_X3_questionsAreFull x1 G).bind fun z2 => (if z2.1 = 0 then (gl 0 z2.2 p0 0).bind fun x3 => (gn 20 (cN 5 : Int) z2.2).bind fun z4 => (g_X5_init z4.1 p1 p2 0 (-1) z4.2).bind fun z5 => (g_X3_addQuestion x3 z4.1 z5.2).bind fun z6 => (if p1 ≠ 5 then some (z6.1, z6.2)
  else (g_X8_emptyEverywhere p0 z6.1 z6.2).bind fun z7 => some (z6.1, z7.2))
  else some ((-4), z2.2))
set_option maxHeartbeats 4000000 in
theorem sjX8_question_47 {ad : Nat → Nat → Nat} {Cn : Nat → Nat} {H : PH} {G G' : GS} {rr : Int} {p0 p1 p2 b0 : Int} (hS : SimA ad Cn H G) (w0 : vrel ad Cn 0 b0 p0) (h : gjX8_question_47 p0 p1 p2 G = some (rr, G')) : RS ad Cn (jX8_question_47 b0 p1 p2 H) 0 rr G' := by
  unfold gjX8_question_47 at h
  unfold jX8_question_47
  obtain ⟨x1, ex1, h⟩ := bnd h
  refine rb_ldr 0 1 hS w0 ex1 rfl rfl ?_
  intro bx1 wx1
  obtain ⟨z2, ez2, h⟩ := bnd h
  refine rb_call (ρc := 0) (s_X3_questionsAreFull hS wx1 ez2) ?_
  intro ad Cn bz2 H hS hx wz2
  dsimp only
  obtain rfl : bz2 = z2.1 := wz2
  have w0 := w0.mono hx
  by_cases hc54 : z2.1 = 0
  · have h := iteT hc54 h
    refine rif_t hc54 ?_
    obtain ⟨x3, ex3, h⟩ := bnd h
    refine rb_ldr 0 1 hS w0 ex3 rfl rfl ?_
    intro bx3 wx3
    obtain ⟨z4, ez4, h⟩ := bnd h
    refine rb_newo 20 hS ez4 rfl (by decide) ?_
    intro ad Cn bz4 H hS hx wz4
    dsimp only
    have w0 := w0.mono hx
    have wx3 := wx3.mono hx
    obtain ⟨z5, ez5, h⟩ := bnd h
    refine rb_call (ρc := 0) (s_X5_init hS wz4 ez5) ?_
    intro ad Cn bz5 H hS hx wz5
    dsimp only
    obtain rfl : bz5 = z5.1 := wz5
    have w0 := w0.mono hx
    have wx3 := wx3.mono hx
    have wz4 := wz4.mono hx
    obtain ⟨z6, ez6, h⟩ := bnd h
    refine rb_call (ρc := 0) (s_X3_addQuestion hS wx3 wz4 ez6) ?_
    intro ad Cn bz6 H hS hx wz6
    dsimp only
    obtain rfl : bz6 = z6.1 := wz6
    have w0 := w0.mono hx
    by_cases hc81 : p1 ≠ 5
    · have h := iteT hc81 h
      refine rif_t hc81 ?_
      cases h
      exact rret hS rfl
    · have h := iteF hc81 h
      refine rif_f hc81 ?_
      obtain ⟨z7, ez7, h⟩ := bnd h
      refine rb_call (ρc := 0) (s_X8_emptyEverywhere hS w0 ez7) ?_
      intro ad Cn bz7 H hS hx wz7
      dsimp only
      obtain rfl : bz7 = z7.1 := wz7
      have w0 := w0.mono hx
      cases h
      exact rret hS rfl
  · have h := iteF hc54 h
    refine rif_f hc54 ?_
    cases h
    exact rret hS rfl
def g_X8_question (a0 a1 a2 : Int) (G : GS) : GO := gvm a0 <|
  (if a1 < 0 then some ((-1), G)
  else (if a1 ≤ 5 then (if a2 = (-1) then gjX8_question_47 a0 a1 a2 G
  else (gl 0 G a0 0).bind fun x1 => (g_X3_questionOf x1 a2 G).bind fun z2 => (if z2.1 ≠ -1 then (gl 20 z2.2 z2.1 0).bind fun x3 => (if x3 ≠ 5 then some ((-2), z2.2)
  else (if a1 ≠ 5 then gjX8_question_47 a0 a1 a2 z2.2
  else some ((-2), z2.2)))
  else some ((-1), z2.2)))
  else some ((-1), G)))
set_option maxHeartbeats 4000000 in
theorem s_X8_question {ad : Nat → Nat → Nat} {Cn : Nat → Nat} {H : PH} {G G' : GS} {rr : Int} {a0 a1 a2 b0 : Int} (hS : SimA ad Cn H G) (w0 : vrel ad Cn 0 b0 a0) (h : g_X8_question a0 a1 a2 G = some (rr, G')) : RS ad Cn (f_X8_question b0 a1 a2 H) 0 rr G' := by
  unfold g_X8_question at h
  unfold f_X8_question
  obtain ⟨hv, h⟩ := gvm_spec h
  refine rb_vm 0 8 hS w0 hv rfl ?_
  by_cases hc1 : a1 < 0
  · have h := iteT hc1 h
    refine rif_t hc1 ?_
    cases h
    exact rret hS rfl
  · have h := iteF hc1 h
    refine rif_f hc1 ?_
    by_cases hc6 : a1 ≤ 5
    · have h := iteT hc6 h
      refine rif_t hc6 ?_
      by_cases hc13 : a2 = (-1)
      · have h := iteT hc13 h
        refine rif_t hc13 ?_
        exact sjX8_question_47 hS w0 h
      · have h := iteF hc13 h
        refine rif_f hc13 ?_
        obtain ⟨x1, ex1, h⟩ := bnd h
        refine rb_ldr 0 1 hS w0 ex1 rfl rfl ?_
        intro bx1 wx1
        obtain ⟨z2, ez2, h⟩ := bnd h
        refine rb_call (ρc := 21) (s_X3_questionOf hS wx1 ez2) ?_
        intro ad Cn bz2 H hS hx wz2
        dsimp only
        have w0 := w0.mono hx
        by_cases hc26 : z2.1 ≠ -1
        · have h := iteT hc26 h
          refine rif_t (fun q => hc26 (wz2.null.mp q)) ?_
          obtain ⟨x3, ex3, h⟩ := bnd h
          refine rb_ld 20 hS wz2 ex3 rfl rfl ?_
          by_cases hc36 : x3 ≠ 5
          · have h := iteT hc36 h
            refine rif_t hc36 ?_
            cases h
            exact rret hS rfl
          · have h := iteF hc36 h
            refine rif_f hc36 ?_
            by_cases hc41 : a1 ≠ 5
            · have h := iteT hc41 h
              refine rif_t hc41 ?_
              exact sjX8_question_47 hS w0 h
            · have h := iteF hc41 h
              refine rif_f hc41 ?_
              cases h
              exact rret hS rfl
        · have h := iteF hc26 h
          refine rif_f (fun q => hc26 (fun z => q (wz2.null.mpr z))) ?_
          cases h
          exact rret hS rfl
    · have h := iteF hc6 h
      refine rif_f hc6 ?_
      cases h
      exact rret hS rfl
/-! HouseholdVault.isCode(I)Z by roles -/
def g_X8_isCode (a0 : Int) (G : GS) : GO :=
  (if a0 < (-128) then some (0, G)
  else (if a0 > 127 then some (0, G)
  else some (1, G)))
set_option maxHeartbeats 4000000 in
theorem s_X8_isCode {ad : Nat → Nat → Nat} {Cn : Nat → Nat} {H : PH} {G G' : GS} {rr : Int} {a0 : Int} (hS : SimA ad Cn H G)  (h : g_X8_isCode a0 G = some (rr, G')) : RS ad Cn (f_X8_isCode a0 H) 0 rr G' := by
  unfold g_X8_isCode at h
  unfold f_X8_isCode
  by_cases hc3 : a0 < (-128)
  · have h := iteT hc3 h
    refine rif_t hc3 ?_
    cases h
    exact rret hS rfl
  · have h := iteF hc3 h
    refine rif_f hc3 ?_
    by_cases hc9 : a0 > 127
    · have h := iteT hc9 h
      refine rif_t hc9 ?_
      cases h
      exact rret hS rfl
    · have h := iteF hc9 h
      refine rif_f hc9 ?_
      cases h
      exact rret hS rfl
/-! HouseholdVault.code(II)I by roles -/
def g_X8_code (a0 a1 a2 : Int) (G : GS) : GO := gvm a0 <|
  (gl 0 G a0 0).bind fun x1 => (g_X3_questionOf x1 a1 G).bind fun z2 => (if z2.1 = -1 then some ((-1), z2.2)
  else (g_X8_isCode a2 z2.2).bind fun z3 => (if z3.1 ≠ 0 then (gl 20 z3.2 z2.1 0).bind fun x4 => (if x4 > 1 then some ((-2), z3.2)
  else (gl 20 z3.2 z2.1 2).bind fun x5 => (if x5 = 0 then (g_X5_codeIndex z2.1 a2 z3.2).bind fun z6 => (if z6.1 = (-1) then (gl 20 z6.2 z2.1 5).bind fun x7 => (if x7 < 8 then (g_X5_addCode z2.1 a2 z6.2).bind fun z8 => (gl 20 z8.2 z2.1 5).bind fun x9 => some (x9, z8.2)
  else some ((-4), z6.2))
  else some ((-3), z6.2))
  else some ((-2), z3.2)))
  else some ((-1), z3.2)))
set_option maxHeartbeats 4000000 in
theorem s_X8_code {ad : Nat → Nat → Nat} {Cn : Nat → Nat} {H : PH} {G G' : GS} {rr : Int} {a0 a1 a2 b0 : Int} (hS : SimA ad Cn H G) (w0 : vrel ad Cn 0 b0 a0) (h : g_X8_code a0 a1 a2 G = some (rr, G')) : RS ad Cn (f_X8_code b0 a1 a2 H) 0 rr G' := by
  unfold g_X8_code at h
  unfold f_X8_code
  obtain ⟨hv, h⟩ := gvm_spec h
  refine rb_vm 0 8 hS w0 hv rfl ?_
  obtain ⟨x1, ex1, h⟩ := bnd h
  refine rb_ldr 0 1 hS w0 ex1 rfl rfl ?_
  intro bx1 wx1
  obtain ⟨z2, ez2, h⟩ := bnd h
  refine rb_call (ρc := 21) (s_X3_questionOf hS wx1 ez2) ?_
  intro ad Cn bz2 H hS hx wz2
  dsimp only
  have w0 := w0.mono hx
  by_cases hc10 : z2.1 = -1
  · have h := iteT hc10 h
    refine rif_t (wz2.null.mpr hc10) ?_
    cases h
    exact rret hS rfl
  · have h := iteF hc10 h
    refine rif_f (fun q => hc10 (wz2.null.mp q)) ?_
    obtain ⟨z3, ez3, h⟩ := bnd h
    refine rb_call (ρc := 0) (s_X8_isCode hS ez3) ?_
    intro ad Cn bz3 H hS hx wz3
    dsimp only
    obtain rfl : bz3 = z3.1 := wz3
    have w0 := w0.mono hx
    have wz2 := wz2.mono hx
    by_cases hc17 : z3.1 ≠ 0
    · have h := iteT hc17 h
      refine rif_t hc17 ?_
      obtain ⟨x4, ex4, h⟩ := bnd h
      refine rb_ld 20 hS wz2 ex4 rfl rfl ?_
      by_cases hc27 : x4 > 1
      · have h := iteT hc27 h
        refine rif_t hc27 ?_
        cases h
        exact rret hS rfl
      · have h := iteF hc27 h
        refine rif_f hc27 ?_
        obtain ⟨x5, ex5, h⟩ := bnd h
        refine rb_ld 20 hS wz2 ex5 rfl rfl ?_
        by_cases hc34 : x5 = 0
        · have h := iteT hc34 h
          refine rif_t hc34 ?_
          obtain ⟨z6, ez6, h⟩ := bnd h
          refine rb_call (ρc := 0) (s_X5_codeIndex hS wz2 ez6) ?_
          intro ad Cn bz6 H hS hx wz6
          dsimp only
          obtain rfl : bz6 = z6.1 := wz6
          have w0 := w0.mono hx
          have wz2 := wz2.mono hx
          by_cases hc47 : z6.1 = (-1)
          · have h := iteT hc47 h
            refine rif_t hc47 ?_
            obtain ⟨x7, ex7, h⟩ := bnd h
            refine rb_ld 20 hS wz2 ex7 rfl rfl ?_
            by_cases hc59 : x7 < 8
            · have h := iteT hc59 h
              refine rif_t hc59 ?_
              obtain ⟨z8, ez8, h⟩ := bnd h
              refine rb_call (ρc := 0) (s_X5_addCode hS wz2 ez8) ?_
              intro ad Cn bz8 H hS hx wz8
              dsimp only
              obtain rfl : bz8 = z8.1 := wz8
              have w0 := w0.mono hx
              have wz2 := wz2.mono hx
              obtain ⟨x9, ex9, h⟩ := bnd h
              refine rb_ld 20 hS wz2 ex9 rfl rfl ?_
              cases h
              exact rret hS rfl
            · have h := iteF hc59 h
              refine rif_f hc59 ?_
              cases h
              exact rret hS rfl
          · have h := iteF hc47 h
            refine rif_f hc47 ?_
            cases h
            exact rret hS rfl
        · have h := iteF hc34 h
          refine rif_f hc34 ?_
          cases h
          exact rret hS rfl
    · have h := iteF hc17 h
      refine rif_f hc17 ?_
      cases h
      exact rret hS rfl
/-! HouseholdVault.map(I)I by roles -/
def g_X8_map (a0 a1 : Int) (G : GS) : GO := gvm a0 <|
  (gl 0 G a0 0).bind fun x1 => (g_X3_questionOf x1 a1 G).bind fun z2 => (if z2.1 ≠ -1 then (gl 20 z2.2 z2.1 0).bind fun x3 => (if x3 = 1 then some ((-2), z2.2)
  else (gl 20 z2.2 z2.1 0).bind fun x4 => (if x4 ≠ 5 then (gl 0 z2.2 a0 0).bind fun x5 => (g_X3_questionsAreFull x5 z2.2).bind fun z6 => (if z6.1 = 0 then (gl 0 z6.2 a0 0).bind fun x7 => (gn 20 (cN 5 : Int) z6.2).bind fun z8 => (gl 20 z8.2 z2.1 1).bind fun x9 => (g_X5_init z8.1 0 x9 1 a1 z8.2).bind fun z10 => (g_X3_addQuestion x7 z8.1 z10.2).bind fun z11 => some (z11.1, z11.2)
  else some ((-4), z6.2))
  else some ((-2), z2.2)))
  else some ((-1), z2.2))
set_option maxHeartbeats 4000000 in
theorem s_X8_map {ad : Nat → Nat → Nat} {Cn : Nat → Nat} {H : PH} {G G' : GS} {rr : Int} {a0 a1 b0 : Int} (hS : SimA ad Cn H G) (w0 : vrel ad Cn 0 b0 a0) (h : g_X8_map a0 a1 G = some (rr, G')) : RS ad Cn (f_X8_map b0 a1 H) 0 rr G' := by
  unfold g_X8_map at h
  unfold f_X8_map
  obtain ⟨hv, h⟩ := gvm_spec h
  refine rb_vm 0 8 hS w0 hv rfl ?_
  obtain ⟨x1, ex1, h⟩ := bnd h
  refine rb_ldr 0 1 hS w0 ex1 rfl rfl ?_
  intro bx1 wx1
  obtain ⟨z2, ez2, h⟩ := bnd h
  refine rb_call (ρc := 21) (s_X3_questionOf hS wx1 ez2) ?_
  intro ad Cn bz2 H hS hx wz2
  dsimp only
  have w0 := w0.mono hx
  by_cases hc10 : z2.1 ≠ -1
  · have h := iteT hc10 h
    refine rif_t (fun q => hc10 (wz2.null.mp q)) ?_
    obtain ⟨x3, ex3, h⟩ := bnd h
    refine rb_ld 20 hS wz2 ex3 rfl rfl ?_
    by_cases hc20 : x3 = 1
    · have h := iteT hc20 h
      refine rif_t hc20 ?_
      cases h
      exact rret hS rfl
    · have h := iteF hc20 h
      refine rif_f hc20 ?_
      obtain ⟨x4, ex4, h⟩ := bnd h
      refine rb_ld 20 hS wz2 ex4 rfl rfl ?_
      by_cases hc28 : x4 ≠ 5
      · have h := iteT hc28 h
        refine rif_t hc28 ?_
        obtain ⟨x5, ex5, h⟩ := bnd h
        refine rb_ldr 0 1 hS w0 ex5 rfl rfl ?_
        intro bx5 wx5
        obtain ⟨z6, ez6, h⟩ := bnd h
        refine rb_call (ρc := 0) (s_X3_questionsAreFull hS wx5 ez6) ?_
        intro ad Cn bz6 H hS hx wz6
        dsimp only
        obtain rfl : bz6 = z6.1 := wz6
        have w0 := w0.mono hx
        have wz2 := wz2.mono hx
        by_cases hc41 : z6.1 = 0
        · have h := iteT hc41 h
          refine rif_t hc41 ?_
          obtain ⟨x7, ex7, h⟩ := bnd h
          refine rb_ldr 0 1 hS w0 ex7 rfl rfl ?_
          intro bx7 wx7
          obtain ⟨z8, ez8, h⟩ := bnd h
          refine rb_newo 20 hS ez8 rfl (by decide) ?_
          intro ad Cn bz8 H hS hx wz8
          dsimp only
          have w0 := w0.mono hx
          have wz2 := wz2.mono hx
          have wx7 := wx7.mono hx
          obtain ⟨x9, ex9, h⟩ := bnd h
          refine rb_ld 20 hS wz2 ex9 rfl rfl ?_
          obtain ⟨z10, ez10, h⟩ := bnd h
          refine rb_call (ρc := 0) (s_X5_init hS wz8 ez10) ?_
          intro ad Cn bz10 H hS hx wz10
          dsimp only
          obtain rfl : bz10 = z10.1 := wz10
          have w0 := w0.mono hx
          have wz2 := wz2.mono hx
          have wx7 := wx7.mono hx
          have wz8 := wz8.mono hx
          obtain ⟨z11, ez11, h⟩ := bnd h
          refine rb_call (ρc := 0) (s_X3_addQuestion hS wx7 wz8 ez11) ?_
          intro ad Cn bz11 H hS hx wz11
          dsimp only
          obtain rfl : bz11 = z11.1 := wz11
          have w0 := w0.mono hx
          have wz2 := wz2.mono hx
          cases h
          exact rret hS rfl
        · have h := iteF hc41 h
          refine rif_f hc41 ?_
          cases h
          exact rret hS rfl
      · have h := iteF hc28 h
        refine rif_f hc28 ?_
        cases h
        exact rret hS rfl
  · have h := iteF hc10 h
    refine rif_f (fun q => hc10 (fun z => q (wz2.null.mpr z))) ?_
    cases h
    exact rret hS rfl
/-! HouseholdVault.row(IJJI)I by roles -/
def glX8_row_70 (p0 p7 : Int) (self70 : Int → GS → GO) (p8 : Int) (G : GS) : GO :=
  (gl 0 G p0 2).bind fun x1 => (if p8 ≥ x1 then (gl 20 G p7 9).bind fun x2 => some (x2, G)
  else (gl 0 G p0 1).bind fun x3 => (gl 5 G x3 p8).bind fun x4 => (gl 20 G p7 12).bind fun x5 => (g_X4_unsettle x4 x5 G).bind fun z6 => self70 (w32 (p8 + 1)) z6.2)
set_option maxHeartbeats 4000000 in
theorem slX8_row_70 {G' : GS} {rr : Int} {p0 p7 b0 b7 : Int} : ∀ (n : Nat) (ad : Nat → Nat → Nat) (Cn : Nat → Nat) (H : PH) (G : GS) (p8 : Int) , SimA ad Cn H G → vrel ad Cn 0 b0 p0 → vrel ad Cn 20 b7 p7 → lh1 (glX8_row_70 p0 p7) n p8 G = some (rr, G') → RS ad Cn (lq1 (lX8_row_70 b0 b7) n p8 H) 0 rr G' := by
  intro n
  induction n with
  | zero => intro ad Cn H G p8 hS w0 w7 h; cases h
  | succ n ih70 =>
    intro ad Cn H G p8 hS w0 w7 h
    rw [lh1_s] at h
    rw [lq1_s]
    generalize lh1 (glX8_row_70 p0 p7) n = self70 at ih70 h
    generalize lq1 (lX8_row_70 b0 b7) n = fself70 at ih70 ⊢
    unfold glX8_row_70 at h
    unfold lX8_row_70
    obtain ⟨x1, ex1, h⟩ := bnd h
    refine rb_ld 0 hS w0 ex1 rfl rfl ?_
    by_cases hc76 : p8 ≥ x1
    · have h := iteT hc76 h
      refine rif_t hc76 ?_
      obtain ⟨x2, ex2, h⟩ := bnd h
      refine rb_ld 20 hS w7 ex2 rfl rfl ?_
      cases h
      exact rret hS rfl
    · have h := iteF hc76 h
      refine rif_f hc76 ?_
      obtain ⟨x3, ex3, h⟩ := bnd h
      refine rb_ldr 0 5 hS w0 ex3 rfl rfl ?_
      intro bx3 wx3
      obtain ⟨x4, ex4, h⟩ := bnd h
      refine rb_ldr 5 30 hS wx3 ex4 rfl rfl ?_
      intro bx4 wx4
      obtain ⟨x5, ex5, h⟩ := bnd h
      refine rb_ld 20 hS w7 ex5 rfl rfl ?_
      obtain ⟨z6, ez6, h⟩ := bnd h
      refine rb_call (ρc := 0) (s_X4_unsettle hS wx4 ez6) ?_
      intro ad Cn bz6 H hS hx wz6
      dsimp only
      obtain rfl : bz6 = z6.1 := wz6
      have w0 := w0.mono hx
      have w7 := w7.mono hx
      exact ih70 _ _ _ _ (w32 (p8 + 1))  hS w0 w7  h
def g_X8_row (a0 a1 a2 a3 a4 : Int) (G : GS) : GO := gvm a0 <|
  (gl 0 G a0 0).bind fun x1 => (g_X3_questionOf x1 a1 G).bind fun z2 => (if z2.1 = -1 then some ((-1), z2.2)
  else (if (lc a2 a3) > 0 then some ((-1), z2.2)
  else (g_X8_isCode a4 z2.2).bind fun z3 => (if z3.1 ≠ 0 then (gl 20 z3.2 z2.1 2).bind fun x4 => (if x4 = 1 then (gl 20 z3.2 z2.1 9).bind fun x5 => (if x5 < 8 then (g_X5_addRow z2.1 a2 a3 a4 z3.2).bind fun z6 => lh1 (glX8_row_70 a0 z2.1) 6000 0 z6.2
  else some ((-4), z3.2))
  else some ((-2), z3.2))
  else some ((-1), z3.2))))
set_option maxHeartbeats 4000000 in
theorem s_X8_row {ad : Nat → Nat → Nat} {Cn : Nat → Nat} {H : PH} {G G' : GS} {rr : Int} {a0 a1 a2 a3 a4 b0 : Int} (hS : SimA ad Cn H G) (w0 : vrel ad Cn 0 b0 a0) (h : g_X8_row a0 a1 a2 a3 a4 G = some (rr, G')) : RS ad Cn (f_X8_row b0 a1 a2 a3 a4 H) 0 rr G' := by
  unfold g_X8_row at h
  unfold f_X8_row
  obtain ⟨hv, h⟩ := gvm_spec h
  refine rb_vm 0 8 hS w0 hv rfl ?_
  obtain ⟨x1, ex1, h⟩ := bnd h
  refine rb_ldr 0 1 hS w0 ex1 rfl rfl ?_
  intro bx1 wx1
  obtain ⟨z2, ez2, h⟩ := bnd h
  refine rb_call (ρc := 21) (s_X3_questionOf hS wx1 ez2) ?_
  intro ad Cn bz2 H hS hx wz2
  dsimp only
  have w0 := w0.mono hx
  by_cases hc12 : z2.1 = -1
  · have h := iteT hc12 h
    refine rif_t (wz2.null.mpr hc12) ?_
    cases h
    exact rret hS rfl
  · have h := iteF hc12 h
    refine rif_f (fun q => hc12 (wz2.null.mp q)) ?_
    by_cases hc19 : (lc a2 a3) > 0
    · have h := iteT hc19 h
      refine rif_t hc19 ?_
      cases h
      exact rret hS rfl
    · have h := iteF hc19 h
      refine rif_f hc19 ?_
      obtain ⟨z3, ez3, h⟩ := bnd h
      refine rb_call (ρc := 0) (s_X8_isCode hS ez3) ?_
      intro ad Cn bz3 H hS hx wz3
      dsimp only
      obtain rfl : bz3 = z3.1 := wz3
      have w0 := w0.mono hx
      have wz2 := wz2.mono hx
      by_cases hc27 : z3.1 ≠ 0
      · have h := iteT hc27 h
        refine rif_t hc27 ?_
        obtain ⟨x4, ex4, h⟩ := bnd h
        refine rb_ld 20 hS wz2 ex4 rfl rfl ?_
        by_cases hc38 : x4 = 1
        · have h := iteT hc38 h
          refine rif_t hc38 ?_
          obtain ⟨x5, ex5, h⟩ := bnd h
          refine rb_ld 20 hS wz2 ex5 rfl rfl ?_
          by_cases hc51 : x5 < 8
          · have h := iteT hc51 h
            refine rif_t hc51 ?_
            obtain ⟨z6, ez6, h⟩ := bnd h
            refine rb_call (ρc := 0) (s_X5_addRow hS wz2 ez6) ?_
            intro ad Cn bz6 H hS hx wz6
            dsimp only
            obtain rfl : bz6 = z6.1 := wz6
            have w0 := w0.mono hx
            have wz2 := wz2.mono hx
            exact slX8_row_70 6000 _ _ _ _ 0  hS w0 wz2 h
          · have h := iteF hc51 h
            refine rif_f hc51 ?_
            cases h
            exact rret hS rfl
        · have h := iteF hc38 h
          refine rif_f hc38 ?_
          cases h
          exact rret hS rfl
      · have h := iteF hc27 h
        refine rif_f hc27 ?_
        cases h
        exact rret hS rfl
/-! HouseholdVault.howMany(II)I by roles -/
def g_X8_howMany (a0 a1 a2 : Int) (G : GS) : GO := gvm a0 <|
  (gl 0 G a0 0).bind fun x1 => (g_X3_questionOf x1 a1 G).bind fun z2 => (gl 0 z2.2 a0 0).bind fun x3 => (g_X3_conditionOf x3 a2 z2.2).bind fun z4 => (if z2.1 = -1 then some ((-1), z4.2)
  else (if z4.1 ≠ -1 then (gl 20 z4.2 z2.1 0).bind fun x5 => (if x5 ≠ 5 then some ((-2), z4.2)
  else (gl 40 z4.2 z4.1 4).bind fun x6 => (if x6 = a1 then (gl 0 z4.2 a0 0).bind fun x7 => (g_X3_questionsAreFull x7 z4.2).bind fun z8 => (if z8.1 = 0 then (gl 0 z8.2 a0 0).bind fun x9 => (gn 20 (cN 5 : Int) z8.2).bind fun z10 => (g_X5_init z10.1 2 (-1) 2 a2 z10.2).bind fun z11 => (g_X3_addQuestion x9 z10.1 z11.2).bind fun z12 => some (z12.1, z12.2)
  else some ((-4), z8.2))
  else some ((-2), z4.2)))
  else some ((-1), z4.2)))
set_option maxHeartbeats 4000000 in
theorem s_X8_howMany {ad : Nat → Nat → Nat} {Cn : Nat → Nat} {H : PH} {G G' : GS} {rr : Int} {a0 a1 a2 b0 : Int} (hS : SimA ad Cn H G) (w0 : vrel ad Cn 0 b0 a0) (h : g_X8_howMany a0 a1 a2 G = some (rr, G')) : RS ad Cn (f_X8_howMany b0 a1 a2 H) 0 rr G' := by
  unfold g_X8_howMany at h
  unfold f_X8_howMany
  obtain ⟨hv, h⟩ := gvm_spec h
  refine rb_vm 0 8 hS w0 hv rfl ?_
  obtain ⟨x1, ex1, h⟩ := bnd h
  refine rb_ldr 0 1 hS w0 ex1 rfl rfl ?_
  intro bx1 wx1
  obtain ⟨z2, ez2, h⟩ := bnd h
  refine rb_call (ρc := 21) (s_X3_questionOf hS wx1 ez2) ?_
  intro ad Cn bz2 H hS hx wz2
  dsimp only
  have w0 := w0.mono hx
  obtain ⟨x3, ex3, h⟩ := bnd h
  refine rb_ldr 0 1 hS w0 ex3 rfl rfl ?_
  intro bx3 wx3
  obtain ⟨z4, ez4, h⟩ := bnd h
  refine rb_call (ρc := 41) (s_X3_conditionOf hS wx3 ez4) ?_
  intro ad Cn bz4 H hS hx wz4
  dsimp only
  have w0 := w0.mono hx
  have wz2 := wz2.mono hx
  by_cases hc20 : z2.1 = -1
  · have h := iteT hc20 h
    refine rif_t (wz2.null.mpr hc20) ?_
    cases h
    exact rret hS rfl
  · have h := iteF hc20 h
    refine rif_f (fun q => hc20 (wz2.null.mp q)) ?_
    by_cases hc25 : z4.1 ≠ -1
    · have h := iteT hc25 h
      refine rif_t (fun q => hc25 (wz4.null.mp q)) ?_
      obtain ⟨x5, ex5, h⟩ := bnd h
      refine rb_ld 20 hS wz2 ex5 rfl rfl ?_
      by_cases hc35 : x5 ≠ 5
      · have h := iteT hc35 h
        refine rif_t hc35 ?_
        cases h
        exact rret hS rfl
      · have h := iteF hc35 h
        refine rif_f hc35 ?_
        obtain ⟨x6, ex6, h⟩ := bnd h
        refine rb_ld 40 hS wz4 ex6 rfl rfl ?_
        by_cases hc44 : x6 = a1
        · have h := iteT hc44 h
          refine rif_t hc44 ?_
          obtain ⟨x7, ex7, h⟩ := bnd h
          refine rb_ldr 0 1 hS w0 ex7 rfl rfl ?_
          intro bx7 wx7
          obtain ⟨z8, ez8, h⟩ := bnd h
          refine rb_call (ρc := 0) (s_X3_questionsAreFull hS wx7 ez8) ?_
          intro ad Cn bz8 H hS hx wz8
          dsimp only
          obtain rfl : bz8 = z8.1 := wz8
          have w0 := w0.mono hx
          have wz2 := wz2.mono hx
          have wz4 := wz4.mono hx
          by_cases hc57 : z8.1 = 0
          · have h := iteT hc57 h
            refine rif_t hc57 ?_
            obtain ⟨x9, ex9, h⟩ := bnd h
            refine rb_ldr 0 1 hS w0 ex9 rfl rfl ?_
            intro bx9 wx9
            obtain ⟨z10, ez10, h⟩ := bnd h
            refine rb_newo 20 hS ez10 rfl (by decide) ?_
            intro ad Cn bz10 H hS hx wz10
            dsimp only
            have w0 := w0.mono hx
            have wz2 := wz2.mono hx
            have wz4 := wz4.mono hx
            have wx9 := wx9.mono hx
            obtain ⟨z11, ez11, h⟩ := bnd h
            refine rb_call (ρc := 0) (s_X5_init hS wz10 ez11) ?_
            intro ad Cn bz11 H hS hx wz11
            dsimp only
            obtain rfl : bz11 = z11.1 := wz11
            have w0 := w0.mono hx
            have wz2 := wz2.mono hx
            have wz4 := wz4.mono hx
            have wx9 := wx9.mono hx
            have wz10 := wz10.mono hx
            obtain ⟨z12, ez12, h⟩ := bnd h
            refine rb_call (ρc := 0) (s_X3_addQuestion hS wx9 wz10 ez12) ?_
            intro ad Cn bz12 H hS hx wz12
            dsimp only
            obtain rfl : bz12 = z12.1 := wz12
            have w0 := w0.mono hx
            have wz2 := wz2.mono hx
            have wz4 := wz4.mono hx
            cases h
            exact rret hS rfl
          · have h := iteF hc57 h
            refine rif_f hc57 ?_
            cases h
            exact rret hS rfl
        · have h := iteF hc44 h
          refine rif_f hc44 ?_
          cases h
          exact rret hS rfl
    · have h := iteF hc25 h
      refine rif_f (fun q => hc25 (fun z => q (wz4.null.mpr z))) ?_
      cases h
      exact rret hS rfl
