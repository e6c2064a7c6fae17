/-! HouseholdVault.cell(III)J by roles -/
def g_X8_cell (a0 a1 a2 a3 : Int) (G : GS) : GO := gvm a0 <|
  (gl 0 G a0 5).bind fun x1 => (g_X7_hasCell x1 a1 a2 G).bind fun z2 => (if z2.1 ≠ 0 then (if a3 < 0 ∨ 2 < a3 then some ((-1), z2.2)
  else List.getD [(gl 0 z2.2 a0 5).bind fun x3 => (gl 7 z2.2 x3 3).bind fun x4 => (gl 0 z2.2 a0 5).bind fun x5 => (g_X7_at x5 a1 a2 z2.2).bind fun z6 => (gl 8 z6.2 x4 z6.1).bind fun x7 => some (x7, z6.2), (gl 0 z2.2 a0 5).bind fun x8 => (gl 7 z2.2 x8 4).bind fun x9 => (gl 0 z2.2 a0 5).bind fun x10 => (g_X7_at x10 a1 a2 z2.2).bind fun z11 => (gl 9 z11.2 x9 z11.1).bind fun x12 => some (x12, z11.2), (gl 0 z2.2 a0 5).bind fun x13 => (g_X7_isHeld x13 a1 a2 z2.2).bind fun z14 => (if z14.1 = 0 then some (0, z14.2)
  else some (1, z14.2))] (a3 - 0).toNat none)
  else some ((-1), z2.2))
set_option maxHeartbeats 4000000 in
theorem s_X8_cell {ad : Nat → Nat → Nat} {Cn : Nat → Nat} {H : PH} {G G' : GS} {rr : Int} {a0 a1 a2 a3 b0 : Int} (hS : SimA ad Cn H G) (w0 : vrel ad Cn 0 b0 a0) (h : g_X8_cell a0 a1 a2 a3 G = some (rr, G')) : RS ad Cn (f_X8_cell b0 a1 a2 a3 H) 0 rr G' := by
  unfold g_X8_cell at h
  unfold f_X8_cell
  obtain ⟨hv, h⟩ := gvm_spec h
  refine rb_vm 0 8 hS w0 hv rfl ?_
  obtain ⟨x1, ex1, h⟩ := bnd h
  refine rb_ldr 0 7 hS w0 ex1 rfl rfl ?_
  intro bx1 wx1
  obtain ⟨z2, ez2, h⟩ := bnd h
  refine rb_call (ρc := 0) (s_X7_hasCell hS wx1 ez2) ?_
  intro ad Cn bz2 H hS hx wz2
  dsimp only
  obtain rfl : bz2 = z2.1 := wz2
  have w0 := w0.mono hx
  by_cases hc9 : z2.1 ≠ 0
  · have h := iteT hc9 h
    refine rif_t hc9 ?_
    by_cases hc : a3 < 0 ∨ 2 < a3
    · have h := iteT hc h
      refine rif_t hc ?_
      cases h
      exact rret hS rfl
    · have h := iteF hc h
      refine rif_f hc ?_
      obtain ⟨i, hin, ha⟩ := sw_case 3 hc (by decide)
      have h := sw_at ha h
      refine rsw ha ?_
      match i, hin, h with
      | 0, hin, h =>
        have h : ((gl 0 z2.2 a0 5).bind fun x3 => (gl 7 z2.2 x3 3).bind fun x4 => (gl 0 z2.2 a0 5).bind fun x5 => (g_X7_at x5 a1 a2 z2.2).bind fun z6 => (gl 8 z6.2 x4 z6.1).bind fun x7 => some (x7, z6.2) : GO) = some (rr, G') := h
        simp only [List.getD_cons_succ, List.getD_cons_zero]
        obtain ⟨x3, ex3, h⟩ := bnd h
        refine rb_ldr 0 7 hS w0 ex3 rfl rfl ?_
        intro bx3 wx3
        obtain ⟨x4, ex4, h⟩ := bnd h
        refine rb_ldr 7 8 hS wx3 ex4 rfl rfl ?_
        intro bx4 wx4
        obtain ⟨x5, ex5, h⟩ := bnd h
        refine rb_ldr 0 7 hS w0 ex5 rfl rfl ?_
        intro bx5 wx5
        obtain ⟨z6, ez6, h⟩ := bnd h
        refine rb_call (ρc := 0) (s_X7_at hS wx5 ez6) ?_
        intro ad Cn bz6 H hS hx wz6
        dsimp only
        obtain rfl : bz6 = z6.1 := wz6
        have w0 := w0.mono hx
        have wx4 := wx4.mono hx
        obtain ⟨x7, ex7, h⟩ := bnd h
        refine rb_ld 8 hS wx4 ex7 rfl rfl ?_
        cases h
        exact rret hS rfl
      | 1, hin, h =>
        have h : ((gl 0 z2.2 a0 5).bind fun x8 => (gl 7 z2.2 x8 4).bind fun x9 => (gl 0 z2.2 a0 5).bind fun x10 => (g_X7_at x10 a1 a2 z2.2).bind fun z11 => (gl 9 z11.2 x9 z11.1).bind fun x12 => some (x12, z11.2) : GO) = some (rr, G') := h
        simp only [List.getD_cons_succ, List.getD_cons_zero]
        obtain ⟨x8, ex8, h⟩ := bnd h
        refine rb_ldr 0 7 hS w0 ex8 rfl rfl ?_
        intro bx8 wx8
        obtain ⟨x9, ex9, h⟩ := bnd h
        refine rb_ldr 7 9 hS wx8 ex9 rfl rfl ?_
        intro bx9 wx9
        obtain ⟨x10, ex10, h⟩ := bnd h
        refine rb_ldr 0 7 hS w0 ex10 rfl rfl ?_
        intro bx10 wx10
        obtain ⟨z11, ez11, h⟩ := bnd h
        refine rb_call (ρc := 0) (s_X7_at hS wx10 ez11) ?_
        intro ad Cn bz11 H hS hx wz11
        dsimp only
        obtain rfl : bz11 = z11.1 := wz11
        have w0 := w0.mono hx
        have wx9 := wx9.mono hx
        obtain ⟨x12, ex12, h⟩ := bnd h
        refine rb_ld 9 hS wx9 ex12 rfl rfl ?_
        cases h
        exact rret hS rfl
      | 2, hin, h =>
        have h : ((gl 0 z2.2 a0 5).bind fun x13 => (g_X7_isHeld x13 a1 a2 z2.2).bind fun z14 => (if z14.1 = 0 then some (0, z14.2)
  else some (1, z14.2)) : GO) = some (rr, G') := h
        simp only [List.getD_cons_succ, List.getD_cons_zero]
        obtain ⟨x13, ex13, h⟩ := bnd h
        refine rb_ldr 0 7 hS w0 ex13 rfl rfl ?_
        intro bx13 wx13
        obtain ⟨z14, ez14, h⟩ := bnd h
        refine rb_call (ρc := 0) (s_X7_isHeld hS wx13 ez14) ?_
        intro ad Cn bz14 H hS hx wz14
        dsimp only
        obtain rfl : bz14 = z14.1 := wz14
        have w0 := w0.mono hx
        by_cases hc90 : z14.1 = 0
        · have h := iteT hc90 h
          refine rif_t hc90 ?_
          cases h
          exact rret hS rfl
        · have h := iteF hc90 h
          refine rif_f hc90 ?_
          cases h
          exact rret hS rfl
      | i + 3, hin, h => exact absurd hin (by omega)
  · have h := iteF hc9 h
    refine rif_f hc9 ?_
    cases h
    exact rret hS rfl
/-! HouseholdVault.shares(I)I by roles -/
def g_X8_shares (a0 a1 : Int) (G : GS) : GO := gvm a0 <|
  (gl 0 G a0 5).bind fun x1 => (g_X7_isNone x1 G).bind fun z2 => (if z2.1 ≠ 0 then some ((-1), z2.2)
  else (if a1 < 0 then some ((-1), z2.2)
  else (if a1 ≤ 1000000 then (gl 0 z2.2 a0 5).bind fun x3 => (g_X7_reckonShares x3 a1 z2.2).bind fun z4 => (if z4.1 = 0 then some (0, z4.2)
  else some (1, z4.2))
  else some ((-1), z2.2))))
set_option maxHeartbeats 4000000 in
theorem s_X8_shares {ad : Nat → Nat → Nat} {Cn : Nat → Nat} {H : PH} {G G' : GS} {rr : Int} {a0 a1 b0 : Int} (hS : SimA ad Cn H G) (w0 : vrel ad Cn 0 b0 a0) (h : g_X8_shares a0 a1 G = some (rr, G')) : RS ad Cn (f_X8_shares b0 a1 H) 0 rr G' := by
  unfold g_X8_shares at h
  unfold f_X8_shares
  obtain ⟨hv, h⟩ := gvm_spec h
  refine rb_vm 0 8 hS w0 hv rfl ?_
  obtain ⟨x1, ex1, h⟩ := bnd h
  refine rb_ldr 0 7 hS w0 ex1 rfl rfl ?_
  intro bx1 wx1
  obtain ⟨z2, ez2, h⟩ := bnd h
  refine rb_call (ρc := 0) (s_X7_isNone hS wx1 ez2) ?_
  intro ad Cn bz2 H hS hx wz2
  dsimp only
  obtain rfl : bz2 = z2.1 := wz2
  have w0 := w0.mono hx
  by_cases hc7 : z2.1 ≠ 0
  · have h := iteT hc7 h
    refine rif_t hc7 ?_
    cases h
    exact rret hS rfl
  · have h := iteF hc7 h
    refine rif_f hc7 ?_
    by_cases hc11 : a1 < 0
    · have h := iteT hc11 h
      refine rif_t hc11 ?_
      cases h
      exact rret hS rfl
    · have h := iteF hc11 h
      refine rif_f hc11 ?_
      by_cases hc18 : a1 ≤ 1000000
      · have h := iteT hc18 h
        refine rif_t hc18 ?_
        obtain ⟨x3, ex3, h⟩ := bnd h
        refine rb_ldr 0 7 hS w0 ex3 rfl rfl ?_
        intro bx3 wx3
        obtain ⟨z4, ez4, h⟩ := bnd h
        refine rb_call (ρc := 0) (s_X7_reckonShares hS wx3 ez4) ?_
        intro ad Cn bz4 H hS hx wz4
        dsimp only
        obtain rfl : bz4 = z4.1 := wz4
        have w0 := w0.mono hx
        by_cases hc31 : z4.1 = 0
        · have h := iteT hc31 h
          refine rif_t hc31 ?_
          cases h
          exact rret hS rfl
        · have h := iteF hc31 h
          refine rif_f hc31 ?_
          cases h
          exact rret hS rfl
      · have h := iteF hc18 h
        refine rif_f hc18 ?_
        cases h
        exact rret hS rfl
/-! HouseholdVault.share(II)I by roles -/
def g_X8_share (a0 a1 a2 : Int) (G : GS) : GO := gvm a0 <|
  (gl 0 G a0 5).bind fun x1 => (g_X7_hasCell x1 a1 a2 G).bind fun z2 => (if z2.1 = 0 then some ((-1), z2.2)
  else (gl 0 z2.2 a0 5).bind fun x3 => (gl 7 z2.2 x3 5).bind fun x4 => (gl 0 z2.2 a0 5).bind fun x5 => (g_X7_at x5 a1 a2 z2.2).bind fun z6 => (gl 10 z6.2 x4 z6.1).bind fun x7 => some (x7, z6.2))
set_option maxHeartbeats 4000000 in
theorem s_X8_share {ad : Nat → Nat → Nat} {Cn : Nat → Nat} {H : PH} {G G' : GS} {rr : Int} {a0 a1 a2 b0 : Int} (hS : SimA ad Cn H G) (w0 : vrel ad Cn 0 b0 a0) (h : g_X8_share a0 a1 a2 G = some (rr, G')) : RS ad Cn (f_X8_share b0 a1 a2 H) 0 rr G' := by
  unfold g_X8_share at h
  unfold f_X8_share
  obtain ⟨hv, h⟩ := gvm_spec h
  refine rb_vm 0 8 hS w0 hv rfl ?_
  obtain ⟨x1, ex1, h⟩ := bnd h
  refine rb_ldr 0 7 hS w0 ex1 rfl rfl ?_
  intro bx1 wx1
  obtain ⟨z2, ez2, h⟩ := bnd h
  refine rb_call (ρc := 0) (s_X7_hasCell hS wx1 ez2) ?_
  intro ad Cn bz2 H hS hx wz2
  dsimp only
  obtain rfl : bz2 = z2.1 := wz2
  have w0 := w0.mono hx
  by_cases hc9 : z2.1 = 0
  · have h := iteT hc9 h
    refine rif_t hc9 ?_
    cases h
    exact rret hS rfl
  · have h := iteF hc9 h
    refine rif_f hc9 ?_
    obtain ⟨x3, ex3, h⟩ := bnd h
    refine rb_ldr 0 7 hS w0 ex3 rfl rfl ?_
    intro bx3 wx3
    obtain ⟨x4, ex4, h⟩ := bnd h
    refine rb_ldr 7 10 hS wx3 ex4 rfl rfl ?_
    intro bx4 wx4
    obtain ⟨x5, ex5, h⟩ := bnd h
    refine rb_ldr 0 7 hS w0 ex5 rfl rfl ?_
    intro bx5 wx5
    obtain ⟨z6, ez6, h⟩ := bnd h
    refine rb_call (ρc := 0) (s_X7_at hS wx5 ez6) ?_
    intro ad Cn bz6 H hS hx wz6
    dsimp only
    obtain rfl : bz6 = z6.1 := wz6
    have w0 := w0.mono hx
    have wx4 := wx4.mono hx
    obtain ⟨x7, ex7, h⟩ := bnd h
    refine rb_ld 10 hS wx4 ex7 rfl rfl ?_
    cases h
    exact rret hS rfl
/-! HouseholdVault.shown(I)I by roles -/
def g_X8_shown (a0 a1 : Int) (G : GS) : GO := gvm a0 <|
  (gl 0 G a0 5).bind fun x1 => (g_X7_isNone x1 G).bind fun z2 => (if z2.1 ≠ 0 then some ((-1), z2.2)
  else (if a1 < 1 then some ((-1), z2.2)
  else (if a1 ≤ 1000 then (gl 0 z2.2 a0 5).bind fun x3 => (g_X7_holdBelow x3 a1 z2.2).bind fun z4 => (gl 0 z4.2 a0 5).bind fun x5 => (g_X7_holdUntilNoneFollows x5 z4.2).bind fun z6 => (gl 0 z6.2 a0 5).bind fun x7 => (gl 7 z6.2 x7 8).bind fun x8 => some (x8, z6.2)
  else some ((-1), z2.2))))
set_option maxHeartbeats 4000000 in
theorem s_X8_shown {ad : Nat → Nat → Nat} {Cn : Nat → Nat} {H : PH} {G G' : GS} {rr : Int} {a0 a1 b0 : Int} (hS : SimA ad Cn H G) (w0 : vrel ad Cn 0 b0 a0) (h : g_X8_shown a0 a1 G = some (rr, G')) : RS ad Cn (f_X8_shown b0 a1 H) 0 rr G' := by
  unfold g_X8_shown at h
  unfold f_X8_shown
  obtain ⟨hv, h⟩ := gvm_spec h
  refine rb_vm 0 8 hS w0 hv rfl ?_
  obtain ⟨x1, ex1, h⟩ := bnd h
  refine rb_ldr 0 7 hS w0 ex1 rfl rfl ?_
  intro bx1 wx1
  obtain ⟨z2, ez2, h⟩ := bnd h
  refine rb_call (ρc := 0) (s_X7_isNone hS wx1 ez2) ?_
  intro ad Cn bz2 H hS hx wz2
  dsimp only
  obtain rfl : bz2 = z2.1 := wz2
  have w0 := w0.mono hx
  by_cases hc7 : z2.1 ≠ 0
  · have h := iteT hc7 h
    refine rif_t hc7 ?_
    cases h
    exact rret hS rfl
  · have h := iteF hc7 h
    refine rif_f hc7 ?_
    by_cases hc12 : a1 < 1
    · have h := iteT hc12 h
      refine rif_t hc12 ?_
      cases h
      exact rret hS rfl
    · have h := iteF hc12 h
      refine rif_f hc12 ?_
      by_cases hc19 : a1 ≤ 1000
      · have h := iteT hc19 h
        refine rif_t hc19 ?_
        obtain ⟨x3, ex3, h⟩ := bnd h
        refine rb_ldr 0 7 hS w0 ex3 rfl rfl ?_
        intro bx3 wx3
        obtain ⟨z4, ez4, h⟩ := bnd h
        refine rb_call (ρc := 0) (s_X7_holdBelow hS wx3 ez4) ?_
        intro ad Cn bz4 H hS hx wz4
        dsimp only
        obtain rfl : bz4 = z4.1 := wz4
        have w0 := w0.mono hx
        obtain ⟨x5, ex5, h⟩ := bnd h
        refine rb_ldr 0 7 hS w0 ex5 rfl rfl ?_
        intro bx5 wx5
        obtain ⟨z6, ez6, h⟩ := bnd h
        refine rb_call (ρc := 0) (s_X7_holdUntilNoneFollows hS wx5 ez6) ?_
        intro ad Cn bz6 H hS hx wz6
        dsimp only
        obtain rfl : bz6 = z6.1 := wz6
        have w0 := w0.mono hx
        obtain ⟨x7, ex7, h⟩ := bnd h
        refine rb_ldr 0 7 hS w0 ex7 rfl rfl ?_
        intro bx7 wx7
        obtain ⟨x8, ex8, h⟩ := bnd h
        refine rb_ld 7 hS wx7 ex8 rfl rfl ?_
        cases h
        exact rret hS rfl
      · have h := iteF hc19 h
        refine rif_f hc19 ?_
        cases h
        exact rret hS rfl
/-! HouseholdVault.follows()I by roles -/
def g_X8_follows (a0 : Int) (G : GS) : GO := gvm a0 <|
  (gl 0 G a0 5).bind fun x1 => (g_X7_isNone x1 G).bind fun z2 => (if z2.1 = 0 then (gl 0 z2.2 a0 5).bind fun x3 => (g_X7_firstFollowing x3 z2.2).bind fun z4 => some ((w32 (z4.1 + 1)), z4.2)
  else some ((-1), z2.2))
set_option maxHeartbeats 4000000 in
theorem s_X8_follows {ad : Nat → Nat → Nat} {Cn : Nat → Nat} {H : PH} {G G' : GS} {rr : Int} {a0 b0 : Int} (hS : SimA ad Cn H G) (w0 : vrel ad Cn 0 b0 a0) (h : g_X8_follows a0 G = some (rr, G')) : RS ad Cn (f_X8_follows b0 H) 0 rr G' := by
  unfold g_X8_follows at h
  unfold f_X8_follows
  obtain ⟨hv, h⟩ := gvm_spec h
  refine rb_vm 0 8 hS w0 hv rfl ?_
  obtain ⟨x1, ex1, h⟩ := bnd h
  refine rb_ldr 0 7 hS w0 ex1 rfl rfl ?_
  intro bx1 wx1
  obtain ⟨z2, ez2, h⟩ := bnd h
  refine rb_call (ρc := 0) (s_X7_isNone hS wx1 ez2) ?_
  intro ad Cn bz2 H hS hx wz2
  dsimp only
  obtain rfl : bz2 = z2.1 := wz2
  have w0 := w0.mono hx
  by_cases hc7 : z2.1 = 0
  · have h := iteT hc7 h
    refine rif_t hc7 ?_
    obtain ⟨x3, ex3, h⟩ := bnd h
    refine rb_ldr 0 7 hS w0 ex3 rfl rfl ?_
    intro bx3 wx3
    obtain ⟨z4, ez4, h⟩ := bnd h
    refine rb_call (ρc := 0) (s_X7_firstFollowing hS wx3 ez4) ?_
    intro ad Cn bz4 H hS hx wz4
    dsimp only
    obtain rfl : bz4 = z4.1 := wz4
    have w0 := w0.mono hx
    cases h
    exact rret hS rfl
  · have h := iteF hc7 h
    refine rif_f hc7 ?_
    cases h
    exact rret hS rfl
/-! HouseholdVault.heightOf(II)J by roles -/
def g_X8_heightOf (a0 a1 a2 : Int) (G : GS) : GO := gvm a0 <|
  (gl 0 G a0 0).bind fun x1 => (gl 1 G x1 0).bind fun x2 => (gl 2 G x2 a1).bind fun x3 => (gl 0 G a0 1).bind fun x4 => (gl 5 G x4 a2).bind fun x5 => (gl 30 G x5 0).bind fun x6 => (gl 31 G x6 0).bind fun x7 => (g_X8_spot a1 (-1) G).bind fun z8 => (gl 32 z8.2 x7 z8.1).bind fun x9 => (gl 20 z8.2 x3 0).bind fun x10 => (if x10 ≠ 0 then some (x9, z8.2)
  else (g_X5_codeIndex x3 x9 z8.2).bind fun z11 => some (z11.1, z11.2))
set_option maxHeartbeats 4000000 in
theorem s_X8_heightOf {ad : Nat → Nat → Nat} {Cn : Nat → Nat} {H : PH} {G G' : GS} {rr : Int} {a0 a1 a2 b0 : Int} (hS : SimA ad Cn H G) (w0 : vrel ad Cn 0 b0 a0) (h : g_X8_heightOf a0 a1 a2 G = some (rr, G')) : RS ad Cn (f_X8_heightOf b0 a1 a2 H) 0 rr G' := by
  unfold g_X8_heightOf at h
  unfold f_X8_heightOf
  obtain ⟨hv, h⟩ := gvm_spec h
  refine rb_vm 0 8 hS w0 hv rfl ?_
  obtain ⟨x1, ex1, h⟩ := bnd h
  refine rb_ldr 0 1 hS w0 ex1 rfl rfl ?_
  intro bx1 wx1
  obtain ⟨x2, ex2, h⟩ := bnd h
  refine rb_ldr 1 2 hS wx1 ex2 rfl rfl ?_
  intro bx2 wx2
  obtain ⟨x3, ex3, h⟩ := bnd h
  refine rb_ldr 2 20 hS wx2 ex3 rfl rfl ?_
  intro bx3 wx3
  obtain ⟨x4, ex4, h⟩ := bnd h
  refine rb_ldr 0 5 hS w0 ex4 rfl rfl ?_
  intro bx4 wx4
  obtain ⟨x5, ex5, h⟩ := bnd h
  refine rb_ldr 5 30 hS wx4 ex5 rfl rfl ?_
  intro bx5 wx5
  obtain ⟨x6, ex6, h⟩ := bnd h
  refine rb_ldr 30 31 hS wx5 ex6 rfl rfl ?_
  intro bx6 wx6
  obtain ⟨x7, ex7, h⟩ := bnd h
  refine rb_ldr 31 32 hS wx6 ex7 rfl rfl ?_
  intro bx7 wx7
  obtain ⟨z8, ez8, h⟩ := bnd h
  refine rb_call (ρc := 0) (s_X8_spot hS ez8) ?_
  intro ad Cn bz8 H hS hx wz8
  dsimp only
  obtain rfl : bz8 = z8.1 := wz8
  have w0 := w0.mono hx
  have wx3 := wx3.mono hx
  have wx7 := wx7.mono hx
  obtain ⟨x9, ex9, h⟩ := bnd h
  refine rb_ld 32 hS wx7 ex9 rfl rfl ?_
  obtain ⟨x10, ex10, h⟩ := bnd h
  refine rb_ld 20 hS wx3 ex10 rfl rfl ?_
  by_cases hc34 : x10 ≠ 0
  · have h := iteT hc34 h
    refine rif_t hc34 ?_
    cases h
    exact rret hS rfl
  · have h := iteF hc34 h
    refine rif_f hc34 ?_
    obtain ⟨z11, ez11, h⟩ := bnd h
    refine rb_call (ρc := 0) (s_X5_codeIndex hS wx3 ez11) ?_
    intro ad Cn bz11 H hS hx wz11
    dsimp only
    obtain rfl : bz11 = z11.1 := wz11
    have w0 := w0.mono hx
    have wx3 := wx3.mono hx
    cases h
    exact rret hS rfl
/-! HouseholdVault.insertRising(III)V by roles -/
def gjX8_insertRising_58 (p0 p2 p6 : Int) (G : GS) : GO :=
  (gl 0 G p0 7).bind fun x1 => (gs 14 G x1 p6 p2).bind fun G2 => some (0, G2)
set_option maxHeartbeats 4000000 in
theorem sjX8_insertRising_58 {ad : Nat → Nat → Nat} {Cn : Nat → Nat} {H : PH} {G G' : GS} {rr : Int} {p0 p2 p6 b0 : Int} (hS : SimA ad Cn H G) (w0 : vrel ad Cn 0 b0 p0) (h : gjX8_insertRising_58 p0 p2 p6 G = some (rr, G')) : RS ad Cn (jX8_insertRising_58 b0 p2 p6 H) 0 rr G' := by
  unfold gjX8_insertRising_58 at h
  unfold jX8_insertRising_58
  obtain ⟨x1, ex1, h⟩ := bnd h
  refine rb_ldr 0 14 hS w0 ex1 rfl rfl ?_
  intro bx1 wx1
  obtain ⟨G2, eG2, h⟩ := bnd h
  refine rb_st 14 hS wx1 (show rrel _ _ 0 _ _ from rfl) eG2 rfl ?_
  intro H hS
  cases h
  exact rret hS rfl
def glX8_insertRising_11 (p0 p1 p2 p4 : Int) (self11 : Int → GS → GO) (p6 : Int) (G : GS) : GO :=
  (if p6 ≤ 0 then gjX8_insertRising_58 p0 p2 p6 G
  else (gl 0 G p0 7).bind fun x1 => (gl 14 G x1 (w32 (p6 - 1))).bind fun x2 => (g_X8_heightOf p0 p1 x2 G).bind fun z3 => (if (lc z3.1 p4) ≤ 0 then gjX8_insertRising_58 p0 p2 p6 z3.2
  else (gl 0 z3.2 p0 7).bind fun x4 => (gl 0 z3.2 p0 7).bind fun x5 => (gl 14 z3.2 x5 (w32 (p6 - 1))).bind fun x6 => (gs 14 z3.2 x4 p6 x6).bind fun G7 => self11 (w32 (p6 + (-1))) G7))
set_option maxHeartbeats 4000000 in
theorem slX8_insertRising_11 {G' : GS} {rr : Int} {p0 p1 p2 p4 b0 : Int} : ∀ (n : Nat) (ad : Nat → Nat → Nat) (Cn : Nat → Nat) (H : PH) (G : GS) (p6 : Int) , SimA ad Cn H G → vrel ad Cn 0 b0 p0 → lh1 (glX8_insertRising_11 p0 p1 p2 p4) n p6 G = some (rr, G') → RS ad Cn (lq1 (lX8_insertRising_11 b0 p1 p2 p4) n p6 H) 0 rr G' := by
  intro n
  induction n with
  | zero => intro ad Cn H G p6 hS w0 h; cases h
  | succ n ih11 =>
    intro ad Cn H G p6 hS w0 h
    rw [lh1_s] at h
    rw [lq1_s]
    generalize lh1 (glX8_insertRising_11 p0 p1 p2 p4) n = self11 at ih11 h
    generalize lq1 (lX8_insertRising_11 b0 p1 p2 p4) n = fself11 at ih11 ⊢
    unfold glX8_insertRising_11 at h
    unfold lX8_insertRising_11
    by_cases hc13 : p6 ≤ 0
    · have h := iteT hc13 h
      refine rif_t hc13 ?_
      exact sjX8_insertRising_58 hS w0 h
    · have h := iteF hc13 h
      refine rif_f hc13 ?_
      obtain ⟨x1, ex1, h⟩ := bnd h
      refine rb_ldr 0 14 hS w0 ex1 rfl rfl ?_
      intro bx1 wx1
      obtain ⟨x2, ex2, h⟩ := bnd h
      refine rb_ld 14 hS wx1 ex2 rfl rfl ?_
      obtain ⟨z3, ez3, h⟩ := bnd h
      refine rb_call (ρc := 0) (s_X8_heightOf hS w0 ez3) ?_
      intro ad Cn bz3 H hS hx wz3
      dsimp only
      obtain rfl : bz3 = z3.1 := wz3
      have w0 := w0.mono hx
      by_cases hc33 : (lc z3.1 p4) ≤ 0
      · have h := iteT hc33 h
        refine rif_t hc33 ?_
        exact sjX8_insertRising_58 hS w0 h
      · have h := iteF hc33 h
        refine rif_f hc33 ?_
        obtain ⟨x4, ex4, h⟩ := bnd h
        refine rb_ldr 0 14 hS w0 ex4 rfl rfl ?_
        intro bx4 wx4
        obtain ⟨x5, ex5, h⟩ := bnd h
        refine rb_ldr 0 14 hS w0 ex5 rfl rfl ?_
        intro bx5 wx5
        obtain ⟨x6, ex6, h⟩ := bnd h
        refine rb_ld 14 hS wx5 ex6 rfl rfl ?_
        obtain ⟨G7, eG7, h⟩ := bnd h
        refine rb_st 14 hS wx4 (show rrel _ _ 0 _ _ from rfl) eG7 rfl ?_
        intro H hS
        exact ih11 _ _ _ _ (w32 (p6 + (-1)))  hS w0  h
def g_X8_insertRising (a0 a1 a2 a3 : Int) (G : GS) : GO := gvm a0 <|
  (g_X8_heightOf a0 a1 a2 G).bind fun z1 => lh1 (glX8_insertRising_11 a0 a1 a2 z1.1) 6000 a3 z1.2
set_option maxHeartbeats 4000000 in
theorem s_X8_insertRising {ad : Nat → Nat → Nat} {Cn : Nat → Nat} {H : PH} {G G' : GS} {rr : Int} {a0 a1 a2 a3 b0 : Int} (hS : SimA ad Cn H G) (w0 : vrel ad Cn 0 b0 a0) (h : g_X8_insertRising a0 a1 a2 a3 G = some (rr, G')) : RS ad Cn (f_X8_insertRising b0 a1 a2 a3 H) 0 rr G' := by
  unfold g_X8_insertRising at h
  unfold f_X8_insertRising
  obtain ⟨hv, h⟩ := gvm_spec h
  refine rb_vm 0 8 hS w0 hv rfl ?_
  obtain ⟨z1, ez1, h⟩ := bnd h
  refine rb_call (ρc := 0) (s_X8_heightOf hS w0 ez1) ?_
  intro ad Cn bz1 H hS hx wz1
  dsimp only
  obtain rfl : bz1 = z1.1 := wz1
  have w0 := w0.mono hx
  exact slX8_insertRising_11 6000 _ _ _ _ a3  hS w0 h
/-! HouseholdVault.sortRising(II)I by roles -/
def gjX8_sortRising_82 (self5 : Int → Int → GS → GO) (p0 p1 p2 p3 p4 : Int) (G : GS) : GO :=
  self5 p3 (w32 (p4 + 1)) G
set_option maxHeartbeats 4000000 in
theorem sjX8_sortRising_82 {ad : Nat → Nat → Nat} {Cn : Nat → Nat} {H : PH} {G G' : GS} {rr : Int} {fself5 : Int → Int → PH → RO} {self5 : Int → Int → GS → GO} {p0 p1 p2 p3 p4 b0 : Int} (ih5 : ∀ (ad : Nat → Nat → Nat) (Cn : Nat → Nat) (H : PH) (G : GS) (v3 v4 : Int) , SimA ad Cn H G → vrel ad Cn 0 b0 p0 → self5 v3 v4 G = some (rr, G') → RS ad Cn (fself5 v3 v4 H) 0 rr G') (hS : SimA ad Cn H G) (w0 : vrel ad Cn 0 b0 p0) (h : gjX8_sortRising_82 self5 p0 p1 p2 p3 p4 G = some (rr, G')) : RS ad Cn (jX8_sortRising_82 fself5 b0 p1 p2 p3 p4 H) 0 rr G' := by
  unfold gjX8_sortRising_82 at h
  unfold jX8_sortRising_82
  exact ih5 _ _ _ _ p3 (w32 (p4 + 1))  hS w0  h
def gjX8_sortRising_71 (self5 : Int → Int → GS → GO) (p0 p1 p2 p3 p4 : Int) (G : GS) : GO :=
  (g_X8_insertRising p0 p1 p4 p3 G).bind fun z1 => gjX8_sortRising_82 self5 p0 p1 p2 (w32 (p3 + 1)) p4 z1.2
set_option maxHeartbeats 4000000 in
theorem sjX8_sortRising_71 {ad : Nat → Nat → Nat} {Cn : Nat → Nat} {H : PH} {G G' : GS} {rr : Int} {fself5 : Int → Int → PH → RO} {self5 : Int → Int → GS → GO} {p0 p1 p2 p3 p4 b0 : Int} (ih5 : ∀ (ad : Nat → Nat → Nat) (Cn : Nat → Nat) (H : PH) (G : GS) (v3 v4 : Int) , SimA ad Cn H G → vrel ad Cn 0 b0 p0 → self5 v3 v4 G = some (rr, G') → RS ad Cn (fself5 v3 v4 H) 0 rr G') (hS : SimA ad Cn H G) (w0 : vrel ad Cn 0 b0 p0) (h : gjX8_sortRising_71 self5 p0 p1 p2 p3 p4 G = some (rr, G')) : RS ad Cn (jX8_sortRising_71 fself5 b0 p1 p2 p3 p4 H) 0 rr G' := by
  unfold gjX8_sortRising_71 at h
  unfold jX8_sortRising_71
  obtain ⟨z1, ez1, h⟩ := bnd h
  refine rb_call (ρc := 0) (s_X8_insertRising hS w0 ez1) ?_
  intro ad Cn bz1 H hS hx wz1
  dsimp only
  obtain rfl : bz1 = z1.1 := wz1
  have w0 := w0.mono hx
  exact sjX8_sortRising_82 ih5 hS w0 h
def glX8_sortRising_5 (p0 p1 p2 : Int) (self5 : Int → Int → GS → GO) (p3 p4 : Int) (G : GS) : GO :=
  (gl 0 G p0 2).bind fun x1 => (if p4 ≥ x1 then some (p3, G)
  else (gl 0 G p0 1).bind fun x2 => (gl 5 G x2 p4).bind fun x3 => (gl 0 G p0 0).bind fun x4 => (g_X3_settle x4 x3 G).bind fun z5 => (gl 30 z5.2 x3 0).bind fun x6 => (gl 31 z5.2 x6 1).bind fun x7 => (g_X8_spot p1 (-1) z5.2).bind fun z8 => (gl 33 z8.2 x7 z8.1).bind fun x9 => (if x9 = 0 then (if p2 = (-1) then gjX8_sortRising_71 self5 p0 p1 p2 p3 p4 z8.2
  else (g_X4_isSo x3 p2 (-1) 0 z8.2).bind fun z10 => (if z10.1 ≠ 0 then gjX8_sortRising_71 self5 p0 p1 p2 p3 p4 z10.2
  else gjX8_sortRising_82 self5 p0 p1 p2 p3 p4 z10.2))
  else gjX8_sortRising_82 self5 p0 p1 p2 p3 p4 z8.2))
set_option maxHeartbeats 4000000 in
theorem slX8_sortRising_5 {G' : GS} {rr : Int} {p0 p1 p2 b0 : Int} : ∀ (n : Nat) (ad : Nat → Nat → Nat) (Cn : Nat → Nat) (H : PH) (G : GS) (p3 p4 : Int) , SimA ad Cn H G → vrel ad Cn 0 b0 p0 → lh2 (glX8_sortRising_5 p0 p1 p2) n p3 p4 G = some (rr, G') → RS ad Cn (lq2 (lX8_sortRising_5 b0 p1 p2) n p3 p4 H) 0 rr G' := by
  intro n
  induction n with
  | zero => intro ad Cn H G p3 p4 hS w0 h; cases h
  | succ n ih5 =>
    intro ad Cn H G p3 p4 hS w0 h
    rw [lh2_s] at h
    rw [lq2_s]
    generalize lh2 (glX8_sortRising_5 p0 p1 p2) n = self5 at ih5 h
    generalize lq2 (lX8_sortRising_5 b0 p1 p2) n = fself5 at ih5 ⊢
    unfold glX8_sortRising_5 at h
    unfold lX8_sortRising_5
    obtain ⟨x1, ex1, h⟩ := bnd h
    refine rb_ld 0 hS w0 ex1 rfl rfl ?_
    by_cases hc11 : p4 ≥ x1
    · have h := iteT hc11 h
      refine rif_t hc11 ?_
      cases h
      exact rret hS rfl
    · have h := iteF hc11 h
      refine rif_f hc11 ?_
      obtain ⟨x2, ex2, h⟩ := bnd h
      refine rb_ldr 0 5 hS w0 ex2 rfl rfl ?_
      intro bx2 wx2
      obtain ⟨x3, ex3, h⟩ := bnd h
      refine rb_ldr 5 30 hS wx2 ex3 rfl rfl ?_
      intro bx3 wx3
      obtain ⟨x4, ex4, h⟩ := bnd h
      refine rb_ldr 0 1 hS w0 ex4 rfl rfl ?_
      intro bx4 wx4
      obtain ⟨z5, ez5, h⟩ := bnd h
      refine rb_call (ρc := 0) (s_X3_settle hS wx4 wx3 ez5) ?_
      intro ad Cn bz5 H hS hx wz5
      dsimp only
      obtain rfl : bz5 = z5.1 := wz5
      have w0 := w0.mono hx
      have wx3 := wx3.mono hx
      obtain ⟨x6, ex6, h⟩ := bnd h
      refine rb_ldr 30 31 hS wx3 ex6 rfl rfl ?_
      intro bx6 wx6
      obtain ⟨x7, ex7, h⟩ := bnd h
      refine rb_ldr 31 33 hS wx6 ex7 rfl rfl ?_
      intro bx7 wx7
      obtain ⟨z8, ez8, h⟩ := bnd h
      refine rb_call (ρc := 0) (s_X8_spot hS ez8) ?_
      intro ad Cn bz8 H hS hx wz8
      dsimp only
      obtain rfl : bz8 = z8.1 := wz8
      have w0 := w0.mono hx
      have wx3 := wx3.mono hx
      have wx7 := wx7.mono hx
      obtain ⟨x9, ex9, h⟩ := bnd h
      refine rb_ld 33 hS wx7 ex9 rfl rfl ?_
      by_cases hc46 : x9 = 0
      · have h := iteT hc46 h
        refine rif_t hc46 ?_
        by_cases hc54 : p2 = (-1)
        · have h := iteT hc54 h
          refine rif_t hc54 ?_
          exact sjX8_sortRising_71 ih5 hS w0 h
        · have h := iteF hc54 h
          refine rif_f hc54 ?_
          obtain ⟨z10, ez10, h⟩ := bnd h
          refine rb_call (ρc := 0) (s_X4_isSo hS wx3 ez10) ?_
          intro ad Cn bz10 H hS hx wz10
          dsimp only
          obtain rfl : bz10 = z10.1 := wz10
          have w0 := w0.mono hx
          have wx3 := wx3.mono hx
          by_cases hc65 : z10.1 ≠ 0
          · have h := iteT hc65 h
            refine rif_t hc65 ?_
            exact sjX8_sortRising_71 ih5 hS w0 h
          · have h := iteF hc65 h
            refine rif_f hc65 ?_
            exact sjX8_sortRising_82 ih5 hS w0 h
      · have h := iteF hc46 h
        refine rif_f hc46 ?_
        exact sjX8_sortRising_82 ih5 hS w0 h
def g_X8_sortRising (a0 a1 a2 : Int) (G : GS) : GO := gvm a0 <|
  lh2 (glX8_sortRising_5 a0 a1 a2) 6000 0 0 G
set_option maxHeartbeats 4000000 in
theorem s_X8_sortRising {ad : Nat → Nat → Nat} {Cn : Nat → Nat} {H : PH} {G G' : GS} {rr : Int} {a0 a1 a2 b0 : Int} (hS : SimA ad Cn H G) (w0 : vrel ad Cn 0 b0 a0) (h : g_X8_sortRising a0 a1 a2 G = some (rr, G')) : RS ad Cn (f_X8_sortRising b0 a1 a2 H) 0 rr G' := by
  unfold g_X8_sortRising at h
  unfold f_X8_sortRising
  obtain ⟨hv, h⟩ := gvm_spec h
  refine rb_vm 0 8 hS w0 hv rfl ?_
  exact slX8_sortRising_5 6000 _ _ _ _ 0 0  hS w0 h
/-! HouseholdVault.missingAt(II)I by roles -/
def gjX8_missingAt_49 (self5 : Int → Int → GS → GO) (p0 p1 p3 p4 : Int) (G : GS) : GO :=
  self5 p3 (w32 (p4 + 1)) G
set_option maxHeartbeats 4000000 in
theorem sjX8_missingAt_49 {ad : Nat → Nat → Nat} {Cn : Nat → Nat} {H : PH} {G G' : GS} {rr : Int} {fself5 : Int → Int → PH → RO} {self5 : Int → Int → GS → GO} {p0 p1 p3 p4 b0 : Int} (ih5 : ∀ (ad : Nat → Nat → Nat) (Cn : Nat → Nat) (H : PH) (G : GS) (v3 v4 : Int) , SimA ad Cn H G → vrel ad Cn 0 b0 p0 → self5 v3 v4 G = some (rr, G') → RS ad Cn (fself5 v3 v4 H) 0 rr G') (hS : SimA ad Cn H G) (w0 : vrel ad Cn 0 b0 p0) (h : gjX8_missingAt_49 self5 p0 p1 p3 p4 G = some (rr, G')) : RS ad Cn (jX8_missingAt_49 fself5 b0 p1 p3 p4 H) 0 rr G' := by
  unfold gjX8_missingAt_49 at h
  unfold jX8_missingAt_49
  exact ih5 _ _ _ _ p3 (w32 (p4 + 1))  hS w0  h
def glX8_missingAt_5 (p0 p1 : Int) (self5 : Int → Int → GS → GO) (p3 p4 : Int) (G : GS) : GO :=
  (gl 0 G p0 2).bind fun x1 => (if p4 ≥ x1 then some ((-1), G)
  else (gl 0 G p0 1).bind fun x2 => (gl 5 G x2 p4).bind fun x3 => (gl 30 G x3 0).bind fun x4 => (gl 31 G x4 1).bind fun x5 => (g_X8_spot p1 (-1) G).bind fun z6 => (gl 33 z6.2 x5 z6.1).bind fun x7 => (if x7 ≠ 0 then (if p3 ≠ 0 then gjX8_missingAt_49 self5 p0 p1 (w32 (p3 + (-1))) p4 z6.2
  else some (p4, z6.2))
  else gjX8_missingAt_49 self5 p0 p1 p3 p4 z6.2))
set_option maxHeartbeats 4000000 in
theorem slX8_missingAt_5 {G' : GS} {rr : Int} {p0 p1 b0 : Int} : ∀ (n : Nat) (ad : Nat → Nat → Nat) (Cn : Nat → Nat) (H : PH) (G : GS) (p3 p4 : Int) , SimA ad Cn H G → vrel ad Cn 0 b0 p0 → lh2 (glX8_missingAt_5 p0 p1) n p3 p4 G = some (rr, G') → RS ad Cn (lq2 (lX8_missingAt_5 b0 p1) n p3 p4 H) 0 rr G' := by
  intro n
  induction n with
  | zero => intro ad Cn H G p3 p4 hS w0 h; cases h
  | succ n ih5 =>
    intro ad Cn H G p3 p4 hS w0 h
    rw [lh2_s] at h
    rw [lq2_s]
    generalize lh2 (glX8_missingAt_5 p0 p1) n = self5 at ih5 h
    generalize lq2 (lX8_missingAt_5 b0 p1) n = fself5 at ih5 ⊢
    unfold glX8_missingAt_5 at h
    unfold lX8_missingAt_5
    obtain ⟨x1, ex1, h⟩ := bnd h
    refine rb_ld 0 hS w0 ex1 rfl rfl ?_
    by_cases hc11 : p4 ≥ x1
    · have h := iteT hc11 h
      refine rif_t hc11 ?_
      cases h
      exact rret hS rfl
    · have h := iteF hc11 h
      refine rif_f hc11 ?_
      obtain ⟨x2, ex2, h⟩ := bnd h
      refine rb_ldr 0 5 hS w0 ex2 rfl rfl ?_
      intro bx2 wx2
      obtain ⟨x3, ex3, h⟩ := bnd h
      refine rb_ldr 5 30 hS wx2 ex3 rfl rfl ?_
      intro bx3 wx3
      obtain ⟨x4, ex4, h⟩ := bnd h
      refine rb_ldr 30 31 hS wx3 ex4 rfl rfl ?_
      intro bx4 wx4
      obtain ⟨x5, ex5, h⟩ := bnd h
      refine rb_ldr 31 33 hS wx4 ex5 rfl rfl ?_
      intro bx5 wx5
      obtain ⟨z6, ez6, h⟩ := bnd h
      refine rb_call (ρc := 0) (s_X8_spot hS ez6) ?_
      intro ad Cn bz6 H hS hx wz6
      dsimp only
      obtain rfl : bz6 = z6.1 := wz6
      have w0 := w0.mono hx
      have wx5 := wx5.mono hx
      obtain ⟨x7, ex7, h⟩ := bnd h
      refine rb_ld 33 hS wx5 ex7 rfl rfl ?_
      by_cases hc33 : x7 ≠ 0
      · have h := iteT hc33 h
        refine rif_t hc33 ?_
        by_cases hc40 : p3 ≠ 0
        · have h := iteT hc40 h
          refine rif_t hc40 ?_
          exact sjX8_missingAt_49 ih5 hS w0 h
        · have h := iteF hc40 h
          refine rif_f hc40 ?_
          cases h
          exact rret hS rfl
      · have h := iteF hc33 h
        refine rif_f hc33 ?_
        exact sjX8_missingAt_49 ih5 hS w0 h
def g_X8_missingAt (a0 a1 a2 : Int) (G : GS) : GO := gvm a0 <|
  lh2 (glX8_missingAt_5 a0 a1) 6000 a2 0 G
set_option maxHeartbeats 4000000 in
theorem s_X8_missingAt {ad : Nat → Nat → Nat} {Cn : Nat → Nat} {H : PH} {G G' : GS} {rr : Int} {a0 a1 a2 b0 : Int} (hS : SimA ad Cn H G) (w0 : vrel ad Cn 0 b0 a0) (h : g_X8_missingAt a0 a1 a2 G = some (rr, G')) : RS ad Cn (f_X8_missingAt b0 a1 a2 H) 0 rr G' := by
  unfold g_X8_missingAt at h
  unfold f_X8_missingAt
  obtain ⟨hv, h⟩ := gvm_spec h
  refine rb_vm 0 8 hS w0 hv rfl ?_
  exact slX8_missingAt_5 6000 _ _ _ _ a2 0  hS w0 h
/-! HouseholdVault.rank(II)I by roles -/
def g_X8_rank (a0 a1 a2 : Int) (G : GS) : GO := gvm a0 <|
  (gl 0 G a0 0).bind fun x1 => (g_X3_questionOf x1 a1 G).bind fun z2 => (if z2.1 = -1 then some ((-1), z2.2)
  else (if a2 < 0 then some ((-1), z2.2)
  else (gl 0 z2.2 a0 2).bind fun x3 => (if a2 < x3 then (gl 20 z2.2 z2.1 1).bind fun x4 => (if x4 ≠ (-1) then some ((-2), z2.2)
  else (gl 20 z2.2 z2.1 0).bind fun x5 => (if x5 ≠ 1 then (g_X8_sortRising a0 a1 (-1) z2.2).bind fun z6 => (if a2 ≥ z6.1 then (g_X8_missingAt a0 a1 (w32 (a2 - z6.1)) z6.2).bind fun z7 => some (z7.1, z7.2)
  else (gl 0 z6.2 a0 7).bind fun x8 => (gl 14 z6.2 x8 a2).bind fun x9 => some (x9, z6.2))
  else some ((-2), z2.2)))
  else some ((-1), z2.2))))
set_option maxHeartbeats 4000000 in
theorem s_X8_rank {ad : Nat → Nat → Nat} {Cn : Nat → Nat} {H : PH} {G G' : GS} {rr : Int} {a0 a1 a2 b0 : Int} (hS : SimA ad Cn H G) (w0 : vrel ad Cn 0 b0 a0) (h : g_X8_rank a0 a1 a2 G = some (rr, G')) : RS ad Cn (f_X8_rank b0 a1 a2 H) 0 rr G' := by
  unfold g_X8_rank at h
  unfold f_X8_rank
  obtain ⟨hv, h⟩ := gvm_spec h
  refine rb_vm 0 8 hS w0 hv rfl ?_
  obtain ⟨x1, ex1, h⟩ := bnd h
  refine rb_ldr 0 1 hS w0 ex1 rfl rfl ?_
  intro bx1 wx1
  obtain ⟨z2, ez2, h⟩ := bnd h
  refine rb_call (ρc := 21) (s_X3_questionOf hS wx1 ez2) ?_
  intro ad Cn bz2 H hS hx wz2
  dsimp only
  have w0 := w0.mono hx
  by_cases hc10 : z2.1 = -1
  · have h := iteT hc10 h
    refine rif_t (wz2.null.mpr hc10) ?_
    cases h
    exact rret hS rfl
  · have h := iteF hc10 h
    refine rif_f (fun q => hc10 (wz2.null.mp q)) ?_
    by_cases hc14 : a2 < 0
    · have h := iteT hc14 h
      refine rif_t hc14 ?_
      cases h
      exact rret hS rfl
    · have h := iteF hc14 h
      refine rif_f hc14 ?_
      obtain ⟨x3, ex3, h⟩ := bnd h
      refine rb_ld 0 hS w0 ex3 rfl rfl ?_
      by_cases hc22 : a2 < x3
      · have h := iteT hc22 h
        refine rif_t hc22 ?_
        obtain ⟨x4, ex4, h⟩ := bnd h
        refine rb_ld 20 hS wz2 ex4 rfl rfl ?_
        by_cases hc32 : x4 ≠ (-1)
        · have h := iteT hc32 h
          refine rif_t hc32 ?_
          cases h
          exact rret hS rfl
        · have h := iteF hc32 h
          refine rif_f hc32 ?_
          obtain ⟨x5, ex5, h⟩ := bnd h
          refine rb_ld 20 hS wz2 ex5 rfl rfl ?_
          by_cases hc40 : x5 ≠ 1
          · have h := iteT hc40 h
            refine rif_t hc40 ?_
            obtain ⟨z6, ez6, h⟩ := bnd h
            refine rb_call (ρc := 0) (s_X8_sortRising hS w0 ez6) ?_
            intro ad Cn bz6 H hS hx wz6
            dsimp only
            obtain rfl : bz6 = z6.1 := wz6
            have w0 := w0.mono hx
            have wz2 := wz2.mono hx
            by_cases hc57 : a2 ≥ z6.1
            · have h := iteT hc57 h
              refine rif_t hc57 ?_
              obtain ⟨z7, ez7, h⟩ := bnd h
              refine rb_call (ρc := 0) (s_X8_missingAt hS w0 ez7) ?_
              intro ad Cn bz7 H hS hx wz7
              dsimp only
              obtain rfl : bz7 = z7.1 := wz7
              have w0 := w0.mono hx
              have wz2 := wz2.mono hx
              cases h
              exact rret hS rfl
            · have h := iteF hc57 h
              refine rif_f hc57 ?_
              obtain ⟨x8, ex8, h⟩ := bnd h
              refine rb_ldr 0 14 hS w0 ex8 rfl rfl ?_
              intro bx8 wx8
              obtain ⟨x9, ex9, h⟩ := bnd h
              refine rb_ld 14 hS wx8 ex9 rfl rfl ?_
              cases h
              exact rret hS rfl
          · have h := iteF hc40 h
            refine rif_f hc40 ?_
            cases h
            exact rret hS rfl
      · have h := iteF hc22 h
        refine rif_f hc22 ?_
        cases h
        exact rret hS rfl
/-! HouseholdVault.part(IIII)J by roles -/
def g_X8_part (a0 a1 a2 a3 a4 : Int) (G : GS) : GO := gvm a0 <|
  (gl 0 G a0 0).bind fun x1 => (g_X3_questionOf x1 a1 G).bind fun z2 => (gl 0 z2.2 a0 0).bind fun x3 => (g_X3_conditionOf x3 a2 z2.2).bind fun z4 => (if z2.1 = -1 then some (0, z4.2)
  else (if z4.1 ≠ -1 then (if a4 < 1 then some (0, z4.2)
  else (if a4 > 1000 then some (0, z4.2)
  else (if a3 < 0 then some (0, z4.2)
  else (if a3 ≤ a4 then (gl 20 z4.2 z2.1 1).bind fun x5 => (if x5 ≠ (-1) then some (0, z4.2)
  else (gl 20 z4.2 z2.1 0).bind fun x6 => (if x6 < 2 then some (0, z4.2)
  else (gl 20 z4.2 z2.1 0).bind fun x7 => (if x7 > 4 then some (0, z4.2)
  else (gl 40 z4.2 z4.1 4).bind fun x8 => (if x8 = (-1) then (g_X8_sortRising a0 a1 a2 z4.2).bind fun z9 => (if z9.1 ≠ 0 then (gl 0 z9.2 a0 7).bind fun x10 => (if a4 = 0 then none else (gl 14 z9.2 x10 (w32 (Int.tdiv (w32 ((w32 (z9.1 - 1)) * a3)) a4))).bind fun x11 => (gl 0 z9.2 a0 1).bind fun x12 => (gl 5 z9.2 x12 x11).bind fun x13 => (gl 30 z9.2 x13 0).bind fun x14 => (gl 31 z9.2 x14 0).bind fun x15 => (g_X8_spot a1 (-1) z9.2).bind fun z16 => (gl 32 z16.2 x15 z16.1).bind fun x17 => some (x17, z16.2))
  else some (0, z9.2))
  else some (0, z4.2)))))
  else some (0, z4.2)))))
  else some (0, z4.2)))
set_option maxHeartbeats 4000000 in
theorem s_X8_part {ad : Nat → Nat → Nat} {Cn : Nat → Nat} {H : PH} {G G' : GS} {rr : Int} {a0 a1 a2 a3 a4 b0 : Int} (hS : SimA ad Cn H G) (w0 : vrel ad Cn 0 b0 a0) (h : g_X8_part a0 a1 a2 a3 a4 G = some (rr, G')) : RS ad Cn (f_X8_part b0 a1 a2 a3 a4 H) 0 rr G' := by
  unfold g_X8_part at h
  unfold f_X8_part
  obtain ⟨hv, h⟩ := gvm_spec h
  refine rb_vm 0 8 hS w0 hv rfl ?_
  obtain ⟨x1, ex1, h⟩ := bnd h
  refine rb_ldr 0 1 hS w0 ex1 rfl rfl ?_
  intro bx1 wx1
  obtain ⟨z2, ez2, h⟩ := bnd h
  refine rb_call (ρc := 21) (s_X3_questionOf hS wx1 ez2) ?_
  intro ad Cn bz2 H hS hx wz2
  dsimp only
  have w0 := w0.mono hx
  obtain ⟨x3, ex3, h⟩ := bnd h
  refine rb_ldr 0 1 hS w0 ex3 rfl rfl ?_
  intro bx3 wx3
  obtain ⟨z4, ez4, h⟩ := bnd h
  refine rb_call (ρc := 41) (s_X3_conditionOf hS wx3 ez4) ?_
  intro ad Cn bz4 H hS hx wz4
  dsimp only
  have w0 := w0.mono hx
  have wz2 := wz2.mono hx
  by_cases hc22 : z2.1 = -1
  · have h := iteT hc22 h
    refine rif_t (wz2.null.mpr hc22) ?_
    cases h
    exact rret hS rfl
  · have h := iteF hc22 h
    refine rif_f (fun q => hc22 (wz2.null.mp q)) ?_
    by_cases hc27 : z4.1 ≠ -1
    · have h := iteT hc27 h
      refine rif_t (fun q => hc27 (wz4.null.mp q)) ?_
      by_cases hc35 : a4 < 1
      · have h := iteT hc35 h
        refine rif_t hc35 ?_
        cases h
        exact rret hS rfl
      · have h := iteF hc35 h
        refine rif_f hc35 ?_
        by_cases hc43 : a4 > 1000
        · have h := iteT hc43 h
          refine rif_t hc43 ?_
          cases h
          exact rret hS rfl
        · have h := iteF hc43 h
          refine rif_f hc43 ?_
          by_cases hc47 : a3 < 0
          · have h := iteT hc47 h
            refine rif_t hc47 ?_
            cases h
            exact rret hS rfl
          · have h := iteF hc47 h
            refine rif_f hc47 ?_
            by_cases hc53 : a3 ≤ a4
            · have h := iteT hc53 h
              refine rif_t hc53 ?_
              obtain ⟨x5, ex5, h⟩ := bnd h
              refine rb_ld 20 hS wz2 ex5 rfl rfl ?_
              by_cases hc64 : x5 ≠ (-1)
              · have h := iteT hc64 h
                refine rif_t hc64 ?_
                cases h
                exact rret hS rfl
              · have h := iteF hc64 h
                refine rif_f hc64 ?_
                obtain ⟨x6, ex6, h⟩ := bnd h
                refine rb_ld 20 hS wz2 ex6 rfl rfl ?_
                by_cases hc73 : x6 < 2
                · have h := iteT hc73 h
                  refine rif_t hc73 ?_
                  cases h
                  exact rret hS rfl
                · have h := iteF hc73 h
                  refine rif_f hc73 ?_
                  obtain ⟨x7, ex7, h⟩ := bnd h
                  refine rb_ld 20 hS wz2 ex7 rfl rfl ?_
                  by_cases hc82 : x7 > 4
                  · have h := iteT hc82 h
                    refine rif_t hc82 ?_
                    cases h
                    exact rret hS rfl
                  · have h := iteF hc82 h
                    refine rif_f hc82 ?_
                    obtain ⟨x8, ex8, h⟩ := bnd h
                    refine rb_ld 40 hS wz4 ex8 rfl rfl ?_
                    by_cases hc91 : x8 = (-1)
                    · have h := iteT hc91 h
                      refine rif_t hc91 ?_
                      obtain ⟨z9, ez9, h⟩ := bnd h
                      refine rb_call (ρc := 0) (s_X8_sortRising hS w0 ez9) ?_
                      intro ad Cn bz9 H hS hx wz9
                      dsimp only
                      obtain rfl : bz9 = z9.1 := wz9
                      have w0 := w0.mono hx
                      have wz2 := wz2.mono hx
                      have wz4 := wz4.mono hx
                      by_cases hc106 : z9.1 ≠ 0
                      · have h := iteT hc106 h
                        refine rif_t hc106 ?_
                        obtain ⟨x10, ex10, h⟩ := bnd h
                        refine rb_ldr 0 14 hS w0 ex10 rfl rfl ?_
                        intro bx10 wx10
                        by_cases hz123 : a4 = 0
                        · rw [if_pos hz123] at h; cases h
                        have h := iteF hz123 h
                        refine rif_f hz123 ?_
                        obtain ⟨x11, ex11, h⟩ := bnd h
                        refine rb_ld 14 hS wx10 ex11 rfl rfl ?_
                        obtain ⟨x12, ex12, h⟩ := bnd h
                        refine rb_ldr 0 5 hS w0 ex12 rfl rfl ?_
                        intro bx12 wx12
                        obtain ⟨x13, ex13, h⟩ := bnd h
                        refine rb_ldr 5 30 hS wx12 ex13 rfl rfl ?_
                        intro bx13 wx13
                        obtain ⟨x14, ex14, h⟩ := bnd h
                        refine rb_ldr 30 31 hS wx13 ex14 rfl rfl ?_
                        intro bx14 wx14
                        obtain ⟨x15, ex15, h⟩ := bnd h
                        refine rb_ldr 31 32 hS wx14 ex15 rfl rfl ?_
                        intro bx15 wx15
                        obtain ⟨z16, ez16, h⟩ := bnd h
                        refine rb_call (ρc := 0) (s_X8_spot hS ez16) ?_
                        intro ad Cn bz16 H hS hx wz16
                        dsimp only
                        obtain rfl : bz16 = z16.1 := wz16
                        have w0 := w0.mono hx
                        have wz2 := wz2.mono hx
                        have wz4 := wz4.mono hx
                        have wx15 := wx15.mono hx
                        obtain ⟨x17, ex17, h⟩ := bnd h
                        refine rb_ld 32 hS wx15 ex17 rfl rfl ?_
                        cases h
                        exact rret hS rfl
                      · have h := iteF hc106 h
                        refine rif_f hc106 ?_
                        cases h
                        exact rret hS rfl
                    · have h := iteF hc91 h
                      refine rif_f hc91 ?_
                      cases h
                      exact rret hS rfl
            · have h := iteF hc53 h
              refine rif_f hc53 ?_
              cases h
              exact rret hS rfl
    · have h := iteF hc27 h
      refine rif_f (fun q => hc27 (fun z => q (wz4.null.mpr z))) ?_
      cases h
      exact rret hS rfl
/-! HouseholdVault.mark(IZ)I by roles -/
def gjX8_mark_45 (p2 p3 s0 : Int) (G : GS) : GO :=
  (gsz 20 G p3 11 p2).bind fun G1 => some (s0, G1)
set_option maxHeartbeats 4000000 in
theorem sjX8_mark_45 {ad : Nat → Nat → Nat} {Cn : Nat → Nat} {H : PH} {G G' : GS} {rr : Int} {p2 p3 s0 b3 : Int} (hS : SimA ad Cn H G) (w3 : vrel ad Cn 20 b3 p3) (h : gjX8_mark_45 p2 p3 s0 G = some (rr, G')) : RS ad Cn (jX8_mark_45 p2 b3 s0 H) 0 rr G' := by
  unfold gjX8_mark_45 at h
  unfold jX8_mark_45
  obtain ⟨G1, eG1, h⟩ := bnd h
  refine rb_stz 20 hS w3 rfl eG1 rfl ?_
  intro H hS
  cases h
  exact rret hS rfl
def g_X8_mark (a0 a1 a2 : Int) (G : GS) : GO := gvm a0 <|
  (gl 0 G a0 0).bind fun x1 => (g_X3_questionOf x1 a1 G).bind fun z2 => (if z2.1 ≠ -1 then (gl 20 z2.2 z2.1 1).bind fun x3 => (if x3 ≠ (-1) then some ((-2), z2.2)
  else (gl 20 z2.2 z2.1 2).bind fun x4 => (if x4 = 0 then (gl 20 z2.2 z2.1 11).bind fun x5 => (if x5 = 0 then gjX8_mark_45 a2 z2.1 0 z2.2
  else gjX8_mark_45 a2 z2.1 1 z2.2)
  else some ((-2), z2.2)))
  else some ((-1), z2.2))
set_option maxHeartbeats 4000000 in
theorem s_X8_mark {ad : Nat → Nat → Nat} {Cn : Nat → Nat} {H : PH} {G G' : GS} {rr : Int} {a0 a1 a2 b0 : Int} (hS : SimA ad Cn H G) (w0 : vrel ad Cn 0 b0 a0) (h : g_X8_mark a0 a1 a2 G = some (rr, G')) : RS ad Cn (f_X8_mark b0 a1 a2 H) 0 rr G' := by
  unfold g_X8_mark at h
  unfold f_X8_mark
  obtain ⟨hv, h⟩ := gvm_spec h
  refine rb_vm 0 8 hS w0 hv rfl ?_
  obtain ⟨x1, ex1, h⟩ := bnd h
  refine rb_ldr 0 1 hS w0 ex1 rfl rfl ?_
  intro bx1 wx1
  obtain ⟨z2, ez2, h⟩ := bnd h
  refine rb_call (ρc := 21) (s_X3_questionOf hS wx1 ez2) ?_
  intro ad Cn bz2 H hS hx wz2
  dsimp only
  have w0 := w0.mono hx
  by_cases hc10 : z2.1 ≠ -1
  · have h := iteT hc10 h
    refine rif_t (fun q => hc10 (wz2.null.mp q)) ?_
    obtain ⟨x3, ex3, h⟩ := bnd h
    refine rb_ld 20 hS wz2 ex3 rfl rfl ?_
    by_cases hc20 : x3 ≠ (-1)
    · have h := iteT hc20 h
      refine rif_t hc20 ?_
      cases h
      exact rret hS rfl
    · have h := iteF hc20 h
      refine rif_f hc20 ?_
      obtain ⟨x4, ex4, h⟩ := bnd h
      refine rb_ld 20 hS wz2 ex4 rfl rfl ?_
      by_cases hc27 : x4 = 0
      · have h := iteT hc27 h
        refine rif_t hc27 ?_
        obtain ⟨x5, ex5, h⟩ := bnd h
        refine rb_ld 20 hS wz2 ex5 rfl rfl ?_
        by_cases hc37 : x5 = 0
        · have h := iteT hc37 h
          refine rif_t hc37 ?_
          exact sjX8_mark_45 hS wz2 h
        · have h := iteF hc37 h
          refine rif_f hc37 ?_
          exact sjX8_mark_45 hS wz2 h
      · have h := iteF hc27 h
        refine rif_f hc27 ?_
        cases h
        exact rret hS rfl
  · have h := iteF hc10 h
    refine rif_f (fun q => hc10 (fun z => q (wz2.null.mpr z))) ?_
    cases h
    exact rret hS rfl
/-! HouseholdVault.areLikeIn(ILHouseholdVault$Sheet;LHouseholdVault$Sheet;)Z by roles -/
def gjX8_areLikeIn_89 (self12 : Int → GS → GO) (p0 p1 p2 p3 p4 p5 : Int) (G : GS) : GO :=
  self12 (w32 (p5 + 1)) G
set_option maxHeartbeats 4000000 in
theorem sjX8_areLikeIn_89 {ad : Nat → Nat → Nat} {Cn : Nat → Nat} {H : PH} {G G' : GS} {rr : Int} {fself12 : Int → PH → RO} {self12 : Int → GS → GO} {p0 p1 p2 p3 p4 p5 b0 b2 b3 : Int} (ih12 : ∀ (ad : Nat → Nat → Nat) (Cn : Nat → Nat) (H : PH) (G : GS) (v5 : Int) , SimA ad Cn H G → vrel ad Cn 0 b0 p0 → vrel ad Cn 31 b2 p2 → vrel ad Cn 31 b3 p3 → self12 v5 G = some (rr, G') → RS ad Cn (fself12 v5 H) 0 rr G') (hS : SimA ad Cn H G) (w0 : vrel ad Cn 0 b0 p0) (w2 : vrel ad Cn 31 b2 p2) (w3 : vrel ad Cn 31 b3 p3) (h : gjX8_areLikeIn_89 self12 p0 p1 p2 p3 p4 p5 G = some (rr, G')) : RS ad Cn (jX8_areLikeIn_89 fself12 b0 p1 b2 b3 p4 p5 H) 0 rr G' := by
  unfold gjX8_areLikeIn_89 at h
  unfold jX8_areLikeIn_89
  exact ih12 _ _ _ _ (w32 (p5 + 1))  hS w0 w2 w3  h
def glX8_areLikeIn_59 (self12 : Int → GS → GO) (p0 p1 p2 p3 p4 p5 : Int) (self59 : Int → GS → GO) (p7 : Int) (G : GS) : GO :=
  (if p7 ≥ p4 then gjX8_areLikeIn_89 self12 p0 p1 p2 p3 p4 p5 G
  else (g_X8_spot p5 p7 G).bind fun z1 => (g_X6_isLike p2 p3 z1.1 z1.2).bind fun z2 => (if z2.1 ≠ 0 then self59 (w32 (p7 + 1)) z2.2
  else some (0, z2.2)))
set_option maxHeartbeats 4000000 in
theorem slX8_areLikeIn_59 {G' : GS} {rr : Int} {fself12 : Int → PH → RO} {self12 : Int → GS → GO} {p0 p1 p2 p3 p4 p5 b0 b2 b3 : Int} (ih12 : ∀ (ad : Nat → Nat → Nat) (Cn : Nat → Nat) (H : PH) (G : GS) (v5 : Int) , SimA ad Cn H G → vrel ad Cn 0 b0 p0 → vrel ad Cn 31 b2 p2 → vrel ad Cn 31 b3 p3 → self12 v5 G = some (rr, G') → RS ad Cn (fself12 v5 H) 0 rr G') : ∀ (n : Nat) (ad : Nat → Nat → Nat) (Cn : Nat → Nat) (H : PH) (G : GS) (p7 : Int) , SimA ad Cn H G → vrel ad Cn 0 b0 p0 → vrel ad Cn 31 b2 p2 → vrel ad Cn 31 b3 p3 → lh1 (glX8_areLikeIn_59 self12 p0 p1 p2 p3 p4 p5) n p7 G = some (rr, G') → RS ad Cn (lq1 (lX8_areLikeIn_59 fself12 b0 p1 b2 b3 p4 p5) n p7 H) 0 rr G' := by
  intro n
  induction n with
  | zero => intro ad Cn H G p7 hS w0 w2 w3 h; cases h
  | succ n ih59 =>
    intro ad Cn H G p7 hS w0 w2 w3 h
    rw [lh1_s] at h
    rw [lq1_s]
    generalize lh1 (glX8_areLikeIn_59 self12 p0 p1 p2 p3 p4 p5) n = self59 at ih59 h
    generalize lq1 (lX8_areLikeIn_59 fself12 b0 p1 b2 b3 p4 p5) n = fself59 at ih59 ⊢
    unfold glX8_areLikeIn_59 at h
    unfold lX8_areLikeIn_59
    by_cases hc63 : p7 ≥ p4
    · have h := iteT hc63 h
      refine rif_t hc63 ?_
      exact sjX8_areLikeIn_89 ih12 hS w0 w2 w3 h
    · have h := iteF hc63 h
      refine rif_f hc63 ?_
      obtain ⟨z1, ez1, h⟩ := bnd h
      refine rb_call (ρc := 0) (s_X8_spot hS ez1) ?_
      intro ad Cn bz1 H hS hx wz1
      dsimp only
      obtain rfl : bz1 = z1.1 := wz1
      have w0 := w0.mono hx
      have w2 := w2.mono hx
      have w3 := w3.mono hx
      obtain ⟨z2, ez2, h⟩ := bnd h
      refine rb_call (ρc := 0) (s_X6_isLike hS w2 w3 ez2) ?_
      intro ad Cn bz2 H hS hx wz2
      dsimp only
      obtain rfl : bz2 = z2.1 := wz2
      have w0 := w0.mono hx
      have w2 := w2.mono hx
      have w3 := w3.mono hx
      by_cases hc78 : z2.1 ≠ 0
      · have h := iteT hc78 h
        refine rif_t hc78 ?_
        exact ih59 _ _ _ _ (w32 (p7 + 1))  hS w0 w2 w3  h
      · have h := iteF hc78 h
        refine rif_f hc78 ?_
        cases h
        exact rret hS rfl
def glX8_areLikeIn_12 (p0 p1 p2 p3 p4 : Int) (self12 : Int → GS → GO) (p5 : Int) (G : GS) : GO :=
  (gl 0 G p0 0).bind fun x1 => (gl 1 G x1 1).bind fun x2 => (if p5 ≥ x2 then some (1, G)
  else (gl 0 G p0 0).bind fun x3 => (gl 1 G x3 0).bind fun x4 => (gl 2 G x4 p5).bind fun x5 => (gl 20 G x5 1).bind fun x6 => (if x6 ≠ p1 then gjX8_areLikeIn_89 self12 p0 p1 p2 p3 p4 p5 G
  else (gl 20 G x5 2).bind fun x7 => (if x7 = 0 then lh1 (glX8_areLikeIn_59 self12 p0 p1 p2 p3 p4 p5) 6000 0 G
  else gjX8_areLikeIn_89 self12 p0 p1 p2 p3 p4 p5 G)))
set_option maxHeartbeats 4000000 in
theorem slX8_areLikeIn_12 {G' : GS} {rr : Int} {p0 p1 p2 p3 p4 b0 b2 b3 : Int} : ∀ (n : Nat) (ad : Nat → Nat → Nat) (Cn : Nat → Nat) (H : PH) (G : GS) (p5 : Int) , SimA ad Cn H G → vrel ad Cn 0 b0 p0 → vrel ad Cn 31 b2 p2 → vrel ad Cn 31 b3 p3 → lh1 (glX8_areLikeIn_12 p0 p1 p2 p3 p4) n p5 G = some (rr, G') → RS ad Cn (lq1 (lX8_areLikeIn_12 b0 p1 b2 b3 p4) n p5 H) 0 rr G' := by
  intro n
  induction n with
  | zero => intro ad Cn H G p5 hS w0 w2 w3 h; cases h
  | succ n ih12 =>
    intro ad Cn H G p5 hS w0 w2 w3 h
    rw [lh1_s] at h
    rw [lq1_s]
    generalize lh1 (glX8_areLikeIn_12 p0 p1 p2 p3 p4) n = self12 at ih12 h
    generalize lq1 (lX8_areLikeIn_12 b0 p1 b2 b3 p4) n = fself12 at ih12 ⊢
    unfold glX8_areLikeIn_12 at h
    unfold lX8_areLikeIn_12
    obtain ⟨x1, ex1, h⟩ := bnd h
    refine rb_ldr 0 1 hS w0 ex1 rfl rfl ?_
    intro bx1 wx1
    obtain ⟨x2, ex2, h⟩ := bnd h
    refine rb_ld 1 hS wx1 ex2 rfl rfl ?_
    by_cases hc21 : p5 ≥ x2
    · have h := iteT hc21 h
      refine rif_t hc21 ?_
      cases h
      exact rret hS rfl
    · have h := iteF hc21 h
      refine rif_f hc21 ?_
      obtain ⟨x3, ex3, h⟩ := bnd h
      refine rb_ldr 0 1 hS w0 ex3 rfl rfl ?_
      intro bx3 wx3
      obtain ⟨x4, ex4, h⟩ := bnd h
      refine rb_ldr 1 2 hS wx3 ex4 rfl rfl ?_
      intro bx4 wx4
      obtain ⟨x5, ex5, h⟩ := bnd h
      refine rb_ldr 2 20 hS wx4 ex5 rfl rfl ?_
      intro bx5 wx5
      obtain ⟨x6, ex6, h⟩ := bnd h
      refine rb_ld 20 hS wx5 ex6 rfl rfl ?_
      by_cases hc42 : x6 ≠ p1
      · have h := iteT hc42 h
        refine rif_t hc42 ?_
        exact sjX8_areLikeIn_89 ih12 hS w0 w2 w3 h
      · have h := iteF hc42 h
        refine rif_f hc42 ?_
        obtain ⟨x7, ex7, h⟩ := bnd h
        refine rb_ld 20 hS wx5 ex7 rfl rfl ?_
        by_cases hc50 : x7 = 0
        · have h := iteT hc50 h
          refine rif_t hc50 ?_
          exact slX8_areLikeIn_59 ih12 6000 _ _ _ _ 0  hS w0 w2 w3 h
        · have h := iteF hc50 h
          refine rif_f hc50 ?_
          exact sjX8_areLikeIn_89 ih12 hS w0 w2 w3 h
def g_X8_areLikeIn (a0 a1 a2 a3 : Int) (G : GS) : GO := gvm a0 <|
  (g_X6_persons a2 a1 G).bind fun z1 => lh1 (glX8_areLikeIn_12 a0 a1 a2 a3 z1.1) 6000 (w32 (a1 + 1)) z1.2
set_option maxHeartbeats 4000000 in
theorem s_X8_areLikeIn {ad : Nat → Nat → Nat} {Cn : Nat → Nat} {H : PH} {G G' : GS} {rr : Int} {a0 a1 a2 a3 b0 b2 b3 : Int} (hS : SimA ad Cn H G) (w0 : vrel ad Cn 0 b0 a0) (w2 : vrel ad Cn 31 b2 a2) (w3 : vrel ad Cn 31 b3 a3) (h : g_X8_areLikeIn a0 a1 a2 a3 G = some (rr, G')) : RS ad Cn (f_X8_areLikeIn b0 a1 b2 b3 H) 0 rr G' := by
  unfold g_X8_areLikeIn at h
  unfold f_X8_areLikeIn
  obtain ⟨hv, h⟩ := gvm_spec h
  refine rb_vm 0 8 hS w0 hv rfl ?_
  obtain ⟨z1, ez1, h⟩ := bnd h
  refine rb_call (ρc := 0) (s_X6_persons hS w2 ez1) ?_
  intro ad Cn bz1 H hS hx wz1
  dsimp only
  obtain rfl : bz1 = z1.1 := wz1
  have w0 := w0.mono hx
  have w2 := w2.mono hx
  have w3 := w3.mono hx
  exact slX8_areLikeIn_12 6000 _ _ _ _ (w32 (a1 + 1))  hS w0 w2 w3 h
/-! HouseholdVault.areDoubles(LHouseholdVault$Sheet;LHouseholdVault$Sheet;)Z by roles -/
def gjX8_areDoubles_71 (self2 : Int → GS → GO) (p0 p1 p2 p3 : Int) (G : GS) : GO :=
  self2 (w32 (p3 + 1)) G
set_option maxHeartbeats 4000000 in
theorem sjX8_areDoubles_71 {ad : Nat → Nat → Nat} {Cn : Nat → Nat} {H : PH} {G G' : GS} {rr : Int} {fself2 : Int → PH → RO} {self2 : Int → GS → GO} {p0 p1 p2 p3 b0 b1 b2 : Int} (ih2 : ∀ (ad : Nat → Nat → Nat) (Cn : Nat → Nat) (H : PH) (G : GS) (v3 : Int) , SimA ad Cn H G → vrel ad Cn 0 b0 p0 → vrel ad Cn 31 b1 p1 → vrel ad Cn 31 b2 p2 → self2 v3 G = some (rr, G') → RS ad Cn (fself2 v3 H) 0 rr G') (hS : SimA ad Cn H G) (w0 : vrel ad Cn 0 b0 p0) (w1 : vrel ad Cn 31 b1 p1) (w2 : vrel ad Cn 31 b2 p2) (h : gjX8_areDoubles_71 self2 p0 p1 p2 p3 G = some (rr, G')) : RS ad Cn (jX8_areDoubles_71 fself2 b0 b1 b2 p3 H) 0 rr G' := by
  unfold gjX8_areDoubles_71 at h
  unfold jX8_areDoubles_71
  exact ih2 _ _ _ _ (w32 (p3 + 1))  hS w0 w1 w2  h
def glX8_areDoubles_2 (p0 p1 p2 : Int) (self2 : Int → GS → GO) (p3 : Int) (G : GS) : GO :=
  (gl 0 G p0 0).bind fun x1 => (gl 1 G x1 1).bind fun x2 => (if p3 ≥ x2 then some (1, G)
  else (gl 0 G p0 0).bind fun x3 => (gl 1 G x3 0).bind fun x4 => (gl 2 G x4 p3).bind fun x5 => (gl 20 G x5 11).bind fun x6 => (if x6 ≠ 0 then (g_X8_spot p3 (-1) G).bind fun z7 => (g_X6_isLike p1 p2 z7.1 z7.2).bind fun z8 => (if z8.1 ≠ 0 then (gl 20 z8.2 x5 0).bind fun x9 => (if x9 ≠ 5 then gjX8_areDoubles_71 self2 p0 p1 p2 p3 z8.2
  else (g_X8_areLikeIn p0 p3 p1 p2 z8.2).bind fun z10 => (if z10.1 ≠ 0 then gjX8_areDoubles_71 self2 p0 p1 p2 p3 z10.2
  else some (0, z10.2)))
  else some (0, z8.2))
  else gjX8_areDoubles_71 self2 p0 p1 p2 p3 G))
set_option maxHeartbeats 4000000 in
theorem slX8_areDoubles_2 {G' : GS} {rr : Int} {p0 p1 p2 b0 b1 b2 : Int} : ∀ (n : Nat) (ad : Nat → Nat → Nat) (Cn : Nat → Nat) (H : PH) (G : GS) (p3 : Int) , SimA ad Cn H G → vrel ad Cn 0 b0 p0 → vrel ad Cn 31 b1 p1 → vrel ad Cn 31 b2 p2 → lh1 (glX8_areDoubles_2 p0 p1 p2) n p3 G = some (rr, G') → RS ad Cn (lq1 (lX8_areDoubles_2 b0 b1 b2) n p3 H) 0 rr G' := by
  intro n
  induction n with
  | zero => intro ad Cn H G p3 hS w0 w1 w2 h; cases h
  | succ n ih2 =>
    intro ad Cn H G p3 hS w0 w1 w2 h
    rw [lh1_s] at h
    rw [lq1_s]
    generalize lh1 (glX8_areDoubles_2 p0 p1 p2) n = self2 at ih2 h
    generalize lq1 (lX8_areDoubles_2 b0 b1 b2) n = fself2 at ih2 ⊢
    unfold glX8_areDoubles_2 at h
    unfold lX8_areDoubles_2
    obtain ⟨x1, ex1, h⟩ := bnd h
    refine rb_ldr 0 1 hS w0 ex1 rfl rfl ?_
    intro bx1 wx1
    obtain ⟨x2, ex2, h⟩ := bnd h
    refine rb_ld 1 hS wx1 ex2 rfl rfl ?_
    by_cases hc10 : p3 ≥ x2
    · have h := iteT hc10 h
      refine rif_t hc10 ?_
      cases h
      exact rret hS rfl
    · have h := iteF hc10 h
      refine rif_f hc10 ?_
      obtain ⟨x3, ex3, h⟩ := bnd h
      refine rb_ldr 0 1 hS w0 ex3 rfl rfl ?_
      intro bx3 wx3
      obtain ⟨x4, ex4, h⟩ := bnd h
      refine rb_ldr 1 2 hS wx3 ex4 rfl rfl ?_
      intro bx4 wx4
      obtain ⟨x5, ex5, h⟩ := bnd h
      refine rb_ldr 2 20 hS wx4 ex5 rfl rfl ?_
      intro bx5 wx5
      obtain ⟨x6, ex6, h⟩ := bnd h
      refine rb_ld 20 hS wx5 ex6 rfl rfl ?_
      by_cases hc29 : x6 ≠ 0
      · have h := iteT hc29 h
        refine rif_t hc29 ?_
        obtain ⟨z7, ez7, h⟩ := bnd h
        refine rb_call (ρc := 0) (s_X8_spot hS ez7) ?_
        intro ad Cn bz7 H hS hx wz7
        dsimp only
        obtain rfl : bz7 = z7.1 := wz7
        have w0 := w0.mono hx
        have w1 := w1.mono hx
        have w2 := w2.mono hx
        have wx5 := wx5.mono hx
        obtain ⟨z8, ez8, h⟩ := bnd h
        refine rb_call (ρc := 0) (s_X6_isLike hS w1 w2 ez8) ?_
        intro ad Cn bz8 H hS hx wz8
        dsimp only
        obtain rfl : bz8 = z8.1 := wz8
        have w0 := w0.mono hx
        have w1 := w1.mono hx
        have w2 := w2.mono hx
        have wx5 := wx5.mono hx
        by_cases hc45 : z8.1 ≠ 0
        · have h := iteT hc45 h
          refine rif_t hc45 ?_
          obtain ⟨x9, ex9, h⟩ := bnd h
          refine rb_ld 20 hS wx5 ex9 rfl rfl ?_
          by_cases hc56 : x9 ≠ 5
          · have h := iteT hc56 h
            refine rif_t hc56 ?_
            exact sjX8_areDoubles_71 ih2 hS w0 w1 w2 h
          · have h := iteF hc56 h
            refine rif_f hc56 ?_
            obtain ⟨z10, ez10, h⟩ := bnd h
            refine rb_call (ρc := 0) (s_X8_areLikeIn hS w0 w1 w2 ez10) ?_
            intro ad Cn bz10 H hS hx wz10
            dsimp only
            obtain rfl : bz10 = z10.1 := wz10
            have w0 := w0.mono hx
            have w1 := w1.mono hx
            have w2 := w2.mono hx
            have wx5 := wx5.mono hx
            by_cases hc66 : z10.1 ≠ 0
            · have h := iteT hc66 h
              refine rif_t hc66 ?_
              exact sjX8_areDoubles_71 ih2 hS w0 w1 w2 h
            · have h := iteF hc66 h
              refine rif_f hc66 ?_
              cases h
              exact rret hS rfl
        · have h := iteF hc45 h
          refine rif_f hc45 ?_
          cases h
          exact rret hS rfl
      · have h := iteF hc29 h
        refine rif_f hc29 ?_
        exact sjX8_areDoubles_71 ih2 hS w0 w1 w2 h
def g_X8_areDoubles (a0 a1 a2 : Int) (G : GS) : GO := gvm a0 <|
  lh1 (glX8_areDoubles_2 a0 a1 a2) 6000 0 G
set_option maxHeartbeats 4000000 in
theorem s_X8_areDoubles {ad : Nat → Nat → Nat} {Cn : Nat → Nat} {H : PH} {G G' : GS} {rr : Int} {a0 a1 a2 b0 b1 b2 : Int} (hS : SimA ad Cn H G) (w0 : vrel ad Cn 0 b0 a0) (w1 : vrel ad Cn 31 b1 a1) (w2 : vrel ad Cn 31 b2 a2) (h : g_X8_areDoubles a0 a1 a2 G = some (rr, G')) : RS ad Cn (f_X8_areDoubles b0 b1 b2 H) 0 rr G' := by
  unfold g_X8_areDoubles at h
  unfold f_X8_areDoubles
  obtain ⟨hv, h⟩ := gvm_spec h
  refine rb_vm 0 8 hS w0 hv rfl ?_
  exact slX8_areDoubles_2 6000 _ _ _ _ 0  hS w0 w1 w2 h
/-! HouseholdVault.findDoubles(I)V by roles -/
def gjX8_findDoubles_76 (self21 : Int → GS → GO) (self33 : Int → GS → GO) (p0 p2 p3 : Int) (G : GS) : GO :=
  self33 (w32 (p3 + 1)) G
set_option maxHeartbeats 4000000 in
theorem sjX8_findDoubles_76 {ad : Nat → Nat → Nat} {Cn : Nat → Nat} {H : PH} {G G' : GS} {rr : Int} {fself21 : Int → PH → RO} {self21 : Int → GS → GO} {fself33 : Int → PH → RO} {self33 : Int → GS → GO} {p0 p2 p3 b0 : Int} (ih21 : ∀ (ad : Nat → Nat → Nat) (Cn : Nat → Nat) (H : PH) (G : GS) (v2 : Int) , SimA ad Cn H G → vrel ad Cn 0 b0 p0 → self21 v2 G = some (rr, G') → RS ad Cn (fself21 v2 H) 0 rr G') (ih33 : ∀ (ad : Nat → Nat → Nat) (Cn : Nat → Nat) (H : PH) (G : GS) (v3 : Int) , SimA ad Cn H G → vrel ad Cn 0 b0 p0 → self33 v3 G = some (rr, G') → RS ad Cn (fself33 v3 H) 0 rr G') (hS : SimA ad Cn H G) (w0 : vrel ad Cn 0 b0 p0) (h : gjX8_findDoubles_76 self21 self33 p0 p2 p3 G = some (rr, G')) : RS ad Cn (jX8_findDoubles_76 fself21 fself33 b0 p2 p3 H) 0 rr G' := by
  unfold gjX8_findDoubles_76 at h
  unfold jX8_findDoubles_76
  exact ih33 _ _ _ _ (w32 (p3 + 1))  hS w0  h
def glX8_findDoubles_33 (self21 : Int → GS → GO) (p0 p2 : Int) (self33 : Int → GS → GO) (p3 : Int) (G : GS) : GO :=
  (gl 0 G p0 2).bind fun x1 => (if p3 ≥ x1 then self21 (w32 (p2 + 1)) G
  else (gl 0 G p0 1).bind fun x2 => (gl 5 G x2 p2).bind fun x3 => (gl 30 G x3 0).bind fun x4 => (gl 0 G p0 1).bind fun x5 => (gl 5 G x5 p3).bind fun x6 => (gl 30 G x6 0).bind fun x7 => (g_X8_areDoubles p0 x4 x7 G).bind fun z8 => (if z8.1 = 0 then gjX8_findDoubles_76 self21 self33 p0 p2 p3 z8.2
  else (gl 0 z8.2 p0 6).bind fun x9 => (g_X2_meet x9 p2 p3 (-1) z8.2).bind fun z10 => gjX8_findDoubles_76 self21 self33 p0 p2 p3 z10.2))
set_option maxHeartbeats 4000000 in
theorem slX8_findDoubles_33 {G' : GS} {rr : Int} {fself21 : Int → PH → RO} {self21 : Int → GS → GO} {p0 p2 b0 : Int} (ih21 : ∀ (ad : Nat → Nat → Nat) (Cn : Nat → Nat) (H : PH) (G : GS) (v2 : Int) , SimA ad Cn H G → vrel ad Cn 0 b0 p0 → self21 v2 G = some (rr, G') → RS ad Cn (fself21 v2 H) 0 rr G') : ∀ (n : Nat) (ad : Nat → Nat → Nat) (Cn : Nat → Nat) (H : PH) (G : GS) (p3 : Int) , SimA ad Cn H G → vrel ad Cn 0 b0 p0 → lh1 (glX8_findDoubles_33 self21 p0 p2) n p3 G = some (rr, G') → RS ad Cn (lq1 (lX8_findDoubles_33 fself21 b0 p2) n p3 H) 0 rr G' := by
  intro n
  induction n with
  | zero => intro ad Cn H G p3 hS w0 h; cases h
  | succ n ih33 =>
    intro ad Cn H G p3 hS w0 h
    rw [lh1_s] at h
    rw [lq1_s]
    generalize lh1 (glX8_findDoubles_33 self21 p0 p2) n = self33 at ih33 h
    generalize lq1 (lX8_findDoubles_33 fself21 b0 p2) n = fself33 at ih33 ⊢
    unfold glX8_findDoubles_33 at h
    unfold lX8_findDoubles_33
    obtain ⟨x1, ex1, h⟩ := bnd h
    refine rb_ld 0 hS w0 ex1 rfl rfl ?_
    by_cases hc38 : p3 ≥ x1
    · have h := iteT hc38 h
      refine rif_t hc38 ?_
      exact ih21 _ _ _ _ (w32 (p2 + 1))  hS w0  h
    · have h := iteF hc38 h
      refine rif_f hc38 ?_
      obtain ⟨x2, ex2, h⟩ := bnd h
      refine rb_ldr 0 5 hS w0 ex2 rfl rfl ?_
      intro bx2 wx2
      obtain ⟨x3, ex3, h⟩ := bnd h
      refine rb_ldr 5 30 hS wx2 ex3 rfl rfl ?_
      intro bx3 wx3
      obtain ⟨x4, ex4, h⟩ := bnd h
      refine rb_ldr 30 31 hS wx3 ex4 rfl rfl ?_
      intro bx4 wx4
      obtain ⟨x5, ex5, h⟩ := bnd h
      refine rb_ldr 0 5 hS w0 ex5 rfl rfl ?_
      intro bx5 wx5
      obtain ⟨x6, ex6, h⟩ := bnd h
      refine rb_ldr 5 30 hS wx5 ex6 rfl rfl ?_
      intro bx6 wx6
      obtain ⟨x7, ex7, h⟩ := bnd h
      refine rb_ldr 30 31 hS wx6 ex7 rfl rfl ?_
      intro bx7 wx7
      obtain ⟨z8, ez8, h⟩ := bnd h
      refine rb_call (ρc := 0) (s_X8_areDoubles hS w0 wx4 wx7 ez8) ?_
      intro ad Cn bz8 H hS hx wz8
      dsimp only
      obtain rfl : bz8 = z8.1 := wz8
      have w0 := w0.mono hx
      by_cases hc63 : z8.1 = 0
      · have h := iteT hc63 h
        refine rif_t hc63 ?_
        exact sjX8_findDoubles_76 ih21 ih33 hS w0 h
      · have h := iteF hc63 h
        refine rif_f hc63 ?_
        obtain ⟨x9, ex9, h⟩ := bnd h
        refine rb_ldr 0 13 hS w0 ex9 rfl rfl ?_
        intro bx9 wx9
        obtain ⟨z10, ez10, h⟩ := bnd h
        refine rb_call (ρc := 0) (s_X2_meet hS wx9 ez10) ?_
        intro ad Cn bz10 H hS hx wz10
        dsimp only
        obtain rfl : bz10 = z10.1 := wz10
        have w0 := w0.mono hx
        exact sjX8_findDoubles_76 ih21 ih33 hS w0 h
def glX8_findDoubles_21 (p0 : Int) (self21 : Int → GS → GO) (p2 : Int) (G : GS) : GO :=
  (gl 0 G p0 2).bind fun x1 => (if p2 ≥ x1 then some (0, G)
  else lh1 (glX8_findDoubles_33 self21 p0 p2) 6000 (w32 (p2 + 1)) G)
set_option maxHeartbeats 4000000 in
theorem slX8_findDoubles_21 {G' : GS} {rr : Int} {p0 b0 : Int} : ∀ (n : Nat) (ad : Nat → Nat → Nat) (Cn : Nat → Nat) (H : PH) (G : GS) (p2 : Int) , SimA ad Cn H G → vrel ad Cn 0 b0 p0 → lh1 (glX8_findDoubles_21 p0) n p2 G = some (rr, G') → RS ad Cn (lq1 (lX8_findDoubles_21 b0) n p2 H) 0 rr G' := by
  intro n
  induction n with
  | zero => intro ad Cn H G p2 hS w0 h; cases h
  | succ n ih21 =>
    intro ad Cn H G p2 hS w0 h
    rw [lh1_s] at h
    rw [lq1_s]
    generalize lh1 (glX8_findDoubles_21 p0) n = self21 at ih21 h
    generalize lq1 (lX8_findDoubles_21 b0) n = fself21 at ih21 ⊢
    unfold glX8_findDoubles_21 at h
    unfold lX8_findDoubles_21
    obtain ⟨x1, ex1, h⟩ := bnd h
    refine rb_ld 0 hS w0 ex1 rfl rfl ?_
    by_cases hc26 : p2 ≥ x1
    · have h := iteT hc26 h
      refine rif_t hc26 ?_
      cases h
      exact rret hS rfl
    · have h := iteF hc26 h
      refine rif_f hc26 ?_
      exact slX8_findDoubles_33 ih21 6000 _ _ _ _ (w32 (p2 + 1))  hS w0 h
def g_X8_findDoubles (a0 a1 : Int) (G : GS) : GO := gvm a0 <|
  (gl 0 G a0 6).bind fun x1 => (g_X2_start x1 a1 G).bind fun z2 => (gl 0 z2.2 a0 0).bind fun x3 => (g_X3_hasMarked x3 z2.2).bind fun z4 => (if z4.1 ≠ 0 then lh1 (glX8_findDoubles_21 a0) 6000 0 z4.2
  else some (0, z4.2))
set_option maxHeartbeats 4000000 in
theorem s_X8_findDoubles {ad : Nat → Nat → Nat} {Cn : Nat → Nat} {H : PH} {G G' : GS} {rr : Int} {a0 a1 b0 : Int} (hS : SimA ad Cn H G) (w0 : vrel ad Cn 0 b0 a0) (h : g_X8_findDoubles a0 a1 G = some (rr, G')) : RS ad Cn (f_X8_findDoubles b0 a1 H) 0 rr G' := by
  unfold g_X8_findDoubles at h
  unfold f_X8_findDoubles
  obtain ⟨hv, h⟩ := gvm_spec h
  refine rb_vm 0 8 hS w0 hv rfl ?_
  obtain ⟨x1, ex1, h⟩ := bnd h
  refine rb_ldr 0 13 hS w0 ex1 rfl rfl ?_
  intro bx1 wx1
  obtain ⟨z2, ez2, h⟩ := bnd h
  refine rb_call (ρc := 0) (s_X2_start hS wx1 ez2) ?_
  intro ad Cn bz2 H hS hx wz2
  dsimp only
  obtain rfl : bz2 = z2.1 := wz2
  have w0 := w0.mono hx
  obtain ⟨x3, ex3, h⟩ := bnd h
  refine rb_ldr 0 1 hS w0 ex3 rfl rfl ?_
  intro bx3 wx3
  obtain ⟨z4, ez4, h⟩ := bnd h
  refine rb_call (ρc := 0) (s_X3_hasMarked hS wx3 ez4) ?_
  intro ad Cn bz4 H hS hx wz4
  dsimp only
  obtain rfl : bz4 = z4.1 := wz4
  have w0 := w0.mono hx
  by_cases hc15 : z4.1 ≠ 0
  · have h := iteT hc15 h
    refine rif_t hc15 ?_
    exact slX8_findDoubles_21 6000 _ _ _ _ 0  hS w0 h
  · have h := iteF hc15 h
    refine rif_f hc15 ?_
    cases h
    exact rret hS rfl
/-! HouseholdVault.doubles()I by roles -/
def g_X8_doubles (a0 : Int) (G : GS) : GO := gvm a0 <|
  (g_X8_findDoubles a0 (-1) G).bind fun z1 => (gl 0 z1.2 a0 6).bind fun x2 => (gl 13 z1.2 x2 1).bind fun x3 => some (x3, z1.2)
set_option maxHeartbeats 4000000 in
theorem s_X8_doubles {ad : Nat → Nat → Nat} {Cn : Nat → Nat} {H : PH} {G G' : GS} {rr : Int} {a0 b0 : Int} (hS : SimA ad Cn H G) (w0 : vrel ad Cn 0 b0 a0) (h : g_X8_doubles a0 G = some (rr, G')) : RS ad Cn (f_X8_doubles b0 H) 0 rr G' := by
  unfold g_X8_doubles at h
  unfold f_X8_doubles
  obtain ⟨hv, h⟩ := gvm_spec h
  refine rb_vm 0 8 hS w0 hv rfl ?_
  obtain ⟨z1, ez1, h⟩ := bnd h
  refine rb_call (ρc := 0) (s_X8_findDoubles hS w0 ez1) ?_
  intro ad Cn bz1 H hS hx wz1
  dsimp only
  obtain rfl : bz1 = z1.1 := wz1
  have w0 := w0.mono hx
  obtain ⟨x2, ex2, h⟩ := bnd h
  refine rb_ldr 0 13 hS w0 ex2 rfl rfl ?_
  intro bx2 wx2
  obtain ⟨x3, ex3, h⟩ := bnd h
  refine rb_ld 13 hS wx2 ex3 rfl rfl ?_
  cases h
  exact rret hS rfl
/-! HouseholdVault.doubleAt(II)I by roles -/
def g_X8_doubleAt (a0 a1 a2 : Int) (G : GS) : GO := gvm a0 <|
  (if a1 ≥ 0 then (g_X8_findDoubles a0 a1 G).bind fun z1 => (gl 0 z1.2 a0 6).bind fun x2 => (g_X2_told x2 a2 2 (-1) z1.2).bind fun z3 => some (z3.1, z3.2)
  else some ((-1), G))
set_option maxHeartbeats 4000000 in
theorem s_X8_doubleAt {ad : Nat → Nat → Nat} {Cn : Nat → Nat} {H : PH} {G G' : GS} {rr : Int} {a0 a1 a2 b0 : Int} (hS : SimA ad Cn H G) (w0 : vrel ad Cn 0 b0 a0) (h : g_X8_doubleAt a0 a1 a2 G = some (rr, G')) : RS ad Cn (f_X8_doubleAt b0 a1 a2 H) 0 rr G' := by
  unfold g_X8_doubleAt at h
  unfold f_X8_doubleAt
  obtain ⟨hv, h⟩ := gvm_spec h
  refine rb_vm 0 8 hS w0 hv rfl ?_
  by_cases hc1 : a1 ≥ 0
  · have h := iteT hc1 h
    refine rif_t hc1 ?_
    obtain ⟨z1, ez1, h⟩ := bnd h
    refine rb_call (ρc := 0) (s_X8_findDoubles hS w0 ez1) ?_
    intro ad Cn bz1 H hS hx wz1
    dsimp only
    obtain rfl : bz1 = z1.1 := wz1
    have w0 := w0.mono hx
    obtain ⟨x2, ex2, h⟩ := bnd h
    refine rb_ldr 0 13 hS w0 ex2 rfl rfl ?_
    intro bx2 wx2
    obtain ⟨z3, ez3, h⟩ := bnd h
    refine rb_call (ρc := 0) (s_X2_told hS wx2 ez3) ?_
    intro ad Cn bz3 H hS hx wz3
    dsimp only
    obtain rfl : bz3 = z3.1 := wz3
    have w0 := w0.mono hx
    cases h
    exact rret hS rfl
  · have h := iteF hc1 h
    refine rif_f hc1 ?_
    cases h
    exact rret hS rfl
/-! HouseholdVault.freeze()I by roles -/
def glX8_freeze_22 (p0 p1 : Int) (self22 : Int → GS → GO) (p2 : Int) (G : GS) : GO :=
  (gl 0 G p0 2).bind fun x1 => (if p2 ≥ x1 then (gl 0 G p0 3).bind fun x2 => (gl 0 G p0 4).bind fun x3 => (gn 50 (cN 1 : Int) G).bind fun z4 => (gl 0 z4.2 p0 0).bind fun x5 => (gl 1 z4.2 x5 1).bind fun x6 => (g_X1_init z4.1 p1 x6 z4.2).bind fun z7 => (gsa 6 z7.2 x2 x3 z4.1).bind fun G8 => (gl 0 G8 p0 4).bind fun x9 => (gs 0 G8 p0 4 (w32 (x9 + 1))).bind fun G10 => (gl 0 G10 p0 4).bind fun x11 => some ((w32 (x11 - 1)), G10)
  else (gn 31 (cN 6 : Int) G).bind fun z12 => (gl 0 z12.2 p0 1).bind fun x13 => (gl 5 z12.2 x13 p2).bind fun x14 => (gl 30 z12.2 x14 0).bind fun x15 => (gl 0 z12.2 p0 0).bind fun x16 => (gl 1 z12.2 x16 1).bind fun x17 => (g_X6_init_ z12.1 x15 x17 z12.2).bind fun z18 => (gsa 51 z18.2 p1 p2 z12.1).bind fun G19 => self22 (w32 (p2 + 1)) G19)
set_option maxHeartbeats 4000000 in
theorem slX8_freeze_22 {G' : GS} {rr : Int} {p0 p1 b0 b1 : Int} : ∀ (n : Nat) (ad : Nat → Nat → Nat) (Cn : Nat → Nat) (H : PH) (G : GS) (p2 : Int) , SimA ad Cn H G → vrel ad Cn 0 b0 p0 → vrel ad Cn 51 b1 p1 → lh1 (glX8_freeze_22 p0 p1) n p2 G = some (rr, G') → RS ad Cn (lq1 (lX8_freeze_22 b0 b1) n p2 H) 0 rr G' := by
  intro n
  induction n with
  | zero => intro ad Cn H G p2 hS w0 w1 h; cases h
  | succ n ih22 =>
    intro ad Cn H G p2 hS w0 w1 h
    rw [lh1_s] at h
    rw [lq1_s]
    generalize lh1 (glX8_freeze_22 p0 p1) n = self22 at ih22 h
    generalize lq1 (lX8_freeze_22 b0 b1) n = fself22 at ih22 ⊢
    unfold glX8_freeze_22 at h
    unfold lX8_freeze_22
    obtain ⟨x1, ex1, h⟩ := bnd h
    refine rb_ld 0 hS w0 ex1 rfl rfl ?_
    by_cases hc27 : p2 ≥ x1
    · have h := iteT hc27 h
      refine rif_t hc27 ?_
      obtain ⟨x2, ex2, h⟩ := bnd h
      refine rb_ldr 0 6 hS w0 ex2 rfl rfl ?_
      intro bx2 wx2
      obtain ⟨x3, ex3, h⟩ := bnd h
      refine rb_ld 0 hS w0 ex3 rfl rfl ?_
      obtain ⟨z4, ez4, h⟩ := bnd h
      refine rb_newo 50 hS ez4 rfl (by decide) ?_
      intro ad Cn bz4 H hS hx wz4
      dsimp only
      have w0 := w0.mono hx
      have w1 := w1.mono hx
      have wx2 := wx2.mono hx
      obtain ⟨x5, ex5, h⟩ := bnd h
      refine rb_ldr 0 1 hS w0 ex5 rfl rfl ?_
      intro bx5 wx5
      obtain ⟨x6, ex6, h⟩ := bnd h
      refine rb_ld 1 hS wx5 ex6 rfl rfl ?_
      obtain ⟨z7, ez7, h⟩ := bnd h
      refine rb_call (ρc := 0) (s_X1_init hS wz4 w1 ez7) ?_
      intro ad Cn bz7 H hS hx wz7
      dsimp only
      obtain rfl : bz7 = z7.1 := wz7
      have w0 := w0.mono hx
      have w1 := w1.mono hx
      have wx2 := wx2.mono hx
      have wz4 := wz4.mono hx
      obtain ⟨G8, eG8, h⟩ := bnd h
      refine rb_sta 6 50 1 hS wx2 wz4 rfl rfl eG8 rfl ?_
      intro H hS
      obtain ⟨x9, ex9, h⟩ := bnd h
      refine rb_ld 0 hS w0 ex9 rfl rfl ?_
      obtain ⟨G10, eG10, h⟩ := bnd h
      refine rb_st 0 hS w0 (show rrel _ _ 0 _ _ from rfl) eG10 rfl ?_
      intro H hS
      obtain ⟨x11, ex11, h⟩ := bnd h
      refine rb_ld 0 hS w0 ex11 rfl rfl ?_
      cases h
      exact rret hS rfl
    · have h := iteF hc27 h
      refine rif_f hc27 ?_
      obtain ⟨z12, ez12, h⟩ := bnd h
      refine rb_newo 31 hS ez12 rfl (by decide) ?_
      intro ad Cn bz12 H hS hx wz12
      dsimp only
      have w0 := w0.mono hx
      have w1 := w1.mono hx
      obtain ⟨x13, ex13, h⟩ := bnd h
      refine rb_ldr 0 5 hS w0 ex13 rfl rfl ?_
      intro bx13 wx13
      obtain ⟨x14, ex14, h⟩ := bnd h
      refine rb_ldr 5 30 hS wx13 ex14 rfl rfl ?_
      intro bx14 wx14
      obtain ⟨x15, ex15, h⟩ := bnd h
      refine rb_ldr 30 31 hS wx14 ex15 rfl rfl ?_
      intro bx15 wx15
      obtain ⟨x16, ex16, h⟩ := bnd h
      refine rb_ldr 0 1 hS w0 ex16 rfl rfl ?_
      intro bx16 wx16
      obtain ⟨x17, ex17, h⟩ := bnd h
      refine rb_ld 1 hS wx16 ex17 rfl rfl ?_
      obtain ⟨z18, ez18, h⟩ := bnd h
      refine rb_call (ρc := 0) (s_X6_init_ hS wz12 wx15 ez18) ?_
      intro ad Cn bz18 H hS hx wz18
      dsimp only
      obtain rfl : bz18 = z18.1 := wz18
      have w0 := w0.mono hx
      have w1 := w1.mono hx
      have wz12 := wz12.mono hx
      obtain ⟨G19, eG19, h⟩ := bnd h
      refine rb_sta 51 31 6 hS w1 wz12 rfl rfl eG19 rfl ?_
      intro H hS
      exact ih22 _ _ _ _ (w32 (p2 + 1))  hS w0 w1  h
def g_X8_freeze (a0 : Int) (G : GS) : GO := gvm a0 <|
  (gl 0 G a0 4).bind fun x1 => (if x1 < 6 then (gl 0 G a0 2).bind fun x2 => (gn 51 x2 G).bind fun z3 => lh1 (glX8_freeze_22 a0 z3.1) 6000 0 z3.2
  else some ((-4), G))
set_option maxHeartbeats 4000000 in
theorem s_X8_freeze {ad : Nat → Nat → Nat} {Cn : Nat → Nat} {H : PH} {G G' : GS} {rr : Int} {a0 b0 : Int} (hS : SimA ad Cn H G) (w0 : vrel ad Cn 0 b0 a0) (h : g_X8_freeze a0 G = some (rr, G')) : RS ad Cn (f_X8_freeze b0 H) 0 rr G' := by
  unfold g_X8_freeze at h
  unfold f_X8_freeze
  obtain ⟨hv, h⟩ := gvm_spec h
  refine rb_vm 0 8 hS w0 hv rfl ?_
  obtain ⟨x1, ex1, h⟩ := bnd h
  refine rb_ld 0 hS w0 ex1 rfl rfl ?_
  by_cases hc6 : x1 < 6
  · have h := iteT hc6 h
    refine rif_t hc6 ?_
    obtain ⟨x2, ex2, h⟩ := bnd h
    refine rb_ld 0 hS w0 ex2 rfl rfl ?_
    obtain ⟨z3, ez3, h⟩ := bnd h
    refine rb_newa 51 hS ez3 rfl (fun _ => rfl) ?_
    intro ad Cn bz3 H hS hx wz3
    dsimp only
    have w0 := w0.mono hx
    exact slX8_freeze_22 6000 _ _ _ _ 0  hS w0 wz3 h
  · have h := iteF hc6 h
    refine rif_f hc6 ?_
    cases h
    exact rret hS rfl
/-! HouseholdVault.editionOf(I)LHouseholdVault$Edition; by roles -/
def g_X8_editionOf (a0 a1 : Int) (G : GS) : GO := gvm a0 <|
  (if a1 < 0 then some ((-1), G)
  else (gl 0 G a0 4).bind fun x1 => (if a1 ≥ x1 then some ((-1), G)
  else (gl 0 G a0 3).bind fun x2 => (gl 6 G x2 a1).bind fun x3 => some (x3, G)))
set_option maxHeartbeats 4000000 in
theorem s_X8_editionOf {ad : Nat → Nat → Nat} {Cn : Nat → Nat} {H : PH} {G G' : GS} {rr : Int} {a0 a1 b0 : Int} (hS : SimA ad Cn H G) (w0 : vrel ad Cn 0 b0 a0) (h : g_X8_editionOf a0 a1 G = some (rr, G')) : RS ad Cn (f_X8_editionOf b0 a1 H) 51 rr G' := by
  unfold g_X8_editionOf at h
  unfold f_X8_editionOf
  obtain ⟨hv, h⟩ := gvm_spec h
  refine rb_vm 0 8 hS w0 hv rfl ?_
  by_cases hc1 : a1 < 0
  · have h := iteT hc1 h
    refine rif_t hc1 ?_
    cases h
    exact rret hS vrel.nul
  · have h := iteF hc1 h
    refine rif_f hc1 ?_
    obtain ⟨x1, ex1, h⟩ := bnd h
    refine rb_ld 0 hS w0 ex1 rfl rfl ?_
    by_cases hc9 : a1 ≥ x1
    · have h := iteT hc9 h
      refine rif_t hc9 ?_
      cases h
      exact rret hS vrel.nul
    · have h := iteF hc9 h
      refine rif_f hc9 ?_
      obtain ⟨x2, ex2, h⟩ := bnd h
      refine rb_ldr 0 6 hS w0 ex2 rfl rfl ?_
      intro bx2 wx2
      obtain ⟨x3, ex3, h⟩ := bnd h
      refine rb_ldr 6 50 hS wx2 ex3 rfl rfl ?_
      intro bx3 wx3
      cases h
      exact rret hS wx3
/-! HouseholdVault.frozenSheet(IIII)LHouseholdVault$Sheet; by roles -/
def g_X8_frozenSheet (a0 a1 a2 a3 a4 : Int) (G : GS) : GO := gvm a0 <|
  (g_X8_editionOf a0 a1 G).bind fun z1 => (gl 0 z1.2 a0 0).bind fun x2 => (g_X3_questionOf x2 a3 z1.2).bind fun z3 => (if z1.1 = -1 then some ((-1), z3.2)
  else (if z3.1 = -1 then some ((-1), z3.2)
  else (gl 20 z3.2 z3.1 2).bind fun x4 => (if x4 = 0 then (gl 50 z3.2 z1.1 1).bind fun x5 => (if a3 ≥ x5 then some ((-1), z3.2)
  else (if a2 < 0 then some ((-1), z3.2)
  else (gl 50 z3.2 z1.1 0).bind fun x6 => (gal 51 z3.2 x6).bind fun x7 => (if a2 < x7 then (gl 50 z3.2 z1.1 0).bind fun x8 => (gl 51 z3.2 x8 a2).bind fun x9 => (gl 20 z3.2 z3.1 1).bind fun x10 => (g_X8_isPlace x9 x10 a4 z3.2).bind fun z11 => (if z11.1 = 0 then some ((-1), z11.2)
  else some (x9, z11.2))
  else some ((-1), z3.2))))
  else some ((-1), z3.2))))
set_option maxHeartbeats 4000000 in
theorem s_X8_frozenSheet {ad : Nat → Nat → Nat} {Cn : Nat → Nat} {H : PH} {G G' : GS} {rr : Int} {a0 a1 a2 a3 a4 b0 : Int} (hS : SimA ad Cn H G) (w0 : vrel ad Cn 0 b0 a0) (h : g_X8_frozenSheet a0 a1 a2 a3 a4 G = some (rr, G')) : RS ad Cn (f_X8_frozenSheet b0 a1 a2 a3 a4 H) 32 rr G' := by
  unfold g_X8_frozenSheet at h
  unfold f_X8_frozenSheet
  obtain ⟨hv, h⟩ := gvm_spec h
  refine rb_vm 0 8 hS w0 hv rfl ?_
  obtain ⟨z1, ez1, h⟩ := bnd h
  refine rb_call (ρc := 51) (s_X8_editionOf hS w0 ez1) ?_
  intro ad Cn bz1 H hS hx wz1
  dsimp only
  have w0 := w0.mono hx
  obtain ⟨x2, ex2, h⟩ := bnd h
  refine rb_ldr 0 1 hS w0 ex2 rfl rfl ?_
  intro bx2 wx2
  obtain ⟨z3, ez3, h⟩ := bnd h
  refine rb_call (ρc := 21) (s_X3_questionOf hS wx2 ez3) ?_
  intro ad Cn bz3 H hS hx wz3
  dsimp only
  have w0 := w0.mono hx
  have wz1 := wz1.mono hx
  by_cases hc19 : z1.1 = -1
  · have h := iteT hc19 h
    refine rif_t (wz1.null.mpr hc19) ?_
    cases h
    exact rret hS vrel.nul
  · have h := iteF hc19 h
    refine rif_f (fun q => hc19 (wz1.null.mp q)) ?_
    by_cases hc24 : z3.1 = -1
    · have h := iteT hc24 h
      refine rif_t (wz3.null.mpr hc24) ?_
      cases h
      exact rret hS vrel.nul
    · have h := iteF hc24 h
      refine rif_f (fun q => hc24 (wz3.null.mp q)) ?_
      obtain ⟨x4, ex4, h⟩ := bnd h
      refine rb_ld 20 hS wz3 ex4 rfl rfl ?_
      by_cases hc32 : x4 = 0
      · have h := iteT hc32 h
        refine rif_t hc32 ?_
        obtain ⟨x5, ex5, h⟩ := bnd h
        refine rb_ld 50 hS wz1 ex5 rfl rfl ?_
        by_cases hc43 : a3 ≥ x5
        · have h := iteT hc43 h
          refine rif_t hc43 ?_
          cases h
          exact rret hS vrel.nul
        · have h := iteF hc43 h
          refine rif_f hc43 ?_
          by_cases hc47 : a2 < 0
          · have h := iteT hc47 h
            refine rif_t hc47 ?_
            cases h
            exact rret hS vrel.nul
          · have h := iteF hc47 h
            refine rif_f hc47 ?_
            obtain ⟨x6, ex6, h⟩ := bnd h
            refine rb_ldr 50 51 hS wz1 ex6 rfl rfl ?_
            intro bx6 wx6
            obtain ⟨x7, ex7, h⟩ := bnd h
            refine rb_al 51 hS wx6 ex7 (by decide) ?_
            by_cases hc57 : a2 < x7
            · have h := iteT hc57 h
              refine rif_t hc57 ?_
              obtain ⟨x8, ex8, h⟩ := bnd h
              refine rb_ldr 50 51 hS wz1 ex8 rfl rfl ?_
              intro bx8 wx8
              obtain ⟨x9, ex9, h⟩ := bnd h
              refine rb_ldr 51 31 hS wx8 ex9 rfl rfl ?_
              intro bx9 wx9
              obtain ⟨x10, ex10, h⟩ := bnd h
              refine rb_ld 20 hS wz3 ex10 rfl rfl ?_
              obtain ⟨z11, ez11, h⟩ := bnd h
              refine rb_call (ρc := 0) (s_X8_isPlace hS wx9 ez11) ?_
              intro ad Cn bz11 H hS hx wz11
              dsimp only
              obtain rfl : bz11 = z11.1 := wz11
              have w0 := w0.mono hx
              have wz1 := wz1.mono hx
              have wz3 := wz3.mono hx
              have wx9 := wx9.mono hx
              by_cases hc83 : z11.1 = 0
              · have h := iteT hc83 h
                refine rif_t hc83 ?_
                cases h
                exact rret hS vrel.nul
              · have h := iteF hc83 h
                refine rif_f hc83 ?_
                cases h
                exact rret hS wx9
            · have h := iteF hc57 h
              refine rif_f hc57 ?_
              cases h
              exact rret hS vrel.nul
      · have h := iteF hc32 h
        refine rif_f hc32 ?_
        cases h
        exact rret hS vrel.nul
/-! HouseholdVault.frozen(IIII)J by roles -/
def g_X8_frozen (a0 a1 a2 a3 a4 : Int) (G : GS) : GO := gvm a0 <|
  (g_X8_frozenSheet a0 a1 a2 a3 a4 G).bind fun z1 => (if z1.1 ≠ -1 then (gl 31 z1.2 z1.1 0).bind fun x2 => (g_X8_spot a3 a4 z1.2).bind fun z3 => (gl 32 z3.2 x2 z3.1).bind fun x4 => some (x4, z3.2)
  else some (0, z1.2))
set_option maxHeartbeats 4000000 in
theorem s_X8_frozen {ad : Nat → Nat → Nat} {Cn : Nat → Nat} {H : PH} {G G' : GS} {rr : Int} {a0 a1 a2 a3 a4 b0 : Int} (hS : SimA ad Cn H G) (w0 : vrel ad Cn 0 b0 a0) (h : g_X8_frozen a0 a1 a2 a3 a4 G = some (rr, G')) : RS ad Cn (f_X8_frozen b0 a1 a2 a3 a4 H) 0 rr G' := by
  unfold g_X8_frozen at h
  unfold f_X8_frozen
  obtain ⟨hv, h⟩ := gvm_spec h
  refine rb_vm 0 8 hS w0 hv rfl ?_
  obtain ⟨z1, ez1, h⟩ := bnd h
  refine rb_call (ρc := 32) (s_X8_frozenSheet hS w0 ez1) ?_
  intro ad Cn bz1 H hS hx wz1
  dsimp only
  have w0 := w0.mono hx
  by_cases hc13 : z1.1 ≠ -1
  · have h := iteT hc13 h
    refine rif_t (fun q => hc13 (wz1.null.mp q)) ?_
    obtain ⟨x2, ex2, h⟩ := bnd h
    refine rb_ldr 31 32 hS wz1 ex2 rfl rfl ?_
    intro bx2 wx2
    obtain ⟨z3, ez3, h⟩ := bnd h
    refine rb_call (ρc := 0) (s_X8_spot hS ez3) ?_
    intro ad Cn bz3 H hS hx wz3
    dsimp only
    obtain rfl : bz3 = z3.1 := wz3
    have w0 := w0.mono hx
    have wz1 := wz1.mono hx
    have wx2 := wx2.mono hx
    obtain ⟨x4, ex4, h⟩ := bnd h
    refine rb_ld 32 hS wx2 ex4 rfl rfl ?_
    cases h
    exact rret hS rfl
  · have h := iteF hc13 h
    refine rif_f (fun q => hc13 (fun z => q (wz1.null.mpr z))) ?_
    cases h
    exact rret hS rfl
/-! HouseholdVault.frozenReason(IIII)I by roles -/
def g_X8_frozenReason (a0 a1 a2 a3 a4 : Int) (G : GS) : GO := gvm a0 <|
  (g_X8_frozenSheet a0 a1 a2 a3 a4 G).bind fun z1 => (if z1.1 ≠ -1 then (gl 31 z1.2 z1.1 1).bind fun x2 => (g_X8_spot a3 a4 z1.2).bind fun z3 => (gl 33 z3.2 x2 z3.1).bind fun x4 => some (x4, z3.2)
  else some ((-1), z1.2))
set_option maxHeartbeats 4000000 in
theorem s_X8_frozenReason {ad : Nat → Nat → Nat} {Cn : Nat → Nat} {H : PH} {G G' : GS} {rr : Int} {a0 a1 a2 a3 a4 b0 : Int} (hS : SimA ad Cn H G) (w0 : vrel ad Cn 0 b0 a0) (h : g_X8_frozenReason a0 a1 a2 a3 a4 G = some (rr, G')) : RS ad Cn (f_X8_frozenReason b0 a1 a2 a3 a4 H) 0 rr G' := by
  unfold g_X8_frozenReason at h
  unfold f_X8_frozenReason
  obtain ⟨hv, h⟩ := gvm_spec h
  refine rb_vm 0 8 hS w0 hv rfl ?_
  obtain ⟨z1, ez1, h⟩ := bnd h
  refine rb_call (ρc := 32) (s_X8_frozenSheet hS w0 ez1) ?_
  intro ad Cn bz1 H hS hx wz1
  dsimp only
  have w0 := w0.mono hx
  by_cases hc13 : z1.1 ≠ -1
  · have h := iteT hc13 h
    refine rif_t (fun q => hc13 (wz1.null.mp q)) ?_
    obtain ⟨x2, ex2, h⟩ := bnd h
    refine rb_ldr 31 33 hS wz1 ex2 rfl rfl ?_
    intro bx2 wx2
    obtain ⟨z3, ez3, h⟩ := bnd h
    refine rb_call (ρc := 0) (s_X8_spot hS ez3) ?_
    intro ad Cn bz3 H hS hx wz3
    dsimp only
    obtain rfl : bz3 = z3.1 := wz3
    have w0 := w0.mono hx
    have wz1 := wz1.mono hx
    have wx2 := wx2.mono hx
    obtain ⟨x4, ex4, h⟩ := bnd h
    refine rb_ld 33 hS wx2 ex4 rfl rfl ?_
    cases h
    exact rret hS rfl
  · have h := iteF hc13 h
    refine rif_f (fun q => hc13 (fun z => q (wz1.null.mpr z))) ?_
    cases h
    exact rret hS rfl
/-! HouseholdVault.meetChanges(LHouseholdVault$Sheet;LHouseholdVault$Sheet;II)V by roles -/
def gjX8_meetChanges_98 (self52 : Int → GS → GO) (p0 p1 p2 p3 p4 p5 p8 p9 p10 : Int) (G : GS) : GO :=
  self52 (w32 (p10 + 1)) G
set_option maxHeartbeats 4000000 in
theorem sjX8_meetChanges_98 {ad : Nat → Nat → Nat} {Cn : Nat → Nat} {H : PH} {G G' : GS} {rr : Int} {fself52 : Int → PH → RO} {self52 : Int → GS → GO} {p0 p1 p2 p3 p4 p5 p8 p9 p10 b0 b1 b2 : Int} (ih52 : ∀ (ad : Nat → Nat → Nat) (Cn : Nat → Nat) (H : PH) (G : GS) (v10 : Int) , SimA ad Cn H G → vrel ad Cn 0 b0 p0 → vrel ad Cn 31 b1 p1 → vrel ad Cn 31 b2 p2 → self52 v10 G = some (rr, G') → RS ad Cn (fself52 v10 H) 0 rr G') (hS : SimA ad Cn H G) (w0 : vrel ad Cn 0 b0 p0) (w1 : vrel ad Cn 31 b1 p1) (w2 : vrel ad Cn 31 b2 p2) (h : gjX8_meetChanges_98 self52 p0 p1 p2 p3 p4 p5 p8 p9 p10 G = some (rr, G')) : RS ad Cn (jX8_meetChanges_98 fself52 b0 b1 b2 p3 p4 p5 p8 p9 p10 H) 0 rr G' := by
  unfold gjX8_meetChanges_98 at h
  unfold jX8_meetChanges_98
  exact ih52 _ _ _ _ (w32 (p10 + 1))  hS w0 w1 w2  h
def gjX8_meetChanges_81 (self52 : Int → GS → GO) (p0 p1 p2 p3 p4 p5 p8 p9 p10 : Int) (G : GS) : GO :=
  (gl 0 G p0 6).bind fun x1 => (g_X8_personOf p5 p10 G).bind fun z2 => (g_X2_meet x1 p3 p4 z2.1 z2.2).bind fun z3 => gjX8_meetChanges_98 self52 p0 p1 p2 p3 p4 p5 p8 p9 p10 z3.2
set_option maxHeartbeats 4000000 in
theorem sjX8_meetChanges_81 {ad : Nat → Nat → Nat} {Cn : Nat → Nat} {H : PH} {G G' : GS} {rr : Int} {fself52 : Int → PH → RO} {self52 : Int → GS → GO} {p0 p1 p2 p3 p4 p5 p8 p9 p10 b0 b1 b2 : Int} (ih52 : ∀ (ad : Nat → Nat → Nat) (Cn : Nat → Nat) (H : PH) (G : GS) (v10 : Int) , SimA ad Cn H G → vrel ad Cn 0 b0 p0 → vrel ad Cn 31 b1 p1 → vrel ad Cn 31 b2 p2 → self52 v10 G = some (rr, G') → RS ad Cn (fself52 v10 H) 0 rr G') (hS : SimA ad Cn H G) (w0 : vrel ad Cn 0 b0 p0) (w1 : vrel ad Cn 31 b1 p1) (w2 : vrel ad Cn 31 b2 p2) (h : gjX8_meetChanges_81 self52 p0 p1 p2 p3 p4 p5 p8 p9 p10 G = some (rr, G')) : RS ad Cn (jX8_meetChanges_81 fself52 b0 b1 b2 p3 p4 p5 p8 p9 p10 H) 0 rr G' := by
  unfold gjX8_meetChanges_81 at h
  unfold jX8_meetChanges_81
  obtain ⟨x1, ex1, h⟩ := bnd h
  refine rb_ldr 0 13 hS w0 ex1 rfl rfl ?_
  intro bx1 wx1
  obtain ⟨z2, ez2, h⟩ := bnd h
  refine rb_call (ρc := 0) (s_X8_personOf hS ez2) ?_
  intro ad Cn bz2 H hS hx wz2
  dsimp only
  obtain rfl : bz2 = z2.1 := wz2
  have w0 := w0.mono hx
  have w1 := w1.mono hx
  have w2 := w2.mono hx
  have wx1 := wx1.mono hx
  obtain ⟨z3, ez3, h⟩ := bnd h
  refine rb_call (ρc := 0) (s_X2_meet hS wx1 ez3) ?_
  intro ad Cn bz3 H hS hx wz3
  dsimp only
  obtain rfl : bz3 = z3.1 := wz3
  have w0 := w0.mono hx
  have w1 := w1.mono hx
  have w2 := w2.mono hx
  exact sjX8_meetChanges_98 ih52 hS w0 w1 w2 h
def glX8_meetChanges_52 (p0 p1 p2 p3 p4 p5 p8 p9 : Int) (self52 : Int → GS → GO) (p10 : Int) (G : GS) : GO :=
  (if p10 ≥ p9 then some (0, G)
  else (if p10 ≥ p8 then gjX8_meetChanges_81 self52 p0 p1 p2 p3 p4 p5 p8 p9 p10 G
  else (g_X8_spot p4 p10 G).bind fun z1 => (g_X6_isLike p1 p2 z1.1 z1.2).bind fun z2 => (if z2.1 ≠ 0 then gjX8_meetChanges_98 self52 p0 p1 p2 p3 p4 p5 p8 p9 p10 z2.2
  else gjX8_meetChanges_81 self52 p0 p1 p2 p3 p4 p5 p8 p9 p10 z2.2)))
set_option maxHeartbeats 4000000 in
theorem slX8_meetChanges_52 {G' : GS} {rr : Int} {p0 p1 p2 p3 p4 p5 p8 p9 b0 b1 b2 : Int} : ∀ (n : Nat) (ad : Nat → Nat → Nat) (Cn : Nat → Nat) (H : PH) (G : GS) (p10 : Int) , SimA ad Cn H G → vrel ad Cn 0 b0 p0 → vrel ad Cn 31 b1 p1 → vrel ad Cn 31 b2 p2 → lh1 (glX8_meetChanges_52 p0 p1 p2 p3 p4 p5 p8 p9) n p10 G = some (rr, G') → RS ad Cn (lq1 (lX8_meetChanges_52 b0 b1 b2 p3 p4 p5 p8 p9) n p10 H) 0 rr G' := by
  intro n
  induction n with
  | zero => intro ad Cn H G p10 hS w0 w1 w2 h; cases h
  | succ n ih52 =>
    intro ad Cn H G p10 hS w0 w1 w2 h
    rw [lh1_s] at h
    rw [lq1_s]
    generalize lh1 (glX8_meetChanges_52 p0 p1 p2 p3 p4 p5 p8 p9) n = self52 at ih52 h
    generalize lq1 (lX8_meetChanges_52 b0 b1 b2 p3 p4 p5 p8 p9) n = fself52 at ih52 ⊢
    unfold glX8_meetChanges_52 at h
    unfold lX8_meetChanges_52
    by_cases hc56 : p10 ≥ p9
    · have h := iteT hc56 h
      refine rif_t hc56 ?_
      cases h
      exact rret hS rfl
    · have h := iteF hc56 h
      refine rif_f hc56 ?_
      by_cases hc63 : p10 ≥ p8
      · have h := iteT hc63 h
        refine rif_t hc63 ?_
        exact sjX8_meetChanges_81 ih52 hS w0 w1 w2 h
      · have h := iteF hc63 h
        refine rif_f hc63 ?_
        obtain ⟨z1, ez1, h⟩ := bnd h
        refine rb_call (ρc := 0) (s_X8_spot hS ez1) ?_
        intro ad Cn bz1 H hS hx wz1
        dsimp only
        obtain rfl : bz1 = z1.1 := wz1
        have w0 := w0.mono hx
        have w1 := w1.mono hx
        have w2 := w2.mono hx
        obtain ⟨z2, ez2, h⟩ := bnd h
        refine rb_call (ρc := 0) (s_X6_isLike hS w1 w2 ez2) ?_
        intro ad Cn bz2 H hS hx wz2
        dsimp only
        obtain rfl : bz2 = z2.1 := wz2
        have w0 := w0.mono hx
        have w1 := w1.mono hx
        have w2 := w2.mono hx
        by_cases hc78 : z2.1 ≠ 0
        · have h := iteT hc78 h
          refine rif_t hc78 ?_
          exact sjX8_meetChanges_98 ih52 hS w0 w1 w2 h
        · have h := iteF hc78 h
          refine rif_f hc78 ?_
          exact sjX8_meetChanges_81 ih52 hS w0 w1 w2 h
def g_X8_meetChanges (a0 a1 a2 a3 a4 : Int) (G : GS) : GO := gvm a0 <|
  (gl 0 G a0 0).bind fun x1 => (gl 1 G x1 0).bind fun x2 => (gl 2 G x2 a4).bind fun x3 => (gl 20 G x3 1).bind fun x4 => (g_X8_placesOf a1 x4 G).bind fun z5 => (g_X8_placesOf a2 x4 z5.2).bind fun z6 => lh1 (glX8_meetChanges_52 a0 a1 a2 a3 a4 x4 (imin z5.1 z6.1) (imax z5.1 z6.1)) 6000 0 z6.2
set_option maxHeartbeats 4000000 in
theorem s_X8_meetChanges {ad : Nat → Nat → Nat} {Cn : Nat → Nat} {H : PH} {G G' : GS} {rr : Int} {a0 a1 a2 a3 a4 b0 b1 b2 : Int} (hS : SimA ad Cn H G) (w0 : vrel ad Cn 0 b0 a0) (w1 : vrel ad Cn 31 b1 a1) (w2 : vrel ad Cn 31 b2 a2) (h : g_X8_meetChanges a0 a1 a2 a3 a4 G = some (rr, G')) : RS ad Cn (f_X8_meetChanges b0 b1 b2 a3 a4 H) 0 rr G' := by
  unfold g_X8_meetChanges at h
  unfold f_X8_meetChanges
  obtain ⟨hv, h⟩ := gvm_spec h
  refine rb_vm 0 8 hS w0 hv rfl ?_
  obtain ⟨x1, ex1, h⟩ := bnd h
  refine rb_ldr 0 1 hS w0 ex1 rfl rfl ?_
  intro bx1 wx1
  obtain ⟨x2, ex2, h⟩ := bnd h
  refine rb_ldr 1 2 hS wx1 ex2 rfl rfl ?_
  intro bx2 wx2
  obtain ⟨x3, ex3, h⟩ := bnd h
  refine rb_ldr 2 20 hS wx2 ex3 rfl rfl ?_
  intro bx3 wx3
  obtain ⟨x4, ex4, h⟩ := bnd h
  refine rb_ld 20 hS wx3 ex4 rfl rfl ?_
  obtain ⟨z5, ez5, h⟩ := bnd h
  refine rb_call (ρc := 0) (s_X8_placesOf hS w1 ez5) ?_
  intro ad Cn bz5 H hS hx wz5
  dsimp only
  obtain rfl : bz5 = z5.1 := wz5
  have w0 := w0.mono hx
  have w1 := w1.mono hx
  have w2 := w2.mono hx
  obtain ⟨z6, ez6, h⟩ := bnd h
  refine rb_call (ρc := 0) (s_X8_placesOf hS w2 ez6) ?_
  intro ad Cn bz6 H hS hx wz6
  dsimp only
  obtain rfl : bz6 = z6.1 := wz6
  have w0 := w0.mono hx
  have w1 := w1.mono hx
  have w2 := w2.mono hx
  exact slX8_meetChanges_52 6000 _ _ _ _ 0  hS w0 w1 w2 h
/-! HouseholdVault.findChanges(LHouseholdVault$Edition;LHouseholdVault$Edition;I)V by roles -/
def gjX8_findChanges_94 (self39 : Int → GS → GO) (self49 : Int → GS → GO) (p0 p1 p2 p4 p5 p6 p7 : Int) (G : GS) : GO :=
  self49 (w32 (p7 + 1)) G
set_option maxHeartbeats 4000000 in
theorem sjX8_findChanges_94 {ad : Nat → Nat → Nat} {Cn : Nat → Nat} {H : PH} {G G' : GS} {rr : Int} {fself39 : Int → PH → RO} {self39 : Int → GS → GO} {fself49 : Int → PH → RO} {self49 : Int → GS → GO} {p0 p1 p2 p4 p5 p6 p7 b0 b1 b2 : Int} (ih39 : ∀ (ad : Nat → Nat → Nat) (Cn : Nat → Nat) (H : PH) (G : GS) (v6 : Int) , SimA ad Cn H G → vrel ad Cn 0 b0 p0 → vrel ad Cn 50 b1 p1 → vrel ad Cn 50 b2 p2 → self39 v6 G = some (rr, G') → RS ad Cn (fself39 v6 H) 0 rr G') (ih49 : ∀ (ad : Nat → Nat → Nat) (Cn : Nat → Nat) (H : PH) (G : GS) (v7 : Int) , SimA ad Cn H G → vrel ad Cn 0 b0 p0 → vrel ad Cn 50 b1 p1 → vrel ad Cn 50 b2 p2 → self49 v7 G = some (rr, G') → RS ad Cn (fself49 v7 H) 0 rr G') (hS : SimA ad Cn H G) (w0 : vrel ad Cn 0 b0 p0) (w1 : vrel ad Cn 50 b1 p1) (w2 : vrel ad Cn 50 b2 p2) (h : gjX8_findChanges_94 self39 self49 p0 p1 p2 p4 p5 p6 p7 G = some (rr, G')) : RS ad Cn (jX8_findChanges_94 fself39 fself49 b0 b1 b2 p4 p5 p6 p7 H) 0 rr G' := by
  unfold gjX8_findChanges_94 at h
  unfold jX8_findChanges_94
  exact ih49 _ _ _ _ (w32 (p7 + 1))  hS w0 w1 w2  h
def glX8_findChanges_49 (self39 : Int → GS → GO) (p0 p1 p2 p4 p5 p6 : Int) (self49 : Int → GS → GO) (p7 : Int) (G : GS) : GO :=
  (if p7 ≥ p5 then self39 (w32 (p6 + 1)) G
  else (gl 0 G p0 0).bind fun x1 => (gl 1 G x1 0).bind fun x2 => (gl 2 G x2 p7).bind fun x3 => (gl 20 G x3 2).bind fun x4 => (if x4 ≠ 0 then gjX8_findChanges_94 self39 self49 p0 p1 p2 p4 p5 p6 p7 G
  else (gl 50 G p1 0).bind fun x5 => (gl 51 G x5 p6).bind fun x6 => (gl 50 G p2 0).bind fun x7 => (gl 51 G x7 p6).bind fun x8 => (g_X8_meetChanges p0 x6 x8 p6 p7 G).bind fun z9 => gjX8_findChanges_94 self39 self49 p0 p1 p2 p4 p5 p6 p7 z9.2))
set_option maxHeartbeats 4000000 in
theorem slX8_findChanges_49 {G' : GS} {rr : Int} {fself39 : Int → PH → RO} {self39 : Int → GS → GO} {p0 p1 p2 p4 p5 p6 b0 b1 b2 : Int} (ih39 : ∀ (ad : Nat → Nat → Nat) (Cn : Nat → Nat) (H : PH) (G : GS) (v6 : Int) , SimA ad Cn H G → vrel ad Cn 0 b0 p0 → vrel ad Cn 50 b1 p1 → vrel ad Cn 50 b2 p2 → self39 v6 G = some (rr, G') → RS ad Cn (fself39 v6 H) 0 rr G') : ∀ (n : Nat) (ad : Nat → Nat → Nat) (Cn : Nat → Nat) (H : PH) (G : GS) (p7 : Int) , SimA ad Cn H G → vrel ad Cn 0 b0 p0 → vrel ad Cn 50 b1 p1 → vrel ad Cn 50 b2 p2 → lh1 (glX8_findChanges_49 self39 p0 p1 p2 p4 p5 p6) n p7 G = some (rr, G') → RS ad Cn (lq1 (lX8_findChanges_49 fself39 b0 b1 b2 p4 p5 p6) n p7 H) 0 rr G' := by
  intro n
  induction n with
  | zero => intro ad Cn H G p7 hS w0 w1 w2 h; cases h
  | succ n ih49 =>
    intro ad Cn H G p7 hS w0 w1 w2 h
    rw [lh1_s] at h
    rw [lq1_s]
    generalize lh1 (glX8_findChanges_49 self39 p0 p1 p2 p4 p5 p6) n = self49 at ih49 h
    generalize lq1 (lX8_findChanges_49 fself39 b0 b1 b2 p4 p5 p6) n = fself49 at ih49 ⊢
    unfold glX8_findChanges_49 at h
    unfold lX8_findChanges_49
    by_cases hc53 : p7 ≥ p5
    · have h := iteT hc53 h
      refine rif_t hc53 ?_
      exact ih39 _ _ _ _ (w32 (p6 + 1))  hS w0 w1 w2  h
    · have h := iteF hc53 h
      refine rif_f hc53 ?_
      obtain ⟨x1, ex1, h⟩ := bnd h
      refine rb_ldr 0 1 hS w0 ex1 rfl rfl ?_
      intro bx1 wx1
      obtain ⟨x2, ex2, h⟩ := bnd h
      refine rb_ldr 1 2 hS wx1 ex2 rfl rfl ?_
      intro bx2 wx2
      obtain ⟨x3, ex3, h⟩ := bnd h
      refine rb_ldr 2 20 hS wx2 ex3 rfl rfl ?_
      intro bx3 wx3
      obtain ⟨x4, ex4, h⟩ := bnd h
      refine rb_ld 20 hS wx3 ex4 rfl rfl ?_
      by_cases hc69 : x4 ≠ 0
      · have h := iteT hc69 h
        refine rif_t hc69 ?_
        exact sjX8_findChanges_94 ih39 ih49 hS w0 w1 w2 h
      · have h := iteF hc69 h
        refine rif_f hc69 ?_
        obtain ⟨x5, ex5, h⟩ := bnd h
        refine rb_ldr 50 51 hS w1 ex5 rfl rfl ?_
        intro bx5 wx5
        obtain ⟨x6, ex6, h⟩ := bnd h
        refine rb_ldr 51 31 hS wx5 ex6 rfl rfl ?_
        intro bx6 wx6
        obtain ⟨x7, ex7, h⟩ := bnd h
        refine rb_ldr 50 51 hS w2 ex7 rfl rfl ?_
        intro bx7 wx7
        obtain ⟨x8, ex8, h⟩ := bnd h
        refine rb_ldr 51 31 hS wx7 ex8 rfl rfl ?_
        intro bx8 wx8
        obtain ⟨z9, ez9, h⟩ := bnd h
        refine rb_call (ρc := 0) (s_X8_meetChanges hS w0 wx6 wx8 ez9) ?_
        intro ad Cn bz9 H hS hx wz9
        dsimp only
        obtain rfl : bz9 = z9.1 := wz9
        have w0 := w0.mono hx
        have w1 := w1.mono hx
        have w2 := w2.mono hx
        exact sjX8_findChanges_94 ih39 ih49 hS w0 w1 w2 h
def glX8_findChanges_39 (p0 p1 p2 p4 p5 : Int) (self39 : Int → GS → GO) (p6 : Int) (G : GS) : GO :=
  (if p6 ≥ p4 then some (0, G)
  else lh1 (glX8_findChanges_49 self39 p0 p1 p2 p4 p5 p6) 6000 0 G)
set_option maxHeartbeats 4000000 in
theorem slX8_findChanges_39 {G' : GS} {rr : Int} {p0 p1 p2 p4 p5 b0 b1 b2 : Int} : ∀ (n : Nat) (ad : Nat → Nat → Nat) (Cn : Nat → Nat) (H : PH) (G : GS) (p6 : Int) , SimA ad Cn H G → vrel ad Cn 0 b0 p0 → vrel ad Cn 50 b1 p1 → vrel ad Cn 50 b2 p2 → lh1 (glX8_findChanges_39 p0 p1 p2 p4 p5) n p6 G = some (rr, G') → RS ad Cn (lq1 (lX8_findChanges_39 b0 b1 b2 p4 p5) n p6 H) 0 rr G' := by
  intro n
  induction n with
  | zero => intro ad Cn H G p6 hS w0 w1 w2 h; cases h
  | succ n ih39 =>
    intro ad Cn H G p6 hS w0 w1 w2 h
    rw [lh1_s] at h
    rw [lq1_s]
    generalize lh1 (glX8_findChanges_39 p0 p1 p2 p4 p5) n = self39 at ih39 h
    generalize lq1 (lX8_findChanges_39 b0 b1 b2 p4 p5) n = fself39 at ih39 ⊢
    unfold glX8_findChanges_39 at h
    unfold lX8_findChanges_39
    by_cases hc43 : p6 ≥ p4
    · have h := iteT hc43 h
      refine rif_t hc43 ?_
      cases h
      exact rret hS rfl
    · have h := iteF hc43 h
      refine rif_f hc43 ?_
      exact slX8_findChanges_49 ih39 6000 _ _ _ _ 0  hS w0 w1 w2 h
def g_X8_findChanges (a0 a1 a2 a3 : Int) (G : GS) : GO := gvm a0 <|
  (gl 0 G a0 6).bind fun x1 => (g_X2_start x1 a3 G).bind fun z2 => (gl 50 z2.2 a1 0).bind fun x3 => (gal 51 z2.2 x3).bind fun x4 => (gl 50 z2.2 a2 0).bind fun x5 => (gal 51 z2.2 x5).bind fun x6 => (gl 50 z2.2 a1 1).bind fun x7 => (gl 50 z2.2 a2 1).bind fun x8 => lh1 (glX8_findChanges_39 a0 a1 a2 (imin x4 x6) (imin x7 x8)) 6000 0 z2.2
set_option maxHeartbeats 4000000 in
theorem s_X8_findChanges {ad : Nat → Nat → Nat} {Cn : Nat → Nat} {H : PH} {G G' : GS} {rr : Int} {a0 a1 a2 a3 b0 b1 b2 : Int} (hS : SimA ad Cn H G) (w0 : vrel ad Cn 0 b0 a0) (w1 : vrel ad Cn 50 b1 a1) (w2 : vrel ad Cn 50 b2 a2) (h : g_X8_findChanges a0 a1 a2 a3 G = some (rr, G')) : RS ad Cn (f_X8_findChanges b0 b1 b2 a3 H) 0 rr G' := by
  unfold g_X8_findChanges at h
  unfold f_X8_findChanges
  obtain ⟨hv, h⟩ := gvm_spec h
  refine rb_vm 0 8 hS w0 hv rfl ?_
  obtain ⟨x1, ex1, h⟩ := bnd h
  refine rb_ldr 0 13 hS w0 ex1 rfl rfl ?_
  intro bx1 wx1
  obtain ⟨z2, ez2, h⟩ := bnd h
  refine rb_call (ρc := 0) (s_X2_start hS wx1 ez2) ?_
  intro ad Cn bz2 H hS hx wz2
  dsimp only
  obtain rfl : bz2 = z2.1 := wz2
  have w0 := w0.mono hx
  have w1 := w1.mono hx
  have w2 := w2.mono hx
  obtain ⟨x3, ex3, h⟩ := bnd h
  refine rb_ldr 50 51 hS w1 ex3 rfl rfl ?_
  intro bx3 wx3
  obtain ⟨x4, ex4, h⟩ := bnd h
  refine rb_al 51 hS wx3 ex4 (by decide) ?_
  obtain ⟨x5, ex5, h⟩ := bnd h
  refine rb_ldr 50 51 hS w2 ex5 rfl rfl ?_
  intro bx5 wx5
  obtain ⟨x6, ex6, h⟩ := bnd h
  refine rb_al 51 hS wx5 ex6 (by decide) ?_
  obtain ⟨x7, ex7, h⟩ := bnd h
  refine rb_ld 50 hS w1 ex7 rfl rfl ?_
  obtain ⟨x8, ex8, h⟩ := bnd h
  refine rb_ld 50 hS w2 ex8 rfl rfl ?_
  exact slX8_findChanges_39 6000 _ _ _ _ 0  hS w0 w1 w2 h
/-! HouseholdVault.changes(II)I by roles -/
def g_X8_changes (a0 a1 a2 : Int) (G : GS) : GO := gvm a0 <|
  (g_X8_editionOf a0 a1 G).bind fun z1 => (g_X8_editionOf a0 a2 z1.2).bind fun z2 => (if z1.1 = -1 then some ((-1), z2.2)
  else (if z2.1 ≠ -1 then (g_X8_findChanges a0 z1.1 z2.1 (-1) z2.2).bind fun z3 => (gl 0 z3.2 a0 6).bind fun x4 => (gl 13 z3.2 x4 1).bind fun x5 => some (x5, z3.2)
  else some ((-1), z2.2)))
set_option maxHeartbeats 4000000 in
theorem s_X8_changes {ad : Nat → Nat → Nat} {Cn : Nat → Nat} {H : PH} {G G' : GS} {rr : Int} {a0 a1 a2 b0 : Int} (hS : SimA ad Cn H G) (w0 : vrel ad Cn 0 b0 a0) (h : g_X8_changes a0 a1 a2 G = some (rr, G')) : RS ad Cn (f_X8_changes b0 a1 a2 H) 0 rr G' := by
  unfold g_X8_changes at h
  unfold f_X8_changes
  obtain ⟨hv, h⟩ := gvm_spec h
  refine rb_vm 0 8 hS w0 hv rfl ?_
  obtain ⟨z1, ez1, h⟩ := bnd h
  refine rb_call (ρc := 51) (s_X8_editionOf hS w0 ez1) ?_
  intro ad Cn bz1 H hS hx wz1
  dsimp only
  have w0 := w0.mono hx
  obtain ⟨z2, ez2, h⟩ := bnd h
  refine rb_call (ρc := 51) (s_X8_editionOf hS w0 ez2) ?_
  intro ad Cn bz2 H hS hx wz2
  dsimp only
  have w0 := w0.mono hx
  have wz1 := wz1.mono hx
  by_cases hc14 : z1.1 = -1
  · have h := iteT hc14 h
    refine rif_t (wz1.null.mpr hc14) ?_
    cases h
    exact rret hS rfl
  · have h := iteF hc14 h
    refine rif_f (fun q => hc14 (wz1.null.mp q)) ?_
    by_cases hc19 : z2.1 ≠ -1
    · have h := iteT hc19 h
      refine rif_t (fun q => hc19 (wz2.null.mp q)) ?_
      obtain ⟨z3, ez3, h⟩ := bnd h
      refine rb_call (ρc := 0) (s_X8_findChanges hS w0 wz1 wz2 ez3) ?_
      intro ad Cn bz3 H hS hx wz3
      dsimp only
      obtain rfl : bz3 = z3.1 := wz3
      have w0 := w0.mono hx
      have wz1 := wz1.mono hx
      have wz2 := wz2.mono hx
      obtain ⟨x4, ex4, h⟩ := bnd h
      refine rb_ldr 0 13 hS w0 ex4 rfl rfl ?_
      intro bx4 wx4
      obtain ⟨x5, ex5, h⟩ := bnd h
      refine rb_ld 13 hS wx4 ex5 rfl rfl ?_
      cases h
      exact rret hS rfl
    · have h := iteF hc19 h
      refine rif_f (fun q => hc19 (fun z => q (wz2.null.mpr z))) ?_
      cases h
      exact rret hS rfl
/-! HouseholdVault.changeAt(IIII)I by roles -/
def g_X8_changeAt (a0 a1 a2 a3 a4 : Int) (G : GS) : GO := gvm a0 <|
  (g_X8_editionOf a0 a1 G).bind fun z1 => (g_X8_editionOf a0 a2 z1.2).bind fun z2 => (if z1.1 = -1 then some ((-2), z2.2)
  else (if z2.1 = -1 then some ((-2), z2.2)
  else (if a3 ≥ 0 then (g_X8_findChanges a0 z1.1 z2.1 a3 z2.2).bind fun z3 => (gl 0 z3.2 a0 6).bind fun x4 => (g_X2_told x4 a4 3 (-2) z3.2).bind fun z5 => some (z5.1, z5.2)
  else some ((-2), z2.2))))
set_option maxHeartbeats 4000000 in
theorem s_X8_changeAt {ad : Nat → Nat → Nat} {Cn : Nat → Nat} {H : PH} {G G' : GS} {rr : Int} {a0 a1 a2 a3 a4 b0 : Int} (hS : SimA ad Cn H G) (w0 : vrel ad Cn 0 b0 a0) (h : g_X8_changeAt a0 a1 a2 a3 a4 G = some (rr, G')) : RS ad Cn (f_X8_changeAt b0 a1 a2 a3 a4 H) 0 rr G' := by
  unfold g_X8_changeAt at h
  unfold f_X8_changeAt
  obtain ⟨hv, h⟩ := gvm_spec h
  refine rb_vm 0 8 hS w0 hv rfl ?_
  obtain ⟨z1, ez1, h⟩ := bnd h
  refine rb_call (ρc := 51) (s_X8_editionOf hS w0 ez1) ?_
  intro ad Cn bz1 H hS hx wz1
  dsimp only
  have w0 := w0.mono hx
  obtain ⟨z2, ez2, h⟩ := bnd h
  refine rb_call (ρc := 51) (s_X8_editionOf hS w0 ez2) ?_
  intro ad Cn bz2 H hS hx wz2
  dsimp only
  have w0 := w0.mono hx
  have wz1 := wz1.mono hx
  by_cases hc16 : z1.1 = -1
  · have h := iteT hc16 h
    refine rif_t (wz1.null.mpr hc16) ?_
    cases h
    exact rret hS rfl
  · have h := iteF hc16 h
    refine rif_f (fun q => hc16 (wz1.null.mp q)) ?_
    by_cases hc21 : z2.1 = -1
    · have h := iteT hc21 h
      refine rif_t (wz2.null.mpr hc21) ?_
      cases h
      exact rret hS rfl
    · have h := iteF hc21 h
      refine rif_f (fun q => hc21 (wz2.null.mp q)) ?_
      by_cases hc25 : a3 ≥ 0
      · have h := iteT hc25 h
        refine rif_t hc25 ?_
        obtain ⟨z3, ez3, h⟩ := bnd h
        refine rb_call (ρc := 0) (s_X8_findChanges hS w0 wz1 wz2 ez3) ?_
        intro ad Cn bz3 H hS hx wz3
        dsimp only
        obtain rfl : bz3 = z3.1 := wz3
        have w0 := w0.mono hx
        have wz1 := wz1.mono hx
        have wz2 := wz2.mono hx
        obtain ⟨x4, ex4, h⟩ := bnd h
        refine rb_ldr 0 13 hS w0 ex4 rfl rfl ?_
        intro bx4 wx4
        obtain ⟨z5, ez5, h⟩ := bnd h
        refine rb_call (ρc := 0) (s_X2_told hS wx4 ez5) ?_
        intro ad Cn bz5 H hS hx wz5
        dsimp only
        obtain rfl : bz5 = z5.1 := wz5
        have w0 := w0.mono hx
        have wz1 := wz1.mono hx
        have wz2 := wz2.mono hx
        cases h
        exact rret hS rfl
      · have h := iteF hc25 h
        refine rif_f hc25 ?_
        cases h
        exact rret hS rfl
/-! HouseholdVault.bringBack(LHouseholdVault$Edition;I)I by roles -/
def gjX8_bringBack_115 (self24 : Int → Int → GS → GO) (p0 p1 p3 p4 p5 p6 : Int) (G : GS) : GO :=
  self24 p5 (w32 (p6 + 1)) G
set_option maxHeartbeats 4000000 in
theorem sjX8_bringBack_115 {ad : Nat → Nat → Nat} {Cn : Nat → Nat} {H : PH} {G G' : GS} {rr : Int} {fself24 : Int → Int → PH → RO} {self24 : Int → Int → GS → GO} {p0 p1 p3 p4 p5 p6 b0 b1 b3 b4 : Int} (ih24 : ∀ (ad : Nat → Nat → Nat) (Cn : Nat → Nat) (H : PH) (G : GS) (v5 v6 : Int) , SimA ad Cn H G → vrel ad Cn 0 b0 p0 → vrel ad Cn 50 b1 p1 → vrel ad Cn 31 b3 p3 → vrel ad Cn 31 b4 p4 → self24 v5 v6 G = some (rr, G') → RS ad Cn (fself24 v5 v6 H) 0 rr G') (hS : SimA ad Cn H G) (w0 : vrel ad Cn 0 b0 p0) (w1 : vrel ad Cn 50 b1 p1) (w3 : vrel ad Cn 31 b3 p3) (w4 : vrel ad Cn 31 b4 p4) (h : gjX8_bringBack_115 self24 p0 p1 p3 p4 p5 p6 G = some (rr, G')) : RS ad Cn (jX8_bringBack_115 fself24 b0 b1 b3 b4 p5 p6 H) 0 rr G' := by
  unfold gjX8_bringBack_115 at h
  unfold jX8_bringBack_115
  exact ih24 _ _ _ _ p5 (w32 (p6 + 1))  hS w0 w1 w3 w4  h
def gjX8_bringBack_109 (self24 : Int → Int → GS → GO) (self83 : Int → Int → GS → GO) (p0 p1 p3 p4 p5 p6 p8 p9 : Int) (G : GS) : GO :=
  self83 p5 (w32 (p9 + 1)) G
set_option maxHeartbeats 4000000 in
theorem sjX8_bringBack_109 {ad : Nat → Nat → Nat} {Cn : Nat → Nat} {H : PH} {G G' : GS} {rr : Int} {fself24 : Int → Int → PH → RO} {self24 : Int → Int → GS → GO} {fself83 : Int → Int → PH → RO} {self83 : Int → Int → GS → GO} {p0 p1 p3 p4 p5 p6 p8 p9 b0 b1 b3 b4 : Int} (ih24 : ∀ (ad : Nat → Nat → Nat) (Cn : Nat → Nat) (H : PH) (G : GS) (v5 v6 : Int) , SimA ad Cn H G → vrel ad Cn 0 b0 p0 → vrel ad Cn 50 b1 p1 → vrel ad Cn 31 b3 p3 → vrel ad Cn 31 b4 p4 → self24 v5 v6 G = some (rr, G') → RS ad Cn (fself24 v5 v6 H) 0 rr G') (ih83 : ∀ (ad : Nat → Nat → Nat) (Cn : Nat → Nat) (H : PH) (G : GS) (v5 v9 : Int) , SimA ad Cn H G → vrel ad Cn 0 b0 p0 → vrel ad Cn 50 b1 p1 → vrel ad Cn 31 b3 p3 → vrel ad Cn 31 b4 p4 → self83 v5 v9 G = some (rr, G') → RS ad Cn (fself83 v5 v9 H) 0 rr G') (hS : SimA ad Cn H G) (w0 : vrel ad Cn 0 b0 p0) (w1 : vrel ad Cn 50 b1 p1) (w3 : vrel ad Cn 31 b3 p3) (w4 : vrel ad Cn 31 b4 p4) (h : gjX8_bringBack_109 self24 self83 p0 p1 p3 p4 p5 p6 p8 p9 G = some (rr, G')) : RS ad Cn (jX8_bringBack_109 fself24 fself83 b0 b1 b3 b4 p5 p6 p8 p9 H) 0 rr G' := by
  unfold gjX8_bringBack_109 at h
  unfold jX8_bringBack_109
  exact ih83 _ _ _ _ p5 (w32 (p9 + 1))  hS w0 w1 w3 w4  h
def glX8_bringBack_83 (self24 : Int → Int → GS → GO) (p0 p1 p3 p4 p6 p8 : Int) (self83 : Int → Int → GS → GO) (p5 p9 : Int) (G : GS) : GO :=
  (if p9 ≥ p8 then gjX8_bringBack_115 self24 p0 p1 p3 p4 p5 p6 G
  else (g_X8_spot p6 p9 G).bind fun z1 => (g_X6_takeFrom p3 p4 z1.1 z1.2).bind fun z2 => (if z2.1 = 0 then gjX8_bringBack_109 self24 self83 p0 p1 p3 p4 p5 p6 p8 p9 z2.2
  else gjX8_bringBack_109 self24 self83 p0 p1 p3 p4 (w32 (p5 + 1)) p6 p8 p9 z2.2))
set_option maxHeartbeats 4000000 in
theorem slX8_bringBack_83 {G' : GS} {rr : Int} {fself24 : Int → Int → PH → RO} {self24 : Int → Int → GS → GO} {p0 p1 p3 p4 p6 p8 b0 b1 b3 b4 : Int} (ih24 : ∀ (ad : Nat → Nat → Nat) (Cn : Nat → Nat) (H : PH) (G : GS) (v5 v6 : Int) , SimA ad Cn H G → vrel ad Cn 0 b0 p0 → vrel ad Cn 50 b1 p1 → vrel ad Cn 31 b3 p3 → vrel ad Cn 31 b4 p4 → self24 v5 v6 G = some (rr, G') → RS ad Cn (fself24 v5 v6 H) 0 rr G') : ∀ (n : Nat) (ad : Nat → Nat → Nat) (Cn : Nat → Nat) (H : PH) (G : GS) (p5 p9 : Int) , SimA ad Cn H G → vrel ad Cn 0 b0 p0 → vrel ad Cn 50 b1 p1 → vrel ad Cn 31 b3 p3 → vrel ad Cn 31 b4 p4 → lh2 (glX8_bringBack_83 self24 p0 p1 p3 p4 p6 p8) n p5 p9 G = some (rr, G') → RS ad Cn (lq2 (lX8_bringBack_83 fself24 b0 b1 b3 b4 p6 p8) n p5 p9 H) 0 rr G' := by
  intro n
  induction n with
  | zero => intro ad Cn H G p5 p9 hS w0 w1 w3 w4 h; cases h
  | succ n ih83 =>
    intro ad Cn H G p5 p9 hS w0 w1 w3 w4 h
    rw [lh2_s] at h
    rw [lq2_s]
    generalize lh2 (glX8_bringBack_83 self24 p0 p1 p3 p4 p6 p8) n = self83 at ih83 h
    generalize lq2 (lX8_bringBack_83 fself24 b0 b1 b3 b4 p6 p8) n = fself83 at ih83 ⊢
    unfold glX8_bringBack_83 at h
    unfold lX8_bringBack_83
    by_cases hc87 : p9 ≥ p8
    · have h := iteT hc87 h
      refine rif_t hc87 ?_
      exact sjX8_bringBack_115 ih24 hS w0 w1 w3 w4 h
    · have h := iteF hc87 h
      refine rif_f hc87 ?_
      obtain ⟨z1, ez1, h⟩ := bnd h
      refine rb_call (ρc := 0) (s_X8_spot hS ez1) ?_
      intro ad Cn bz1 H hS hx wz1
      dsimp only
      obtain rfl : bz1 = z1.1 := wz1
      have w0 := w0.mono hx
      have w1 := w1.mono hx
      have w3 := w3.mono hx
      have w4 := w4.mono hx
      obtain ⟨z2, ez2, h⟩ := bnd h
      refine rb_call (ρc := 0) (s_X6_takeFrom hS w3 w4 ez2) ?_
      intro ad Cn bz2 H hS hx wz2
      dsimp only
      obtain rfl : bz2 = z2.1 := wz2
      have w0 := w0.mono hx
      have w1 := w1.mono hx
      have w3 := w3.mono hx
      have w4 := w4.mono hx
      by_cases hc103 : z2.1 = 0
      · have h := iteT hc103 h
        refine rif_t hc103 ?_
        exact sjX8_bringBack_109 ih24 ih83 hS w0 w1 w3 w4 h
      · have h := iteF hc103 h
        refine rif_f hc103 ?_
        exact sjX8_bringBack_109 ih24 ih83 hS w0 w1 w3 w4 h
def glX8_bringBack_24 (p0 p1 p3 p4 : Int) (self24 : Int → Int → GS → GO) (p5 p6 : Int) (G : GS) : GO :=
  (gl 50 G p1 1).bind fun x1 => (if p6 ≥ x1 then some (p5, G)
  else (gl 0 G p0 0).bind fun x2 => (gl 1 G x2 0).bind fun x3 => (gl 2 G x3 p6).bind fun x4 => (gl 20 G x4 2).bind fun x5 => (if x5 = 0 then (gl 20 G x4 1).bind fun x6 => (g_X8_placesOf p3 x6 G).bind fun z7 => (gl 20 z7.2 x4 1).bind fun x8 => (g_X8_placesOf p4 x8 z7.2).bind fun z9 => lh2 (glX8_bringBack_83 self24 p0 p1 p3 p4 p6 (imin z7.1 z9.1)) 6000 p5 0 z9.2
  else gjX8_bringBack_115 self24 p0 p1 p3 p4 p5 p6 G))
set_option maxHeartbeats 4000000 in
theorem slX8_bringBack_24 {G' : GS} {rr : Int} {p0 p1 p3 p4 b0 b1 b3 b4 : Int} : ∀ (n : Nat) (ad : Nat → Nat → Nat) (Cn : Nat → Nat) (H : PH) (G : GS) (p5 p6 : Int) , SimA ad Cn H G → vrel ad Cn 0 b0 p0 → vrel ad Cn 50 b1 p1 → vrel ad Cn 31 b3 p3 → vrel ad Cn 31 b4 p4 → lh2 (glX8_bringBack_24 p0 p1 p3 p4) n p5 p6 G = some (rr, G') → RS ad Cn (lq2 (lX8_bringBack_24 b0 b1 b3 b4) n p5 p6 H) 0 rr G' := by
  intro n
  induction n with
  | zero => intro ad Cn H G p5 p6 hS w0 w1 w3 w4 h; cases h
  | succ n ih24 =>
    intro ad Cn H G p5 p6 hS w0 w1 w3 w4 h
    rw [lh2_s] at h
    rw [lq2_s]
    generalize lh2 (glX8_bringBack_24 p0 p1 p3 p4) n = self24 at ih24 h
    generalize lq2 (lX8_bringBack_24 b0 b1 b3 b4) n = fself24 at ih24 ⊢
    unfold glX8_bringBack_24 at h
    unfold lX8_bringBack_24
    obtain ⟨x1, ex1, h⟩ := bnd h
    refine rb_ld 50 hS w1 ex1 rfl rfl ?_
    by_cases hc30 : p6 ≥ x1
    · have h := iteT hc30 h
      refine rif_t hc30 ?_
      cases h
      exact rret hS rfl
    · have h := iteF hc30 h
      refine rif_f hc30 ?_
      obtain ⟨x2, ex2, h⟩ := bnd h
      refine rb_ldr 0 1 hS w0 ex2 rfl rfl ?_
      intro bx2 wx2
      obtain ⟨x3, ex3, h⟩ := bnd h
      refine rb_ldr 1 2 hS wx2 ex3 rfl rfl ?_
      intro bx3 wx3
      obtain ⟨x4, ex4, h⟩ := bnd h
      refine rb_ldr 2 20 hS wx3 ex4 rfl rfl ?_
      intro bx4 wx4
      obtain ⟨x5, ex5, h⟩ := bnd h
      refine rb_ld 20 hS wx4 ex5 rfl rfl ?_
      by_cases hc50 : x5 = 0
      · have h := iteT hc50 h
        refine rif_t hc50 ?_
        obtain ⟨x6, ex6, h⟩ := bnd h
        refine rb_ld 20 hS wx4 ex6 rfl rfl ?_
        obtain ⟨z7, ez7, h⟩ := bnd h
        refine rb_call (ρc := 0) (s_X8_placesOf hS w3 ez7) ?_
        intro ad Cn bz7 H hS hx wz7
        dsimp only
        obtain rfl : bz7 = z7.1 := wz7
        have w0 := w0.mono hx
        have w1 := w1.mono hx
        have w3 := w3.mono hx
        have w4 := w4.mono hx
        have wx4 := wx4.mono hx
        obtain ⟨x8, ex8, h⟩ := bnd h
        refine rb_ld 20 hS wx4 ex8 rfl rfl ?_
        obtain ⟨z9, ez9, h⟩ := bnd h
        refine rb_call (ρc := 0) (s_X8_placesOf hS w4 ez9) ?_
        intro ad Cn bz9 H hS hx wz9
        dsimp only
        obtain rfl : bz9 = z9.1 := wz9
        have w0 := w0.mono hx
        have w1 := w1.mono hx
        have w3 := w3.mono hx
        have w4 := w4.mono hx
        have wx4 := wx4.mono hx
        exact slX8_bringBack_83 ih24 6000 _ _ _ _ p5 0  hS w0 w1 w3 w4 h
      · have h := iteF hc50 h
        refine rif_f hc50 ?_
        exact sjX8_bringBack_115 ih24 hS w0 w1 w3 w4 h
def g_X8_bringBack (a0 a1 a2 : Int) (G : GS) : GO := gvm a0 <|
  (gl 0 G a0 1).bind fun x1 => (gl 5 G x1 a2).bind fun x2 => (gl 30 G x2 0).bind fun x3 => (gl 50 G a1 0).bind fun x4 => (gl 51 G x4 a2).bind fun x5 => lh2 (glX8_bringBack_24 a0 a1 x3 x5) 6000 0 0 G
set_option maxHeartbeats 4000000 in
theorem s_X8_bringBack {ad : Nat → Nat → Nat} {Cn : Nat → Nat} {H : PH} {G G' : GS} {rr : Int} {a0 a1 a2 b0 b1 : Int} (hS : SimA ad Cn H G) (w0 : vrel ad Cn 0 b0 a0) (w1 : vrel ad Cn 50 b1 a1) (h : g_X8_bringBack a0 a1 a2 G = some (rr, G')) : RS ad Cn (f_X8_bringBack b0 b1 a2 H) 0 rr G' := by
  unfold g_X8_bringBack at h
  unfold f_X8_bringBack
  obtain ⟨hv, h⟩ := gvm_spec h
  refine rb_vm 0 8 hS w0 hv rfl ?_
  obtain ⟨x1, ex1, h⟩ := bnd h
  refine rb_ldr 0 5 hS w0 ex1 rfl rfl ?_
  intro bx1 wx1
  obtain ⟨x2, ex2, h⟩ := bnd h
  refine rb_ldr 5 30 hS wx1 ex2 rfl rfl ?_
  intro bx2 wx2
  obtain ⟨x3, ex3, h⟩ := bnd h
  refine rb_ldr 30 31 hS wx2 ex3 rfl rfl ?_
  intro bx3 wx3
  obtain ⟨x4, ex4, h⟩ := bnd h
  refine rb_ldr 50 51 hS w1 ex4 rfl rfl ?_
  intro bx4 wx4
  obtain ⟨x5, ex5, h⟩ := bnd h
  refine rb_ldr 51 31 hS wx4 ex5 rfl rfl ?_
  intro bx5 wx5
  exact slX8_bringBack_24 6000 _ _ _ _ 0 0  hS w0 w1 wx3 wx5 h
/-! HouseholdVault.merge(I)I by roles -/
def gjX8_merge_63 (self31 : Int → Int → GS → GO) (p0 p2 p3 p4 p5 p6 : Int) (G : GS) : GO :=
  self31 (w32 (p3 + p6)) (w32 (p5 + 1)) G
set_option maxHeartbeats 4000000 in
theorem sjX8_merge_63 {ad : Nat → Nat → Nat} {Cn : Nat → Nat} {H : PH} {G G' : GS} {rr : Int} {fself31 : Int → Int → PH → RO} {self31 : Int → Int → GS → GO} {p0 p2 p3 p4 p5 p6 b0 b2 : Int} (ih31 : ∀ (ad : Nat → Nat → Nat) (Cn : Nat → Nat) (H : PH) (G : GS) (v3 v5 : Int) , SimA ad Cn H G → vrel ad Cn 0 b0 p0 → vrel ad Cn 50 b2 p2 → self31 v3 v5 G = some (rr, G') → RS ad Cn (fself31 v3 v5 H) 0 rr G') (hS : SimA ad Cn H G) (w0 : vrel ad Cn 0 b0 p0) (w2 : vrel ad Cn 50 b2 p2) (h : gjX8_merge_63 self31 p0 p2 p3 p4 p5 p6 G = some (rr, G')) : RS ad Cn (jX8_merge_63 fself31 b0 b2 p3 p4 p5 p6 H) 0 rr G' := by
  unfold gjX8_merge_63 at h
  unfold jX8_merge_63
  exact ih31 _ _ _ _ (w32 (p3 + p6)) (w32 (p5 + 1))  hS w0 w2  h
def glX8_merge_31 (p0 p2 p4 : Int) (self31 : Int → Int → GS → GO) (p3 p5 : Int) (G : GS) : GO :=
  (if p5 ≥ p4 then some (p3, G)
  else (g_X8_bringBack p0 p2 p5 G).bind fun z1 => (if z1.1 ≤ 0 then gjX8_merge_63 self31 p0 p2 p3 p4 p5 z1.1 z1.2
  else (gl 0 z1.2 p0 1).bind fun x2 => (gl 5 z1.2 x2 p5).bind fun x3 => (g_X4_unsettle x3 0 z1.2).bind fun z4 => gjX8_merge_63 self31 p0 p2 p3 p4 p5 z1.1 z4.2))
set_option maxHeartbeats 4000000 in
theorem slX8_merge_31 {G' : GS} {rr : Int} {p0 p2 p4 b0 b2 : Int} : ∀ (n : Nat) (ad : Nat → Nat → Nat) (Cn : Nat → Nat) (H : PH) (G : GS) (p3 p5 : Int) , SimA ad Cn H G → vrel ad Cn 0 b0 p0 → vrel ad Cn 50 b2 p2 → lh2 (glX8_merge_31 p0 p2 p4) n p3 p5 G = some (rr, G') → RS ad Cn (lq2 (lX8_merge_31 b0 b2 p4) n p3 p5 H) 0 rr G' := by
  intro n
  induction n with
  | zero => intro ad Cn H G p3 p5 hS w0 w2 h; cases h
  | succ n ih31 =>
    intro ad Cn H G p3 p5 hS w0 w2 h
    rw [lh2_s] at h
    rw [lq2_s]
    generalize lh2 (glX8_merge_31 p0 p2 p4) n = self31 at ih31 h
    generalize lq2 (lX8_merge_31 b0 b2 p4) n = fself31 at ih31 ⊢
    unfold glX8_merge_31 at h
    unfold lX8_merge_31
    by_cases hc35 : p5 ≥ p4
    · have h := iteT hc35 h
      refine rif_t hc35 ?_
      cases h
      exact rret hS rfl
    · have h := iteF hc35 h
      refine rif_f hc35 ?_
      obtain ⟨z1, ez1, h⟩ := bnd h
      refine rb_call (ρc := 0) (s_X8_bringBack hS w0 w2 ez1) ?_
      intro ad Cn bz1 H hS hx wz1
      dsimp only
      obtain rfl : bz1 = z1.1 := wz1
      have w0 := w0.mono hx
      have w2 := w2.mono hx
      by_cases hc49 : z1.1 ≤ 0
      · have h := iteT hc49 h
        refine rif_t hc49 ?_
        exact sjX8_merge_63 ih31 hS w0 w2 h
      · have h := iteF hc49 h
        refine rif_f hc49 ?_
        obtain ⟨x2, ex2, h⟩ := bnd h
        refine rb_ldr 0 5 hS w0 ex2 rfl rfl ?_
        intro bx2 wx2
        obtain ⟨x3, ex3, h⟩ := bnd h
        refine rb_ldr 5 30 hS wx2 ex3 rfl rfl ?_
        intro bx3 wx3
        obtain ⟨z4, ez4, h⟩ := bnd h
        refine rb_call (ρc := 0) (s_X4_unsettle hS wx3 ez4) ?_
        intro ad Cn bz4 H hS hx wz4
        dsimp only
        obtain rfl : bz4 = z4.1 := wz4
        have w0 := w0.mono hx
        have w2 := w2.mono hx
        exact sjX8_merge_63 ih31 hS w0 w2 h
def g_X8_merge (a0 a1 : Int) (G : GS) : GO := gvm a0 <|
  (g_X8_editionOf a0 a1 G).bind fun z1 => (if z1.1 ≠ -1 then (gl 50 z1.2 z1.1 0).bind fun x2 => (gal 51 z1.2 x2).bind fun x3 => (gl 0 z1.2 a0 2).bind fun x4 => lh2 (glX8_merge_31 a0 z1.1 (imin x3 x4)) 6000 0 0 z1.2
  else some ((-1), z1.2))
set_option maxHeartbeats 4000000 in
theorem s_X8_merge {ad : Nat → Nat → Nat} {Cn : Nat → Nat} {H : PH} {G G' : GS} {rr : Int} {a0 a1 b0 : Int} (hS : SimA ad Cn H G) (w0 : vrel ad Cn 0 b0 a0) (h : g_X8_merge a0 a1 G = some (rr, G')) : RS ad Cn (f_X8_merge b0 a1 H) 0 rr G' := by
  unfold g_X8_merge at h
  unfold f_X8_merge
  obtain ⟨hv, h⟩ := gvm_spec h
  refine rb_vm 0 8 hS w0 hv rfl ?_
  obtain ⟨z1, ez1, h⟩ := bnd h
  refine rb_call (ρc := 51) (s_X8_editionOf hS w0 ez1) ?_
  intro ad Cn bz1 H hS hx wz1
  dsimp only
  have w0 := w0.mono hx
  by_cases hc7 : z1.1 ≠ -1
  · have h := iteT hc7 h
    refine rif_t (fun q => hc7 (wz1.null.mp q)) ?_
    obtain ⟨x2, ex2, h⟩ := bnd h
    refine rb_ldr 50 51 hS wz1 ex2 rfl rfl ?_
    intro bx2 wx2
    obtain ⟨x3, ex3, h⟩ := bnd h
    refine rb_al 51 hS wx2 ex3 (by decide) ?_
    obtain ⟨x4, ex4, h⟩ := bnd h
    refine rb_ld 0 hS w0 ex4 rfl rfl ?_
    exact slX8_merge_31 6000 _ _ _ _ 0 0  hS w0 wz1 h
  · have h := iteF hc7 h
    refine rif_f (fun q => hc7 (fun z => q (wz1.null.mpr z))) ?_
    cases h
    exact rret hS rfl
/-! HouseholdVault.count(I)I by roles -/
def g_X8_count (a0 a1 : Int) (G : GS) : GO := gvm a0 <|
  (if a1 < 0 ∨ 5 < a1 then some ((-1), G)
  else List.getD [(gl 0 G a0 0).bind fun x1 => (gl 1 G x1 1).bind fun x2 => some (x2, G), (gl 0 G a0 2).bind fun x3 => some (x3, G), (gl 0 G a0 0).bind fun x4 => (gl 1 G x4 3).bind fun x5 => some (x5, G), (gl 0 G a0 4).bind fun x6 => some (x6, G), (gl 0 G a0 5).bind fun x7 => (gl 7 G x7 0).bind fun x8 => some (x8, G), (gl 0 G a0 5).bind fun x9 => (gl 7 G x9 1).bind fun x10 => some (x10, G)] (a1 - 0).toNat none)
set_option maxHeartbeats 4000000 in
theorem s_X8_count {ad : Nat → Nat → Nat} {Cn : Nat → Nat} {H : PH} {G G' : GS} {rr : Int} {a0 a1 b0 : Int} (hS : SimA ad Cn H G) (w0 : vrel ad Cn 0 b0 a0) (h : g_X8_count a0 a1 G = some (rr, G')) : RS ad Cn (f_X8_count b0 a1 H) 0 rr G' := by
  unfold g_X8_count at h
  unfold f_X8_count
  obtain ⟨hv, h⟩ := gvm_spec h
  refine rb_vm 0 8 hS w0 hv rfl ?_
  by_cases hc : a1 < 0 ∨ 5 < a1
  · have h := iteT hc h
    refine rif_t hc ?_
    cases h
    exact rret hS rfl
  · have h := iteF hc h
    refine rif_f hc ?_
    obtain ⟨i, hin, ha⟩ := sw_case 6 hc (by decide)
    have h := sw_at ha h
    refine rsw ha ?_
    match i, hin, h with
    | 0, hin, h =>
      have h : ((gl 0 G a0 0).bind fun x1 => (gl 1 G x1 1).bind fun x2 => some (x2, G) : GO) = some (rr, G') := h
      simp only [List.getD_cons_succ, List.getD_cons_zero]
      obtain ⟨x1, ex1, h⟩ := bnd h
      refine rb_ldr 0 1 hS w0 ex1 rfl rfl ?_
      intro bx1 wx1
      obtain ⟨x2, ex2, h⟩ := bnd h
      refine rb_ld 1 hS wx1 ex2 rfl rfl ?_
      cases h
      exact rret hS rfl
    | 1, hin, h =>
      have h : ((gl 0 G a0 2).bind fun x3 => some (x3, G) : GO) = some (rr, G') := h
      simp only [List.getD_cons_succ, List.getD_cons_zero]
      obtain ⟨x3, ex3, h⟩ := bnd h
      refine rb_ld 0 hS w0 ex3 rfl rfl ?_
      cases h
      exact rret hS rfl
    | 2, hin, h =>
      have h : ((gl 0 G a0 0).bind fun x4 => (gl 1 G x4 3).bind fun x5 => some (x5, G) : GO) = some (rr, G') := h
      simp only [List.getD_cons_succ, List.getD_cons_zero]
      obtain ⟨x4, ex4, h⟩ := bnd h
      refine rb_ldr 0 1 hS w0 ex4 rfl rfl ?_
      intro bx4 wx4
      obtain ⟨x5, ex5, h⟩ := bnd h
      refine rb_ld 1 hS wx4 ex5 rfl rfl ?_
      cases h
      exact rret hS rfl
    | 3, hin, h =>
      have h : ((gl 0 G a0 4).bind fun x6 => some (x6, G) : GO) = some (rr, G') := h
      simp only [List.getD_cons_succ, List.getD_cons_zero]
      obtain ⟨x6, ex6, h⟩ := bnd h
      refine rb_ld 0 hS w0 ex6 rfl rfl ?_
      cases h
      exact rret hS rfl
    | 4, hin, h =>
      have h : ((gl 0 G a0 5).bind fun x7 => (gl 7 G x7 0).bind fun x8 => some (x8, G) : GO) = some (rr, G') := h
      simp only [List.getD_cons_succ, List.getD_cons_zero]
      obtain ⟨x7, ex7, h⟩ := bnd h
      refine rb_ldr 0 7 hS w0 ex7 rfl rfl ?_
      intro bx7 wx7
      obtain ⟨x8, ex8, h⟩ := bnd h
      refine rb_ld 7 hS wx7 ex8 rfl rfl ?_
      cases h
      exact rret hS rfl
    | 5, hin, h =>
      have h : ((gl 0 G a0 5).bind fun x9 => (gl 7 G x9 1).bind fun x10 => some (x10, G) : GO) = some (rr, G') := h
      simp only [List.getD_cons_succ, List.getD_cons_zero]
      obtain ⟨x9, ex9, h⟩ := bnd h
      refine rb_ldr 0 7 hS w0 ex9 rfl rfl ?_
      intro bx9 wx9
      obtain ⟨x10, ex10, h⟩ := bnd h
      refine rb_ld 7 hS wx9 ex10 rfl rfl ?_
      cases h
      exact rret hS rfl
    | i + 6, hin, h => exact absurd hin (by omega)
