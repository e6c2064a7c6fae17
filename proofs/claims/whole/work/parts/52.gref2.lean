/-! HouseholdVaultModel.some(II)I by roles -/
def g_X9_some (a0 a1 a2 : Int) (G : GS) : GO := gvm a0 <|
  (g_X9_isCondition a0 a1 G).bind fun z1 => (if z1.1 = 0 then some ((-1), z1.2)
  else (g_X9_in a2 0 5 z1.2).bind fun z2 => (if z2.1 ≠ 0 then (gl 100 z2.2 a0 25).bind fun x3 => (gl 125 z2.2 x3 a1).bind fun x4 => (if x4 ≥ 0 then (gl 100 z2.2 a0 18).bind fun x5 => (if x5 = 60 then some ((-4), z2.2)
  else (gl 100 z2.2 a0 26).bind fun x6 => (gl 126 z2.2 x6 a1).bind fun x7 => (if x7 ≠ 30 then (gl 100 z2.2 a0 26).bind fun x8 => (gl 126 z2.2 x8 a1).bind fun x9 => (gl 100 z2.2 a0 27).bind fun x10 => (gl 127 z2.2 x10 a1).bind fun x11 => (g_X9_condition a0 4 (-1) (w32 (1 + x9)) x11 z2.2).bind fun z12 => (gl 100 z12.2 a0 23).bind fun x13 => (gs 123 z12.2 x13 z12.1 a1).bind fun G14 => (gl 100 G14 a0 20).bind fun x15 => (gs 120 G14 x15 z12.1 a2).bind fun G16 => some (z12.1, G16)
  else some ((-4), z2.2)))
  else some ((-2), z2.2))
  else some ((-1), z2.2)))
set_option maxHeartbeats 4000000 in
theorem s_X9_some {ad : Nat → Nat → Nat} {Cn : Nat → Nat} {H : PH} {G G' : GS} {rr : Int} {a0 a1 a2 b0 : Int} (hS : SimA ad Cn H G) (w0 : vrel ad Cn 100 b0 a0) (h : g_X9_some a0 a1 a2 G = some (rr, G')) : RS ad Cn (f_X9_some b0 a1 a2 H) 0 rr G' := by
  unfold g_X9_some at h
  unfold f_X9_some
  obtain ⟨hv, h⟩ := gvm_spec h
  refine rb_vm 100 9 hS w0 hv rfl ?_
  obtain ⟨z1, ez1, h⟩ := bnd h
  refine rb_call (ρc := 0) (s_X9_isCondition hS w0 ez1) ?_
  intro ad Cn bz1 H hS hx wz1
  dsimp only
  obtain rfl : bz1 = z1.1 := wz1
  have w0 := w0.mono hx
  by_cases hc5 : z1.1 = 0
  · have h := iteT hc5 h
    refine rif_t hc5 ?_
    cases h
    exact rret hS rfl
  · have h := iteF hc5 h
    refine rif_f hc5 ?_
    obtain ⟨z2, ez2, h⟩ := bnd h
    refine rb_call (ρc := 0) (s_X9_in hS ez2) ?_
    intro ad Cn bz2 H hS hx wz2
    dsimp only
    obtain rfl : bz2 = z2.1 := wz2
    have w0 := w0.mono hx
    by_cases hc17 : z2.1 ≠ 0
    · have h := iteT hc17 h
      refine rif_t hc17 ?_
      obtain ⟨x3, ex3, h⟩ := bnd h
      refine rb_ldr 100 125 hS w0 ex3 rfl rfl ?_
      intro bx3 wx3
      obtain ⟨x4, ex4, h⟩ := bnd h
      refine rb_ld 125 hS wx3 ex4 rfl rfl ?_
      by_cases hc28 : x4 ≥ 0
      · have h := iteT hc28 h
        refine rif_t hc28 ?_
        obtain ⟨x5, ex5, h⟩ := bnd h
        refine rb_ld 100 hS w0 ex5 rfl rfl ?_
        by_cases hc40 : x5 = 60
        · have h := iteT hc40 h
          refine rif_t hc40 ?_
          cases h
          exact rret hS rfl
        · have h := iteF hc40 h
          refine rif_f hc40 ?_
          obtain ⟨x6, ex6, h⟩ := bnd h
          refine rb_ldr 100 126 hS w0 ex6 rfl rfl ?_
          intro bx6 wx6
          obtain ⟨x7, ex7, h⟩ := bnd h
          refine rb_ld 126 hS wx6 ex7 rfl rfl ?_
          by_cases hc51 : x7 ≠ 30
          · have h := iteT hc51 h
            refine rif_t hc51 ?_
            obtain ⟨x8, ex8, h⟩ := bnd h
            refine rb_ldr 100 126 hS w0 ex8 rfl rfl ?_
            intro bx8 wx8
            obtain ⟨x9, ex9, h⟩ := bnd h
            refine rb_ld 126 hS wx8 ex9 rfl rfl ?_
            obtain ⟨x10, ex10, h⟩ := bnd h
            refine rb_ldr 100 127 hS w0 ex10 rfl rfl ?_
            intro bx10 wx10
            obtain ⟨x11, ex11, h⟩ := bnd h
            refine rb_ld 127 hS wx10 ex11 rfl rfl ?_
            obtain ⟨z12, ez12, h⟩ := bnd h
            refine rb_call (ρc := 0) (s_X9_condition hS w0 ez12) ?_
            intro ad Cn bz12 H hS hx wz12
            dsimp only
            obtain rfl : bz12 = z12.1 := wz12
            have w0 := w0.mono hx
            obtain ⟨x13, ex13, h⟩ := bnd h
            refine rb_ldr 100 123 hS w0 ex13 rfl rfl ?_
            intro bx13 wx13
            obtain ⟨G14, eG14, h⟩ := bnd h
            refine rb_st 123 hS wx13 (show rrel _ _ 0 _ _ from rfl) eG14 rfl ?_
            intro H hS
            obtain ⟨x15, ex15, h⟩ := bnd h
            refine rb_ldr 100 120 hS w0 ex15 rfl rfl ?_
            intro bx15 wx15
            obtain ⟨G16, eG16, h⟩ := bnd h
            refine rb_st 120 hS wx15 (show rrel _ _ 0 _ _ from rfl) eG16 rfl ?_
            intro H hS
            cases h
            exact rret hS rfl
          · have h := iteF hc51 h
            refine rif_f hc51 ?_
            cases h
            exact rret hS rfl
      · have h := iteF hc28 h
        refine rif_f hc28 ?_
        cases h
        exact rret hS rfl
    · have h := iteF hc17 h
      refine rif_f hc17 ?_
      cases h
      exact rret hS rfl
/-! HouseholdVaultModel.holds(III)I by roles -/
def gjX9_holds_58 (p0 p1 p2 p3 : Int) (G : GS) : GO :=
  (g_X9_workOut p0 p2 G).bind fun z1 => (gl 100 z1.2 p0 45).bind fun x2 => (gl 145 z1.2 x2 (w32 ((w32 ((w32 (6 * p1)) + p3)) + 1))).bind fun x3 => (if x3 = 0 then some (0, z1.2)
  else some (1, z1.2))
set_option maxHeartbeats 4000000 in
theorem sjX9_holds_58 {ad : Nat → Nat → Nat} {Cn : Nat → Nat} {H : PH} {G G' : GS} {rr : Int} {p0 p1 p2 p3 b0 : Int} (hS : SimA ad Cn H G) (w0 : vrel ad Cn 100 b0 p0) (h : gjX9_holds_58 p0 p1 p2 p3 G = some (rr, G')) : RS ad Cn (jX9_holds_58 b0 p1 p2 p3 H) 0 rr G' := by
  unfold gjX9_holds_58 at h
  unfold jX9_holds_58
  obtain ⟨z1, ez1, h⟩ := bnd h
  refine rb_call (ρc := 0) (s_X9_workOut hS w0 ez1) ?_
  intro ad Cn bz1 H hS hx wz1
  dsimp only
  obtain rfl : bz1 = z1.1 := wz1
  have w0 := w0.mono hx
  obtain ⟨x2, ex2, h⟩ := bnd h
  refine rb_ldr 100 145 hS w0 ex2 rfl rfl ?_
  intro bx2 wx2
  obtain ⟨x3, ex3, h⟩ := bnd h
  refine rb_ld 145 hS wx2 ex3 rfl rfl ?_
  by_cases hc76 : x3 = 0
  · have h := iteT hc76 h
    refine rif_t hc76 ?_
    cases h
    exact rret hS rfl
  · have h := iteF hc76 h
    refine rif_f hc76 ?_
    cases h
    exact rret hS rfl
def g_X9_holds (a0 a1 a2 a3 : Int) (G : GS) : GO := gvm a0 <|
  (g_X9_isCondition a0 a1 G).bind fun z1 => (if z1.1 = 0 then some ((-1), z1.2)
  else (g_X9_isHousehold a0 a2 z1.2).bind fun z2 => (if z2.1 = 0 then some ((-1), z2.2)
  else (gl 100 z2.2 a0 25).bind fun x3 => (gl 125 z2.2 x3 a1).bind fun x4 => (if x4 ≥ 0 then (gl 100 z2.2 a0 25).bind fun x5 => (gl 125 z2.2 x5 a1).bind fun x6 => (g_X9_persons a0 a2 x6 z2.2).bind fun z7 => (g_X9_in a3 0 (w32 (z7.1 - 1)) z7.2).bind fun z8 => (if z8.1 ≠ 0 then gjX9_holds_58 a0 a1 a2 a3 z8.2
  else some ((-1), z8.2))
  else (if a3 = (-1) then gjX9_holds_58 a0 a1 a2 a3 z2.2
  else some ((-1), z2.2)))))
set_option maxHeartbeats 4000000 in
theorem s_X9_holds {ad : Nat → Nat → Nat} {Cn : Nat → Nat} {H : PH} {G G' : GS} {rr : Int} {a0 a1 a2 a3 b0 : Int} (hS : SimA ad Cn H G) (w0 : vrel ad Cn 100 b0 a0) (h : g_X9_holds a0 a1 a2 a3 G = some (rr, G')) : RS ad Cn (f_X9_holds b0 a1 a2 a3 H) 0 rr G' := by
  unfold g_X9_holds at h
  unfold f_X9_holds
  obtain ⟨hv, h⟩ := gvm_spec h
  refine rb_vm 100 9 hS w0 hv rfl ?_
  obtain ⟨z1, ez1, h⟩ := bnd h
  refine rb_call (ρc := 0) (s_X9_isCondition hS w0 ez1) ?_
  intro ad Cn bz1 H hS hx wz1
  dsimp only
  obtain rfl : bz1 = z1.1 := wz1
  have w0 := w0.mono hx
  by_cases hc5 : z1.1 = 0
  · have h := iteT hc5 h
    refine rif_t hc5 ?_
    cases h
    exact rret hS rfl
  · have h := iteF hc5 h
    refine rif_f hc5 ?_
    obtain ⟨z2, ez2, h⟩ := bnd h
    refine rb_call (ρc := 0) (s_X9_isHousehold hS w0 ez2) ?_
    intro ad Cn bz2 H hS hx wz2
    dsimp only
    obtain rfl : bz2 = z2.1 := wz2
    have w0 := w0.mono hx
    by_cases hc13 : z2.1 = 0
    · have h := iteT hc13 h
      refine rif_t hc13 ?_
      cases h
      exact rret hS rfl
    · have h := iteF hc13 h
      refine rif_f hc13 ?_
      obtain ⟨x3, ex3, h⟩ := bnd h
      refine rb_ldr 100 125 hS w0 ex3 rfl rfl ?_
      intro bx3 wx3
      obtain ⟨x4, ex4, h⟩ := bnd h
      refine rb_ld 125 hS wx3 ex4 rfl rfl ?_
      by_cases hc22 : x4 ≥ 0
      · have h := iteT hc22 h
        refine rif_t hc22 ?_
        obtain ⟨x5, ex5, h⟩ := bnd h
        refine rb_ldr 100 125 hS w0 ex5 rfl rfl ?_
        intro bx5 wx5
        obtain ⟨x6, ex6, h⟩ := bnd h
        refine rb_ld 125 hS wx5 ex6 rfl rfl ?_
        obtain ⟨z7, ez7, h⟩ := bnd h
        refine rb_call (ρc := 0) (s_X9_persons hS w0 ez7) ?_
        intro ad Cn bz7 H hS hx wz7
        dsimp only
        obtain rfl : bz7 = z7.1 := wz7
        have w0 := w0.mono hx
        obtain ⟨z8, ez8, h⟩ := bnd h
        refine rb_call (ρc := 0) (s_X9_in hS ez8) ?_
        intro ad Cn bz8 H hS hx wz8
        dsimp only
        obtain rfl : bz8 = z8.1 := wz8
        have w0 := w0.mono hx
        by_cases hc53 : z8.1 ≠ 0
        · have h := iteT hc53 h
          refine rif_t hc53 ?_
          exact sjX9_holds_58 hS w0 h
        · have h := iteF hc53 h
          refine rif_f hc53 ?_
          cases h
          exact rret hS rfl
      · have h := iteF hc22 h
        refine rif_f hc22 ?_
        by_cases hc27 : a3 = (-1)
        · have h := iteT hc27 h
          refine rif_t hc27 ?_
          exact sjX9_holds_58 hS w0 h
        · have h := iteF hc27 h
          refine rif_f hc27 ?_
          cases h
          exact rret hS rfl
/-! HouseholdVaultModel.filter(II)I by roles -/
def gjX9_filter_73 (p0 p1 p2 : Int) (G : GS) : GO :=
  (gl 100 G p0 6).bind fun x1 => (gs 106 G x1 p1 p2).bind fun G2 => some (1, G2)
set_option maxHeartbeats 4000000 in
theorem sjX9_filter_73 {ad : Nat → Nat → Nat} {Cn : Nat → Nat} {H : PH} {G G' : GS} {rr : Int} {p0 p1 p2 b0 : Int} (hS : SimA ad Cn H G) (w0 : vrel ad Cn 100 b0 p0) (h : gjX9_filter_73 p0 p1 p2 G = some (rr, G')) : RS ad Cn (jX9_filter_73 b0 p1 p2 H) 0 rr G' := by
  unfold gjX9_filter_73 at h
  unfold jX9_filter_73
  obtain ⟨x1, ex1, h⟩ := bnd h
  refine rb_ldr 100 106 hS w0 ex1 rfl rfl ?_
  intro bx1 wx1
  obtain ⟨G2, eG2, h⟩ := bnd h
  refine rb_st 106 hS wx1 (show rrel _ _ 0 _ _ from rfl) eG2 rfl ?_
  intro H hS
  cases h
  exact rret hS rfl
def gjX9_filter_60 (p0 p1 p2 : Int) (G : GS) : GO :=
  (gl 100 G p0 27).bind fun x1 => (gl 127 G x1 p2).bind fun x2 => (if x2 < p1 then gjX9_filter_73 p0 p1 p2 G
  else some ((-2), G))
set_option maxHeartbeats 4000000 in
theorem sjX9_filter_60 {ad : Nat → Nat → Nat} {Cn : Nat → Nat} {H : PH} {G G' : GS} {rr : Int} {p0 p1 p2 b0 : Int} (hS : SimA ad Cn H G) (w0 : vrel ad Cn 100 b0 p0) (h : gjX9_filter_60 p0 p1 p2 G = some (rr, G')) : RS ad Cn (jX9_filter_60 b0 p1 p2 H) 0 rr G' := by
  unfold gjX9_filter_60 at h
  unfold jX9_filter_60
  obtain ⟨x1, ex1, h⟩ := bnd h
  refine rb_ldr 100 127 hS w0 ex1 rfl rfl ?_
  intro bx1 wx1
  obtain ⟨x2, ex2, h⟩ := bnd h
  refine rb_ld 127 hS wx1 ex2 rfl rfl ?_
  by_cases hc67 : x2 < p1
  · have h := iteT hc67 h
    refine rif_t hc67 ?_
    exact sjX9_filter_73 hS w0 h
  · have h := iteF hc67 h
    refine rif_f hc67 ?_
    cases h
    exact rret hS rfl
def gjX9_filter_23 (p0 p1 p2 : Int) (G : GS) : GO :=
  (gl 100 G p0 3).bind fun x1 => (gl 103 G x1 p1).bind fun x2 => (if x2 > 0 then some ((-2), G)
  else (if p2 < 0 then gjX9_filter_73 p0 p1 p2 G
  else (gl 100 G p0 25).bind fun x3 => (gl 125 G x3 p2).bind fun x4 => (if x4 < 0 then gjX9_filter_60 p0 p1 p2 G
  else (gl 100 G p0 25).bind fun x5 => (gl 125 G x5 p2).bind fun x6 => (gl 100 G p0 2).bind fun x7 => (gl 102 G x7 p1).bind fun x8 => (if x6 ≠ x8 then some ((-2), G)
  else gjX9_filter_60 p0 p1 p2 G))))
set_option maxHeartbeats 4000000 in
theorem sjX9_filter_23 {ad : Nat → Nat → Nat} {Cn : Nat → Nat} {H : PH} {G G' : GS} {rr : Int} {p0 p1 p2 b0 : Int} (hS : SimA ad Cn H G) (w0 : vrel ad Cn 100 b0 p0) (h : gjX9_filter_23 p0 p1 p2 G = some (rr, G')) : RS ad Cn (jX9_filter_23 b0 p1 p2 H) 0 rr G' := by
  unfold gjX9_filter_23 at h
  unfold jX9_filter_23
  obtain ⟨x1, ex1, h⟩ := bnd h
  refine rb_ldr 100 103 hS w0 ex1 rfl rfl ?_
  intro bx1 wx1
  obtain ⟨x2, ex2, h⟩ := bnd h
  refine rb_ld 103 hS wx1 ex2 rfl rfl ?_
  by_cases hc29 : x2 > 0
  · have h := iteT hc29 h
    refine rif_t hc29 ?_
    cases h
    exact rret hS rfl
  · have h := iteF hc29 h
    refine rif_f hc29 ?_
    by_cases hc33 : p2 < 0
    · have h := iteT hc33 h
      refine rif_t hc33 ?_
      exact sjX9_filter_73 hS w0 h
    · have h := iteF hc33 h
      refine rif_f hc33 ?_
      obtain ⟨x3, ex3, h⟩ := bnd h
      refine rb_ldr 100 125 hS w0 ex3 rfl rfl ?_
      intro bx3 wx3
      obtain ⟨x4, ex4, h⟩ := bnd h
      refine rb_ld 125 hS wx3 ex4 rfl rfl ?_
      by_cases hc42 : x4 < 0
      · have h := iteT hc42 h
        refine rif_t hc42 ?_
        exact sjX9_filter_60 hS w0 h
      · have h := iteF hc42 h
        refine rif_f hc42 ?_
        obtain ⟨x5, ex5, h⟩ := bnd h
        refine rb_ldr 100 125 hS w0 ex5 rfl rfl ?_
        intro bx5 wx5
        obtain ⟨x6, ex6, h⟩ := bnd h
        refine rb_ld 125 hS wx5 ex6 rfl rfl ?_
        obtain ⟨x7, ex7, h⟩ := bnd h
        refine rb_ldr 100 102 hS w0 ex7 rfl rfl ?_
        intro bx7 wx7
        obtain ⟨x8, ex8, h⟩ := bnd h
        refine rb_ld 102 hS wx7 ex8 rfl rfl ?_
        by_cases hc57 : x6 ≠ x8
        · have h := iteT hc57 h
          refine rif_t hc57 ?_
          cases h
          exact rret hS rfl
        · have h := iteF hc57 h
          refine rif_f hc57 ?_
          exact sjX9_filter_60 hS w0 h
def g_X9_filter (a0 a1 a2 : Int) (G : GS) : GO := gvm a0 <|
  (g_X9_isQuestion a0 a1 G).bind fun z1 => (if z1.1 = 0 then some ((-1), z1.2)
  else (if a2 = (-1) then gjX9_filter_23 a0 a1 a2 z1.2
  else (g_X9_isCondition a0 a2 z1.2).bind fun z2 => (if z2.1 ≠ 0 then gjX9_filter_23 a0 a1 a2 z2.2
  else some ((-1), z2.2))))
set_option maxHeartbeats 4000000 in
theorem s_X9_filter {ad : Nat → Nat → Nat} {Cn : Nat → Nat} {H : PH} {G G' : GS} {rr : Int} {a0 a1 a2 b0 : Int} (hS : SimA ad Cn H G) (w0 : vrel ad Cn 100 b0 a0) (h : g_X9_filter a0 a1 a2 G = some (rr, G')) : RS ad Cn (f_X9_filter b0 a1 a2 H) 0 rr G' := by
  unfold g_X9_filter at h
  unfold f_X9_filter
  obtain ⟨hv, h⟩ := gvm_spec h
  refine rb_vm 100 9 hS w0 hv rfl ?_
  obtain ⟨z1, ez1, h⟩ := bnd h
  refine rb_call (ρc := 0) (s_X9_isQuestion hS w0 ez1) ?_
  intro ad Cn bz1 H hS hx wz1
  dsimp only
  obtain rfl : bz1 = z1.1 := wz1
  have w0 := w0.mono hx
  by_cases hc5 : z1.1 = 0
  · have h := iteT hc5 h
    refine rif_t hc5 ?_
    cases h
    exact rret hS rfl
  · have h := iteF hc5 h
    refine rif_f hc5 ?_
    by_cases hc10 : a2 = (-1)
    · have h := iteT hc10 h
      refine rif_t hc10 ?_
      exact sjX9_filter_23 hS w0 h
    · have h := iteF hc10 h
      refine rif_f hc10 ?_
      obtain ⟨z2, ez2, h⟩ := bnd h
      refine rb_call (ρc := 0) (s_X9_isCondition hS w0 ez2) ?_
      intro ad Cn bz2 H hS hx wz2
      dsimp only
      obtain rfl : bz2 = z2.1 := wz2
      have w0 := w0.mono hx
      by_cases hc18 : z2.1 ≠ 0
      · have h := iteT hc18 h
        refine rif_t hc18 ?_
        exact sjX9_filter_23 hS w0 h
      · have h := iteF hc18 h
        refine rif_f hc18 ?_
        cases h
        exact rret hS rfl
/-! HouseholdVaultModel.isAgainst(II)Z by roles -/
def gjX9_isAgainst_37 (p0 p1 p2 : Int) (G : GS) : GO :=
  (gl 100 G p0 6).bind fun x1 => (gl 106 G x1 p1).bind fun x2 => (g_X9_isSaid p0 x2 p2 G).bind fun z3 => (if z3.1 ≠ 0 then some (0, z3.2)
  else some (1, z3.2))
set_option maxHeartbeats 4000000 in
theorem sjX9_isAgainst_37 {ad : Nat → Nat → Nat} {Cn : Nat → Nat} {H : PH} {G G' : GS} {rr : Int} {p0 p1 p2 b0 : Int} (hS : SimA ad Cn H G) (w0 : vrel ad Cn 100 b0 p0) (h : gjX9_isAgainst_37 p0 p1 p2 G = some (rr, G')) : RS ad Cn (jX9_isAgainst_37 b0 p1 p2 H) 0 rr G' := by
  unfold gjX9_isAgainst_37 at h
  unfold jX9_isAgainst_37
  obtain ⟨x1, ex1, h⟩ := bnd h
  refine rb_ldr 100 106 hS w0 ex1 rfl rfl ?_
  intro bx1 wx1
  obtain ⟨x2, ex2, h⟩ := bnd h
  refine rb_ld 106 hS wx1 ex2 rfl rfl ?_
  obtain ⟨z3, ez3, h⟩ := bnd h
  refine rb_call (ρc := 0) (s_X9_isSaid hS w0 ez3) ?_
  intro ad Cn bz3 H hS hx wz3
  dsimp only
  obtain rfl : bz3 = z3.1 := wz3
  have w0 := w0.mono hx
  by_cases hc48 : z3.1 ≠ 0
  · have h := iteT hc48 h
    refine rif_t hc48 ?_
    cases h
    exact rret hS rfl
  · have h := iteF hc48 h
    refine rif_f hc48 ?_
    cases h
    exact rret hS rfl
def g_X9_isAgainst (a0 a1 a2 : Int) (G : GS) : GO := gvm a0 <|
  (gl 100 G a0 44).bind fun x1 => (gl 144 G x1 (w32 ((w32 (6 * a1)) + a2))).bind fun x2 => (if x2 ≠ 0 then some (0, G)
  else (gl 100 G a0 1).bind fun x3 => (gl 101 G x3 a1).bind fun x4 => (if x4 ≠ 5 then gjX9_isAgainst_37 a0 a1 a2 G
  else (gl 100 G a0 43).bind fun x5 => (gl 143 G x5 (w32 ((w32 (6 * a1)) + a2))).bind fun x6 => (if (lc x6 0) ≤ 0 then some (0, G)
  else gjX9_isAgainst_37 a0 a1 a2 G)))
set_option maxHeartbeats 4000000 in
theorem s_X9_isAgainst {ad : Nat → Nat → Nat} {Cn : Nat → Nat} {H : PH} {G G' : GS} {rr : Int} {a0 a1 a2 b0 : Int} (hS : SimA ad Cn H G) (w0 : vrel ad Cn 100 b0 a0) (h : g_X9_isAgainst a0 a1 a2 G = some (rr, G')) : RS ad Cn (f_X9_isAgainst b0 a1 a2 H) 0 rr G' := by
  unfold g_X9_isAgainst at h
  unfold f_X9_isAgainst
  obtain ⟨hv, h⟩ := gvm_spec h
  refine rb_vm 100 9 hS w0 hv rfl ?_
  obtain ⟨x1, ex1, h⟩ := bnd h
  refine rb_ldr 100 144 hS w0 ex1 rfl rfl ?_
  intro bx1 wx1
  obtain ⟨x2, ex2, h⟩ := bnd h
  refine rb_ld 144 hS wx1 ex2 rfl rfl ?_
  by_cases hc13 : x2 ≠ 0
  · have h := iteT hc13 h
    refine rif_t hc13 ?_
    cases h
    exact rret hS rfl
  · have h := iteF hc13 h
    refine rif_f hc13 ?_
    obtain ⟨x3, ex3, h⟩ := bnd h
    refine rb_ldr 100 101 hS w0 ex3 rfl rfl ?_
    intro bx3 wx3
    obtain ⟨x4, ex4, h⟩ := bnd h
    refine rb_ld 101 hS wx3 ex4 rfl rfl ?_
    by_cases hc23 : x4 ≠ 5
    · have h := iteT hc23 h
      refine rif_t hc23 ?_
      exact sjX9_isAgainst_37 hS w0 h
    · have h := iteF hc23 h
      refine rif_f hc23 ?_
      obtain ⟨x5, ex5, h⟩ := bnd h
      refine rb_ldr 100 143 hS w0 ex5 rfl rfl ?_
      intro bx5 wx5
      obtain ⟨x6, ex6, h⟩ := bnd h
      refine rb_ld 143 hS wx5 ex6 rfl rfl ?_
      by_cases hc34 : (lc x6 0) ≤ 0
      · have h := iteT hc34 h
        refine rif_t hc34 ?_
        cases h
        exact rret hS rfl
      · have h := iteF hc34 h
        refine rif_f hc34 ?_
        exact sjX9_isAgainst_37 hS w0 h
/-! HouseholdVaultModel.countAgainst(I)I by roles -/
def gjX9_countAgainst_135 (self4 : Int → Int → GS → GO) (self20 : Int → Int → GS → GO) (p0 p1 p2 p3 p4 : Int) (G : GS) : GO :=
  self20 p2 (w32 (p4 + 1)) G
set_option maxHeartbeats 4000000 in
theorem sjX9_countAgainst_135 {ad : Nat → Nat → Nat} {Cn : Nat → Nat} {H : PH} {G G' : GS} {rr : Int} {fself4 : Int → Int → PH → RO} {self4 : Int → Int → GS → GO} {fself20 : Int → Int → PH → RO} {self20 : Int → Int → GS → GO} {p0 p1 p2 p3 p4 b0 : Int} (ih4 : ∀ (ad : Nat → Nat → Nat) (Cn : Nat → Nat) (H : PH) (G : GS) (v2 v3 : Int) , SimA ad Cn H G → vrel ad Cn 100 b0 p0 → self4 v2 v3 G = some (rr, G') → RS ad Cn (fself4 v2 v3 H) 0 rr G') (ih20 : ∀ (ad : Nat → Nat → Nat) (Cn : Nat → Nat) (H : PH) (G : GS) (v2 v4 : Int) , SimA ad Cn H G → vrel ad Cn 100 b0 p0 → self20 v2 v4 G = some (rr, G') → RS ad Cn (fself20 v2 v4 H) 0 rr G') (hS : SimA ad Cn H G) (w0 : vrel ad Cn 100 b0 p0) (h : gjX9_countAgainst_135 self4 self20 p0 p1 p2 p3 p4 G = some (rr, G')) : RS ad Cn (jX9_countAgainst_135 fself4 fself20 b0 p1 p2 p3 p4 H) 0 rr G' := by
  unfold gjX9_countAgainst_135 at h
  unfold jX9_countAgainst_135
  exact ih20 _ _ _ _ p2 (w32 (p4 + 1))  hS w0  h
def gjX9_countAgainst_129 (self4 : Int → Int → GS → GO) (self20 : Int → Int → GS → GO) (self74 : Int → Int → GS → GO) (p0 p1 p2 p3 p4 p5 p6 : Int) (G : GS) : GO :=
  self74 p2 (w32 (p6 + 1)) G
set_option maxHeartbeats 4000000 in
theorem sjX9_countAgainst_129 {ad : Nat → Nat → Nat} {Cn : Nat → Nat} {H : PH} {G G' : GS} {rr : Int} {fself4 : Int → Int → PH → RO} {self4 : Int → Int → GS → GO} {fself20 : Int → Int → PH → RO} {self20 : Int → Int → GS → GO} {fself74 : Int → Int → PH → RO} {self74 : Int → Int → GS → GO} {p0 p1 p2 p3 p4 p5 p6 b0 : Int} (ih4 : ∀ (ad : Nat → Nat → Nat) (Cn : Nat → Nat) (H : PH) (G : GS) (v2 v3 : Int) , SimA ad Cn H G → vrel ad Cn 100 b0 p0 → self4 v2 v3 G = some (rr, G') → RS ad Cn (fself4 v2 v3 H) 0 rr G') (ih20 : ∀ (ad : Nat → Nat → Nat) (Cn : Nat → Nat) (H : PH) (G : GS) (v2 v4 : Int) , SimA ad Cn H G → vrel ad Cn 100 b0 p0 → self20 v2 v4 G = some (rr, G') → RS ad Cn (fself20 v2 v4 H) 0 rr G') (ih74 : ∀ (ad : Nat → Nat → Nat) (Cn : Nat → Nat) (H : PH) (G : GS) (v2 v6 : Int) , SimA ad Cn H G → vrel ad Cn 100 b0 p0 → self74 v2 v6 G = some (rr, G') → RS ad Cn (fself74 v2 v6 H) 0 rr G') (hS : SimA ad Cn H G) (w0 : vrel ad Cn 100 b0 p0) (h : gjX9_countAgainst_129 self4 self20 self74 p0 p1 p2 p3 p4 p5 p6 G = some (rr, G')) : RS ad Cn (jX9_countAgainst_129 fself4 fself20 fself74 b0 p1 p2 p3 p4 p5 p6 H) 0 rr G' := by
  unfold gjX9_countAgainst_129 at h
  unfold jX9_countAgainst_129
  exact ih74 _ _ _ _ p2 (w32 (p6 + 1))  hS w0  h
def gjX9_countAgainst_126 (self4 : Int → Int → GS → GO) (self20 : Int → Int → GS → GO) (self74 : Int → Int → GS → GO) (p0 p1 p2 p3 p4 p5 p6 : Int) (G : GS) : GO :=
  gjX9_countAgainst_129 self4 self20 self74 p0 p1 (w32 (p2 + 1)) p3 p4 p5 p6 G
set_option maxHeartbeats 4000000 in
theorem sjX9_countAgainst_126 {ad : Nat → Nat → Nat} {Cn : Nat → Nat} {H : PH} {G G' : GS} {rr : Int} {fself4 : Int → Int → PH → RO} {self4 : Int → Int → GS → GO} {fself20 : Int → Int → PH → RO} {self20 : Int → Int → GS → GO} {fself74 : Int → Int → PH → RO} {self74 : Int → Int → GS → GO} {p0 p1 p2 p3 p4 p5 p6 b0 : Int} (ih4 : ∀ (ad : Nat → Nat → Nat) (Cn : Nat → Nat) (H : PH) (G : GS) (v2 v3 : Int) , SimA ad Cn H G → vrel ad Cn 100 b0 p0 → self4 v2 v3 G = some (rr, G') → RS ad Cn (fself4 v2 v3 H) 0 rr G') (ih20 : ∀ (ad : Nat → Nat → Nat) (Cn : Nat → Nat) (H : PH) (G : GS) (v2 v4 : Int) , SimA ad Cn H G → vrel ad Cn 100 b0 p0 → self20 v2 v4 G = some (rr, G') → RS ad Cn (fself20 v2 v4 H) 0 rr G') (ih74 : ∀ (ad : Nat → Nat → Nat) (Cn : Nat → Nat) (H : PH) (G : GS) (v2 v6 : Int) , SimA ad Cn H G → vrel ad Cn 100 b0 p0 → self74 v2 v6 G = some (rr, G') → RS ad Cn (fself74 v2 v6 H) 0 rr G') (hS : SimA ad Cn H G) (w0 : vrel ad Cn 100 b0 p0) (h : gjX9_countAgainst_126 self4 self20 self74 p0 p1 p2 p3 p4 p5 p6 G = some (rr, G')) : RS ad Cn (jX9_countAgainst_126 fself4 fself20 fself74 b0 p1 p2 p3 p4 p5 p6 H) 0 rr G' := by
  unfold gjX9_countAgainst_126 at h
  unfold jX9_countAgainst_126
  exact sjX9_countAgainst_129 ih4 ih20 ih74 hS w0 h
def glX9_countAgainst_74 (self4 : Int → Int → GS → GO) (self20 : Int → Int → GS → GO) (p0 p1 p3 p4 p5 : Int) (self74 : Int → Int → GS → GO) (p2 p6 : Int) (G : GS) : GO :=
  (if p6 > p5 then gjX9_countAgainst_135 self4 self20 p0 p1 p2 p3 p4 G
  else (gl 100 G p0 6).bind fun x1 => (gl 106 G x1 p4).bind fun x2 => (if x2 < 0 then gjX9_countAgainst_135 self4 self20 p0 p1 p2 p3 p4 G
  else (g_X9_isAgainst p0 p4 p6 G).bind fun z3 => (if z3.1 = 0 then gjX9_countAgainst_129 self4 self20 self74 p0 p1 p2 p3 p4 p5 p6 z3.2
  else (if p2 ≠ p1 then gjX9_countAgainst_126 self4 self20 self74 p0 p1 p2 p3 p4 p5 p6 z3.2
  else (gs 100 z3.2 p0 46 p3).bind fun G4 => (gs 100 G4 p0 47 p4).bind fun G5 => (gs 100 G5 p0 48 (w32 (p6 - 1))).bind fun G6 => gjX9_countAgainst_126 self4 self20 self74 p0 p1 p2 p3 p4 p5 p6 G6))))
set_option maxHeartbeats 4000000 in
theorem slX9_countAgainst_74 {G' : GS} {rr : Int} {fself4 : Int → Int → PH → RO} {self4 : Int → Int → GS → GO} {fself20 : Int → Int → PH → RO} {self20 : Int → Int → GS → GO} {p0 p1 p3 p4 p5 b0 : Int} (ih4 : ∀ (ad : Nat → Nat → Nat) (Cn : Nat → Nat) (H : PH) (G : GS) (v2 v3 : Int) , SimA ad Cn H G → vrel ad Cn 100 b0 p0 → self4 v2 v3 G = some (rr, G') → RS ad Cn (fself4 v2 v3 H) 0 rr G') (ih20 : ∀ (ad : Nat → Nat → Nat) (Cn : Nat → Nat) (H : PH) (G : GS) (v2 v4 : Int) , SimA ad Cn H G → vrel ad Cn 100 b0 p0 → self20 v2 v4 G = some (rr, G') → RS ad Cn (fself20 v2 v4 H) 0 rr G') : ∀ (n : Nat) (ad : Nat → Nat → Nat) (Cn : Nat → Nat) (H : PH) (G : GS) (p2 p6 : Int) , SimA ad Cn H G → vrel ad Cn 100 b0 p0 → lh2 (glX9_countAgainst_74 self4 self20 p0 p1 p3 p4 p5) n p2 p6 G = some (rr, G') → RS ad Cn (lq2 (lX9_countAgainst_74 fself4 fself20 b0 p1 p3 p4 p5) n p2 p6 H) 0 rr G' := by
  intro n
  induction n with
  | zero => intro ad Cn H G p2 p6 hS w0 h; cases h
  | succ n ih74 =>
    intro ad Cn H G p2 p6 hS w0 h
    rw [lh2_s] at h
    rw [lq2_s]
    generalize lh2 (glX9_countAgainst_74 self4 self20 p0 p1 p3 p4 p5) n = self74 at ih74 h
    generalize lq2 (lX9_countAgainst_74 fself4 fself20 b0 p1 p3 p4 p5) n = fself74 at ih74 ⊢
    unfold glX9_countAgainst_74 at h
    unfold lX9_countAgainst_74
    by_cases hc78 : p6 > p5
    · have h := iteT hc78 h
      refine rif_t hc78 ?_
      exact sjX9_countAgainst_135 ih4 ih20 hS w0 h
    · have h := iteF hc78 h
      refine rif_f hc78 ?_
      obtain ⟨x1, ex1, h⟩ := bnd h
      refine rb_ldr 100 106 hS w0 ex1 rfl rfl ?_
      intro bx1 wx1
      obtain ⟨x2, ex2, h⟩ := bnd h
      refine rb_ld 106 hS wx1 ex2 rfl rfl ?_
      by_cases hc88 : x2 < 0
      · have h := iteT hc88 h
        refine rif_t hc88 ?_
        exact sjX9_countAgainst_135 ih4 ih20 hS w0 h
      · have h := iteF hc88 h
        refine rif_f hc88 ?_
        obtain ⟨z3, ez3, h⟩ := bnd h
        refine rb_call (ρc := 0) (s_X9_isAgainst hS w0 ez3) ?_
        intro ad Cn bz3 H hS hx wz3
        dsimp only
        obtain rfl : bz3 = z3.1 := wz3
        have w0 := w0.mono hx
        by_cases hc99 : z3.1 = 0
        · have h := iteT hc99 h
          refine rif_t hc99 ?_
          exact sjX9_countAgainst_129 ih4 ih20 ih74 hS w0 h
        · have h := iteF hc99 h
          refine rif_f hc99 ?_
          by_cases hc104 : p2 ≠ p1
          · have h := iteT hc104 h
            refine rif_t hc104 ?_
            exact sjX9_countAgainst_126 ih4 ih20 ih74 hS w0 h
          · have h := iteF hc104 h
            refine rif_f hc104 ?_
            obtain ⟨G4, eG4, h⟩ := bnd h
            refine rb_st 100 hS w0 (show rrel _ _ 0 _ _ from rfl) eG4 rfl ?_
            intro H hS
            obtain ⟨G5, eG5, h⟩ := bnd h
            refine rb_st 100 hS w0 (show rrel _ _ 0 _ _ from rfl) eG5 rfl ?_
            intro H hS
            obtain ⟨G6, eG6, h⟩ := bnd h
            refine rb_st 100 hS w0 (show rrel _ _ 0 _ _ from rfl) eG6 rfl ?_
            intro H hS
            exact sjX9_countAgainst_126 ih4 ih20 ih74 hS w0 h
def gjX9_countAgainst_72 (self4 : Int → Int → GS → GO) (self20 : Int → Int → GS → GO) (p0 p1 p2 p3 p4 p5 s0 : Int) (G : GS) : GO :=
  lh2 (glX9_countAgainst_74 self4 self20 p0 p1 p3 p4 p5) 6000 p2 s0 G
set_option maxHeartbeats 4000000 in
theorem sjX9_countAgainst_72 {ad : Nat → Nat → Nat} {Cn : Nat → Nat} {H : PH} {G G' : GS} {rr : Int} {fself4 : Int → Int → PH → RO} {self4 : Int → Int → GS → GO} {fself20 : Int → Int → PH → RO} {self20 : Int → Int → GS → GO} {p0 p1 p2 p3 p4 p5 s0 b0 : Int} (ih4 : ∀ (ad : Nat → Nat → Nat) (Cn : Nat → Nat) (H : PH) (G : GS) (v2 v3 : Int) , SimA ad Cn H G → vrel ad Cn 100 b0 p0 → self4 v2 v3 G = some (rr, G') → RS ad Cn (fself4 v2 v3 H) 0 rr G') (ih20 : ∀ (ad : Nat → Nat → Nat) (Cn : Nat → Nat) (H : PH) (G : GS) (v2 v4 : Int) , SimA ad Cn H G → vrel ad Cn 100 b0 p0 → self20 v2 v4 G = some (rr, G') → RS ad Cn (fself20 v2 v4 H) 0 rr G') (hS : SimA ad Cn H G) (w0 : vrel ad Cn 100 b0 p0) (h : gjX9_countAgainst_72 self4 self20 p0 p1 p2 p3 p4 p5 s0 G = some (rr, G')) : RS ad Cn (jX9_countAgainst_72 fself4 fself20 b0 p1 p2 p3 p4 p5 s0 H) 0 rr G' := by
  unfold gjX9_countAgainst_72 at h
  unfold jX9_countAgainst_72
  exact slX9_countAgainst_74 ih4 ih20 6000 _ _ _ _ p2 s0  hS w0 h
def gjX9_countAgainst_55 (self4 : Int → Int → GS → GO) (self20 : Int → Int → GS → GO) (p0 p1 p2 p3 p4 s0 : Int) (G : GS) : GO :=
  (gl 100 G p0 2).bind fun x1 => (gl 102 G x1 p4).bind fun x2 => (if x2 ≥ 0 then gjX9_countAgainst_72 self4 self20 p0 p1 p2 p3 p4 s0 1 G
  else gjX9_countAgainst_72 self4 self20 p0 p1 p2 p3 p4 s0 0 G)
set_option maxHeartbeats 4000000 in
theorem sjX9_countAgainst_55 {ad : Nat → Nat → Nat} {Cn : Nat → Nat} {H : PH} {G G' : GS} {rr : Int} {fself4 : Int → Int → PH → RO} {self4 : Int → Int → GS → GO} {fself20 : Int → Int → PH → RO} {self20 : Int → Int → GS → GO} {p0 p1 p2 p3 p4 s0 b0 : Int} (ih4 : ∀ (ad : Nat → Nat → Nat) (Cn : Nat → Nat) (H : PH) (G : GS) (v2 v3 : Int) , SimA ad Cn H G → vrel ad Cn 100 b0 p0 → self4 v2 v3 G = some (rr, G') → RS ad Cn (fself4 v2 v3 H) 0 rr G') (ih20 : ∀ (ad : Nat → Nat → Nat) (Cn : Nat → Nat) (H : PH) (G : GS) (v2 v4 : Int) , SimA ad Cn H G → vrel ad Cn 100 b0 p0 → self20 v2 v4 G = some (rr, G') → RS ad Cn (fself20 v2 v4 H) 0 rr G') (hS : SimA ad Cn H G) (w0 : vrel ad Cn 100 b0 p0) (h : gjX9_countAgainst_55 self4 self20 p0 p1 p2 p3 p4 s0 G = some (rr, G')) : RS ad Cn (jX9_countAgainst_55 fself4 fself20 b0 p1 p2 p3 p4 s0 H) 0 rr G' := by
  unfold gjX9_countAgainst_55 at h
  unfold jX9_countAgainst_55
  obtain ⟨x1, ex1, h⟩ := bnd h
  refine rb_ldr 100 102 hS w0 ex1 rfl rfl ?_
  intro bx1 wx1
  obtain ⟨x2, ex2, h⟩ := bnd h
  refine rb_ld 102 hS wx1 ex2 rfl rfl ?_
  by_cases hc64 : x2 ≥ 0
  · have h := iteT hc64 h
    refine rif_t hc64 ?_
    exact sjX9_countAgainst_72 ih4 ih20 hS w0 h
  · have h := iteF hc64 h
    refine rif_f hc64 ?_
    exact sjX9_countAgainst_72 ih4 ih20 hS w0 h
def glX9_countAgainst_20 (self4 : Int → Int → GS → GO) (p0 p1 p3 : Int) (self20 : Int → Int → GS → GO) (p2 p4 : Int) (G : GS) : GO :=
  (gl 100 G p0 0).bind fun x1 => (if p4 ≥ x1 then self4 p2 (w32 (p3 + 1)) G
  else (gl 100 G p0 2).bind fun x2 => (gl 102 G x2 p4).bind fun x3 => (if x3 ≥ 0 then (gl 100 G p0 2).bind fun x4 => (gl 102 G x4 p4).bind fun x5 => (g_X9_persons p0 p3 x5 G).bind fun z6 => gjX9_countAgainst_55 self4 self20 p0 p1 p2 p3 p4 z6.1 z6.2
  else gjX9_countAgainst_55 self4 self20 p0 p1 p2 p3 p4 0 G))
set_option maxHeartbeats 4000000 in
theorem slX9_countAgainst_20 {G' : GS} {rr : Int} {fself4 : Int → Int → PH → RO} {self4 : Int → Int → GS → GO} {p0 p1 p3 b0 : Int} (ih4 : ∀ (ad : Nat → Nat → Nat) (Cn : Nat → Nat) (H : PH) (G : GS) (v2 v3 : Int) , SimA ad Cn H G → vrel ad Cn 100 b0 p0 → self4 v2 v3 G = some (rr, G') → RS ad Cn (fself4 v2 v3 H) 0 rr G') : ∀ (n : Nat) (ad : Nat → Nat → Nat) (Cn : Nat → Nat) (H : PH) (G : GS) (p2 p4 : Int) , SimA ad Cn H G → vrel ad Cn 100 b0 p0 → lh2 (glX9_countAgainst_20 self4 p0 p1 p3) n p2 p4 G = some (rr, G') → RS ad Cn (lq2 (lX9_countAgainst_20 fself4 b0 p1 p3) n p2 p4 H) 0 rr G' := by
  intro n
  induction n with
  | zero => intro ad Cn H G p2 p4 hS w0 h; cases h
  | succ n ih20 =>
    intro ad Cn H G p2 p4 hS w0 h
    rw [lh2_s] at h
    rw [lq2_s]
    generalize lh2 (glX9_countAgainst_20 self4 p0 p1 p3) n = self20 at ih20 h
    generalize lq2 (lX9_countAgainst_20 fself4 b0 p1 p3) n = fself20 at ih20 ⊢
    unfold glX9_countAgainst_20 at h
    unfold lX9_countAgainst_20
    obtain ⟨x1, ex1, h⟩ := bnd h
    refine rb_ld 100 hS w0 ex1 rfl rfl ?_
    by_cases hc26 : p4 ≥ x1
    · have h := iteT hc26 h
      refine rif_t hc26 ?_
      exact ih4 _ _ _ _ p2 (w32 (p3 + 1))  hS w0  h
    · have h := iteF hc26 h
      refine rif_f hc26 ?_
      obtain ⟨x2, ex2, h⟩ := bnd h
      refine rb_ldr 100 102 hS w0 ex2 rfl rfl ?_
      intro bx2 wx2
      obtain ⟨x3, ex3, h⟩ := bnd h
      refine rb_ld 102 hS wx2 ex3 rfl rfl ?_
      by_cases hc36 : x3 ≥ 0
      · have h := iteT hc36 h
        refine rif_t hc36 ?_
        obtain ⟨x4, ex4, h⟩ := bnd h
        refine rb_ldr 100 102 hS w0 ex4 rfl rfl ?_
        intro bx4 wx4
        obtain ⟨x5, ex5, h⟩ := bnd h
        refine rb_ld 102 hS wx4 ex5 rfl rfl ?_
        obtain ⟨z6, ez6, h⟩ := bnd h
        refine rb_call (ρc := 0) (s_X9_persons hS w0 ez6) ?_
        intro ad Cn bz6 H hS hx wz6
        dsimp only
        obtain rfl : bz6 = z6.1 := wz6
        have w0 := w0.mono hx
        exact sjX9_countAgainst_55 ih4 ih20 hS w0 h
      · have h := iteF hc36 h
        refine rif_f hc36 ?_
        exact sjX9_countAgainst_55 ih4 ih20 hS w0 h
def glX9_countAgainst_4 (p0 p1 : Int) (self4 : Int → Int → GS → GO) (p2 p3 : Int) (G : GS) : GO :=
  (gl 100 G p0 14).bind fun x1 => (if p3 ≥ x1 then some (p2, G)
  else (g_X9_workOut p0 p3 G).bind fun z2 => lh2 (glX9_countAgainst_20 self4 p0 p1 p3) 6000 p2 0 z2.2)
set_option maxHeartbeats 4000000 in
theorem slX9_countAgainst_4 {G' : GS} {rr : Int} {p0 p1 b0 : Int} : ∀ (n : Nat) (ad : Nat → Nat → Nat) (Cn : Nat → Nat) (H : PH) (G : GS) (p2 p3 : Int) , SimA ad Cn H G → vrel ad Cn 100 b0 p0 → lh2 (glX9_countAgainst_4 p0 p1) n p2 p3 G = some (rr, G') → RS ad Cn (lq2 (lX9_countAgainst_4 b0 p1) n p2 p3 H) 0 rr G' := by
  intro n
  induction n with
  | zero => intro ad Cn H G p2 p3 hS w0 h; cases h
  | succ n ih4 =>
    intro ad Cn H G p2 p3 hS w0 h
    rw [lh2_s] at h
    rw [lq2_s]
    generalize lh2 (glX9_countAgainst_4 p0 p1) n = self4 at ih4 h
    generalize lq2 (lX9_countAgainst_4 b0 p1) n = fself4 at ih4 ⊢
    unfold glX9_countAgainst_4 at h
    unfold lX9_countAgainst_4
    obtain ⟨x1, ex1, h⟩ := bnd h
    refine rb_ld 100 hS w0 ex1 rfl rfl ?_
    by_cases hc9 : p3 ≥ x1
    · have h := iteT hc9 h
      refine rif_t hc9 ?_
      cases h
      exact rret hS rfl
    · have h := iteF hc9 h
      refine rif_f hc9 ?_
      obtain ⟨z2, ez2, h⟩ := bnd h
      refine rb_call (ρc := 0) (s_X9_workOut hS w0 ez2) ?_
      intro ad Cn bz2 H hS hx wz2
      dsimp only
      obtain rfl : bz2 = z2.1 := wz2
      have w0 := w0.mono hx
      exact slX9_countAgainst_20 ih4 6000 _ _ _ _ p2 0  hS w0 h
def g_X9_countAgainst (a0 a1 : Int) (G : GS) : GO := gvm a0 <|
  lh2 (glX9_countAgainst_4 a0 a1) 6000 0 0 G
set_option maxHeartbeats 4000000 in
theorem s_X9_countAgainst {ad : Nat → Nat → Nat} {Cn : Nat → Nat} {H : PH} {G G' : GS} {rr : Int} {a0 a1 b0 : Int} (hS : SimA ad Cn H G) (w0 : vrel ad Cn 100 b0 a0) (h : g_X9_countAgainst a0 a1 G = some (rr, G')) : RS ad Cn (f_X9_countAgainst b0 a1 H) 0 rr G' := by
  unfold g_X9_countAgainst at h
  unfold f_X9_countAgainst
  obtain ⟨hv, h⟩ := gvm_spec h
  refine rb_vm 100 9 hS w0 hv rfl ?_
  exact slX9_countAgainst_4 6000 _ _ _ _ 0 0  hS w0 h
/-! HouseholdVaultModel.against()I by roles -/
def g_X9_against (a0 : Int) (G : GS) : GO := gvm a0 <|
  (g_X9_countAgainst a0 (-1) G).bind fun z1 => some (z1.1, z1.2)
set_option maxHeartbeats 4000000 in
theorem s_X9_against {ad : Nat → Nat → Nat} {Cn : Nat → Nat} {H : PH} {G G' : GS} {rr : Int} {a0 b0 : Int} (hS : SimA ad Cn H G) (w0 : vrel ad Cn 100 b0 a0) (h : g_X9_against a0 G = some (rr, G')) : RS ad Cn (f_X9_against b0 H) 0 rr G' := by
  unfold g_X9_against at h
  unfold f_X9_against
  obtain ⟨hv, h⟩ := gvm_spec h
  refine rb_vm 100 9 hS w0 hv rfl ?_
  obtain ⟨z1, ez1, h⟩ := bnd h
  refine rb_call (ρc := 0) (s_X9_countAgainst hS w0 ez1) ?_
  intro ad Cn bz1 H hS hx wz1
  dsimp only
  obtain rfl : bz1 = z1.1 := wz1
  have w0 := w0.mono hx
  cases h
  exact rret hS rfl
/-! HouseholdVaultModel.sought(I)I by roles -/
def g_X9_sought (a0 a1 : Int) (G : GS) : GO := gvm a0 <|
  (if a1 ≠ 0 then (if a1 ≠ 1 then (gl 100 G a0 48).bind fun x1 => some (x1, G)
  else (gl 100 G a0 47).bind fun x2 => some (x2, G))
  else (gl 100 G a0 46).bind fun x3 => some (x3, G))
set_option maxHeartbeats 4000000 in
theorem s_X9_sought {ad : Nat → Nat → Nat} {Cn : Nat → Nat} {H : PH} {G G' : GS} {rr : Int} {a0 a1 b0 : Int} (hS : SimA ad Cn H G) (w0 : vrel ad Cn 100 b0 a0) (h : g_X9_sought a0 a1 G = some (rr, G')) : RS ad Cn (f_X9_sought b0 a1 H) 0 rr G' := by
  unfold g_X9_sought at h
  unfold f_X9_sought
  obtain ⟨hv, h⟩ := gvm_spec h
  refine rb_vm 100 9 hS w0 hv rfl ?_
  by_cases hc1 : a1 ≠ 0
  · have h := iteT hc1 h
    refine rif_t hc1 ?_
    by_cases hc13 : a1 ≠ 1
    · have h := iteT hc13 h
      refine rif_t hc13 ?_
      obtain ⟨x1, ex1, h⟩ := bnd h
      refine rb_ld 100 hS w0 ex1 rfl rfl ?_
      cases h
      exact rret hS rfl
    · have h := iteF hc13 h
      refine rif_f hc13 ?_
      obtain ⟨x2, ex2, h⟩ := bnd h
      refine rb_ld 100 hS w0 ex2 rfl rfl ?_
      cases h
      exact rret hS rfl
  · have h := iteF hc1 h
    refine rif_f hc1 ?_
    obtain ⟨x3, ex3, h⟩ := bnd h
    refine rb_ld 100 hS w0 ex3 rfl rfl ?_
    cases h
    exact rret hS rfl
/-! HouseholdVaultModel.againstAt(II)I by roles -/
def gjX9_againstAt_25 (G : GS) : GO :=
  some ((-2), G)
set_option maxHeartbeats 4000000 in
theorem sjX9_againstAt_25 {ad : Nat → Nat → Nat} {Cn : Nat → Nat} {H : PH} {G G' : GS} {rr : Int} (hS : SimA ad Cn H G)  (h : gjX9_againstAt_25  G = some (rr, G')) : RS ad Cn (jX9_againstAt_25  H) 0 rr G' := by
  unfold gjX9_againstAt_25 at h
  unfold jX9_againstAt_25
  cases h
  exact rret hS rfl
def g_X9_againstAt (a0 a1 a2 : Int) (G : GS) : GO := gvm a0 <|
  (g_X9_in a2 0 2 G).bind fun z1 => (if z1.1 = 0 then gjX9_againstAt_25  z1.2
  else (if a1 < 0 then gjX9_againstAt_25  z1.2
  else (g_X9_countAgainst a0 a1 z1.2).bind fun z2 => (if a1 < z2.1 then (g_X9_sought a0 a2 z2.2).bind fun z3 => some (z3.1, z3.2)
  else gjX9_againstAt_25  z2.2)))
set_option maxHeartbeats 4000000 in
theorem s_X9_againstAt {ad : Nat → Nat → Nat} {Cn : Nat → Nat} {H : PH} {G G' : GS} {rr : Int} {a0 a1 a2 b0 : Int} (hS : SimA ad Cn H G) (w0 : vrel ad Cn 100 b0 a0) (h : g_X9_againstAt a0 a1 a2 G = some (rr, G')) : RS ad Cn (f_X9_againstAt b0 a1 a2 H) 0 rr G' := by
  unfold g_X9_againstAt at h
  unfold f_X9_againstAt
  obtain ⟨hv, h⟩ := gvm_spec h
  refine rb_vm 100 9 hS w0 hv rfl ?_
  obtain ⟨z1, ez1, h⟩ := bnd h
  refine rb_call (ρc := 0) (s_X9_in hS ez1) ?_
  intro ad Cn bz1 H hS hx wz1
  dsimp only
  obtain rfl : bz1 = z1.1 := wz1
  have w0 := w0.mono hx
  by_cases hc9 : z1.1 = 0
  · have h := iteT hc9 h
    refine rif_t hc9 ?_
    exact sjX9_againstAt_25 hS h
  · have h := iteF hc9 h
    refine rif_f hc9 ?_
    by_cases hc13 : a1 < 0
    · have h := iteT hc13 h
      refine rif_t hc13 ?_
      exact sjX9_againstAt_25 hS h
    · have h := iteF hc13 h
      refine rif_f hc13 ?_
      obtain ⟨z2, ez2, h⟩ := bnd h
      refine rb_call (ρc := 0) (s_X9_countAgainst hS w0 ez2) ?_
      intro ad Cn bz2 H hS hx wz2
      dsimp only
      obtain rfl : bz2 = z2.1 := wz2
      have w0 := w0.mono hx
      by_cases hc22 : a1 < z2.1
      · have h := iteT hc22 h
        refine rif_t hc22 ?_
        obtain ⟨z3, ez3, h⟩ := bnd h
        refine rb_call (ρc := 0) (s_X9_sought hS w0 ez3) ?_
        intro ad Cn bz3 H hS hx wz3
        dsimp only
        obtain rfl : bz3 = z3.1 := wz3
        have w0 := w0.mono hx
        cases h
        exact rret hS rfl
      · have h := iteF hc22 h
        refine rif_f hc22 ?_
        exact sjX9_againstAt_25 hS h
/-! HouseholdVaultModel.weight(III)I by roles -/
def g_X9_weight (a0 a1 a2 a3 : Int) (G : GS) : GO := gvm a0 <|
  (g_X9_isHousehold a0 a1 G).bind fun z1 => (if z1.1 = 0 then some ((-1), z1.2)
  else (g_X9_in a2 0 1000 z1.2).bind fun z2 => (if z2.1 = 0 then some ((-1), z2.2)
  else (g_X9_in a3 1 10 z2.2).bind fun z3 => (if z3.1 ≠ 0 then (gl 100 z3.2 a0 17).bind fun x4 => (if a3 = 0 then none else (gs 117 z3.2 x4 a1 (w32 (a2 * (w32 (Int.tdiv 2520 a3))))).bind fun G5 => some (1, G5))
  else some ((-1), z3.2))))
set_option maxHeartbeats 4000000 in
theorem s_X9_weight {ad : Nat → Nat → Nat} {Cn : Nat → Nat} {H : PH} {G G' : GS} {rr : Int} {a0 a1 a2 a3 b0 : Int} (hS : SimA ad Cn H G) (w0 : vrel ad Cn 100 b0 a0) (h : g_X9_weight a0 a1 a2 a3 G = some (rr, G')) : RS ad Cn (f_X9_weight b0 a1 a2 a3 H) 0 rr G' := by
  unfold g_X9_weight at h
  unfold f_X9_weight
  obtain ⟨hv, h⟩ := gvm_spec h
  refine rb_vm 100 9 hS w0 hv rfl ?_
  obtain ⟨z1, ez1, h⟩ := bnd h
  refine rb_call (ρc := 0) (s_X9_isHousehold hS w0 ez1) ?_
  intro ad Cn bz1 H hS hx wz1
  dsimp only
  obtain rfl : bz1 = z1.1 := wz1
  have w0 := w0.mono hx
  by_cases hc5 : z1.1 = 0
  · have h := iteT hc5 h
    refine rif_t hc5 ?_
    cases h
    exact rret hS rfl
  · have h := iteF hc5 h
    refine rif_f hc5 ?_
    obtain ⟨z2, ez2, h⟩ := bnd h
    refine rb_call (ρc := 0) (s_X9_in hS ez2) ?_
    intro ad Cn bz2 H hS hx wz2
    dsimp only
    obtain rfl : bz2 = z2.1 := wz2
    have w0 := w0.mono hx
    by_cases hc17 : z2.1 = 0
    · have h := iteT hc17 h
      refine rif_t hc17 ?_
      cases h
      exact rret hS rfl
    · have h := iteF hc17 h
      refine rif_f hc17 ?_
      obtain ⟨z3, ez3, h⟩ := bnd h
      refine rb_call (ρc := 0) (s_X9_in hS ez3) ?_
      intro ad Cn bz3 H hS hx wz3
      dsimp only
      obtain rfl : bz3 = z3.1 := wz3
      have w0 := w0.mono hx
      by_cases hc29 : z3.1 ≠ 0
      · have h := iteT hc29 h
        refine rif_t hc29 ?_
        obtain ⟨x4, ex4, h⟩ := bnd h
        refine rb_ldr 100 117 hS w0 ex4 rfl rfl ?_
        intro bx4 wx4
        by_cases hz44 : a3 = 0
        · rw [if_pos hz44] at h; cases h
        have h := iteF hz44 h
        refine rif_f hz44 ?_
        obtain ⟨G5, eG5, h⟩ := bnd h
        refine rb_st 117 hS wx4 (show rrel _ _ 0 _ _ from rfl) eG5 rfl ?_
        intro H hS
        cases h
        exact rret hS rfl
      · have h := iteF hc29 h
        refine rif_f hc29 ?_
        cases h
        exact rret hS rfl
/-! HouseholdVaultModel.line(I)I by roles -/
def g_X9_line (a0 a1 : Int) (G : GS) : GO := gvm a0 <|
  (gl 100 G a0 44).bind fun x1 => (gl 144 G x1 (w32 (6 * a1))).bind fun x2 => (if x2 ≤ 0 then (gl 100 G a0 43).bind fun x3 => (gl 143 G x3 (w32 (6 * a1))).bind fun x4 => (g_X9_codeNumber a0 a1 x4 G).bind fun z5 => some (z5.1, z5.2)
  else (gl 100 G a0 9).bind fun x6 => (gl 109 G x6 a1).bind fun x7 => some (x7, G))
set_option maxHeartbeats 4000000 in
theorem s_X9_line {ad : Nat → Nat → Nat} {Cn : Nat → Nat} {H : PH} {G G' : GS} {rr : Int} {a0 a1 b0 : Int} (hS : SimA ad Cn H G) (w0 : vrel ad Cn 100 b0 a0) (h : g_X9_line a0 a1 G = some (rr, G')) : RS ad Cn (f_X9_line b0 a1 H) 0 rr G' := by
  unfold g_X9_line at h
  unfold f_X9_line
  obtain ⟨hv, h⟩ := gvm_spec h
  refine rb_vm 100 9 hS w0 hv rfl ?_
  obtain ⟨x1, ex1, h⟩ := bnd h
  refine rb_ldr 100 144 hS w0 ex1 rfl rfl ?_
  intro bx1 wx1
  obtain ⟨x2, ex2, h⟩ := bnd h
  refine rb_ld 144 hS wx1 ex2 rfl rfl ?_
  by_cases hc11 : x2 ≤ 0
  · have h := iteT hc11 h
    refine rif_t hc11 ?_
    obtain ⟨x3, ex3, h⟩ := bnd h
    refine rb_ldr 100 143 hS w0 ex3 rfl rfl ?_
    intro bx3 wx3
    obtain ⟨x4, ex4, h⟩ := bnd h
    refine rb_ld 143 hS wx3 ex4 rfl rfl ?_
    obtain ⟨z5, ez5, h⟩ := bnd h
    refine rb_call (ρc := 0) (s_X9_codeNumber hS w0 ez5) ?_
    intro ad Cn bz5 H hS hx wz5
    dsimp only
    obtain rfl : bz5 = z5.1 := wz5
    have w0 := w0.mono hx
    cases h
    exact rret hS rfl
  · have h := iteF hc11 h
    refine rif_f hc11 ?_
    obtain ⟨x6, ex6, h⟩ := bnd h
    refine rb_ldr 100 109 hS w0 ex6 rfl rfl ?_
    intro bx6 wx6
    obtain ⟨x7, ex7, h⟩ := bnd h
    refine rb_ld 109 hS wx6 ex7 rfl rfl ?_
    cases h
    exact rret hS rfl
/-! HouseholdVaultModel.isCodeAtTop(I)Z by roles -/
def g_X9_isCodeAtTop (a0 a1 : Int) (G : GS) : GO := gvm a0 <|
  (gl 100 G a0 1).bind fun x1 => (gl 101 G x1 a1).bind fun x2 => (if x2 ≠ 0 then some (0, G)
  else (gl 100 G a0 2).bind fun x3 => (gl 102 G x3 a1).bind fun x4 => (if x4 ≥ 0 then some (0, G)
  else some (1, G)))
set_option maxHeartbeats 4000000 in
theorem s_X9_isCodeAtTop {ad : Nat → Nat → Nat} {Cn : Nat → Nat} {H : PH} {G G' : GS} {rr : Int} {a0 a1 b0 : Int} (hS : SimA ad Cn H G) (w0 : vrel ad Cn 100 b0 a0) (h : g_X9_isCodeAtTop a0 a1 G = some (rr, G')) : RS ad Cn (f_X9_isCodeAtTop b0 a1 H) 0 rr G' := by
  unfold g_X9_isCodeAtTop at h
  unfold f_X9_isCodeAtTop
  obtain ⟨hv, h⟩ := gvm_spec h
  refine rb_vm 100 9 hS w0 hv rfl ?_
  obtain ⟨x1, ex1, h⟩ := bnd h
  refine rb_ldr 100 101 hS w0 ex1 rfl rfl ?_
  intro bx1 wx1
  obtain ⟨x2, ex2, h⟩ := bnd h
  refine rb_ld 101 hS wx1 ex2 rfl rfl ?_
  by_cases hc6 : x2 ≠ 0
  · have h := iteT hc6 h
    refine rif_t hc6 ?_
    cases h
    exact rret hS rfl
  · have h := iteF hc6 h
    refine rif_f hc6 ?_
    obtain ⟨x3, ex3, h⟩ := bnd h
    refine rb_ldr 100 102 hS w0 ex3 rfl rfl ?_
    intro bx3 wx3
    obtain ⟨x4, ex4, h⟩ := bnd h
    refine rb_ld 102 hS wx3 ex4 rfl rfl ?_
    by_cases hc15 : x4 ≥ 0
    · have h := iteT hc15 h
      refine rif_t hc15 ?_
      cases h
      exact rret hS rfl
    · have h := iteF hc15 h
      refine rif_f hc15 ?_
      cases h
      exact rret hS rfl
/-! HouseholdVaultModel.table(II)I by roles -/
def gjX9_table_176 (self140 : Int → GS → GO) (p0 p1 p2 p3 s0 s1 : Int) (G : GS) : GO :=
  (gl 100 G p0 39).bind fun x1 => (gl 139 G x1 (w32 (s0 + s1))).bind fun x2 => (gs 139 G x1 (w32 (s0 + s1)) (w32 (x2 + 1))).bind fun G3 => (gl 100 G3 p0 40).bind fun x4 => (gl 140 G3 x4 (w32 (s0 + s1))).bind fun x5 => (gl 100 G3 p0 17).bind fun x6 => (gl 117 G3 x6 p3).bind fun x7 => (gs 140 G3 x4 (w32 (s0 + s1)) (w64 (x5 + x7))).bind fun G8 => self140 (w32 (p3 + 1)) G8
set_option maxHeartbeats 4000000 in
theorem sjX9_table_176 {ad : Nat → Nat → Nat} {Cn : Nat → Nat} {H : PH} {G G' : GS} {rr : Int} {fself140 : Int → PH → RO} {self140 : Int → GS → GO} {p0 p1 p2 p3 s0 s1 b0 : Int} (ih140 : ∀ (ad : Nat → Nat → Nat) (Cn : Nat → Nat) (H : PH) (G : GS) (v3 : Int) , SimA ad Cn H G → vrel ad Cn 100 b0 p0 → self140 v3 G = some (rr, G') → RS ad Cn (fself140 v3 H) 0 rr G') (hS : SimA ad Cn H G) (w0 : vrel ad Cn 100 b0 p0) (h : gjX9_table_176 self140 p0 p1 p2 p3 s0 s1 G = some (rr, G')) : RS ad Cn (jX9_table_176 fself140 b0 p1 p2 p3 s0 s1 H) 0 rr G' := by
  unfold gjX9_table_176 at h
  unfold jX9_table_176
  obtain ⟨x1, ex1, h⟩ := bnd h
  refine rb_ldr 100 139 hS w0 ex1 rfl rfl ?_
  intro bx1 wx1
  obtain ⟨x2, ex2, h⟩ := bnd h
  refine rb_ld 139 hS wx1 ex2 rfl rfl ?_
  obtain ⟨G3, eG3, h⟩ := bnd h
  refine rb_st 139 hS wx1 (show rrel _ _ 0 _ _ from rfl) eG3 rfl ?_
  intro H hS
  obtain ⟨x4, ex4, h⟩ := bnd h
  refine rb_ldr 100 140 hS w0 ex4 rfl rfl ?_
  intro bx4 wx4
  obtain ⟨x5, ex5, h⟩ := bnd h
  refine rb_ld 140 hS wx4 ex5 rfl rfl ?_
  obtain ⟨x6, ex6, h⟩ := bnd h
  refine rb_ldr 100 117 hS w0 ex6 rfl rfl ?_
  intro bx6 wx6
  obtain ⟨x7, ex7, h⟩ := bnd h
  refine rb_ld 117 hS wx6 ex7 rfl rfl ?_
  obtain ⟨G8, eG8, h⟩ := bnd h
  refine rb_st 140 hS wx4 (show rrel _ _ 0 _ _ from rfl) eG8 rfl ?_
  intro H hS
  exact ih140 _ _ _ _ (w32 (p3 + 1))  hS w0  h
def glX9_table_140 (p0 p1 p2 : Int) (self140 : Int → GS → GO) (p3 : Int) (G : GS) : GO :=
  (gl 100 G p0 14).bind fun x1 => (if p3 ≥ x1 then (gl 100 G p0 37).bind fun x2 => (gl 100 G p0 38).bind fun x3 => some ((w32 (x2 * x3)), G)
  else (g_X9_workOut p0 p3 G).bind fun z4 => (gl 100 z4.2 p0 38).bind fun x5 => (g_X9_line p0 p1 z4.2).bind fun z6 => (if p2 ≥ 0 then (g_X9_line p0 p2 z6.2).bind fun z7 => gjX9_table_176 self140 p0 p1 p2 p3 (w32 (x5 * z6.1)) z7.1 z7.2
  else gjX9_table_176 self140 p0 p1 p2 p3 (w32 (x5 * z6.1)) 0 z6.2))
set_option maxHeartbeats 4000000 in
theorem slX9_table_140 {G' : GS} {rr : Int} {p0 p1 p2 b0 : Int} : ∀ (n : Nat) (ad : Nat → Nat → Nat) (Cn : Nat → Nat) (H : PH) (G : GS) (p3 : Int) , SimA ad Cn H G → vrel ad Cn 100 b0 p0 → lh1 (glX9_table_140 p0 p1 p2) n p3 G = some (rr, G') → RS ad Cn (lq1 (lX9_table_140 b0 p1 p2) n p3 H) 0 rr G' := by
  intro n
  induction n with
  | zero => intro ad Cn H G p3 hS w0 h; cases h
  | succ n ih140 =>
    intro ad Cn H G p3 hS w0 h
    rw [lh1_s] at h
    rw [lq1_s]
    generalize lh1 (glX9_table_140 p0 p1 p2) n = self140 at ih140 h
    generalize lq1 (lX9_table_140 b0 p1 p2) n = fself140 at ih140 ⊢
    unfold glX9_table_140 at h
    unfold lX9_table_140
    obtain ⟨x1, ex1, h⟩ := bnd h
    refine rb_ld 100 hS w0 ex1 rfl rfl ?_
    by_cases hc145 : p3 ≥ x1
    · have h := iteT hc145 h
      refine rif_t hc145 ?_
      obtain ⟨x2, ex2, h⟩ := bnd h
      refine rb_ld 100 hS w0 ex2 rfl rfl ?_
      obtain ⟨x3, ex3, h⟩ := bnd h
      refine rb_ld 100 hS w0 ex3 rfl rfl ?_
      cases h
      exact rret hS rfl
    · have h := iteF hc145 h
      refine rif_f hc145 ?_
      obtain ⟨z4, ez4, h⟩ := bnd h
      refine rb_call (ρc := 0) (s_X9_workOut hS w0 ez4) ?_
      intro ad Cn bz4 H hS hx wz4
      dsimp only
      obtain rfl : bz4 = z4.1 := wz4
      have w0 := w0.mono hx
      obtain ⟨x5, ex5, h⟩ := bnd h
      refine rb_ld 100 hS w0 ex5 rfl rfl ?_
      obtain ⟨z6, ez6, h⟩ := bnd h
      refine rb_call (ρc := 0) (s_X9_line hS w0 ez6) ?_
      intro ad Cn bz6 H hS hx wz6
      dsimp only
      obtain rfl : bz6 = z6.1 := wz6
      have w0 := w0.mono hx
      by_cases hc164 : p2 ≥ 0
      · have h := iteT hc164 h
        refine rif_t hc164 ?_
        obtain ⟨z7, ez7, h⟩ := bnd h
        refine rb_call (ρc := 0) (s_X9_line hS w0 ez7) ?_
        intro ad Cn bz7 H hS hx wz7
        dsimp only
        obtain rfl : bz7 = z7.1 := wz7
        have w0 := w0.mono hx
        exact sjX9_table_176 ih140 hS w0 h
      · have h := iteF hc164 h
        refine rif_f hc164 ?_
        exact sjX9_table_176 ih140 hS w0 h
def glX9_table_98 (p0 p1 p2 : Int) (self98 : Int → GS → GO) (p3 : Int) (G : GS) : GO :=
  (if p3 ≥ 81 then lh1 (glX9_table_140 p0 p1 p2) 6000 0 G
  else (gl 100 G p0 39).bind fun x1 => (gs 139 G x1 p3 0).bind fun G2 => (gl 100 G2 p0 40).bind fun x3 => (gs 140 G2 x3 p3 0).bind fun G4 => (gl 100 G4 p0 41).bind fun x5 => (gs 141 G4 x5 p3 0).bind fun G6 => (gl 100 G6 p0 42).bind fun x7 => (gsz 142 G6 x7 p3 0).bind fun G8 => self98 (w32 (p3 + 1)) G8)
set_option maxHeartbeats 4000000 in
theorem slX9_table_98 {G' : GS} {rr : Int} {p0 p1 p2 b0 : Int} : ∀ (n : Nat) (ad : Nat → Nat → Nat) (Cn : Nat → Nat) (H : PH) (G : GS) (p3 : Int) , SimA ad Cn H G → vrel ad Cn 100 b0 p0 → lh1 (glX9_table_98 p0 p1 p2) n p3 G = some (rr, G') → RS ad Cn (lq1 (lX9_table_98 b0 p1 p2) n p3 H) 0 rr G' := by
  intro n
  induction n with
  | zero => intro ad Cn H G p3 hS w0 h; cases h
  | succ n ih98 =>
    intro ad Cn H G p3 hS w0 h
    rw [lh1_s] at h
    rw [lq1_s]
    generalize lh1 (glX9_table_98 p0 p1 p2) n = self98 at ih98 h
    generalize lq1 (lX9_table_98 b0 p1 p2) n = fself98 at ih98 ⊢
    unfold glX9_table_98 at h
    unfold lX9_table_98
    by_cases hc101 : p3 ≥ 81
    · have h := iteT hc101 h
      refine rif_t hc101 ?_
      exact slX9_table_140 6000 _ _ _ _ 0  hS w0 h
    · have h := iteF hc101 h
      refine rif_f hc101 ?_
      obtain ⟨x1, ex1, h⟩ := bnd h
      refine rb_ldr 100 139 hS w0 ex1 rfl rfl ?_
      intro bx1 wx1
      obtain ⟨G2, eG2, h⟩ := bnd h
      refine rb_st 139 hS wx1 (show rrel _ _ 0 _ _ from rfl) eG2 rfl ?_
      intro H hS
      obtain ⟨x3, ex3, h⟩ := bnd h
      refine rb_ldr 100 140 hS w0 ex3 rfl rfl ?_
      intro bx3 wx3
      obtain ⟨G4, eG4, h⟩ := bnd h
      refine rb_st 140 hS wx3 (show rrel _ _ 0 _ _ from rfl) eG4 rfl ?_
      intro H hS
      obtain ⟨x5, ex5, h⟩ := bnd h
      refine rb_ldr 100 141 hS w0 ex5 rfl rfl ?_
      intro bx5 wx5
      obtain ⟨G6, eG6, h⟩ := bnd h
      refine rb_st 141 hS wx5 (show rrel _ _ 0 _ _ from rfl) eG6 rfl ?_
      intro H hS
      obtain ⟨x7, ex7, h⟩ := bnd h
      refine rb_ldr 100 142 hS w0 ex7 rfl rfl ?_
      intro bx7 wx7
      obtain ⟨G8, eG8, h⟩ := bnd h
      refine rb_stz 142 hS wx7 rfl eG8 rfl ?_
      intro H hS
      exact ih98 _ _ _ _ (w32 (p3 + 1))  hS w0  h
def gjX9_table_93 (p0 p1 p2 s0 s1 : Int) (G : GS) : GO :=
  (gs 100 G s0 38 s1).bind fun G1 => lh1 (glX9_table_98 p0 p1 p2) 6000 0 G1
set_option maxHeartbeats 4000000 in
theorem sjX9_table_93 {ad : Nat → Nat → Nat} {Cn : Nat → Nat} {H : PH} {G G' : GS} {rr : Int} {p0 p1 p2 s0 s1 b0 bs0 : Int} (hS : SimA ad Cn H G) (w0 : vrel ad Cn 100 b0 p0) (ws0 : vrel ad Cn 100 bs0 s0) (h : gjX9_table_93 p0 p1 p2 s0 s1 G = some (rr, G')) : RS ad Cn (jX9_table_93 b0 p1 p2 bs0 s1 H) 0 rr G' := by
  unfold gjX9_table_93 at h
  unfold jX9_table_93
  obtain ⟨G1, eG1, h⟩ := bnd h
  refine rb_st 100 hS ws0 (show rrel _ _ 0 _ _ from rfl) eG1 rfl ?_
  intro H hS
  exact slX9_table_98 6000 _ _ _ _ 0  hS w0 h
def gjX9_table_61 (p0 p1 p2 s0 s1 : Int) (G : GS) : GO :=
  (gsz 100 G s0 36 s1).bind fun G1 => (gl 100 G1 p0 9).bind fun x2 => (gl 109 G1 x2 p1).bind fun x3 => (gs 100 G1 p0 37 (w32 (x3 + 1))).bind fun G4 => (if p2 ≥ 0 then (gl 100 G4 p0 9).bind fun x5 => (gl 109 G4 x5 p2).bind fun x6 => gjX9_table_93 p0 p1 p2 p0 (w32 (x6 + 1)) G4
  else gjX9_table_93 p0 p1 p2 p0 1 G4)
set_option maxHeartbeats 4000000 in
theorem sjX9_table_61 {ad : Nat → Nat → Nat} {Cn : Nat → Nat} {H : PH} {G G' : GS} {rr : Int} {p0 p1 p2 s0 s1 b0 bs0 : Int} (hS : SimA ad Cn H G) (w0 : vrel ad Cn 100 b0 p0) (ws0 : vrel ad Cn 100 bs0 s0) (h : gjX9_table_61 p0 p1 p2 s0 s1 G = some (rr, G')) : RS ad Cn (jX9_table_61 b0 p1 p2 bs0 s1 H) 0 rr G' := by
  unfold gjX9_table_61 at h
  unfold jX9_table_61
  obtain ⟨G1, eG1, h⟩ := bnd h
  refine rb_stz 100 hS ws0 rfl eG1 rfl ?_
  intro H hS
  obtain ⟨x2, ex2, h⟩ := bnd h
  refine rb_ldr 100 109 hS w0 ex2 rfl rfl ?_
  intro bx2 wx2
  obtain ⟨x3, ex3, h⟩ := bnd h
  refine rb_ld 109 hS wx2 ex3 rfl rfl ?_
  obtain ⟨G4, eG4, h⟩ := bnd h
  refine rb_st 100 hS w0 (show rrel _ _ 0 _ _ from rfl) eG4 rfl ?_
  intro H hS
  by_cases hc78 : p2 ≥ 0
  · have h := iteT hc78 h
    refine rif_t hc78 ?_
    obtain ⟨x5, ex5, h⟩ := bnd h
    refine rb_ldr 100 109 hS w0 ex5 rfl rfl ?_
    intro bx5 wx5
    obtain ⟨x6, ex6, h⟩ := bnd h
    refine rb_ld 109 hS wx5 ex6 rfl rfl ?_
    exact sjX9_table_93 hS w0 w0 h
  · have h := iteF hc78 h
    refine rif_f hc78 ?_
    exact sjX9_table_93 hS w0 w0 h
def gjX9_table_46 (p0 p1 p2 : Int) (G : GS) : GO :=
  (gsz 100 G p0 35 1).bind fun G1 => (if p2 < 0 then gjX9_table_61 p0 p1 p2 p0 0 G1
  else gjX9_table_61 p0 p1 p2 p0 1 G1)
set_option maxHeartbeats 4000000 in
theorem sjX9_table_46 {ad : Nat → Nat → Nat} {Cn : Nat → Nat} {H : PH} {G G' : GS} {rr : Int} {p0 p1 p2 b0 : Int} (hS : SimA ad Cn H G) (w0 : vrel ad Cn 100 b0 p0) (h : gjX9_table_46 p0 p1 p2 G = some (rr, G')) : RS ad Cn (jX9_table_46 b0 p1 p2 H) 0 rr G' := by
  unfold gjX9_table_46 at h
  unfold jX9_table_46
  obtain ⟨G1, eG1, h⟩ := bnd h
  refine rb_stz 100 hS w0 rfl eG1 rfl ?_
  intro H hS
  by_cases hc53 : p2 < 0
  · have h := iteT hc53 h
    refine rif_t hc53 ?_
    exact sjX9_table_61 hS w0 w0 h
  · have h := iteF hc53 h
    refine rif_f hc53 ?_
    exact sjX9_table_61 hS w0 w0 h
def gjX9_table_23 (p0 p1 p2 : Int) (G : GS) : GO :=
  (g_X9_isCodeAtTop p0 p1 G).bind fun z1 => (if z1.1 = 0 then some ((-2), z1.2)
  else (if p2 < 0 then gjX9_table_46 p0 p1 p2 z1.2
  else (g_X9_isCodeAtTop p0 p2 z1.2).bind fun z2 => (if z2.1 ≠ 0 then gjX9_table_46 p0 p1 p2 z2.2
  else some ((-2), z2.2))))
set_option maxHeartbeats 4000000 in
theorem sjX9_table_23 {ad : Nat → Nat → Nat} {Cn : Nat → Nat} {H : PH} {G G' : GS} {rr : Int} {p0 p1 p2 b0 : Int} (hS : SimA ad Cn H G) (w0 : vrel ad Cn 100 b0 p0) (h : gjX9_table_23 p0 p1 p2 G = some (rr, G')) : RS ad Cn (jX9_table_23 b0 p1 p2 H) 0 rr G' := by
  unfold gjX9_table_23 at h
  unfold jX9_table_23
  obtain ⟨z1, ez1, h⟩ := bnd h
  refine rb_call (ρc := 0) (s_X9_isCodeAtTop hS w0 ez1) ?_
  intro ad Cn bz1 H hS hx wz1
  dsimp only
  obtain rfl : bz1 = z1.1 := wz1
  have w0 := w0.mono hx
  by_cases hc28 : z1.1 = 0
  · have h := iteT hc28 h
    refine rif_t hc28 ?_
    cases h
    exact rret hS rfl
  · have h := iteF hc28 h
    refine rif_f hc28 ?_
    by_cases hc32 : p2 < 0
    · have h := iteT hc32 h
      refine rif_t hc32 ?_
      exact sjX9_table_46 hS w0 h
    · have h := iteF hc32 h
      refine rif_f hc32 ?_
      obtain ⟨z2, ez2, h⟩ := bnd h
      refine rb_call (ρc := 0) (s_X9_isCodeAtTop hS w0 ez2) ?_
      intro ad Cn bz2 H hS hx wz2
      dsimp only
      obtain rfl : bz2 = z2.1 := wz2
      have w0 := w0.mono hx
      by_cases hc40 : z2.1 ≠ 0
      · have h := iteT hc40 h
        refine rif_t hc40 ?_
        exact sjX9_table_46 hS w0 h
      · have h := iteF hc40 h
        refine rif_f hc40 ?_
        cases h
        exact rret hS rfl
def g_X9_table (a0 a1 a2 : Int) (G : GS) : GO := gvm a0 <|
  (g_X9_isQuestion a0 a1 G).bind fun z1 => (if z1.1 = 0 then some ((-1), z1.2)
  else (if a2 = (-1) then gjX9_table_23 a0 a1 a2 z1.2
  else (g_X9_isQuestion a0 a2 z1.2).bind fun z2 => (if z2.1 ≠ 0 then gjX9_table_23 a0 a1 a2 z2.2
  else some ((-1), z2.2))))
set_option maxHeartbeats 4000000 in
theorem s_X9_table {ad : Nat → Nat → Nat} {Cn : Nat → Nat} {H : PH} {G G' : GS} {rr : Int} {a0 a1 a2 b0 : Int} (hS : SimA ad Cn H G) (w0 : vrel ad Cn 100 b0 a0) (h : g_X9_table a0 a1 a2 G = some (rr, G')) : RS ad Cn (f_X9_table b0 a1 a2 H) 0 rr G' := by
  unfold g_X9_table at h
  unfold f_X9_table
  obtain ⟨hv, h⟩ := gvm_spec h
  refine rb_vm 100 9 hS w0 hv rfl ?_
  obtain ⟨z1, ez1, h⟩ := bnd h
  refine rb_call (ρc := 0) (s_X9_isQuestion hS w0 ez1) ?_
  intro ad Cn bz1 H hS hx wz1
  dsimp only
  obtain rfl : bz1 = z1.1 := wz1
  have w0 := w0.mono hx
  by_cases hc5 : z1.1 = 0
  · have h := iteT hc5 h
    refine rif_t hc5 ?_
    cases h
    exact rret hS rfl
  · have h := iteF hc5 h
    refine rif_f hc5 ?_
    by_cases hc10 : a2 = (-1)
    · have h := iteT hc10 h
      refine rif_t hc10 ?_
      exact sjX9_table_23 hS w0 h
    · have h := iteF hc10 h
      refine rif_f hc10 ?_
      obtain ⟨z2, ez2, h⟩ := bnd h
      refine rb_call (ρc := 0) (s_X9_isQuestion hS w0 ez2) ?_
      intro ad Cn bz2 H hS hx wz2
      dsimp only
      obtain rfl : bz2 = z2.1 := wz2
      have w0 := w0.mono hx
      by_cases hc18 : z2.1 ≠ 0
      · have h := iteT hc18 h
        refine rif_t hc18 ?_
        exact sjX9_table_23 hS w0 h
      · have h := iteF hc18 h
        refine rif_f hc18 ?_
        cases h
        exact rret hS rfl
/-! HouseholdVaultModel.isCell(II)Z by roles -/
def g_X9_isCell (a0 a1 a2 : Int) (G : GS) : GO := gvm a0 <|
  (gl 100 G a0 35).bind fun x1 => (if x1 = 0 then some (0, G)
  else (gl 100 G a0 37).bind fun x2 => (g_X9_in a1 0 (w32 (x2 - 1)) G).bind fun z3 => (if z3.1 = 0 then some (0, z3.2)
  else (gl 100 z3.2 a0 38).bind fun x4 => (g_X9_in a2 0 (w32 (x4 - 1)) z3.2).bind fun z5 => (if z5.1 = 0 then some (0, z5.2)
  else some (1, z5.2))))
set_option maxHeartbeats 4000000 in
theorem s_X9_isCell {ad : Nat → Nat → Nat} {Cn : Nat → Nat} {H : PH} {G G' : GS} {rr : Int} {a0 a1 a2 b0 : Int} (hS : SimA ad Cn H G) (w0 : vrel ad Cn 100 b0 a0) (h : g_X9_isCell a0 a1 a2 G = some (rr, G')) : RS ad Cn (f_X9_isCell b0 a1 a2 H) 0 rr G' := by
  unfold g_X9_isCell at h
  unfold f_X9_isCell
  obtain ⟨hv, h⟩ := gvm_spec h
  refine rb_vm 100 9 hS w0 hv rfl ?_
  obtain ⟨x1, ex1, h⟩ := bnd h
  refine rb_ld 100 hS w0 ex1 rfl rfl ?_
  by_cases hc4 : x1 = 0
  · have h := iteT hc4 h
    refine rif_t hc4 ?_
    cases h
    exact rret hS rfl
  · have h := iteF hc4 h
    refine rif_f hc4 ?_
    obtain ⟨x2, ex2, h⟩ := bnd h
    refine rb_ld 100 hS w0 ex2 rfl rfl ?_
    obtain ⟨z3, ez3, h⟩ := bnd h
    refine rb_call (ρc := 0) (s_X9_in hS ez3) ?_
    intro ad Cn bz3 H hS hx wz3
    dsimp only
    obtain rfl : bz3 = z3.1 := wz3
    have w0 := w0.mono hx
    by_cases hc20 : z3.1 = 0
    · have h := iteT hc20 h
      refine rif_t hc20 ?_
      cases h
      exact rret hS rfl
    · have h := iteF hc20 h
      refine rif_f hc20 ?_
      obtain ⟨x4, ex4, h⟩ := bnd h
      refine rb_ld 100 hS w0 ex4 rfl rfl ?_
      obtain ⟨z5, ez5, h⟩ := bnd h
      refine rb_call (ρc := 0) (s_X9_in hS ez5) ?_
      intro ad Cn bz5 H hS hx wz5
      dsimp only
      obtain rfl : bz5 = z5.1 := wz5
      have w0 := w0.mono hx
      by_cases hc36 : z5.1 = 0
      · have h := iteT hc36 h
        refine rif_t hc36 ?_
        cases h
        exact rret hS rfl
      · have h := iteF hc36 h
        refine rif_f hc36 ?_
        cases h
        exact rret hS rfl
/-! HouseholdVaultModel.cell(III)J by roles -/
def gjX9_cell_21 (G : GS) : GO :=
  some ((-1), G)
set_option maxHeartbeats 4000000 in
theorem sjX9_cell_21 {ad : Nat → Nat → Nat} {Cn : Nat → Nat} {H : PH} {G G' : GS} {rr : Int} (hS : SimA ad Cn H G)  (h : gjX9_cell_21  G = some (rr, G')) : RS ad Cn (jX9_cell_21  H) 0 rr G' := by
  unfold gjX9_cell_21 at h
  unfold jX9_cell_21
  cases h
  exact rret hS rfl
def g_X9_cell (a0 a1 a2 a3 : Int) (G : GS) : GO := gvm a0 <|
  (g_X9_isCell a0 a1 a2 G).bind fun z1 => (if z1.1 = 0 then gjX9_cell_21  z1.2
  else (g_X9_in a3 0 2 z1.2).bind fun z2 => (if z2.1 ≠ 0 then (gl 100 z2.2 a0 38).bind fun x3 => (if a3 ≠ 0 then (if a3 ≠ 1 then (gl 100 z2.2 a0 42).bind fun x4 => (gl 142 z2.2 x4 (w32 ((w32 (x3 * a1)) + a2))).bind fun x5 => (if x5 = 0 then some (0, z2.2)
  else some (1, z2.2))
  else (gl 100 z2.2 a0 40).bind fun x6 => (gl 140 z2.2 x6 (w32 ((w32 (x3 * a1)) + a2))).bind fun x7 => some (x7, z2.2))
  else (gl 100 z2.2 a0 39).bind fun x8 => (gl 139 z2.2 x8 (w32 ((w32 (x3 * a1)) + a2))).bind fun x9 => some (x9, z2.2))
  else gjX9_cell_21  z2.2))
set_option maxHeartbeats 4000000 in
theorem s_X9_cell {ad : Nat → Nat → Nat} {Cn : Nat → Nat} {H : PH} {G G' : GS} {rr : Int} {a0 a1 a2 a3 b0 : Int} (hS : SimA ad Cn H G) (w0 : vrel ad Cn 100 b0 a0) (h : g_X9_cell a0 a1 a2 a3 G = some (rr, G')) : RS ad Cn (f_X9_cell b0 a1 a2 a3 H) 0 rr G' := by
  unfold g_X9_cell at h
  unfold f_X9_cell
  obtain ⟨hv, h⟩ := gvm_spec h
  refine rb_vm 100 9 hS w0 hv rfl ?_
  obtain ⟨z1, ez1, h⟩ := bnd h
  refine rb_call (ρc := 0) (s_X9_isCell hS w0 ez1) ?_
  intro ad Cn bz1 H hS hx wz1
  dsimp only
  obtain rfl : bz1 = z1.1 := wz1
  have w0 := w0.mono hx
  by_cases hc6 : z1.1 = 0
  · have h := iteT hc6 h
    refine rif_t hc6 ?_
    exact sjX9_cell_21 hS h
  · have h := iteF hc6 h
    refine rif_f hc6 ?_
    obtain ⟨z2, ez2, h⟩ := bnd h
    refine rb_call (ρc := 0) (s_X9_in hS ez2) ?_
    intro ad Cn bz2 H hS hx wz2
    dsimp only
    obtain rfl : bz2 = z2.1 := wz2
    have w0 := w0.mono hx
    by_cases hc18 : z2.1 ≠ 0
    · have h := iteT hc18 h
      refine rif_t hc18 ?_
      obtain ⟨x3, ex3, h⟩ := bnd h
      refine rb_ld 100 hS w0 ex3 rfl rfl ?_
      by_cases hc36 : a3 ≠ 0
      · have h := iteT hc36 h
        refine rif_t hc36 ?_
        by_cases hc52 : a3 ≠ 1
        · have h := iteT hc52 h
          refine rif_t hc52 ?_
          obtain ⟨x4, ex4, h⟩ := bnd h
          refine rb_ldr 100 142 hS w0 ex4 rfl rfl ?_
          intro bx4 wx4
          obtain ⟨x5, ex5, h⟩ := bnd h
          refine rb_ld 142 hS wx4 ex5 rfl rfl ?_
          by_cases hc72 : x5 = 0
          · have h := iteT hc72 h
            refine rif_t hc72 ?_
            cases h
            exact rret hS rfl
          · have h := iteF hc72 h
            refine rif_f hc72 ?_
            cases h
            exact rret hS rfl
        · have h := iteF hc52 h
          refine rif_f hc52 ?_
          obtain ⟨x6, ex6, h⟩ := bnd h
          refine rb_ldr 100 140 hS w0 ex6 rfl rfl ?_
          intro bx6 wx6
          obtain ⟨x7, ex7, h⟩ := bnd h
          refine rb_ld 140 hS wx6 ex7 rfl rfl ?_
          cases h
          exact rret hS rfl
      · have h := iteF hc36 h
        refine rif_f hc36 ?_
        obtain ⟨x8, ex8, h⟩ := bnd h
        refine rb_ldr 100 139 hS w0 ex8 rfl rfl ?_
        intro bx8 wx8
        obtain ⟨x9, ex9, h⟩ := bnd h
        refine rb_ld 139 hS wx8 ex9 rfl rfl ?_
        cases h
        exact rret hS rfl
    · have h := iteF hc18 h
      refine rif_f hc18 ?_
      exact sjX9_cell_21 hS h
/-! HouseholdVaultModel.shares(I)I by roles -/
def gjX9_shares_199 (self149 : Int → GS → GO) (self160 : Int → Int → GS → GO) (p0 p4 p6 s0 : Int) (G : GS) : GO :=
  self160 s0 (w32 (p6 + 1)) G
set_option maxHeartbeats 4000000 in
theorem sjX9_shares_199 {ad : Nat → Nat → Nat} {Cn : Nat → Nat} {H : PH} {G G' : GS} {rr : Int} {fself149 : Int → PH → RO} {self149 : Int → GS → GO} {fself160 : Int → Int → PH → RO} {self160 : Int → Int → GS → GO} {p0 p4 p6 s0 b0 : Int} (ih149 : ∀ (ad : Nat → Nat → Nat) (Cn : Nat → Nat) (H : PH) (G : GS) (v4 : Int) , SimA ad Cn H G → vrel ad Cn 100 b0 p0 → self149 v4 G = some (rr, G') → RS ad Cn (fself149 v4 H) 0 rr G') (ih160 : ∀ (ad : Nat → Nat → Nat) (Cn : Nat → Nat) (H : PH) (G : GS) (v5 v6 : Int) , SimA ad Cn H G → vrel ad Cn 100 b0 p0 → self160 v5 v6 G = some (rr, G') → RS ad Cn (fself160 v5 v6 H) 0 rr G') (hS : SimA ad Cn H G) (w0 : vrel ad Cn 100 b0 p0) (h : gjX9_shares_199 self149 self160 p0 p4 p6 s0 G = some (rr, G')) : RS ad Cn (jX9_shares_199 fself149 fself160 b0 p4 p6 s0 H) 0 rr G' := by
  unfold gjX9_shares_199 at h
  unfold jX9_shares_199
  exact ih160 _ _ _ _ s0 (w32 (p6 + 1))  hS w0  h
def glX9_shares_160 (self149 : Int → GS → GO) (p0 p4 : Int) (self160 : Int → Int → GS → GO) (p5 p6 : Int) (G : GS) : GO :=
  (gl 100 G p0 37).bind fun x1 => (gl 100 G p0 38).bind fun x2 => (if p6 ≥ (w32 (x1 * x2)) then (gl 100 G p0 41).bind fun x3 => (gl 141 G x3 p5).bind fun x4 => (gs 141 G x3 p5 (w32 (x4 + 1))).bind fun G5 => (gl 100 G5 p0 49).bind fun x6 => (gs 149 G5 x6 p5 (-1)).bind fun G7 => self149 (w32 (p4 + (-1))) G7
  else (gl 100 G p0 49).bind fun x8 => (gl 149 G x8 p6).bind fun x9 => (gl 100 G p0 49).bind fun x10 => (gl 149 G x10 p5).bind fun x11 => (if (lc x9 x11) ≤ 0 then gjX9_shares_199 self149 self160 p0 p4 p6 p5 G
  else gjX9_shares_199 self149 self160 p0 p4 p6 p6 G))
set_option maxHeartbeats 4000000 in
theorem slX9_shares_160 {G' : GS} {rr : Int} {fself149 : Int → PH → RO} {self149 : Int → GS → GO} {p0 p4 b0 : Int} (ih149 : ∀ (ad : Nat → Nat → Nat) (Cn : Nat → Nat) (H : PH) (G : GS) (v4 : Int) , SimA ad Cn H G → vrel ad Cn 100 b0 p0 → self149 v4 G = some (rr, G') → RS ad Cn (fself149 v4 H) 0 rr G') : ∀ (n : Nat) (ad : Nat → Nat → Nat) (Cn : Nat → Nat) (H : PH) (G : GS) (p5 p6 : Int) , SimA ad Cn H G → vrel ad Cn 100 b0 p0 → lh2 (glX9_shares_160 self149 p0 p4) n p5 p6 G = some (rr, G') → RS ad Cn (lq2 (lX9_shares_160 fself149 b0 p4) n p5 p6 H) 0 rr G' := by
  intro n
  induction n with
  | zero => intro ad Cn H G p5 p6 hS w0 h; cases h
  | succ n ih160 =>
    intro ad Cn H G p5 p6 hS w0 h
    rw [lh2_s] at h
    rw [lq2_s]
    generalize lh2 (glX9_shares_160 self149 p0 p4) n = self160 at ih160 h
    generalize lq2 (lX9_shares_160 fself149 b0 p4) n = fself160 at ih160 ⊢
    unfold glX9_shares_160 at h
    unfold lX9_shares_160
    obtain ⟨x1, ex1, h⟩ := bnd h
    refine rb_ld 100 hS w0 ex1 rfl rfl ?_
    obtain ⟨x2, ex2, h⟩ := bnd h
    refine rb_ld 100 hS w0 ex2 rfl rfl ?_
    by_cases hc171 : p6 ≥ (w32 (x1 * x2))
    · have h := iteT hc171 h
      refine rif_t hc171 ?_
      obtain ⟨x3, ex3, h⟩ := bnd h
      refine rb_ldr 100 141 hS w0 ex3 rfl rfl ?_
      intro bx3 wx3
      obtain ⟨x4, ex4, h⟩ := bnd h
      refine rb_ld 141 hS wx3 ex4 rfl rfl ?_
      obtain ⟨G5, eG5, h⟩ := bnd h
      refine rb_st 141 hS wx3 (show rrel _ _ 0 _ _ from rfl) eG5 rfl ?_
      intro H hS
      obtain ⟨x6, ex6, h⟩ := bnd h
      refine rb_ldr 100 149 hS w0 ex6 rfl rfl ?_
      intro bx6 wx6
      obtain ⟨G7, eG7, h⟩ := bnd h
      refine rb_st 149 hS wx6 (show rrel _ _ 0 _ _ from rfl) eG7 rfl ?_
      intro H hS
      exact ih149 _ _ _ _ (w32 (p4 + (-1)))  hS w0  h
    · have h := iteF hc171 h
      refine rif_f hc171 ?_
      obtain ⟨x8, ex8, h⟩ := bnd h
      refine rb_ldr 100 149 hS w0 ex8 rfl rfl ?_
      intro bx8 wx8
      obtain ⟨x9, ex9, h⟩ := bnd h
      refine rb_ld 149 hS wx8 ex9 rfl rfl ?_
      obtain ⟨x10, ex10, h⟩ := bnd h
      refine rb_ldr 100 149 hS w0 ex10 rfl rfl ?_
      intro bx10 wx10
      obtain ⟨x11, ex11, h⟩ := bnd h
      refine rb_ld 149 hS wx10 ex11 rfl rfl ?_
      by_cases hc189 : (lc x9 x11) ≤ 0
      · have h := iteT hc189 h
        refine rif_t hc189 ?_
        exact sjX9_shares_199 ih149 ih160 hS w0 h
      · have h := iteF hc189 h
        refine rif_f hc189 ?_
        exact sjX9_shares_199 ih149 ih160 hS w0 h
def glX9_shares_149 (p0 : Int) (self149 : Int → GS → GO) (p4 : Int) (G : GS) : GO :=
  (if p4 ≤ 0 then some (1, G)
  else lh2 (glX9_shares_160 self149 p0 p4) 6000 0 1 G)
set_option maxHeartbeats 4000000 in
theorem slX9_shares_149 {G' : GS} {rr : Int} {p0 b0 : Int} : ∀ (n : Nat) (ad : Nat → Nat → Nat) (Cn : Nat → Nat) (H : PH) (G : GS) (p4 : Int) , SimA ad Cn H G → vrel ad Cn 100 b0 p0 → lh1 (glX9_shares_149 p0) n p4 G = some (rr, G') → RS ad Cn (lq1 (lX9_shares_149 b0) n p4 H) 0 rr G' := by
  intro n
  induction n with
  | zero => intro ad Cn H G p4 hS w0 h; cases h
  | succ n ih149 =>
    intro ad Cn H G p4 hS w0 h
    rw [lh1_s] at h
    rw [lq1_s]
    generalize lh1 (glX9_shares_149 p0) n = self149 at ih149 h
    generalize lq1 (lX9_shares_149 b0) n = fself149 at ih149 ⊢
    unfold glX9_shares_149 at h
    unfold lX9_shares_149
    by_cases hc151 : p4 ≤ 0
    · have h := iteT hc151 h
      refine rif_t hc151 ?_
      cases h
      exact rret hS rfl
    · have h := iteF hc151 h
      refine rif_f hc151 ?_
      exact slX9_shares_160 ih149 6000 _ _ _ _ 0 1  hS w0 h
def glX9_shares_78 (p0 p1 p2 : Int) (self78 : Int → Int → GS → GO) (p4 p5 : Int) (G : GS) : GO :=
  (gl 100 G p0 37).bind fun x1 => (gl 100 G p0 38).bind fun x2 => (if p5 ≥ (w32 (x1 * x2)) then lh1 (glX9_shares_149 p0) 6000 p4 G
  else (gl 100 G p0 41).bind fun x3 => (gl 100 G p0 40).bind fun x4 => (gl 140 G x4 p5).bind fun x5 => (if p2 = 0 then none else (gs 141 G x3 p5 (w32 (w64 (Int.tdiv (w64 (p1 * x5)) p2)))).bind fun G6 => (gl 100 G6 p0 49).bind fun x7 => (gl 100 G6 p0 40).bind fun x8 => (gl 140 G6 x8 p5).bind fun x9 => (if p2 = 0 then none else (gs 149 G6 x7 p5 (Int.tmod (w64 (p1 * x9)) p2)).bind fun G10 => (gl 100 G10 p0 41).bind fun x11 => (gl 141 G10 x11 p5).bind fun x12 => self78 (w32 (p4 - x12)) (w32 (p5 + 1)) G10)))
set_option maxHeartbeats 4000000 in
theorem slX9_shares_78 {G' : GS} {rr : Int} {p0 p1 p2 b0 : Int} : ∀ (n : Nat) (ad : Nat → Nat → Nat) (Cn : Nat → Nat) (H : PH) (G : GS) (p4 p5 : Int) , SimA ad Cn H G → vrel ad Cn 100 b0 p0 → lh2 (glX9_shares_78 p0 p1 p2) n p4 p5 G = some (rr, G') → RS ad Cn (lq2 (lX9_shares_78 b0 p1 p2) n p4 p5 H) 0 rr G' := by
  intro n
  induction n with
  | zero => intro ad Cn H G p4 p5 hS w0 h; cases h
  | succ n ih78 =>
    intro ad Cn H G p4 p5 hS w0 h
    rw [lh2_s] at h
    rw [lq2_s]
    generalize lh2 (glX9_shares_78 p0 p1 p2) n = self78 at ih78 h
    generalize lq2 (lX9_shares_78 b0 p1 p2) n = fself78 at ih78 ⊢
    unfold glX9_shares_78 at h
    unfold lX9_shares_78
    obtain ⟨x1, ex1, h⟩ := bnd h
    refine rb_ld 100 hS w0 ex1 rfl rfl ?_
    obtain ⟨x2, ex2, h⟩ := bnd h
    refine rb_ld 100 hS w0 ex2 rfl rfl ?_
    by_cases hc89 : p5 ≥ (w32 (x1 * x2))
    · have h := iteT hc89 h
      refine rif_t hc89 ?_
      exact slX9_shares_149 6000 _ _ _ _ p4  hS w0 h
    · have h := iteF hc89 h
      refine rif_f hc89 ?_
      obtain ⟨x3, ex3, h⟩ := bnd h
      refine rb_ldr 100 141 hS w0 ex3 rfl rfl ?_
      intro bx3 wx3
      obtain ⟨x4, ex4, h⟩ := bnd h
      refine rb_ldr 100 140 hS w0 ex4 rfl rfl ?_
      intro bx4 wx4
      obtain ⟨x5, ex5, h⟩ := bnd h
      refine rb_ld 140 hS wx4 ex5 rfl rfl ?_
      by_cases hz109 : p2 = 0
      · rw [if_pos hz109] at h; cases h
      have h := iteF hz109 h
      refine rif_f hz109 ?_
      obtain ⟨G6, eG6, h⟩ := bnd h
      refine rb_st 141 hS wx3 (show rrel _ _ 0 _ _ from rfl) eG6 rfl ?_
      intro H hS
      obtain ⟨x7, ex7, h⟩ := bnd h
      refine rb_ldr 100 149 hS w0 ex7 rfl rfl ?_
      intro bx7 wx7
      obtain ⟨x8, ex8, h⟩ := bnd h
      refine rb_ldr 100 140 hS w0 ex8 rfl rfl ?_
      intro bx8 wx8
      obtain ⟨x9, ex9, h⟩ := bnd h
      refine rb_ld 140 hS wx8 ex9 rfl rfl ?_
      by_cases hz129 : p2 = 0
      · rw [if_pos hz129] at h; cases h
      have h := iteF hz129 h
      refine rif_f hz129 ?_
      obtain ⟨G10, eG10, h⟩ := bnd h
      refine rb_st 149 hS wx7 (show rrel _ _ 0 _ _ from rfl) eG10 rfl ?_
      intro H hS
      obtain ⟨x11, ex11, h⟩ := bnd h
      refine rb_ldr 100 141 hS w0 ex11 rfl rfl ?_
      intro bx11 wx11
      obtain ⟨x12, ex12, h⟩ := bnd h
      refine rb_ld 141 hS wx11 ex12 rfl rfl ?_
      exact ih78 _ _ _ _ (w32 (p4 - x12)) (w32 (p5 + 1))  hS w0  h
def glX9_shares_26 (p0 p1 : Int) (self26 : Int → Int → GS → GO) (p2 p4 : Int) (G : GS) : GO :=
  (gl 100 G p0 37).bind fun x1 => (gl 100 G p0 38).bind fun x2 => (if p4 ≥ (w32 (x1 * x2)) then (if (lc p2 0) ≠ 0 then lh2 (glX9_shares_78 p0 p1 p2) 6000 p1 0 G
  else some (0, G))
  else (gl 100 G p0 40).bind fun x3 => (gl 140 G x3 p4).bind fun x4 => (gl 100 G p0 41).bind fun x5 => (gs 141 G x5 p4 0).bind fun G6 => self26 (w64 (p2 + x4)) (w32 (p4 + 1)) G6)
set_option maxHeartbeats 4000000 in
theorem slX9_shares_26 {G' : GS} {rr : Int} {p0 p1 b0 : Int} : ∀ (n : Nat) (ad : Nat → Nat → Nat) (Cn : Nat → Nat) (H : PH) (G : GS) (p2 p4 : Int) , SimA ad Cn H G → vrel ad Cn 100 b0 p0 → lh2 (glX9_shares_26 p0 p1) n p2 p4 G = some (rr, G') → RS ad Cn (lq2 (lX9_shares_26 b0 p1) n p2 p4 H) 0 rr G' := by
  intro n
  induction n with
  | zero => intro ad Cn H G p2 p4 hS w0 h; cases h
  | succ n ih26 =>
    intro ad Cn H G p2 p4 hS w0 h
    rw [lh2_s] at h
    rw [lq2_s]
    generalize lh2 (glX9_shares_26 p0 p1) n = self26 at ih26 h
    generalize lq2 (lX9_shares_26 b0 p1) n = fself26 at ih26 ⊢
    unfold glX9_shares_26 at h
    unfold lX9_shares_26
    obtain ⟨x1, ex1, h⟩ := bnd h
    refine rb_ld 100 hS w0 ex1 rfl rfl ?_
    obtain ⟨x2, ex2, h⟩ := bnd h
    refine rb_ld 100 hS w0 ex2 rfl rfl ?_
    by_cases hc37 : p4 ≥ (w32 (x1 * x2))
    · have h := iteT hc37 h
      refine rif_t hc37 ?_
      by_cases hc67 : (lc p2 0) ≠ 0
      · have h := iteT hc67 h
        refine rif_t hc67 ?_
        exact slX9_shares_78 6000 _ _ _ _ p1 0  hS w0 h
      · have h := iteF hc67 h
        refine rif_f hc67 ?_
        cases h
        exact rret hS rfl
    · have h := iteF hc37 h
      refine rif_f hc37 ?_
      obtain ⟨x3, ex3, h⟩ := bnd h
      refine rb_ldr 100 140 hS w0 ex3 rfl rfl ?_
      intro bx3 wx3
      obtain ⟨x4, ex4, h⟩ := bnd h
      refine rb_ld 140 hS wx3 ex4 rfl rfl ?_
      obtain ⟨x5, ex5, h⟩ := bnd h
      refine rb_ldr 100 141 hS w0 ex5 rfl rfl ?_
      intro bx5 wx5
      obtain ⟨G6, eG6, h⟩ := bnd h
      refine rb_st 141 hS wx5 (show rrel _ _ 0 _ _ from rfl) eG6 rfl ?_
      intro H hS
      exact ih26 _ _ _ _ (w64 (p2 + x4)) (w32 (p4 + 1))  hS w0  h
def g_X9_shares (a0 a1 : Int) (G : GS) : GO := gvm a0 <|
  (gl 100 G a0 35).bind fun x1 => (if x1 = 0 then some ((-1), G)
  else (g_X9_in a1 0 1000000 G).bind fun z2 => (if z2.1 ≠ 0 then lh2 (glX9_shares_26 a0 a1) 6000 0 0 z2.2
  else some ((-1), z2.2)))
set_option maxHeartbeats 4000000 in
theorem s_X9_shares {ad : Nat → Nat → Nat} {Cn : Nat → Nat} {H : PH} {G G' : GS} {rr : Int} {a0 a1 b0 : Int} (hS : SimA ad Cn H G) (w0 : vrel ad Cn 100 b0 a0) (h : g_X9_shares a0 a1 G = some (rr, G')) : RS ad Cn (f_X9_shares b0 a1 H) 0 rr G' := by
  unfold g_X9_shares at h
  unfold f_X9_shares
  obtain ⟨hv, h⟩ := gvm_spec h
  refine rb_vm 100 9 hS w0 hv rfl ?_
  obtain ⟨x1, ex1, h⟩ := bnd h
  refine rb_ld 100 hS w0 ex1 rfl rfl ?_
  by_cases hc4 : x1 = 0
  · have h := iteT hc4 h
    refine rif_t hc4 ?_
    cases h
    exact rret hS rfl
  · have h := iteF hc4 h
    refine rif_f hc4 ?_
    obtain ⟨z2, ez2, h⟩ := bnd h
    refine rb_call (ρc := 0) (s_X9_in hS ez2) ?_
    intro ad Cn bz2 H hS hx wz2
    dsimp only
    obtain rfl : bz2 = z2.1 := wz2
    have w0 := w0.mono hx
    by_cases hc16 : z2.1 ≠ 0
    · have h := iteT hc16 h
      refine rif_t hc16 ?_
      exact slX9_shares_26 6000 _ _ _ _ 0 0  hS w0 h
    · have h := iteF hc16 h
      refine rif_f hc16 ?_
      cases h
      exact rret hS rfl
/-! HouseholdVaultModel.share(II)I by roles -/
def g_X9_share (a0 a1 a2 : Int) (G : GS) : GO := gvm a0 <|
  (g_X9_isCell a0 a1 a2 G).bind fun z1 => (if z1.1 = 0 then some ((-1), z1.2)
  else (gl 100 z1.2 a0 41).bind fun x2 => (gl 100 z1.2 a0 38).bind fun x3 => (gl 141 z1.2 x2 (w32 ((w32 (x3 * a1)) + a2))).bind fun x4 => some (x4, z1.2))
set_option maxHeartbeats 4000000 in
theorem s_X9_share {ad : Nat → Nat → Nat} {Cn : Nat → Nat} {H : PH} {G G' : GS} {rr : Int} {a0 a1 a2 b0 : Int} (hS : SimA ad Cn H G) (w0 : vrel ad Cn 100 b0 a0) (h : g_X9_share a0 a1 a2 G = some (rr, G')) : RS ad Cn (f_X9_share b0 a1 a2 H) 0 rr G' := by
  unfold g_X9_share at h
  unfold f_X9_share
  obtain ⟨hv, h⟩ := gvm_spec h
  refine rb_vm 100 9 hS w0 hv rfl ?_
  obtain ⟨z1, ez1, h⟩ := bnd h
  refine rb_call (ρc := 0) (s_X9_isCell hS w0 ez1) ?_
  intro ad Cn bz1 H hS hx wz1
  dsimp only
  obtain rfl : bz1 = z1.1 := wz1
  have w0 := w0.mono hx
  by_cases hc6 : z1.1 = 0
  · have h := iteT hc6 h
    refine rif_t hc6 ?_
    cases h
    exact rret hS rfl
  · have h := iteF hc6 h
    refine rif_f hc6 ?_
    obtain ⟨x2, ex2, h⟩ := bnd h
    refine rb_ldr 100 141 hS w0 ex2 rfl rfl ?_
    intro bx2 wx2
    obtain ⟨x3, ex3, h⟩ := bnd h
    refine rb_ld 100 hS w0 ex3 rfl rfl ?_
    obtain ⟨x4, ex4, h⟩ := bnd h
    refine rb_ld 141 hS wx2 ex4 rfl rfl ?_
    cases h
    exact rret hS rfl
/-! HouseholdVaultModel.hangTogether(III)Z by roles -/
def gjX9_hangTogether_144 (self44 : Int → GS → GO) (self55 : Int → Int → GS → GO) (p0 p2 p3 p4 p5 : Int) (G : GS) : GO :=
  self55 p4 (w32 (p5 + 1)) G
set_option maxHeartbeats 4000000 in
theorem sjX9_hangTogether_144 {ad : Nat → Nat → Nat} {Cn : Nat → Nat} {H : PH} {G G' : GS} {rr : Int} {fself44 : Int → PH → RO} {self44 : Int → GS → GO} {fself55 : Int → Int → PH → RO} {self55 : Int → Int → GS → GO} {p0 p2 p3 p4 p5 b0 : Int} (ih44 : ∀ (ad : Nat → Nat → Nat) (Cn : Nat → Nat) (H : PH) (G : GS) (v4 : Int) , SimA ad Cn H G → vrel ad Cn 100 b0 p0 → self44 v4 G = some (rr, G') → RS ad Cn (fself44 v4 H) 0 rr G') (ih55 : ∀ (ad : Nat → Nat → Nat) (Cn : Nat → Nat) (H : PH) (G : GS) (v4 v5 : Int) , SimA ad Cn H G → vrel ad Cn 100 b0 p0 → self55 v4 v5 G = some (rr, G') → RS ad Cn (fself55 v4 v5 H) 0 rr G') (hS : SimA ad Cn H G) (w0 : vrel ad Cn 100 b0 p0) (h : gjX9_hangTogether_144 self44 self55 p0 p2 p3 p4 p5 G = some (rr, G')) : RS ad Cn (jX9_hangTogether_144 fself44 fself55 b0 p2 p3 p4 p5 H) 0 rr G' := by
  unfold gjX9_hangTogether_144 at h
  unfold jX9_hangTogether_144
  exact ih55 _ _ _ _ p4 (w32 (p5 + 1))  hS w0  h
def glX9_hangTogether_55 (self44 : Int → GS → GO) (p0 p2 p3 : Int) (self55 : Int → Int → GS → GO) (p4 p5 : Int) (G : GS) : GO :=
  (gl 100 G p0 37).bind fun x1 => (gl 100 G p0 38).bind fun x2 => (if p5 ≥ (w32 (x1 * x2)) then self44 p4 G
  else (gl 100 G p0 38).bind fun x3 => (if x3 = 0 then none else (gl 100 G p0 37).bind fun x4 => (gl 100 G p0 38).bind fun x5 => (if x5 = 0 then none else (gl 100 G p0 42).bind fun x6 => (gl 142 G x6 p5).bind fun x7 => (if x7 = 0 then gjX9_hangTogether_144 self44 self55 p0 p2 p3 p4 p5 G
  else (if p5 = p3 then gjX9_hangTogether_144 self44 self55 p0 p2 p3 p4 p5 G
  else (gl 100 G p0 50).bind fun x8 => (gl 150 G x8 (w32 (Int.tdiv p5 x3))).bind fun x9 => (gl 100 G p0 50).bind fun x10 => (gl 150 G x10 (w32 (x4 + (Int.tmod p5 x5)))).bind fun x11 => (if x9 = x11 then gjX9_hangTogether_144 self44 self55 p0 p2 p3 p4 p5 G
  else (gl 100 G p0 50).bind fun x12 => (gsz 150 G x12 (w32 (Int.tdiv p5 x3)) 1).bind fun G13 => (gl 100 G13 p0 50).bind fun x14 => (gsz 150 G13 x14 (w32 (x4 + (Int.tmod p5 x5))) 1).bind fun G15 => gjX9_hangTogether_144 self44 self55 p0 p2 p3 1 p5 G15))))))
set_option maxHeartbeats 4000000 in
theorem slX9_hangTogether_55 {G' : GS} {rr : Int} {fself44 : Int → PH → RO} {self44 : Int → GS → GO} {p0 p2 p3 b0 : Int} (ih44 : ∀ (ad : Nat → Nat → Nat) (Cn : Nat → Nat) (H : PH) (G : GS) (v4 : Int) , SimA ad Cn H G → vrel ad Cn 100 b0 p0 → self44 v4 G = some (rr, G') → RS ad Cn (fself44 v4 H) 0 rr G') : ∀ (n : Nat) (ad : Nat → Nat → Nat) (Cn : Nat → Nat) (H : PH) (G : GS) (p4 p5 : Int) , SimA ad Cn H G → vrel ad Cn 100 b0 p0 → lh2 (glX9_hangTogether_55 self44 p0 p2 p3) n p4 p5 G = some (rr, G') → RS ad Cn (lq2 (lX9_hangTogether_55 fself44 b0 p2 p3) n p4 p5 H) 0 rr G' := by
  intro n
  induction n with
  | zero => intro ad Cn H G p4 p5 hS w0 h; cases h
  | succ n ih55 =>
    intro ad Cn H G p4 p5 hS w0 h
    rw [lh2_s] at h
    rw [lq2_s]
    generalize lh2 (glX9_hangTogether_55 self44 p0 p2 p3) n = self55 at ih55 h
    generalize lq2 (lX9_hangTogether_55 fself44 b0 p2 p3) n = fself55 at ih55 ⊢
    unfold glX9_hangTogether_55 at h
    unfold lX9_hangTogether_55
    obtain ⟨x1, ex1, h⟩ := bnd h
    refine rb_ld 100 hS w0 ex1 rfl rfl ?_
    obtain ⟨x2, ex2, h⟩ := bnd h
    refine rb_ld 100 hS w0 ex2 rfl rfl ?_
    by_cases hc66 : p5 ≥ (w32 (x1 * x2))
    · have h := iteT hc66 h
      refine rif_t hc66 ?_
      exact ih44 _ _ _ _ p4  hS w0  h
    · have h := iteF hc66 h
      refine rif_f hc66 ?_
      obtain ⟨x3, ex3, h⟩ := bnd h
      refine rb_ld 100 hS w0 ex3 rfl rfl ?_
      by_cases hz75 : x3 = 0
      · rw [if_pos hz75] at h; cases h
      have h := iteF hz75 h
      refine rif_f hz75 ?_
      obtain ⟨x4, ex4, h⟩ := bnd h
      refine rb_ld 100 hS w0 ex4 rfl rfl ?_
      obtain ⟨x5, ex5, h⟩ := bnd h
      refine rb_ld 100 hS w0 ex5 rfl rfl ?_
      by_cases hz88 : x5 = 0
      · rw [if_pos hz88] at h; cases h
      have h := iteF hz88 h
      refine rif_f hz88 ?_
      obtain ⟨x6, ex6, h⟩ := bnd h
      refine rb_ldr 100 142 hS w0 ex6 rfl rfl ?_
      intro bx6 wx6
      obtain ⟨x7, ex7, h⟩ := bnd h
      refine rb_ld 142 hS wx6 ex7 rfl rfl ?_
      by_cases hc99 : x7 = 0
      · have h := iteT hc99 h
        refine rif_t hc99 ?_
        exact sjX9_hangTogether_144 ih44 ih55 hS w0 h
      · have h := iteF hc99 h
        refine rif_f hc99 ?_
        by_cases hc105 : p5 = p3
        · have h := iteT hc105 h
          refine rif_t hc105 ?_
          exact sjX9_hangTogether_144 ih44 ih55 hS w0 h
        · have h := iteF hc105 h
          refine rif_f hc105 ?_
          obtain ⟨x8, ex8, h⟩ := bnd h
          refine rb_ldr 100 150 hS w0 ex8 rfl rfl ?_
          intro bx8 wx8
          obtain ⟨x9, ex9, h⟩ := bnd h
          refine rb_ld 150 hS wx8 ex9 rfl rfl ?_
          obtain ⟨x10, ex10, h⟩ := bnd h
          refine rb_ldr 100 150 hS w0 ex10 rfl rfl ?_
          intro bx10 wx10
          obtain ⟨x11, ex11, h⟩ := bnd h
          refine rb_ld 150 hS wx10 ex11 rfl rfl ?_
          by_cases hc122 : x9 = x11
          · have h := iteT hc122 h
            refine rif_t hc122 ?_
            exact sjX9_hangTogether_144 ih44 ih55 hS w0 h
          · have h := iteF hc122 h
            refine rif_f hc122 ?_
            obtain ⟨x12, ex12, h⟩ := bnd h
            refine rb_ldr 100 150 hS w0 ex12 rfl rfl ?_
            intro bx12 wx12
            obtain ⟨G13, eG13, h⟩ := bnd h
            refine rb_stz 150 hS wx12 rfl eG13 rfl ?_
            intro H hS
            obtain ⟨x14, ex14, h⟩ := bnd h
            refine rb_ldr 100 150 hS w0 ex14 rfl rfl ?_
            intro bx14 wx14
            obtain ⟨G15, eG15, h⟩ := bnd h
            refine rb_stz 150 hS wx14 rfl eG15 rfl ?_
            intro H hS
            exact sjX9_hangTogether_144 ih44 ih55 hS w0 h
def glX9_hangTogether_44 (p0 p2 p3 : Int) (self44 : Int → GS → GO) (p4 : Int) (G : GS) : GO :=
  (if p4 = 0 then (gl 100 G p0 50).bind fun x1 => (gl 100 G p0 37).bind fun x2 => (gl 150 G x1 (w32 (x2 + p2))).bind fun x3 => gzr x3 G
  else lh2 (glX9_hangTogether_55 self44 p0 p2 p3) 6000 0 0 G)
set_option maxHeartbeats 4000000 in
theorem slX9_hangTogether_44 {G' : GS} {rr : Int} {p0 p2 p3 b0 : Int} : ∀ (n : Nat) (ad : Nat → Nat → Nat) (Cn : Nat → Nat) (H : PH) (G : GS) (p4 : Int) , SimA ad Cn H G → vrel ad Cn 100 b0 p0 → lh1 (glX9_hangTogether_44 p0 p2 p3) n p4 G = some (rr, G') → RS ad Cn (lq1 (lX9_hangTogether_44 b0 p2 p3) n p4 H) 0 rr G' := by
  intro n
  induction n with
  | zero => intro ad Cn H G p4 hS w0 h; cases h
  | succ n ih44 =>
    intro ad Cn H G p4 hS w0 h
    rw [lh1_s] at h
    rw [lq1_s]
    generalize lh1 (glX9_hangTogether_44 p0 p2 p3) n = self44 at ih44 h
    generalize lq1 (lX9_hangTogether_44 b0 p2 p3) n = fself44 at ih44 ⊢
    unfold glX9_hangTogether_44 at h
    unfold lX9_hangTogether_44
    by_cases hc46 : p4 = 0
    · have h := iteT hc46 h
      refine rif_t hc46 ?_
      obtain ⟨x1, ex1, h⟩ := bnd h
      refine rb_ldr 100 150 hS w0 ex1 rfl rfl ?_
      intro bx1 wx1
      obtain ⟨x2, ex2, h⟩ := bnd h
      refine rb_ld 100 hS w0 ex2 rfl rfl ?_
      obtain ⟨x3, ex3, h⟩ := bnd h
      refine rb_ld 150 hS wx1 ex3 rfl rfl ?_
      obtain ⟨hz, h⟩ := gzr_spec h
      cases h
      exact rb_zr hz (rret hS rfl)
    · have h := iteF hc46 h
      refine rif_f hc46 ?_
      exact slX9_hangTogether_55 ih44 6000 _ _ _ _ 0 0  hS w0 h
def gjX9_hangTogether_34 (self3 : Int → GS → GO) (p0 p1 p2 p3 p4 s0 s1 s2 : Int) (G : GS) : GO :=
  (gsz 150 G s0 s1 s2).bind fun G1 => self3 (w32 (p4 + 1)) G1
set_option maxHeartbeats 4000000 in
theorem sjX9_hangTogether_34 {ad : Nat → Nat → Nat} {Cn : Nat → Nat} {H : PH} {G G' : GS} {rr : Int} {fself3 : Int → PH → RO} {self3 : Int → GS → GO} {p0 p1 p2 p3 p4 s0 s1 s2 b0 bs0 : Int} (ih3 : ∀ (ad : Nat → Nat → Nat) (Cn : Nat → Nat) (H : PH) (G : GS) (v4 : Int) , SimA ad Cn H G → vrel ad Cn 100 b0 p0 → self3 v4 G = some (rr, G') → RS ad Cn (fself3 v4 H) 0 rr G') (hS : SimA ad Cn H G) (w0 : vrel ad Cn 100 b0 p0) (ws0 : vrel ad Cn 150 bs0 s0) (h : gjX9_hangTogether_34 self3 p0 p1 p2 p3 p4 s0 s1 s2 G = some (rr, G')) : RS ad Cn (jX9_hangTogether_34 fself3 b0 p1 p2 p3 p4 bs0 s1 s2 H) 0 rr G' := by
  unfold gjX9_hangTogether_34 at h
  unfold jX9_hangTogether_34
  obtain ⟨G1, eG1, h⟩ := bnd h
  refine rb_stz 150 hS ws0 rfl eG1 rfl ?_
  intro H hS
  exact ih3 _ _ _ _ (w32 (p4 + 1))  hS w0  h
def glX9_hangTogether_3 (p0 p1 p2 p3 : Int) (self3 : Int → GS → GO) (p4 : Int) (G : GS) : GO :=
  (gl 100 G p0 37).bind fun x1 => (gl 100 G p0 38).bind fun x2 => (if p4 ≥ (w32 (x1 + x2)) then lh1 (glX9_hangTogether_44 p0 p2 p3) 6000 1 G
  else (gl 100 G p0 50).bind fun x3 => (if p4 ≠ p1 then gjX9_hangTogether_34 self3 p0 p1 p2 p3 p4 x3 p4 0 G
  else gjX9_hangTogether_34 self3 p0 p1 p2 p3 p4 x3 p4 1 G))
set_option maxHeartbeats 4000000 in
theorem slX9_hangTogether_3 {G' : GS} {rr : Int} {p0 p1 p2 p3 b0 : Int} : ∀ (n : Nat) (ad : Nat → Nat → Nat) (Cn : Nat → Nat) (H : PH) (G : GS) (p4 : Int) , SimA ad Cn H G → vrel ad Cn 100 b0 p0 → lh1 (glX9_hangTogether_3 p0 p1 p2 p3) n p4 G = some (rr, G') → RS ad Cn (lq1 (lX9_hangTogether_3 b0 p1 p2 p3) n p4 H) 0 rr G' := by
  intro n
  induction n with
  | zero => intro ad Cn H G p4 hS w0 h; cases h
  | succ n ih3 =>
    intro ad Cn H G p4 hS w0 h
    rw [lh1_s] at h
    rw [lq1_s]
    generalize lh1 (glX9_hangTogether_3 p0 p1 p2 p3) n = self3 at ih3 h
    generalize lq1 (lX9_hangTogether_3 b0 p1 p2 p3) n = fself3 at ih3 ⊢
    unfold glX9_hangTogether_3 at h
    unfold lX9_hangTogether_3
    obtain ⟨x1, ex1, h⟩ := bnd h
    refine rb_ld 100 hS w0 ex1 rfl rfl ?_
    obtain ⟨x2, ex2, h⟩ := bnd h
    refine rb_ld 100 hS w0 ex2 rfl rfl ?_
    by_cases hc14 : p4 ≥ (w32 (x1 + x2))
    · have h := iteT hc14 h
      refine rif_t hc14 ?_
      exact slX9_hangTogether_44 6000 _ _ _ _ 1  hS w0 h
    · have h := iteF hc14 h
      refine rif_f hc14 ?_
      obtain ⟨x3, ex3, h⟩ := bnd h
      refine rb_ldr 100 150 hS w0 ex3 rfl rfl ?_
      intro bx3 wx3
      by_cases hc26 : p4 ≠ p1
      · have h := iteT hc26 h
        refine rif_t hc26 ?_
        exact sjX9_hangTogether_34 ih3 hS w0 wx3 h
      · have h := iteF hc26 h
        refine rif_f hc26 ?_
        exact sjX9_hangTogether_34 ih3 hS w0 wx3 h
def g_X9_hangTogether (a0 a1 a2 a3 : Int) (G : GS) : GO := gvm a0 <|
  lh1 (glX9_hangTogether_3 a0 a1 a2 a3) 6000 0 G
set_option maxHeartbeats 4000000 in
theorem s_X9_hangTogether {ad : Nat → Nat → Nat} {Cn : Nat → Nat} {H : PH} {G G' : GS} {rr : Int} {a0 a1 a2 a3 b0 : Int} (hS : SimA ad Cn H G) (w0 : vrel ad Cn 100 b0 a0) (h : g_X9_hangTogether a0 a1 a2 a3 G = some (rr, G')) : RS ad Cn (f_X9_hangTogether b0 a1 a2 a3 H) 0 rr G' := by
  unfold g_X9_hangTogether at h
  unfold f_X9_hangTogether
  obtain ⟨hv, h⟩ := gvm_spec h
  refine rb_vm 100 9 hS w0 hv rfl ?_
  exact slX9_hangTogether_3 6000 _ _ _ _ 0  hS w0 h
/-! HouseholdVaultModel.isFollowing(I)Z by roles -/
def gjX9_isFollowing_71 (self48 : Int → Int → GS → GO) (p0 p3 s0 s1 : Int) (G : GS) : GO :=
  self48 (w32 (s0 + s1)) (w32 (p3 + 1)) G
set_option maxHeartbeats 4000000 in
theorem sjX9_isFollowing_71 {ad : Nat → Nat → Nat} {Cn : Nat → Nat} {H : PH} {G G' : GS} {rr : Int} {fself48 : Int → Int → PH → RO} {self48 : Int → Int → GS → GO} {p0 p3 s0 s1 b0 : Int} (ih48 : ∀ (ad : Nat → Nat → Nat) (Cn : Nat → Nat) (H : PH) (G : GS) (v2 v3 : Int) , SimA ad Cn H G → vrel ad Cn 100 b0 p0 → self48 v2 v3 G = some (rr, G') → RS ad Cn (fself48 v2 v3 H) 0 rr G') (hS : SimA ad Cn H G) (w0 : vrel ad Cn 100 b0 p0) (h : gjX9_isFollowing_71 self48 p0 p3 s0 s1 G = some (rr, G')) : RS ad Cn (jX9_isFollowing_71 fself48 b0 p3 s0 s1 H) 0 rr G' := by
  unfold gjX9_isFollowing_71 at h
  unfold jX9_isFollowing_71
  exact ih48 _ _ _ _ (w32 (s0 + s1)) (w32 (p3 + 1))  hS w0  h
def glX9_isFollowing_48 (p0 : Int) (self48 : Int → Int → GS → GO) (p2 p3 : Int) (G : GS) : GO :=
  (gl 100 G p0 37).bind fun x1 => (if p3 ≥ x1 then (if p2 ≠ 1 then some (0, G)
  else some (1, G))
  else (gl 100 G p0 42).bind fun x2 => (gl 142 G x2 p3).bind fun x3 => (if x3 = 0 then gjX9_isFollowing_71 self48 p0 p3 p2 0 G
  else gjX9_isFollowing_71 self48 p0 p3 p2 1 G))
set_option maxHeartbeats 4000000 in
theorem slX9_isFollowing_48 {G' : GS} {rr : Int} {p0 b0 : Int} : ∀ (n : Nat) (ad : Nat → Nat → Nat) (Cn : Nat → Nat) (H : PH) (G : GS) (p2 p3 : Int) , SimA ad Cn H G → vrel ad Cn 100 b0 p0 → lh2 (glX9_isFollowing_48 p0) n p2 p3 G = some (rr, G') → RS ad Cn (lq2 (lX9_isFollowing_48 b0) n p2 p3 H) 0 rr G' := by
  intro n
  induction n with
  | zero => intro ad Cn H G p2 p3 hS w0 h; cases h
  | succ n ih48 =>
    intro ad Cn H G p2 p3 hS w0 h
    rw [lh2_s] at h
    rw [lq2_s]
    generalize lh2 (glX9_isFollowing_48 p0) n = self48 at ih48 h
    generalize lq2 (lX9_isFollowing_48 b0) n = fself48 at ih48 ⊢
    unfold glX9_isFollowing_48 at h
    unfold lX9_isFollowing_48
    obtain ⟨x1, ex1, h⟩ := bnd h
    refine rb_ld 100 hS w0 ex1 rfl rfl ?_
    by_cases hc53 : p3 ≥ x1
    · have h := iteT hc53 h
      refine rif_t hc53 ?_
      by_cases hc81 : p2 ≠ 1
      · have h := iteT hc81 h
        refine rif_t hc81 ?_
        cases h
        exact rret hS rfl
      · have h := iteF hc81 h
        refine rif_f hc81 ?_
        cases h
        exact rret hS rfl
    · have h := iteF hc53 h
      refine rif_f hc53 ?_
      obtain ⟨x2, ex2, h⟩ := bnd h
      refine rb_ldr 100 142 hS w0 ex2 rfl rfl ?_
      intro bx2 wx2
      obtain ⟨x3, ex3, h⟩ := bnd h
      refine rb_ld 142 hS wx2 ex3 rfl rfl ?_
      by_cases hc63 : x3 = 0
      · have h := iteT hc63 h
        refine rif_t hc63 ?_
        exact sjX9_isFollowing_71 ih48 hS w0 h
      · have h := iteF hc63 h
        refine rif_f hc63 ?_
        exact sjX9_isFollowing_71 ih48 hS w0 h
def g_X9_isFollowing (a0 a1 : Int) (G : GS) : GO := gvm a0 <|
  (gl 100 G a0 42).bind fun x1 => (gl 142 G x1 a1).bind fun x2 => (if x2 ≠ 0 then (gl 100 G a0 36).bind fun x3 => (if x3 = 0 then lh2 (glX9_isFollowing_48 a0) 6000 0 0 G
  else (gl 100 G a0 38).bind fun x4 => (if x4 = 0 then none else (gl 100 G a0 38).bind fun x5 => (if x5 = 0 then none else (g_X9_hangTogether a0 (w32 (Int.tdiv a1 x4)) (Int.tmod a1 x5) a1 G).bind fun z6 => (if z6.1 ≠ 0 then some (0, z6.2)
  else some (1, z6.2)))))
  else some (0, G))
set_option maxHeartbeats 4000000 in
theorem s_X9_isFollowing {ad : Nat → Nat → Nat} {Cn : Nat → Nat} {H : PH} {G G' : GS} {rr : Int} {a0 a1 b0 : Int} (hS : SimA ad Cn H G) (w0 : vrel ad Cn 100 b0 a0) (h : g_X9_isFollowing a0 a1 G = some (rr, G')) : RS ad Cn (f_X9_isFollowing b0 a1 H) 0 rr G' := by
  unfold g_X9_isFollowing at h
  unfold f_X9_isFollowing
  obtain ⟨hv, h⟩ := gvm_spec h
  refine rb_vm 100 9 hS w0 hv rfl ?_
  obtain ⟨x1, ex1, h⟩ := bnd h
  refine rb_ldr 100 142 hS w0 ex1 rfl rfl ?_
  intro bx1 wx1
  obtain ⟨x2, ex2, h⟩ := bnd h
  refine rb_ld 142 hS wx1 ex2 rfl rfl ?_
  by_cases hc6 : x2 ≠ 0
  · have h := iteT hc6 h
    refine rif_t hc6 ?_
    obtain ⟨x3, ex3, h⟩ := bnd h
    refine rb_ld 100 hS w0 ex3 rfl rfl ?_
    by_cases hc15 : x3 = 0
    · have h := iteT hc15 h
      refine rif_t hc15 ?_
      exact slX9_isFollowing_48 6000 _ _ _ _ 0 0  hS w0 h
    · have h := iteF hc15 h
      refine rif_f hc15 ?_
      obtain ⟨x4, ex4, h⟩ := bnd h
      refine rb_ld 100 hS w0 ex4 rfl rfl ?_
      by_cases hz24 : x4 = 0
      · rw [if_pos hz24] at h; cases h
      have h := iteF hz24 h
      refine rif_f hz24 ?_
      obtain ⟨x5, ex5, h⟩ := bnd h
      refine rb_ld 100 hS w0 ex5 rfl rfl ?_
      by_cases hz30 : x5 = 0
      · rw [if_pos hz30] at h; cases h
      have h := iteF hz30 h
      refine rif_f hz30 ?_
      obtain ⟨z6, ez6, h⟩ := bnd h
      refine rb_call (ρc := 0) (s_X9_hangTogether hS w0 ez6) ?_
      intro ad Cn bz6 H hS hx wz6
      dsimp only
      obtain rfl : bz6 = z6.1 := wz6
      have w0 := w0.mono hx
      by_cases hc35 : z6.1 ≠ 0
      · have h := iteT hc35 h
        refine rif_t hc35 ?_
        cases h
        exact rret hS rfl
      · have h := iteF hc35 h
        refine rif_f hc35 ?_
        cases h
        exact rret hS rfl
  · have h := iteF hc6 h
    refine rif_f hc6 ?_
    cases h
    exact rret hS rfl
/-! HouseholdVaultModel.firstFollowing()I by roles -/
def glX9_firstFollowing_2 (p0 : Int) (self2 : Int → GS → GO) (p1 : Int) (G : GS) : GO :=
  (gl 100 G p0 37).bind fun x1 => (gl 100 G p0 38).bind fun x2 => (if p1 ≥ (w32 (x1 * x2)) then some ((-1), G)
  else (g_X9_isFollowing p0 p1 G).bind fun z3 => (if z3.1 = 0 then self2 (w32 (p1 + 1)) z3.2
  else some (p1, z3.2)))
set_option maxHeartbeats 4000000 in
theorem slX9_firstFollowing_2 {G' : GS} {rr : Int} {p0 b0 : Int} : ∀ (n : Nat) (ad : Nat → Nat → Nat) (Cn : Nat → Nat) (H : PH) (G : GS) (p1 : Int) , SimA ad Cn H G → vrel ad Cn 100 b0 p0 → lh1 (glX9_firstFollowing_2 p0) n p1 G = some (rr, G') → RS ad Cn (lq1 (lX9_firstFollowing_2 b0) n p1 H) 0 rr G' := by
  intro n
  induction n with
  | zero => intro ad Cn H G p1 hS w0 h; cases h
  | succ n ih2 =>
    intro ad Cn H G p1 hS w0 h
    rw [lh1_s] at h
    rw [lq1_s]
    generalize lh1 (glX9_firstFollowing_2 p0) n = self2 at ih2 h
    generalize lq1 (lX9_firstFollowing_2 b0) n = fself2 at ih2 ⊢
    unfold glX9_firstFollowing_2 at h
    unfold lX9_firstFollowing_2
    obtain ⟨x1, ex1, h⟩ := bnd h
    refine rb_ld 100 hS w0 ex1 rfl rfl ?_
    obtain ⟨x2, ex2, h⟩ := bnd h
    refine rb_ld 100 hS w0 ex2 rfl rfl ?_
    by_cases hc12 : p1 ≥ (w32 (x1 * x2))
    · have h := iteT hc12 h
      refine rif_t hc12 ?_
      cases h
      exact rret hS rfl
    · have h := iteF hc12 h
      refine rif_f hc12 ?_
      obtain ⟨z3, ez3, h⟩ := bnd h
      refine rb_call (ρc := 0) (s_X9_isFollowing hS w0 ez3) ?_
      intro ad Cn bz3 H hS hx wz3
      dsimp only
      obtain rfl : bz3 = z3.1 := wz3
      have w0 := w0.mono hx
      by_cases hc20 : z3.1 = 0
      · have h := iteT hc20 h
        refine rif_t hc20 ?_
        exact ih2 _ _ _ _ (w32 (p1 + 1))  hS w0  h
      · have h := iteF hc20 h
        refine rif_f hc20 ?_
        cases h
        exact rret hS rfl
def g_X9_firstFollowing (a0 : Int) (G : GS) : GO := gvm a0 <|
  lh1 (glX9_firstFollowing_2 a0) 6000 0 G
set_option maxHeartbeats 4000000 in
theorem s_X9_firstFollowing {ad : Nat → Nat → Nat} {Cn : Nat → Nat} {H : PH} {G G' : GS} {rr : Int} {a0 b0 : Int} (hS : SimA ad Cn H G) (w0 : vrel ad Cn 100 b0 a0) (h : g_X9_firstFollowing a0 G = some (rr, G')) : RS ad Cn (f_X9_firstFollowing b0 H) 0 rr G' := by
  unfold g_X9_firstFollowing at h
  unfold f_X9_firstFollowing
  obtain ⟨hv, h⟩ := gvm_spec h
  refine rb_vm 100 9 hS w0 hv rfl ?_
  exact slX9_firstFollowing_2 6000 _ _ _ _ 0  hS w0 h
/-! HouseholdVaultModel.leastOf(II)I by roles -/
def gjX9_leastOf_116 (self5 : Int → Int → GS → GO) (p0 p1 p2 p4 s0 : Int) (G : GS) : GO :=
  self5 s0 (w32 (p4 + 1)) G
set_option maxHeartbeats 4000000 in
theorem sjX9_leastOf_116 {ad : Nat → Nat → Nat} {Cn : Nat → Nat} {H : PH} {G G' : GS} {rr : Int} {fself5 : Int → Int → PH → RO} {self5 : Int → Int → GS → GO} {p0 p1 p2 p4 s0 b0 : Int} (ih5 : ∀ (ad : Nat → Nat → Nat) (Cn : Nat → Nat) (H : PH) (G : GS) (v3 v4 : Int) , SimA ad Cn H G → vrel ad Cn 100 b0 p0 → self5 v3 v4 G = some (rr, G') → RS ad Cn (fself5 v3 v4 H) 0 rr G') (hS : SimA ad Cn H G) (w0 : vrel ad Cn 100 b0 p0) (h : gjX9_leastOf_116 self5 p0 p1 p2 p4 s0 G = some (rr, G')) : RS ad Cn (jX9_leastOf_116 fself5 b0 p1 p2 p4 s0 H) 0 rr G' := by
  unfold gjX9_leastOf_116 at h
  unfold jX9_leastOf_116
  exact ih5 _ _ _ _ s0 (w32 (p4 + 1))  hS w0  h
def gjX9_leastOf_115 (self5 : Int → Int → GS → GO) (p0 p1 p2 p3 p4 : Int) (G : GS) : GO :=
  gjX9_leastOf_116 self5 p0 p1 p2 p4 p3 G
set_option maxHeartbeats 4000000 in
theorem sjX9_leastOf_115 {ad : Nat → Nat → Nat} {Cn : Nat → Nat} {H : PH} {G G' : GS} {rr : Int} {fself5 : Int → Int → PH → RO} {self5 : Int → Int → GS → GO} {p0 p1 p2 p3 p4 b0 : Int} (ih5 : ∀ (ad : Nat → Nat → Nat) (Cn : Nat → Nat) (H : PH) (G : GS) (v3 v4 : Int) , SimA ad Cn H G → vrel ad Cn 100 b0 p0 → self5 v3 v4 G = some (rr, G') → RS ad Cn (fself5 v3 v4 H) 0 rr G') (hS : SimA ad Cn H G) (w0 : vrel ad Cn 100 b0 p0) (h : gjX9_leastOf_115 self5 p0 p1 p2 p3 p4 G = some (rr, G')) : RS ad Cn (jX9_leastOf_115 fself5 b0 p1 p2 p3 p4 H) 0 rr G' := by
  unfold gjX9_leastOf_115 at h
  unfold jX9_leastOf_115
  exact sjX9_leastOf_116 ih5 hS w0 h
def gjX9_leastOf_110 (self5 : Int → Int → GS → GO) (p0 p1 p2 p4 : Int) (G : GS) : GO :=
  gjX9_leastOf_116 self5 p0 p1 p2 p4 p4 G
set_option maxHeartbeats 4000000 in
theorem sjX9_leastOf_110 {ad : Nat → Nat → Nat} {Cn : Nat → Nat} {H : PH} {G G' : GS} {rr : Int} {fself5 : Int → Int → PH → RO} {self5 : Int → Int → GS → GO} {p0 p1 p2 p4 b0 : Int} (ih5 : ∀ (ad : Nat → Nat → Nat) (Cn : Nat → Nat) (H : PH) (G : GS) (v3 v4 : Int) , SimA ad Cn H G → vrel ad Cn 100 b0 p0 → self5 v3 v4 G = some (rr, G') → RS ad Cn (fself5 v3 v4 H) 0 rr G') (hS : SimA ad Cn H G) (w0 : vrel ad Cn 100 b0 p0) (h : gjX9_leastOf_110 self5 p0 p1 p2 p4 G = some (rr, G')) : RS ad Cn (jX9_leastOf_110 fself5 b0 p1 p2 p4 H) 0 rr G' := by
  unfold gjX9_leastOf_110 at h
  unfold jX9_leastOf_110
  exact sjX9_leastOf_116 ih5 hS w0 h
def gjX9_leastOf_73 (self5 : Int → Int → GS → GO) (p0 p1 p2 p3 p4 s0 : Int) (G : GS) : GO :=
  (if s0 = 0 then gjX9_leastOf_115 self5 p0 p1 p2 p3 p4 G
  else (gl 100 G p0 42).bind fun x1 => (gl 142 G x1 p4).bind fun x2 => (if x2 ≠ 0 then gjX9_leastOf_115 self5 p0 p1 p2 p3 p4 G
  else (if p3 < 0 then gjX9_leastOf_110 self5 p0 p1 p2 p4 G
  else (gl 100 G p0 39).bind fun x3 => (gl 139 G x3 p4).bind fun x4 => (gl 100 G p0 39).bind fun x5 => (gl 139 G x5 p3).bind fun x6 => (if x4 ≥ x6 then gjX9_leastOf_115 self5 p0 p1 p2 p3 p4 G
  else gjX9_leastOf_110 self5 p0 p1 p2 p4 G))))
set_option maxHeartbeats 4000000 in
theorem sjX9_leastOf_73 {ad : Nat → Nat → Nat} {Cn : Nat → Nat} {H : PH} {G G' : GS} {rr : Int} {fself5 : Int → Int → PH → RO} {self5 : Int → Int → GS → GO} {p0 p1 p2 p3 p4 s0 b0 : Int} (ih5 : ∀ (ad : Nat → Nat → Nat) (Cn : Nat → Nat) (H : PH) (G : GS) (v3 v4 : Int) , SimA ad Cn H G → vrel ad Cn 100 b0 p0 → self5 v3 v4 G = some (rr, G') → RS ad Cn (fself5 v3 v4 H) 0 rr G') (hS : SimA ad Cn H G) (w0 : vrel ad Cn 100 b0 p0) (h : gjX9_leastOf_73 self5 p0 p1 p2 p3 p4 s0 G = some (rr, G')) : RS ad Cn (jX9_leastOf_73 fself5 b0 p1 p2 p3 p4 s0 H) 0 rr G' := by
  unfold gjX9_leastOf_73 at h
  unfold jX9_leastOf_73
  by_cases hc77 : s0 = 0
  · have h := iteT hc77 h
    refine rif_t hc77 ?_
    exact sjX9_leastOf_115 ih5 hS w0 h
  · have h := iteF hc77 h
    refine rif_f hc77 ?_
    obtain ⟨x1, ex1, h⟩ := bnd h
    refine rb_ldr 100 142 hS w0 ex1 rfl rfl ?_
    intro bx1 wx1
    obtain ⟨x2, ex2, h⟩ := bnd h
    refine rb_ld 142 hS wx1 ex2 rfl rfl ?_
    by_cases hc87 : x2 ≠ 0
    · have h := iteT hc87 h
      refine rif_t hc87 ?_
      exact sjX9_leastOf_115 ih5 hS w0 h
    · have h := iteF hc87 h
      refine rif_f hc87 ?_
      by_cases hc91 : p3 < 0
      · have h := iteT hc91 h
        refine rif_t hc91 ?_
        exact sjX9_leastOf_110 ih5 hS w0 h
      · have h := iteF hc91 h
        refine rif_f hc91 ?_
        obtain ⟨x3, ex3, h⟩ := bnd h
        refine rb_ldr 100 139 hS w0 ex3 rfl rfl ?_
        intro bx3 wx3
        obtain ⟨x4, ex4, h⟩ := bnd h
        refine rb_ld 139 hS wx3 ex4 rfl rfl ?_
        obtain ⟨x5, ex5, h⟩ := bnd h
        refine rb_ldr 100 139 hS w0 ex5 rfl rfl ?_
        intro bx5 wx5
        obtain ⟨x6, ex6, h⟩ := bnd h
        refine rb_ld 139 hS wx5 ex6 rfl rfl ?_
        by_cases hc107 : x4 ≥ x6
        · have h := iteT hc107 h
          refine rif_t hc107 ?_
          exact sjX9_leastOf_115 ih5 hS w0 h
        · have h := iteF hc107 h
          refine rif_f hc107 ?_
          exact sjX9_leastOf_110 ih5 hS w0 h
def gjX9_leastOf_68 (self5 : Int → Int → GS → GO) (p0 p1 p2 p3 p4 : Int) (G : GS) : GO :=
  gjX9_leastOf_73 self5 p0 p1 p2 p3 p4 1 G
set_option maxHeartbeats 4000000 in
theorem sjX9_leastOf_68 {ad : Nat → Nat → Nat} {Cn : Nat → Nat} {H : PH} {G G' : GS} {rr : Int} {fself5 : Int → Int → PH → RO} {self5 : Int → Int → GS → GO} {p0 p1 p2 p3 p4 b0 : Int} (ih5 : ∀ (ad : Nat → Nat → Nat) (Cn : Nat → Nat) (H : PH) (G : GS) (v3 v4 : Int) , SimA ad Cn H G → vrel ad Cn 100 b0 p0 → self5 v3 v4 G = some (rr, G') → RS ad Cn (fself5 v3 v4 H) 0 rr G') (hS : SimA ad Cn H G) (w0 : vrel ad Cn 100 b0 p0) (h : gjX9_leastOf_68 self5 p0 p1 p2 p3 p4 G = some (rr, G')) : RS ad Cn (jX9_leastOf_68 fself5 b0 p1 p2 p3 p4 H) 0 rr G' := by
  unfold gjX9_leastOf_68 at h
  unfold jX9_leastOf_68
  exact sjX9_leastOf_73 ih5 hS w0 h
def glX9_leastOf_5 (p0 p1 p2 : Int) (self5 : Int → Int → GS → GO) (p3 p4 : Int) (G : GS) : GO :=
  (gl 100 G p0 37).bind fun x1 => (gl 100 G p0 38).bind fun x2 => (if p4 ≥ (w32 (x1 * x2)) then some (p3, G)
  else (if p1 ≠ 0 then (if p1 = 2 then gjX9_leastOf_68 self5 p0 p1 p2 p3 p4 G
  else (gl 100 G p0 38).bind fun x3 => (if x3 = 0 then none else (gl 100 G p0 38).bind fun x4 => (if x4 = 0 then none else (if (Int.tmod p4 x3) ≠ (Int.tmod p2 x4) then gjX9_leastOf_73 self5 p0 p1 p2 p3 p4 0 G
  else gjX9_leastOf_68 self5 p0 p1 p2 p3 p4 G))))
  else (gl 100 G p0 38).bind fun x5 => (if x5 = 0 then none else (gl 100 G p0 38).bind fun x6 => (if x6 = 0 then none else (if (w32 (Int.tdiv p4 x5)) ≠ (w32 (Int.tdiv p2 x6)) then gjX9_leastOf_73 self5 p0 p1 p2 p3 p4 0 G
  else gjX9_leastOf_73 self5 p0 p1 p2 p3 p4 1 G)))))
set_option maxHeartbeats 4000000 in
theorem slX9_leastOf_5 {G' : GS} {rr : Int} {p0 p1 p2 b0 : Int} : ∀ (n : Nat) (ad : Nat → Nat → Nat) (Cn : Nat → Nat) (H : PH) (G : GS) (p3 p4 : Int) , SimA ad Cn H G → vrel ad Cn 100 b0 p0 → lh2 (glX9_leastOf_5 p0 p1 p2) n p3 p4 G = some (rr, G') → RS ad Cn (lq2 (lX9_leastOf_5 b0 p1 p2) n p3 p4 H) 0 rr G' := by
  intro n
  induction n with
  | zero => intro ad Cn H G p3 p4 hS w0 h; cases h
  | succ n ih5 =>
    intro ad Cn H G p3 p4 hS w0 h
    rw [lh2_s] at h
    rw [lq2_s]
    generalize lh2 (glX9_leastOf_5 p0 p1 p2) n = self5 at ih5 h
    generalize lq2 (lX9_leastOf_5 b0 p1 p2) n = fself5 at ih5 ⊢
    unfold glX9_leastOf_5 at h
    unfold lX9_leastOf_5
    obtain ⟨x1, ex1, h⟩ := bnd h
    refine rb_ld 100 hS w0 ex1 rfl rfl ?_
    obtain ⟨x2, ex2, h⟩ := bnd h
    refine rb_ld 100 hS w0 ex2 rfl rfl ?_
    by_cases hc16 : p4 ≥ (w32 (x1 * x2))
    · have h := iteT hc16 h
      refine rif_t hc16 ?_
      cases h
      exact rret hS rfl
    · have h := iteF hc16 h
      refine rif_f hc16 ?_
      by_cases hc20 : p1 ≠ 0
      · have h := iteT hc20 h
        refine rif_t hc20 ?_
        by_cases hc49 : p1 = 2
        · have h := iteT hc49 h
          refine rif_t hc49 ?_
          exact sjX9_leastOf_68 ih5 hS w0 h
        · have h := iteF hc49 h
          refine rif_f hc49 ?_
          obtain ⟨x3, ex3, h⟩ := bnd h
          refine rb_ld 100 hS w0 ex3 rfl rfl ?_
          by_cases hz58 : x3 = 0
          · rw [if_pos hz58] at h; cases h
          have h := iteF hz58 h
          refine rif_f hz58 ?_
          obtain ⟨x4, ex4, h⟩ := bnd h
          refine rb_ld 100 hS w0 ex4 rfl rfl ?_
          by_cases hz64 : x4 = 0
          · rw [if_pos hz64] at h; cases h
          have h := iteF hz64 h
          refine rif_f hz64 ?_
          by_cases hc65 : (Int.tmod p4 x3) ≠ (Int.tmod p2 x4)
          · have h := iteT hc65 h
            refine rif_t hc65 ?_
            exact sjX9_leastOf_73 ih5 hS w0 h
          · have h := iteF hc65 h
            refine rif_f hc65 ?_
            exact sjX9_leastOf_68 ih5 hS w0 h
      · have h := iteF hc20 h
        refine rif_f hc20 ?_
        obtain ⟨x5, ex5, h⟩ := bnd h
        refine rb_ld 100 hS w0 ex5 rfl rfl ?_
        by_cases hz29 : x5 = 0
        · rw [if_pos hz29] at h; cases h
        have h := iteF hz29 h
        refine rif_f hz29 ?_
        obtain ⟨x6, ex6, h⟩ := bnd h
        refine rb_ld 100 hS w0 ex6 rfl rfl ?_
        by_cases hz35 : x6 = 0
        · rw [if_pos hz35] at h; cases h
        have h := iteF hz35 h
        refine rif_f hz35 ?_
        by_cases hc36 : (w32 (Int.tdiv p4 x5)) ≠ (w32 (Int.tdiv p2 x6))
        · have h := iteT hc36 h
          refine rif_t hc36 ?_
          exact sjX9_leastOf_73 ih5 hS w0 h
        · have h := iteF hc36 h
          refine rif_f hc36 ?_
          exact sjX9_leastOf_73 ih5 hS w0 h
def g_X9_leastOf (a0 a1 a2 : Int) (G : GS) : GO := gvm a0 <|
  lh2 (glX9_leastOf_5 a0 a1 a2) 6000 (-1) 0 G
set_option maxHeartbeats 4000000 in
theorem s_X9_leastOf {ad : Nat → Nat → Nat} {Cn : Nat → Nat} {H : PH} {G G' : GS} {rr : Int} {a0 a1 a2 b0 : Int} (hS : SimA ad Cn H G) (w0 : vrel ad Cn 100 b0 a0) (h : g_X9_leastOf a0 a1 a2 G = some (rr, G')) : RS ad Cn (f_X9_leastOf b0 a1 a2 H) 0 rr G' := by
  unfold g_X9_leastOf at h
  unfold f_X9_leastOf
  obtain ⟨hv, h⟩ := gvm_spec h
  refine rb_vm 100 9 hS w0 hv rfl ?_
  exact slX9_leastOf_5 6000 _ _ _ _ (-1) 0  hS w0 h
