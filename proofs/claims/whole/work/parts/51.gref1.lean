/-! HouseholdVaultModel.missing(IIII)I by roles -/
def g_X9_missing (a0 a1 a2 a3 a4 : Int) (G : GS) : GO := gvm a0 <|
  (g_X9_isPlace a0 a1 a2 a3 G).bind fun z1 => (if z1.1 = 0 then some ((-1), z1.2)
  else (g_X9_in a4 1 5 z1.2).bind fun z2 => (if z2.1 ≠ 0 then (gl 100 z2.2 a0 3).bind fun x3 => (gl 103 z2.2 x3 a2).bind fun x4 => (if x4 > 0 then some ((-2), z2.2)
  else (gl 100 z2.2 a0 1).bind fun x5 => (gl 101 z2.2 x5 a2).bind fun x6 => (if x6 ≠ 5 then (gl 100 z2.2 a0 15).bind fun x7 => (g_X9_place a1 a2 (w32 (a3 + 1)) z2.2).bind fun z8 => (gs 115 z8.2 x7 z8.1 0).bind fun G9 => (gl 100 G9 a0 16).bind fun x10 => (g_X9_place a1 a2 (w32 (a3 + 1)) G9).bind fun z11 => (gs 116 z11.2 x10 z11.1 a4).bind fun G12 => some (1, G12)
  else some ((-2), z2.2)))
  else some ((-1), z2.2)))
set_option maxHeartbeats 4000000 in
theorem s_X9_missing {ad : Nat → Nat → Nat} {Cn : Nat → Nat} {H : PH} {G G' : GS} {rr : Int} {a0 a1 a2 a3 a4 b0 : Int} (hS : SimA ad Cn H G) (w0 : vrel ad Cn 100 b0 a0) (h : g_X9_missing a0 a1 a2 a3 a4 G = some (rr, G')) : RS ad Cn (f_X9_missing b0 a1 a2 a3 a4 H) 0 rr G' := by
  unfold g_X9_missing at h
  unfold f_X9_missing
  obtain ⟨hv, h⟩ := gvm_spec h
  refine rb_vm 100 9 hS w0 hv rfl ?_
  obtain ⟨z1, ez1, h⟩ := bnd h
  refine rb_call (ρc := 0) (s_X9_isPlace hS w0 ez1) ?_
  intro ad Cn bz1 H hS hx wz1
  dsimp only
  obtain rfl : bz1 = z1.1 := wz1
  have w0 := w0.mono hx
  by_cases hc7 : z1.1 = 0
  · have h := iteT hc7 h
    refine rif_t hc7 ?_
    cases h
    exact rret hS rfl
  · have h := iteF hc7 h
    refine rif_f hc7 ?_
    obtain ⟨z2, ez2, h⟩ := bnd h
    refine rb_call (ρc := 0) (s_X9_in hS ez2) ?_
    intro ad Cn bz2 H hS hx wz2
    dsimp only
    obtain rfl : bz2 = z2.1 := wz2
    have w0 := w0.mono hx
    by_cases hc20 : z2.1 ≠ 0
    · have h := iteT hc20 h
      refine rif_t hc20 ?_
      obtain ⟨x3, ex3, h⟩ := bnd h
      refine rb_ldr 100 103 hS w0 ex3 rfl rfl ?_
      intro bx3 wx3
      obtain ⟨x4, ex4, h⟩ := bnd h
      refine rb_ld 103 hS wx3 ex4 rfl rfl ?_
      by_cases hc31 : x4 > 0
      · have h := iteT hc31 h
        refine rif_t hc31 ?_
        cases h
        exact rret hS rfl
      · have h := iteF hc31 h
        refine rif_f hc31 ?_
        obtain ⟨x5, ex5, h⟩ := bnd h
        refine rb_ldr 100 101 hS w0 ex5 rfl rfl ?_
        intro bx5 wx5
        obtain ⟨x6, ex6, h⟩ := bnd h
        refine rb_ld 101 hS wx5 ex6 rfl rfl ?_
        by_cases hc41 : x6 ≠ 5
        · have h := iteT hc41 h
          refine rif_t hc41 ?_
          obtain ⟨x7, ex7, h⟩ := bnd h
          refine rb_ldr 100 115 hS w0 ex7 rfl rfl ?_
          intro bx7 wx7
          obtain ⟨z8, ez8, h⟩ := bnd h
          refine rb_call (ρc := 0) (s_X9_place hS ez8) ?_
          intro ad Cn bz8 H hS hx wz8
          dsimp only
          obtain rfl : bz8 = z8.1 := wz8
          have w0 := w0.mono hx
          have wx7 := wx7.mono hx
          obtain ⟨G9, eG9, h⟩ := bnd h
          refine rb_st 115 hS wx7 (show rrel _ _ 0 _ _ from rfl) eG9 rfl ?_
          intro H hS
          obtain ⟨x10, ex10, h⟩ := bnd h
          refine rb_ldr 100 116 hS w0 ex10 rfl rfl ?_
          intro bx10 wx10
          obtain ⟨z11, ez11, h⟩ := bnd h
          refine rb_call (ρc := 0) (s_X9_place hS ez11) ?_
          intro ad Cn bz11 H hS hx wz11
          dsimp only
          obtain rfl : bz11 = z11.1 := wz11
          have w0 := w0.mono hx
          have wx10 := wx10.mono hx
          obtain ⟨G12, eG12, h⟩ := bnd h
          refine rb_st 116 hS wx10 (show rrel _ _ 0 _ _ from rfl) eG12 rfl ?_
          intro H hS
          cases h
          exact rret hS rfl
        · have h := iteF hc41 h
          refine rif_f hc41 ?_
          cases h
          exact rret hS rfl
    · have h := iteF hc20 h
      refine rif_f hc20 ?_
      cases h
      exact rret hS rfl
/-! HouseholdVaultModel.told(IIJI)V by roles -/
def g_X9_told (a0 a1 a2 a3 a4 : Int) (G : GS) : GO := gvm a0 <|
  (gl 100 G a0 43).bind fun x1 => (gs 143 G x1 (w32 ((w32 (6 * a1)) + a2)) a3).bind fun G2 => (gl 100 G2 a0 44).bind fun x3 => (gs 144 G2 x3 (w32 ((w32 (6 * a1)) + a2)) a4).bind fun G4 => some (0, G4)
set_option maxHeartbeats 4000000 in
theorem s_X9_told {ad : Nat → Nat → Nat} {Cn : Nat → Nat} {H : PH} {G G' : GS} {rr : Int} {a0 a1 a2 a3 a4 b0 : Int} (hS : SimA ad Cn H G) (w0 : vrel ad Cn 100 b0 a0) (h : g_X9_told a0 a1 a2 a3 a4 G = some (rr, G')) : RS ad Cn (f_X9_told b0 a1 a2 a3 a4 H) 0 rr G' := by
  unfold g_X9_told at h
  unfold f_X9_told
  obtain ⟨hv, h⟩ := gvm_spec h
  refine rb_vm 100 9 hS w0 hv rfl ?_
  obtain ⟨x1, ex1, h⟩ := bnd h
  refine rb_ldr 100 143 hS w0 ex1 rfl rfl ?_
  intro bx1 wx1
  obtain ⟨G2, eG2, h⟩ := bnd h
  refine rb_st 143 hS wx1 (show rrel _ _ 0 _ _ from rfl) eG2 rfl ?_
  intro H hS
  obtain ⟨x3, ex3, h⟩ := bnd h
  refine rb_ldr 100 144 hS w0 ex3 rfl rfl ?_
  intro bx3 wx3
  obtain ⟨G4, eG4, h⟩ := bnd h
  refine rb_st 144 hS wx3 (show rrel _ _ 0 _ _ from rfl) eG4 rfl ?_
  intro H hS
  cases h
  exact rret hS rfl
/-! HouseholdVaultModel.mapAt(II)V by roles -/
def glX9_mapAt_41 (p0 p1 p2 p3 : Int) (self41 : Int → GS → GO) (p4 : Int) (G : GS) : GO :=
  (gl 100 G p0 13).bind fun x1 => (gl 113 G x1 p1).bind fun x2 => (if p4 ≥ (w32 ((w32 (8 * p1)) + x2)) then (g_X9_told p0 p1 p2 0 4 G).bind fun z3 => some (0, z3.2)
  else (gl 100 G p0 43).bind fun x4 => (gl 143 G x4 p3).bind fun x5 => (gl 100 G p0 10).bind fun x6 => (gl 110 G x6 p4).bind fun x7 => (gl 100 G p0 11).bind fun x8 => (gl 111 G x8 p4).bind fun x9 => (g_X9_in x5 x7 x9 G).bind fun z10 => (if z10.1 = 0 then self41 (w32 (p4 + 1)) z10.2
  else (gl 100 z10.2 p0 12).bind fun x11 => (gl 112 z10.2 x11 p4).bind fun x12 => (g_X9_told p0 p1 p2 x12 0 z10.2).bind fun z13 => some (0, z13.2)))
set_option maxHeartbeats 4000000 in
theorem slX9_mapAt_41 {G' : GS} {rr : Int} {p0 p1 p2 p3 b0 : Int} : ∀ (n : Nat) (ad : Nat → Nat → Nat) (Cn : Nat → Nat) (H : PH) (G : GS) (p4 : Int) , SimA ad Cn H G → vrel ad Cn 100 b0 p0 → lh1 (glX9_mapAt_41 p0 p1 p2 p3) n p4 G = some (rr, G') → RS ad Cn (lq1 (lX9_mapAt_41 b0 p1 p2 p3) n p4 H) 0 rr G' := by
  intro n
  induction n with
  | zero => intro ad Cn H G p4 hS w0 h; cases h
  | succ n ih41 =>
    intro ad Cn H G p4 hS w0 h
    rw [lh1_s] at h
    rw [lq1_s]
    generalize lh1 (glX9_mapAt_41 p0 p1 p2 p3) n = self41 at ih41 h
    generalize lq1 (lX9_mapAt_41 b0 p1 p2 p3) n = fself41 at ih41 ⊢
    unfold glX9_mapAt_41 at h
    unfold lX9_mapAt_41
    obtain ⟨x1, ex1, h⟩ := bnd h
    refine rb_ldr 100 113 hS w0 ex1 rfl rfl ?_
    intro bx1 wx1
    obtain ⟨x2, ex2, h⟩ := bnd h
    refine rb_ld 113 hS wx1 ex2 rfl rfl ?_
    by_cases hc54 : p4 ≥ (w32 ((w32 (8 * p1)) + x2))
    · have h := iteT hc54 h
      refine rif_t hc54 ?_
      obtain ⟨z3, ez3, h⟩ := bnd h
      refine rb_call (ρc := 0) (s_X9_told hS w0 ez3) ?_
      intro ad Cn bz3 H hS hx wz3
      dsimp only
      obtain rfl : bz3 = z3.1 := wz3
      have w0 := w0.mono hx
      cases h
      exact rret hS rfl
    · have h := iteF hc54 h
      refine rif_f hc54 ?_
      obtain ⟨x4, ex4, h⟩ := bnd h
      refine rb_ldr 100 143 hS w0 ex4 rfl rfl ?_
      intro bx4 wx4
      obtain ⟨x5, ex5, h⟩ := bnd h
      refine rb_ld 143 hS wx4 ex5 rfl rfl ?_
      obtain ⟨x6, ex6, h⟩ := bnd h
      refine rb_ldr 100 110 hS w0 ex6 rfl rfl ?_
      intro bx6 wx6
      obtain ⟨x7, ex7, h⟩ := bnd h
      refine rb_ld 110 hS wx6 ex7 rfl rfl ?_
      obtain ⟨x8, ex8, h⟩ := bnd h
      refine rb_ldr 100 111 hS w0 ex8 rfl rfl ?_
      intro bx8 wx8
      obtain ⟨x9, ex9, h⟩ := bnd h
      refine rb_ld 111 hS wx8 ex9 rfl rfl ?_
      obtain ⟨z10, ez10, h⟩ := bnd h
      refine rb_call (ρc := 0) (s_X9_in hS ez10) ?_
      intro ad Cn bz10 H hS hx wz10
      dsimp only
      obtain rfl : bz10 = z10.1 := wz10
      have w0 := w0.mono hx
      by_cases hc80 : z10.1 = 0
      · have h := iteT hc80 h
        refine rif_t hc80 ?_
        exact ih41 _ _ _ _ (w32 (p4 + 1))  hS w0  h
      · have h := iteF hc80 h
        refine rif_f hc80 ?_
        obtain ⟨x11, ex11, h⟩ := bnd h
        refine rb_ldr 100 112 hS w0 ex11 rfl rfl ?_
        intro bx11 wx11
        obtain ⟨x12, ex12, h⟩ := bnd h
        refine rb_ld 112 hS wx11 ex12 rfl rfl ?_
        obtain ⟨z13, ez13, h⟩ := bnd h
        refine rb_call (ρc := 0) (s_X9_told hS w0 ez13) ?_
        intro ad Cn bz13 H hS hx wz13
        dsimp only
        obtain rfl : bz13 = z13.1 := wz13
        have w0 := w0.mono hx
        cases h
        exact rret hS rfl
def g_X9_mapAt (a0 a1 a2 : Int) (G : GS) : GO := gvm a0 <|
  (gl 100 G a0 4).bind fun x1 => (gl 104 G x1 a1).bind fun x2 => (gl 100 G a0 44).bind fun x3 => (gl 144 G x3 (w32 ((w32 (6 * x2)) + a2))).bind fun x4 => (if x4 ≤ 0 then lh1 (glX9_mapAt_41 a0 a1 a2 (w32 ((w32 (6 * x2)) + a2))) 6000 (w32 (8 * a1)) G
  else (gl 100 G a0 44).bind fun x5 => (gl 144 G x5 (w32 ((w32 (6 * x2)) + a2))).bind fun x6 => (g_X9_told a0 a1 a2 0 x6 G).bind fun z7 => some (0, z7.2))
set_option maxHeartbeats 4000000 in
theorem s_X9_mapAt {ad : Nat → Nat → Nat} {Cn : Nat → Nat} {H : PH} {G G' : GS} {rr : Int} {a0 a1 a2 b0 : Int} (hS : SimA ad Cn H G) (w0 : vrel ad Cn 100 b0 a0) (h : g_X9_mapAt a0 a1 a2 G = some (rr, G')) : RS ad Cn (f_X9_mapAt b0 a1 a2 H) 0 rr G' := by
  unfold g_X9_mapAt at h
  unfold f_X9_mapAt
  obtain ⟨hv, h⟩ := gvm_spec h
  refine rb_vm 100 9 hS w0 hv rfl ?_
  obtain ⟨x1, ex1, h⟩ := bnd h
  refine rb_ldr 100 104 hS w0 ex1 rfl rfl ?_
  intro bx1 wx1
  obtain ⟨x2, ex2, h⟩ := bnd h
  refine rb_ld 104 hS wx1 ex2 rfl rfl ?_
  obtain ⟨x3, ex3, h⟩ := bnd h
  refine rb_ldr 100 144 hS w0 ex3 rfl rfl ?_
  intro bx3 wx3
  obtain ⟨x4, ex4, h⟩ := bnd h
  refine rb_ld 144 hS wx3 ex4 rfl rfl ?_
  by_cases hc18 : x4 ≤ 0
  · have h := iteT hc18 h
    refine rif_t hc18 ?_
    exact slX9_mapAt_41 6000 _ _ _ _ (w32 (8 * a1))  hS w0 h
  · have h := iteF hc18 h
    refine rif_f hc18 ?_
    obtain ⟨x5, ex5, h⟩ := bnd h
    refine rb_ldr 100 144 hS w0 ex5 rfl rfl ?_
    intro bx5 wx5
    obtain ⟨x6, ex6, h⟩ := bnd h
    refine rb_ld 144 hS wx5 ex6 rfl rfl ?_
    obtain ⟨z7, ez7, h⟩ := bnd h
    refine rb_call (ρc := 0) (s_X9_told hS w0 ez7) ?_
    intro ad Cn bz7 H hS hx wz7
    dsimp only
    obtain rfl : bz7 = z7.1 := wz7
    have w0 := w0.mono hx
    cases h
    exact rret hS rfl
/-! HouseholdVaultModel.makeAt(II)V by roles -/
def gjX9_makeAt_295 (s0 s1 s2 s3 s4 : Int) (G : GS) : GO :=
  (g_X9_told s0 s1 s2 s3 s4 G).bind fun z1 => some (0, z1.2)
set_option maxHeartbeats 4000000 in
theorem sjX9_makeAt_295 {ad : Nat → Nat → Nat} {Cn : Nat → Nat} {H : PH} {G G' : GS} {rr : Int} {s0 s1 s2 s3 s4 bs0 : Int} (hS : SimA ad Cn H G) (ws0 : vrel ad Cn 100 bs0 s0) (h : gjX9_makeAt_295 s0 s1 s2 s3 s4 G = some (rr, G')) : RS ad Cn (jX9_makeAt_295 bs0 s1 s2 s3 s4 H) 0 rr G' := by
  unfold gjX9_makeAt_295 at h
  unfold jX9_makeAt_295
  obtain ⟨z1, ez1, h⟩ := bnd h
  refine rb_call (ρc := 0) (s_X9_told hS ws0 ez1) ?_
  intro ad Cn bz1 H hS hx wz1
  dsimp only
  obtain rfl : bz1 = z1.1 := wz1
  cases h
  exact rret hS rfl
def gjX9_makeAt_285 (p7 s0 s1 s2 s3 : Int) (G : GS) : GO :=
  (if p7 = 0 then gjX9_makeAt_295 s0 s1 s2 s3 0 G
  else gjX9_makeAt_295 s0 s1 s2 s3 5 G)
set_option maxHeartbeats 4000000 in
theorem sjX9_makeAt_285 {ad : Nat → Nat → Nat} {Cn : Nat → Nat} {H : PH} {G G' : GS} {rr : Int} {p7 s0 s1 s2 s3 bs0 : Int} (hS : SimA ad Cn H G) (ws0 : vrel ad Cn 100 bs0 s0) (h : gjX9_makeAt_285 p7 s0 s1 s2 s3 G = some (rr, G')) : RS ad Cn (jX9_makeAt_285 p7 bs0 s1 s2 s3 H) 0 rr G' := by
  unfold gjX9_makeAt_285 at h
  unfold jX9_makeAt_285
  by_cases hc287 : p7 = 0
  · have h := iteT hc287 h
    refine rif_t hc287 ?_
    exact sjX9_makeAt_295 hS ws0 h
  · have h := iteF hc287 h
    refine rif_f hc287 ?_
    exact sjX9_makeAt_295 hS ws0 h
def gjX9_makeAt_269 (p0 p2 p5 s0 : Int) (G : GS) : GO :=
  (if s0 = 0 then gjX9_makeAt_285 s0 p0 p2 0 p5 G
  else gjX9_makeAt_285 s0 p0 p2 0 0 G)
set_option maxHeartbeats 4000000 in
theorem sjX9_makeAt_269 {ad : Nat → Nat → Nat} {Cn : Nat → Nat} {H : PH} {G G' : GS} {rr : Int} {p0 p2 p5 s0 b0 : Int} (hS : SimA ad Cn H G) (w0 : vrel ad Cn 100 b0 p0) (h : gjX9_makeAt_269 p0 p2 p5 s0 G = some (rr, G')) : RS ad Cn (jX9_makeAt_269 b0 p2 p5 s0 H) 0 rr G' := by
  unfold gjX9_makeAt_269 at h
  unfold jX9_makeAt_269
  by_cases hc276 : s0 = 0
  · have h := iteT hc276 h
    refine rif_t hc276 ?_
    exact sjX9_makeAt_285 hS w0 h
  · have h := iteF hc276 h
    refine rif_f hc276 ?_
    exact sjX9_makeAt_285 hS w0 h
def gjX9_makeAt_264 (p0 p2 p5 : Int) (G : GS) : GO :=
  gjX9_makeAt_269 p0 p2 p5 1 G
set_option maxHeartbeats 4000000 in
theorem sjX9_makeAt_264 {ad : Nat → Nat → Nat} {Cn : Nat → Nat} {H : PH} {G G' : GS} {rr : Int} {p0 p2 p5 b0 : Int} (hS : SimA ad Cn H G) (w0 : vrel ad Cn 100 b0 p0) (h : gjX9_makeAt_264 p0 p2 p5 G = some (rr, G')) : RS ad Cn (jX9_makeAt_264 b0 p2 p5 H) 0 rr G' := by
  unfold gjX9_makeAt_264 at h
  unfold jX9_makeAt_264
  exact sjX9_makeAt_269 hS w0 h
def gjX9_makeAt_268 (p0 p2 p5 : Int) (G : GS) : GO :=
  gjX9_makeAt_269 p0 p2 p5 0 G
set_option maxHeartbeats 4000000 in
theorem sjX9_makeAt_268 {ad : Nat → Nat → Nat} {Cn : Nat → Nat} {H : PH} {G G' : GS} {rr : Int} {p0 p2 p5 b0 : Int} (hS : SimA ad Cn H G) (w0 : vrel ad Cn 100 b0 p0) (h : gjX9_makeAt_268 p0 p2 p5 G = some (rr, G')) : RS ad Cn (jX9_makeAt_268 b0 p2 p5 H) 0 rr G' := by
  unfold gjX9_makeAt_268 at h
  unfold jX9_makeAt_268
  exact sjX9_makeAt_269 hS w0 h
def gjX9_makeAt_210 (self111 : Int → Int → Int → GS → GO) (p0 p1 p2 p3 p4 p5 p7 : Int) (G : GS) : GO :=
  self111 p4 p5 (w32 (p7 + 1)) G
set_option maxHeartbeats 4000000 in
theorem sjX9_makeAt_210 {ad : Nat → Nat → Nat} {Cn : Nat → Nat} {H : PH} {G G' : GS} {rr : Int} {fself111 : Int → Int → Int → PH → RO} {self111 : Int → Int → Int → GS → GO} {p0 p1 p2 p3 p4 p5 p7 b0 : Int} (ih111 : ∀ (ad : Nat → Nat → Nat) (Cn : Nat → Nat) (H : PH) (G : GS) (v4 v5 v7 : Int) , SimA ad Cn H G → vrel ad Cn 100 b0 p0 → self111 v4 v5 v7 G = some (rr, G') → RS ad Cn (fself111 v4 v5 v7 H) 0 rr G') (hS : SimA ad Cn H G) (w0 : vrel ad Cn 100 b0 p0) (h : gjX9_makeAt_210 self111 p0 p1 p2 p3 p4 p5 p7 G = some (rr, G')) : RS ad Cn (jX9_makeAt_210 fself111 b0 p1 p2 p3 p4 p5 p7 H) 0 rr G' := by
  unfold gjX9_makeAt_210 at h
  unfold jX9_makeAt_210
  exact ih111 _ _ _ _ p4 p5 (w32 (p7 + 1))  hS w0  h
def gjX9_makeAt_159 (self111 : Int → Int → Int → GS → GO) (p0 p1 p2 p3 p5 p7 s0 s1 : Int) (G : GS) : GO :=
  gjX9_makeAt_210 self111 p0 p1 p2 p3 (w32 (s0 + s1)) p5 p7 G
set_option maxHeartbeats 4000000 in
theorem sjX9_makeAt_159 {ad : Nat → Nat → Nat} {Cn : Nat → Nat} {H : PH} {G G' : GS} {rr : Int} {fself111 : Int → Int → Int → PH → RO} {self111 : Int → Int → Int → GS → GO} {p0 p1 p2 p3 p5 p7 s0 s1 b0 : Int} (ih111 : ∀ (ad : Nat → Nat → Nat) (Cn : Nat → Nat) (H : PH) (G : GS) (v4 v5 v7 : Int) , SimA ad Cn H G → vrel ad Cn 100 b0 p0 → self111 v4 v5 v7 G = some (rr, G') → RS ad Cn (fself111 v4 v5 v7 H) 0 rr G') (hS : SimA ad Cn H G) (w0 : vrel ad Cn 100 b0 p0) (h : gjX9_makeAt_159 self111 p0 p1 p2 p3 p5 p7 s0 s1 G = some (rr, G')) : RS ad Cn (jX9_makeAt_159 fself111 b0 p1 p2 p3 p5 p7 s0 s1 H) 0 rr G' := by
  unfold gjX9_makeAt_159 at h
  unfold jX9_makeAt_159
  exact sjX9_makeAt_210 ih111 hS w0 h
def glX9_makeAt_111 (p0 p1 p2 p3 : Int) (self111 : Int → Int → Int → GS → GO) (p4 p5 p7 : Int) (G : GS) : GO :=
  (g_X9_persons p0 p1 p3 G).bind fun z1 => (if p7 > z1.1 then (gl 100 z1.2 p0 3).bind fun x2 => (gl 103 z1.2 x2 p2).bind fun x3 => (if x3 ≠ 2 then (if p4 = 0 then gjX9_makeAt_264 p0 p2 p5 z1.2
  else (gl 100 z1.2 p0 1).bind fun x4 => (gl 101 z1.2 x4 p2).bind fun x5 => (if x5 ≠ 2 then gjX9_makeAt_268 p0 p2 p5 z1.2
  else (if (lc p5 (w32 p5)) = 0 then gjX9_makeAt_268 p0 p2 p5 z1.2
  else gjX9_makeAt_264 p0 p2 p5 z1.2)))
  else (g_X9_told p0 p2 0 p4 0 z1.2).bind fun z6 => some (0, z6.2))
  else (gl 100 z1.2 p0 3).bind fun x7 => (gl 103 z1.2 x7 p2).bind fun x8 => (if x8 ≠ 2 then (gl 100 z1.2 p0 44).bind fun x9 => (gl 100 z1.2 p0 4).bind fun x10 => (gl 104 z1.2 x10 p2).bind fun x11 => (gl 144 z1.2 x9 (w32 ((w32 (6 * x11)) + p7))).bind fun x12 => (if x12 ≠ 0 then gjX9_makeAt_210 self111 p0 p1 p2 p3 p4 p5 p7 z1.2
  else (gl 100 z1.2 p0 43).bind fun x13 => (gl 100 z1.2 p0 4).bind fun x14 => (gl 104 z1.2 x14 p2).bind fun x15 => (gl 143 z1.2 x13 (w32 ((w32 (6 * x15)) + p7))).bind fun x16 => gjX9_makeAt_210 self111 p0 p1 p2 p3 (w32 (p4 + 1)) (w64 (p5 + x16)) p7 z1.2)
  else (gl 100 z1.2 p0 45).bind fun x17 => (gl 100 z1.2 p0 5).bind fun x18 => (gl 105 z1.2 x18 p2).bind fun x19 => (gl 145 z1.2 x17 (w32 ((w32 (6 * x19)) + p7))).bind fun x20 => (if x20 = 0 then gjX9_makeAt_159 self111 p0 p1 p2 p3 p5 p7 p4 0 z1.2
  else gjX9_makeAt_159 self111 p0 p1 p2 p3 p5 p7 p4 1 z1.2)))
set_option maxHeartbeats 4000000 in
theorem slX9_makeAt_111 {G' : GS} {rr : Int} {p0 p1 p2 p3 b0 : Int} : ∀ (n : Nat) (ad : Nat → Nat → Nat) (Cn : Nat → Nat) (H : PH) (G : GS) (p4 p5 p7 : Int) , SimA ad Cn H G → vrel ad Cn 100 b0 p0 → lh3 (glX9_makeAt_111 p0 p1 p2 p3) n p4 p5 p7 G = some (rr, G') → RS ad Cn (lq3 (lX9_makeAt_111 b0 p1 p2 p3) n p4 p5 p7 H) 0 rr G' := by
  intro n
  induction n with
  | zero => intro ad Cn H G p4 p5 p7 hS w0 h; cases h
  | succ n ih111 =>
    intro ad Cn H G p4 p5 p7 hS w0 h
    rw [lh3_s] at h
    rw [lq3_s]
    generalize lh3 (glX9_makeAt_111 p0 p1 p2 p3) n = self111 at ih111 h
    generalize lq3 (lX9_makeAt_111 b0 p1 p2 p3) n = fself111 at ih111 ⊢
    unfold glX9_makeAt_111 at h
    unfold lX9_makeAt_111
    obtain ⟨z1, ez1, h⟩ := bnd h
    refine rb_call (ρc := 0) (s_X9_persons hS w0 ez1) ?_
    intro ad Cn bz1 H hS hx wz1
    dsimp only
    obtain rfl : bz1 = z1.1 := wz1
    have w0 := w0.mono hx
    by_cases hc119 : p7 > z1.1
    · have h := iteT hc119 h
      refine rif_t hc119 ?_
      obtain ⟨x2, ex2, h⟩ := bnd h
      refine rb_ldr 100 103 hS w0 ex2 rfl rfl ?_
      intro bx2 wx2
      obtain ⟨x3, ex3, h⟩ := bnd h
      refine rb_ld 103 hS wx2 ex3 rfl rfl ?_
      by_cases hc223 : x3 ≠ 2
      · have h := iteT hc223 h
        refine rif_t hc223 ?_
        by_cases hc241 : p4 = 0
        · have h := iteT hc241 h
          refine rif_t hc241 ?_
          exact sjX9_makeAt_264 hS w0 h
        · have h := iteF hc241 h
          refine rif_f hc241 ?_
          obtain ⟨x4, ex4, h⟩ := bnd h
          refine rb_ldr 100 101 hS w0 ex4 rfl rfl ?_
          intro bx4 wx4
          obtain ⟨x5, ex5, h⟩ := bnd h
          refine rb_ld 101 hS wx4 ex5 rfl rfl ?_
          by_cases hc251 : x5 ≠ 2
          · have h := iteT hc251 h
            refine rif_t hc251 ?_
            exact sjX9_makeAt_268 hS w0 h
          · have h := iteF hc251 h
            refine rif_f hc251 ?_
            by_cases hc261 : (lc p5 (w32 p5)) = 0
            · have h := iteT hc261 h
              refine rif_t hc261 ?_
              exact sjX9_makeAt_268 hS w0 h
            · have h := iteF hc261 h
              refine rif_f hc261 ?_
              exact sjX9_makeAt_264 hS w0 h
      · have h := iteF hc223 h
        refine rif_f hc223 ?_
        obtain ⟨z6, ez6, h⟩ := bnd h
        refine rb_call (ρc := 0) (s_X9_told hS w0 ez6) ?_
        intro ad Cn bz6 H hS hx wz6
        dsimp only
        obtain rfl : bz6 = z6.1 := wz6
        have w0 := w0.mono hx
        cases h
        exact rret hS rfl
    · have h := iteF hc119 h
      refine rif_f hc119 ?_
      obtain ⟨x7, ex7, h⟩ := bnd h
      refine rb_ldr 100 103 hS w0 ex7 rfl rfl ?_
      intro bx7 wx7
      obtain ⟨x8, ex8, h⟩ := bnd h
      refine rb_ld 103 hS wx7 ex8 rfl rfl ?_
      by_cases hc129 : x8 ≠ 2
      · have h := iteT hc129 h
        refine rif_t hc129 ?_
        obtain ⟨x9, ex9, h⟩ := bnd h
        refine rb_ldr 100 144 hS w0 ex9 rfl rfl ?_
        intro bx9 wx9
        obtain ⟨x10, ex10, h⟩ := bnd h
        refine rb_ldr 100 104 hS w0 ex10 rfl rfl ?_
        intro bx10 wx10
        obtain ⟨x11, ex11, h⟩ := bnd h
        refine rb_ld 104 hS wx10 ex11 rfl rfl ?_
        obtain ⟨x12, ex12, h⟩ := bnd h
        refine rb_ld 144 hS wx9 ex12 rfl rfl ?_
        by_cases hc182 : x12 ≠ 0
        · have h := iteT hc182 h
          refine rif_t hc182 ?_
          exact sjX9_makeAt_210 ih111 hS w0 h
        · have h := iteF hc182 h
          refine rif_f hc182 ?_
          obtain ⟨x13, ex13, h⟩ := bnd h
          refine rb_ldr 100 143 hS w0 ex13 rfl rfl ?_
          intro bx13 wx13
          obtain ⟨x14, ex14, h⟩ := bnd h
          refine rb_ldr 100 104 hS w0 ex14 rfl rfl ?_
          intro bx14 wx14
          obtain ⟨x15, ex15, h⟩ := bnd h
          refine rb_ld 104 hS wx14 ex15 rfl rfl ?_
          obtain ⟨x16, ex16, h⟩ := bnd h
          refine rb_ld 143 hS wx13 ex16 rfl rfl ?_
          exact sjX9_makeAt_210 ih111 hS w0 h
      · have h := iteF hc129 h
        refine rif_f hc129 ?_
        obtain ⟨x17, ex17, h⟩ := bnd h
        refine rb_ldr 100 145 hS w0 ex17 rfl rfl ?_
        intro bx17 wx17
        obtain ⟨x18, ex18, h⟩ := bnd h
        refine rb_ldr 100 105 hS w0 ex18 rfl rfl ?_
        intro bx18 wx18
        obtain ⟨x19, ex19, h⟩ := bnd h
        refine rb_ld 105 hS wx18 ex19 rfl rfl ?_
        obtain ⟨x20, ex20, h⟩ := bnd h
        refine rb_ld 145 hS wx17 ex20 rfl rfl ?_
        by_cases hc151 : x20 = 0
        · have h := iteT hc151 h
          refine rif_t hc151 ?_
          exact sjX9_makeAt_159 ih111 hS w0 h
        · have h := iteF hc151 h
          refine rif_f hc151 ?_
          exact sjX9_makeAt_159 ih111 hS w0 h
def gjX9_makeAt_101 (p0 p1 p2 s0 : Int) (G : GS) : GO :=
  lh3 (glX9_makeAt_111 p0 p1 p2 s0) 6000 0 0 1 G
set_option maxHeartbeats 4000000 in
theorem sjX9_makeAt_101 {ad : Nat → Nat → Nat} {Cn : Nat → Nat} {H : PH} {G G' : GS} {rr : Int} {p0 p1 p2 s0 b0 : Int} (hS : SimA ad Cn H G) (w0 : vrel ad Cn 100 b0 p0) (h : gjX9_makeAt_101 p0 p1 p2 s0 G = some (rr, G')) : RS ad Cn (jX9_makeAt_101 b0 p1 p2 s0 H) 0 rr G' := by
  unfold gjX9_makeAt_101 at h
  unfold jX9_makeAt_101
  exact slX9_makeAt_111 6000 _ _ _ _ 0 0 1  hS w0 h
def glX9_makeAt_51 (p0 p2 p3 : Int) (self51 : Int → GS → GO) (p4 : Int) (G : GS) : GO :=
  (if p4 > p3 then some (0, G)
  else (g_X9_mapAt p0 p2 p4 G).bind fun z1 => self51 (w32 (p4 + 1)) z1.2)
set_option maxHeartbeats 4000000 in
theorem slX9_makeAt_51 {G' : GS} {rr : Int} {p0 p2 p3 b0 : Int} : ∀ (n : Nat) (ad : Nat → Nat → Nat) (Cn : Nat → Nat) (H : PH) (G : GS) (p4 : Int) , SimA ad Cn H G → vrel ad Cn 100 b0 p0 → lh1 (glX9_makeAt_51 p0 p2 p3) n p4 G = some (rr, G') → RS ad Cn (lq1 (lX9_makeAt_51 b0 p2 p3) n p4 H) 0 rr G' := by
  intro n
  induction n with
  | zero => intro ad Cn H G p4 hS w0 h; cases h
  | succ n ih51 =>
    intro ad Cn H G p4 hS w0 h
    rw [lh1_s] at h
    rw [lq1_s]
    generalize lh1 (glX9_makeAt_51 p0 p2 p3) n = self51 at ih51 h
    generalize lq1 (lX9_makeAt_51 b0 p2 p3) n = fself51 at ih51 ⊢
    unfold glX9_makeAt_51 at h
    unfold lX9_makeAt_51
    by_cases hc54 : p4 > p3
    · have h := iteT hc54 h
      refine rif_t hc54 ?_
      cases h
      exact rret hS rfl
    · have h := iteF hc54 h
      refine rif_f hc54 ?_
      obtain ⟨z1, ez1, h⟩ := bnd h
      refine rb_call (ρc := 0) (s_X9_mapAt hS w0 ez1) ?_
      intro ad Cn bz1 H hS hx wz1
      dsimp only
      obtain rfl : bz1 = z1.1 := wz1
      have w0 := w0.mono hx
      exact ih51 _ _ _ _ (w32 (p4 + 1))  hS w0  h
def gjX9_makeAt_49 (p0 p2 p3 s0 : Int) (G : GS) : GO :=
  lh1 (glX9_makeAt_51 p0 p2 p3) 6000 s0 G
set_option maxHeartbeats 4000000 in
theorem sjX9_makeAt_49 {ad : Nat → Nat → Nat} {Cn : Nat → Nat} {H : PH} {G G' : GS} {rr : Int} {p0 p2 p3 s0 b0 : Int} (hS : SimA ad Cn H G) (w0 : vrel ad Cn 100 b0 p0) (h : gjX9_makeAt_49 p0 p2 p3 s0 G = some (rr, G')) : RS ad Cn (jX9_makeAt_49 b0 p2 p3 s0 H) 0 rr G' := by
  unfold gjX9_makeAt_49 at h
  unfold jX9_makeAt_49
  exact slX9_makeAt_51 6000 _ _ _ _ s0  hS w0 h
def gjX9_makeAt_34 (p0 p2 s0 : Int) (G : GS) : GO :=
  (gl 100 G p0 2).bind fun x1 => (gl 102 G x1 p2).bind fun x2 => (if x2 ≥ 0 then gjX9_makeAt_49 p0 p2 s0 1 G
  else gjX9_makeAt_49 p0 p2 s0 0 G)
set_option maxHeartbeats 4000000 in
theorem sjX9_makeAt_34 {ad : Nat → Nat → Nat} {Cn : Nat → Nat} {H : PH} {G G' : GS} {rr : Int} {p0 p2 s0 b0 : Int} (hS : SimA ad Cn H G) (w0 : vrel ad Cn 100 b0 p0) (h : gjX9_makeAt_34 p0 p2 s0 G = some (rr, G')) : RS ad Cn (jX9_makeAt_34 b0 p2 s0 H) 0 rr G' := by
  unfold gjX9_makeAt_34 at h
  unfold jX9_makeAt_34
  obtain ⟨x1, ex1, h⟩ := bnd h
  refine rb_ldr 100 102 hS w0 ex1 rfl rfl ?_
  intro bx1 wx1
  obtain ⟨x2, ex2, h⟩ := bnd h
  refine rb_ld 102 hS wx1 ex2 rfl rfl ?_
  by_cases hc41 : x2 ≥ 0
  · have h := iteT hc41 h
    refine rif_t hc41 ?_
    exact sjX9_makeAt_49 hS w0 h
  · have h := iteF hc41 h
    refine rif_f hc41 ?_
    exact sjX9_makeAt_49 hS w0 h
def g_X9_makeAt (a0 a1 a2 : Int) (G : GS) : GO := gvm a0 <|
  (gl 100 G a0 3).bind fun x1 => (gl 103 G x1 a2).bind fun x2 => (if x2 ≠ 1 then (gl 100 G a0 3).bind fun x3 => (gl 103 G x3 a2).bind fun x4 => (if x4 ≠ 2 then (gl 100 G a0 2).bind fun x5 => (gl 100 G a0 4).bind fun x6 => (gl 104 G x6 a2).bind fun x7 => (gl 102 G x5 x7).bind fun x8 => gjX9_makeAt_101 a0 a1 a2 x8 G
  else (gl 100 G a0 4).bind fun x9 => (gl 104 G x9 a2).bind fun x10 => gjX9_makeAt_101 a0 a1 a2 x10 G)
  else (gl 100 G a0 2).bind fun x11 => (gl 102 G x11 a2).bind fun x12 => (if x12 ≥ 0 then (gl 100 G a0 2).bind fun x13 => (gl 102 G x13 a2).bind fun x14 => (g_X9_persons a0 a1 x14 G).bind fun z15 => gjX9_makeAt_34 a0 a2 z15.1 z15.2
  else gjX9_makeAt_34 a0 a2 0 G))
set_option maxHeartbeats 4000000 in
theorem s_X9_makeAt {ad : Nat → Nat → Nat} {Cn : Nat → Nat} {H : PH} {G G' : GS} {rr : Int} {a0 a1 a2 b0 : Int} (hS : SimA ad Cn H G) (w0 : vrel ad Cn 100 b0 a0) (h : g_X9_makeAt a0 a1 a2 G = some (rr, G')) : RS ad Cn (f_X9_makeAt b0 a1 a2 H) 0 rr G' := by
  unfold g_X9_makeAt at h
  unfold f_X9_makeAt
  obtain ⟨hv, h⟩ := gvm_spec h
  refine rb_vm 100 9 hS w0 hv rfl ?_
  obtain ⟨x1, ex1, h⟩ := bnd h
  refine rb_ldr 100 103 hS w0 ex1 rfl rfl ?_
  intro bx1 wx1
  obtain ⟨x2, ex2, h⟩ := bnd h
  refine rb_ld 103 hS wx1 ex2 rfl rfl ?_
  by_cases hc7 : x2 ≠ 1
  · have h := iteT hc7 h
    refine rif_t hc7 ?_
    obtain ⟨x3, ex3, h⟩ := bnd h
    refine rb_ldr 100 103 hS w0 ex3 rfl rfl ?_
    intro bx3 wx3
    obtain ⟨x4, ex4, h⟩ := bnd h
    refine rb_ld 103 hS wx3 ex4 rfl rfl ?_
    by_cases hc78 : x4 ≠ 2
    · have h := iteT hc78 h
      refine rif_t hc78 ?_
      obtain ⟨x5, ex5, h⟩ := bnd h
      refine rb_ldr 100 102 hS w0 ex5 rfl rfl ?_
      intro bx5 wx5
      obtain ⟨x6, ex6, h⟩ := bnd h
      refine rb_ldr 100 104 hS w0 ex6 rfl rfl ?_
      intro bx6 wx6
      obtain ⟨x7, ex7, h⟩ := bnd h
      refine rb_ld 104 hS wx6 ex7 rfl rfl ?_
      obtain ⟨x8, ex8, h⟩ := bnd h
      refine rb_ld 102 hS wx5 ex8 rfl rfl ?_
      exact sjX9_makeAt_101 hS w0 h
    · have h := iteF hc78 h
      refine rif_f hc78 ?_
      obtain ⟨x9, ex9, h⟩ := bnd h
      refine rb_ldr 100 104 hS w0 ex9 rfl rfl ?_
      intro bx9 wx9
      obtain ⟨x10, ex10, h⟩ := bnd h
      refine rb_ld 104 hS wx9 ex10 rfl rfl ?_
      exact sjX9_makeAt_101 hS w0 h
  · have h := iteF hc7 h
    refine rif_f hc7 ?_
    obtain ⟨x11, ex11, h⟩ := bnd h
    refine rb_ldr 100 102 hS w0 ex11 rfl rfl ?_
    intro bx11 wx11
    obtain ⟨x12, ex12, h⟩ := bnd h
    refine rb_ld 102 hS wx11 ex12 rfl rfl ?_
    by_cases hc16 : x12 ≥ 0
    · have h := iteT hc16 h
      refine rif_t hc16 ?_
      obtain ⟨x13, ex13, h⟩ := bnd h
      refine rb_ldr 100 102 hS w0 ex13 rfl rfl ?_
      intro bx13 wx13
      obtain ⟨x14, ex14, h⟩ := bnd h
      refine rb_ld 102 hS wx13 ex14 rfl rfl ?_
      obtain ⟨z15, ez15, h⟩ := bnd h
      refine rb_call (ρc := 0) (s_X9_persons hS w0 ez15) ?_
      intro ad Cn bz15 H hS hx wz15
      dsimp only
      obtain rfl : bz15 = z15.1 := wz15
      have w0 := w0.mono hx
      exact sjX9_makeAt_34 hS w0 h
    · have h := iteF hc16 h
      refine rif_f hc16 ?_
      exact sjX9_makeAt_34 hS w0 h
/-! HouseholdVaultModel.isAsked(II)Z by roles -/
def g_X9_isAsked (a0 a1 a2 : Int) (G : GS) : GO := gvm a0 <|
  (gl 100 G a0 21).bind fun x1 => (gl 121 G x1 a1).bind fun x2 => (gl 100 G a0 20).bind fun x3 => (gl 120 G x3 a1).bind fun x4 => (if x4 ≠ 3 then (gl 100 G a0 43).bind fun x5 => (gl 143 G x5 (w32 ((w32 (6 * x2)) + a2))).bind fun x6 => (gl 100 G a0 44).bind fun x7 => (gl 144 G x7 (w32 ((w32 (6 * x2)) + a2))).bind fun x8 => (if x8 ≤ 0 then (gl 100 G a0 1).bind fun x9 => (gl 101 G x9 x2).bind fun x10 => (if x10 ≠ 1 then (gl 100 G a0 20).bind fun x11 => (gl 120 G x11 a1).bind fun x12 => (if x12 ≠ 0 then (gl 100 G a0 20).bind fun x13 => (gl 120 G x13 a1).bind fun x14 => (if x14 ≠ 1 then (gl 100 G a0 22).bind fun x15 => (gl 122 G x15 a1).bind fun x16 => (if (lc x6 x16) ≤ 0 then some (0, G)
  else some (1, G))
  else (gl 100 G a0 22).bind fun x17 => (gl 122 G x17 a1).bind fun x18 => (if (lc x6 x18) ≥ 0 then some (0, G)
  else some (1, G)))
  else (gl 100 G a0 22).bind fun x19 => (gl 122 G x19 a1).bind fun x20 => (if (lc x6 x20) ≠ 0 then some (0, G)
  else some (1, G)))
  else (gl 100 G a0 22).bind fun x21 => (gl 122 G x21 a1).bind fun x22 => (if (lc (l_and (l_shr x6 (w32 x22)) 1) 1) ≠ 0 then some (0, G)
  else some (1, G)))
  else some (0, G))
  else (gl 100 G a0 44).bind fun x23 => (gl 144 G x23 (w32 ((w32 (6 * x2)) + a2))).bind fun x24 => (if x24 ≤ 0 then some (0, G)
  else some (1, G)))
set_option maxHeartbeats 4000000 in
theorem s_X9_isAsked {ad : Nat → Nat → Nat} {Cn : Nat → Nat} {H : PH} {G G' : GS} {rr : Int} {a0 a1 a2 b0 : Int} (hS : SimA ad Cn H G) (w0 : vrel ad Cn 100 b0 a0) (h : g_X9_isAsked a0 a1 a2 G = some (rr, G')) : RS ad Cn (f_X9_isAsked b0 a1 a2 H) 0 rr G' := by
  unfold g_X9_isAsked at h
  unfold f_X9_isAsked
  obtain ⟨hv, h⟩ := gvm_spec h
  refine rb_vm 100 9 hS w0 hv rfl ?_
  obtain ⟨x1, ex1, h⟩ := bnd h
  refine rb_ldr 100 121 hS w0 ex1 rfl rfl ?_
  intro bx1 wx1
  obtain ⟨x2, ex2, h⟩ := bnd h
  refine rb_ld 121 hS wx1 ex2 rfl rfl ?_
  obtain ⟨x3, ex3, h⟩ := bnd h
  refine rb_ldr 100 120 hS w0 ex3 rfl rfl ?_
  intro bx3 wx3
  obtain ⟨x4, ex4, h⟩ := bnd h
  refine rb_ld 120 hS wx3 ex4 rfl rfl ?_
  by_cases hc22 : x4 ≠ 3
  · have h := iteT hc22 h
    refine rif_t hc22 ?_
    obtain ⟨x5, ex5, h⟩ := bnd h
    refine rb_ldr 100 143 hS w0 ex5 rfl rfl ?_
    intro bx5 wx5
    obtain ⟨x6, ex6, h⟩ := bnd h
    refine rb_ld 143 hS wx5 ex6 rfl rfl ?_
    obtain ⟨x7, ex7, h⟩ := bnd h
    refine rb_ldr 100 144 hS w0 ex7 rfl rfl ?_
    intro bx7 wx7
    obtain ⟨x8, ex8, h⟩ := bnd h
    refine rb_ld 144 hS wx7 ex8 rfl rfl ?_
    by_cases hc57 : x8 ≤ 0
    · have h := iteT hc57 h
      refine rif_t hc57 ?_
      obtain ⟨x9, ex9, h⟩ := bnd h
      refine rb_ldr 100 101 hS w0 ex9 rfl rfl ?_
      intro bx9 wx9
      obtain ⟨x10, ex10, h⟩ := bnd h
      refine rb_ld 101 hS wx9 ex10 rfl rfl ?_
      by_cases hc69 : x10 ≠ 1
      · have h := iteT hc69 h
        refine rif_t hc69 ?_
        obtain ⟨x11, ex11, h⟩ := bnd h
        refine rb_ldr 100 120 hS w0 ex11 rfl rfl ?_
        intro bx11 wx11
        obtain ⟨x12, ex12, h⟩ := bnd h
        refine rb_ld 120 hS wx11 ex12 rfl rfl ?_
        by_cases hc101 : x12 ≠ 0
        · have h := iteT hc101 h
          refine rif_t hc101 ?_
          obtain ⟨x13, ex13, h⟩ := bnd h
          refine rb_ldr 100 120 hS w0 ex13 rfl rfl ?_
          intro bx13 wx13
          obtain ⟨x14, ex14, h⟩ := bnd h
          refine rb_ld 120 hS wx13 ex14 rfl rfl ?_
          by_cases hc131 : x14 ≠ 1
          · have h := iteT hc131 h
            refine rif_t hc131 ?_
            obtain ⟨x15, ex15, h⟩ := bnd h
            refine rb_ldr 100 122 hS w0 ex15 rfl rfl ?_
            intro bx15 wx15
            obtain ⟨x16, ex16, h⟩ := bnd h
            refine rb_ld 122 hS wx15 ex16 rfl rfl ?_
            by_cases hc163 : (lc x6 x16) ≤ 0
            · have h := iteT hc163 h
              refine rif_t hc163 ?_
              cases h
              exact rret hS rfl
            · have h := iteF hc163 h
              refine rif_f hc163 ?_
              cases h
              exact rret hS rfl
          · have h := iteF hc131 h
            refine rif_f hc131 ?_
            obtain ⟨x17, ex17, h⟩ := bnd h
            refine rb_ldr 100 122 hS w0 ex17 rfl rfl ?_
            intro bx17 wx17
            obtain ⟨x18, ex18, h⟩ := bnd h
            refine rb_ld 122 hS wx17 ex18 rfl rfl ?_
            by_cases hc143 : (lc x6 x18) ≥ 0
            · have h := iteT hc143 h
              refine rif_t hc143 ?_
              cases h
              exact rret hS rfl
            · have h := iteF hc143 h
              refine rif_f hc143 ?_
              cases h
              exact rret hS rfl
        · have h := iteF hc101 h
          refine rif_f hc101 ?_
          obtain ⟨x19, ex19, h⟩ := bnd h
          refine rb_ldr 100 122 hS w0 ex19 rfl rfl ?_
          intro bx19 wx19
          obtain ⟨x20, ex20, h⟩ := bnd h
          refine rb_ld 122 hS wx19 ex20 rfl rfl ?_
          by_cases hc113 : (lc x6 x20) ≠ 0
          · have h := iteT hc113 h
            refine rif_t hc113 ?_
            cases h
            exact rret hS rfl
          · have h := iteF hc113 h
            refine rif_f hc113 ?_
            cases h
            exact rret hS rfl
      · have h := iteF hc69 h
        refine rif_f hc69 ?_
        obtain ⟨x21, ex21, h⟩ := bnd h
        refine rb_ldr 100 122 hS w0 ex21 rfl rfl ?_
        intro bx21 wx21
        obtain ⟨x22, ex22, h⟩ := bnd h
        refine rb_ld 122 hS wx21 ex22 rfl rfl ?_
        by_cases hc86 : (lc (l_and (l_shr x6 (w32 x22)) 1) 1) ≠ 0
        · have h := iteT hc86 h
          refine rif_t hc86 ?_
          cases h
          exact rret hS rfl
        · have h := iteF hc86 h
          refine rif_f hc86 ?_
          cases h
          exact rret hS rfl
    · have h := iteF hc57 h
      refine rif_f hc57 ?_
      cases h
      exact rret hS rfl
  · have h := iteF hc22 h
    refine rif_f hc22 ?_
    obtain ⟨x23, ex23, h⟩ := bnd h
    refine rb_ldr 100 144 hS w0 ex23 rfl rfl ?_
    intro bx23 wx23
    obtain ⟨x24, ex24, h⟩ := bnd h
    refine rb_ld 144 hS wx23 ex24 rfl rfl ?_
    by_cases hc32 : x24 ≤ 0
    · have h := iteT hc32 h
      refine rif_t hc32 ?_
      cases h
      exact rret hS rfl
    · have h := iteF hc32 h
      refine rif_f hc32 ?_
      cases h
      exact rret hS rfl
/-! HouseholdVaultModel.isSaid(II)Z by roles -/
def gjX9_isSaid_22 (s0 s1 s2 : Int) (G : GS) : GO :=
  (gl 145 G s0 (w32 (s1 + s2))).bind fun x1 => gzr x1 G
set_option maxHeartbeats 4000000 in
theorem sjX9_isSaid_22 {ad : Nat → Nat → Nat} {Cn : Nat → Nat} {H : PH} {G G' : GS} {rr : Int} {s0 s1 s2 bs0 : Int} (hS : SimA ad Cn H G) (ws0 : vrel ad Cn 145 bs0 s0) (h : gjX9_isSaid_22 s0 s1 s2 G = some (rr, G')) : RS ad Cn (jX9_isSaid_22 bs0 s1 s2 H) 0 rr G' := by
  unfold gjX9_isSaid_22 at h
  unfold jX9_isSaid_22
  obtain ⟨x1, ex1, h⟩ := bnd h
  refine rb_ld 145 hS ws0 ex1 rfl rfl ?_
  obtain ⟨hz, h⟩ := gzr_spec h
  cases h
  exact rb_zr hz (rret hS rfl)
def g_X9_isSaid (a0 a1 a2 : Int) (G : GS) : GO := gvm a0 <|
  (gl 100 G a0 45).bind fun x1 => (gl 100 G a0 25).bind fun x2 => (gl 125 G x2 a1).bind fun x3 => (if x3 ≥ 0 then gjX9_isSaid_22 x1 (w32 (6 * a1)) a2 G
  else gjX9_isSaid_22 x1 (w32 (6 * a1)) 0 G)
set_option maxHeartbeats 4000000 in
theorem s_X9_isSaid {ad : Nat → Nat → Nat} {Cn : Nat → Nat} {H : PH} {G G' : GS} {rr : Int} {a0 a1 a2 b0 : Int} (hS : SimA ad Cn H G) (w0 : vrel ad Cn 100 b0 a0) (h : g_X9_isSaid a0 a1 a2 G = some (rr, G')) : RS ad Cn (f_X9_isSaid b0 a1 a2 H) 0 rr G' := by
  unfold g_X9_isSaid at h
  unfold f_X9_isSaid
  obtain ⟨hv, h⟩ := gvm_spec h
  refine rb_vm 100 9 hS w0 hv rfl ?_
  obtain ⟨x1, ex1, h⟩ := bnd h
  refine rb_ldr 100 145 hS w0 ex1 rfl rfl ?_
  intro bx1 wx1
  obtain ⟨x2, ex2, h⟩ := bnd h
  refine rb_ldr 100 125 hS w0 ex2 rfl rfl ?_
  intro bx2 wx2
  obtain ⟨x3, ex3, h⟩ := bnd h
  refine rb_ld 125 hS wx2 ex3 rfl rfl ?_
  by_cases hc14 : x3 ≥ 0
  · have h := iteT hc14 h
    refine rif_t hc14 ?_
    exact sjX9_isSaid_22 hS wx1 h
  · have h := iteF hc14 h
    refine rif_f hc14 ?_
    exact sjX9_isSaid_22 hS wx1 h
/-! HouseholdVaultModel.sayAt(II)V by roles -/
def gjX9_sayAt_288 (self136 : Int → GS → GO) (p0 p2 p3 p4 s0 s1 s2 : Int) (G : GS) : GO :=
  (gsz 145 G s0 s1 s2).bind fun G1 => self136 (w32 (p4 + 1)) G1
set_option maxHeartbeats 4000000 in
theorem sjX9_sayAt_288 {ad : Nat → Nat → Nat} {Cn : Nat → Nat} {H : PH} {G G' : GS} {rr : Int} {fself136 : Int → PH → RO} {self136 : Int → GS → GO} {p0 p2 p3 p4 s0 s1 s2 b0 bs0 : Int} (ih136 : ∀ (ad : Nat → Nat → Nat) (Cn : Nat → Nat) (H : PH) (G : GS) (v4 : Int) , SimA ad Cn H G → vrel ad Cn 100 b0 p0 → self136 v4 G = some (rr, G') → RS ad Cn (fself136 v4 H) 0 rr G') (hS : SimA ad Cn H G) (w0 : vrel ad Cn 100 b0 p0) (ws0 : vrel ad Cn 145 bs0 s0) (h : gjX9_sayAt_288 self136 p0 p2 p3 p4 s0 s1 s2 G = some (rr, G')) : RS ad Cn (jX9_sayAt_288 fself136 b0 p2 p3 p4 bs0 s1 s2 H) 0 rr G' := by
  unfold gjX9_sayAt_288 at h
  unfold jX9_sayAt_288
  obtain ⟨G1, eG1, h⟩ := bnd h
  refine rb_stz 145 hS ws0 rfl eG1 rfl ?_
  intro H hS
  exact ih136 _ _ _ _ (w32 (p4 + 1))  hS w0  h
def gjX9_sayAt_252 (self136 : Int → GS → GO) (p0 p2 p3 p4 p5 : Int) (G : GS) : GO :=
  (gl 100 G p0 45).bind fun x1 => (gl 100 G p0 19).bind fun x2 => (gl 119 G x2 p2).bind fun x3 => (if x3 ≠ 3 then gjX9_sayAt_288 self136 p0 p2 p3 p4 x1 (w32 ((w32 (6 * p2)) + p4)) p5 G
  else (if p5 ≠ 0 then gjX9_sayAt_288 self136 p0 p2 p3 p4 x1 (w32 ((w32 (6 * p2)) + p4)) 0 G
  else gjX9_sayAt_288 self136 p0 p2 p3 p4 x1 (w32 ((w32 (6 * p2)) + p4)) 1 G))
set_option maxHeartbeats 4000000 in
theorem sjX9_sayAt_252 {ad : Nat → Nat → Nat} {Cn : Nat → Nat} {H : PH} {G G' : GS} {rr : Int} {fself136 : Int → PH → RO} {self136 : Int → GS → GO} {p0 p2 p3 p4 p5 b0 : Int} (ih136 : ∀ (ad : Nat → Nat → Nat) (Cn : Nat → Nat) (H : PH) (G : GS) (v4 : Int) , SimA ad Cn H G → vrel ad Cn 100 b0 p0 → self136 v4 G = some (rr, G') → RS ad Cn (fself136 v4 H) 0 rr G') (hS : SimA ad Cn H G) (w0 : vrel ad Cn 100 b0 p0) (h : gjX9_sayAt_252 self136 p0 p2 p3 p4 p5 G = some (rr, G')) : RS ad Cn (jX9_sayAt_252 fself136 b0 p2 p3 p4 p5 H) 0 rr G' := by
  unfold gjX9_sayAt_252 at h
  unfold jX9_sayAt_252
  obtain ⟨x1, ex1, h⟩ := bnd h
  refine rb_ldr 100 145 hS w0 ex1 rfl rfl ?_
  intro bx1 wx1
  obtain ⟨x2, ex2, h⟩ := bnd h
  refine rb_ldr 100 119 hS w0 ex2 rfl rfl ?_
  intro bx2 wx2
  obtain ⟨x3, ex3, h⟩ := bnd h
  refine rb_ld 119 hS wx2 ex3 rfl rfl ?_
  by_cases hc270 : x3 ≠ 3
  · have h := iteT hc270 h
    refine rif_t hc270 ?_
    exact sjX9_sayAt_288 ih136 hS w0 wx1 h
  · have h := iteF hc270 h
    refine rif_f hc270 ?_
    by_cases hc275 : p5 ≠ 0
    · have h := iteT hc275 h
      refine rif_t hc275 ?_
      exact sjX9_sayAt_288 ih136 hS w0 wx1 h
    · have h := iteF hc275 h
      refine rif_f hc275 ?_
      exact sjX9_sayAt_288 ih136 hS w0 wx1 h
def gjX9_sayAt_250 (self136 : Int → GS → GO) (p0 p2 p3 p4 s0 : Int) (G : GS) : GO :=
  gjX9_sayAt_252 self136 p0 p2 p3 p4 s0 G
set_option maxHeartbeats 4000000 in
theorem sjX9_sayAt_250 {ad : Nat → Nat → Nat} {Cn : Nat → Nat} {H : PH} {G G' : GS} {rr : Int} {fself136 : Int → PH → RO} {self136 : Int → GS → GO} {p0 p2 p3 p4 s0 b0 : Int} (ih136 : ∀ (ad : Nat → Nat → Nat) (Cn : Nat → Nat) (H : PH) (G : GS) (v4 : Int) , SimA ad Cn H G → vrel ad Cn 100 b0 p0 → self136 v4 G = some (rr, G') → RS ad Cn (fself136 v4 H) 0 rr G') (hS : SimA ad Cn H G) (w0 : vrel ad Cn 100 b0 p0) (h : gjX9_sayAt_250 self136 p0 p2 p3 p4 s0 G = some (rr, G')) : RS ad Cn (jX9_sayAt_250 fself136 b0 p2 p3 p4 s0 H) 0 rr G' := by
  unfold gjX9_sayAt_250 at h
  unfold jX9_sayAt_250
  exact sjX9_sayAt_252 ih136 hS w0 h
def gjX9_sayAt_245 (self136 : Int → GS → GO) (p0 p2 p3 p4 : Int) (G : GS) : GO :=
  gjX9_sayAt_250 self136 p0 p2 p3 p4 1 G
set_option maxHeartbeats 4000000 in
theorem sjX9_sayAt_245 {ad : Nat → Nat → Nat} {Cn : Nat → Nat} {H : PH} {G G' : GS} {rr : Int} {fself136 : Int → PH → RO} {self136 : Int → GS → GO} {p0 p2 p3 p4 b0 : Int} (ih136 : ∀ (ad : Nat → Nat → Nat) (Cn : Nat → Nat) (H : PH) (G : GS) (v4 : Int) , SimA ad Cn H G → vrel ad Cn 100 b0 p0 → self136 v4 G = some (rr, G') → RS ad Cn (fself136 v4 H) 0 rr G') (hS : SimA ad Cn H G) (w0 : vrel ad Cn 100 b0 p0) (h : gjX9_sayAt_245 self136 p0 p2 p3 p4 G = some (rr, G')) : RS ad Cn (jX9_sayAt_245 fself136 b0 p2 p3 p4 H) 0 rr G' := by
  unfold gjX9_sayAt_245 at h
  unfold jX9_sayAt_245
  exact sjX9_sayAt_250 ih136 hS w0 h
def gjX9_sayAt_210 (self136 : Int → GS → GO) (p0 p2 p3 p4 s0 : Int) (G : GS) : GO :=
  gjX9_sayAt_252 self136 p0 p2 p3 p4 s0 G
set_option maxHeartbeats 4000000 in
theorem sjX9_sayAt_210 {ad : Nat → Nat → Nat} {Cn : Nat → Nat} {H : PH} {G G' : GS} {rr : Int} {fself136 : Int → PH → RO} {self136 : Int → GS → GO} {p0 p2 p3 p4 s0 b0 : Int} (ih136 : ∀ (ad : Nat → Nat → Nat) (Cn : Nat → Nat) (H : PH) (G : GS) (v4 : Int) , SimA ad Cn H G → vrel ad Cn 100 b0 p0 → self136 v4 G = some (rr, G') → RS ad Cn (fself136 v4 H) 0 rr G') (hS : SimA ad Cn H G) (w0 : vrel ad Cn 100 b0 p0) (h : gjX9_sayAt_210 self136 p0 p2 p3 p4 s0 G = some (rr, G')) : RS ad Cn (jX9_sayAt_210 fself136 b0 p2 p3 p4 s0 H) 0 rr G' := by
  unfold gjX9_sayAt_210 at h
  unfold jX9_sayAt_210
  exact sjX9_sayAt_252 ih136 hS w0 h
def gjX9_sayAt_209 (self136 : Int → GS → GO) (p0 p2 p3 p4 : Int) (G : GS) : GO :=
  gjX9_sayAt_210 self136 p0 p2 p3 p4 0 G
set_option maxHeartbeats 4000000 in
theorem sjX9_sayAt_209 {ad : Nat → Nat → Nat} {Cn : Nat → Nat} {H : PH} {G G' : GS} {rr : Int} {fself136 : Int → PH → RO} {self136 : Int → GS → GO} {p0 p2 p3 p4 b0 : Int} (ih136 : ∀ (ad : Nat → Nat → Nat) (Cn : Nat → Nat) (H : PH) (G : GS) (v4 : Int) , SimA ad Cn H G → vrel ad Cn 100 b0 p0 → self136 v4 G = some (rr, G') → RS ad Cn (fself136 v4 H) 0 rr G') (hS : SimA ad Cn H G) (w0 : vrel ad Cn 100 b0 p0) (h : gjX9_sayAt_209 self136 p0 p2 p3 p4 G = some (rr, G')) : RS ad Cn (jX9_sayAt_209 fself136 b0 p2 p3 p4 H) 0 rr G' := by
  unfold gjX9_sayAt_209 at h
  unfold jX9_sayAt_209
  exact sjX9_sayAt_210 ih136 hS w0 h
def gjX9_sayAt_173 (self136 : Int → GS → GO) (p0 p2 p3 p4 s0 : Int) (G : GS) : GO :=
  (gl 100 G p0 19).bind fun x1 => (gl 119 G x1 p2).bind fun x2 => (if x2 ≠ 1 then (gl 100 G p0 19).bind fun x3 => (gl 119 G x3 p2).bind fun x4 => (if x4 ≠ 2 then gjX9_sayAt_252 self136 p0 p2 p3 p4 s0 G
  else (if s0 ≠ 0 then gjX9_sayAt_245 self136 p0 p2 p3 p4 G
  else (gl 100 G p0 24).bind fun x5 => (gl 124 G x5 p2).bind fun x6 => (g_X9_isSaid p0 x6 p4 G).bind fun z7 => (if z7.1 = 0 then gjX9_sayAt_250 self136 p0 p2 p3 p4 0 z7.2
  else gjX9_sayAt_245 self136 p0 p2 p3 p4 z7.2)))
  else (if s0 = 0 then gjX9_sayAt_209 self136 p0 p2 p3 p4 G
  else (gl 100 G p0 24).bind fun x8 => (gl 124 G x8 p2).bind fun x9 => (g_X9_isSaid p0 x9 p4 G).bind fun z10 => (if z10.1 = 0 then gjX9_sayAt_209 self136 p0 p2 p3 p4 z10.2
  else gjX9_sayAt_210 self136 p0 p2 p3 p4 1 z10.2)))
set_option maxHeartbeats 4000000 in
theorem sjX9_sayAt_173 {ad : Nat → Nat → Nat} {Cn : Nat → Nat} {H : PH} {G G' : GS} {rr : Int} {fself136 : Int → PH → RO} {self136 : Int → GS → GO} {p0 p2 p3 p4 s0 b0 : Int} (ih136 : ∀ (ad : Nat → Nat → Nat) (Cn : Nat → Nat) (H : PH) (G : GS) (v4 : Int) , SimA ad Cn H G → vrel ad Cn 100 b0 p0 → self136 v4 G = some (rr, G') → RS ad Cn (fself136 v4 H) 0 rr G') (hS : SimA ad Cn H G) (w0 : vrel ad Cn 100 b0 p0) (h : gjX9_sayAt_173 self136 p0 p2 p3 p4 s0 G = some (rr, G')) : RS ad Cn (jX9_sayAt_173 fself136 b0 p2 p3 p4 s0 H) 0 rr G' := by
  unfold gjX9_sayAt_173 at h
  unfold jX9_sayAt_173
  obtain ⟨x1, ex1, h⟩ := bnd h
  refine rb_ldr 100 119 hS w0 ex1 rfl rfl ?_
  intro bx1 wx1
  obtain ⟨x2, ex2, h⟩ := bnd h
  refine rb_ld 119 hS wx1 ex2 rfl rfl ?_
  by_cases hc182 : x2 ≠ 1
  · have h := iteT hc182 h
    refine rif_t hc182 ?_
    obtain ⟨x3, ex3, h⟩ := bnd h
    refine rb_ldr 100 119 hS w0 ex3 rfl rfl ?_
    intro bx3 wx3
    obtain ⟨x4, ex4, h⟩ := bnd h
    refine rb_ld 119 hS wx3 ex4 rfl rfl ?_
    by_cases hc222 : x4 ≠ 2
    · have h := iteT hc222 h
      refine rif_t hc222 ?_
      exact sjX9_sayAt_252 ih136 hS w0 h
    · have h := iteF hc222 h
      refine rif_f hc222 ?_
      by_cases hc227 : s0 ≠ 0
      · have h := iteT hc227 h
        refine rif_t hc227 ?_
        exact sjX9_sayAt_245 ih136 hS w0 h
      · have h := iteF hc227 h
        refine rif_f hc227 ?_
        obtain ⟨x5, ex5, h⟩ := bnd h
        refine rb_ldr 100 124 hS w0 ex5 rfl rfl ?_
        intro bx5 wx5
        obtain ⟨x6, ex6, h⟩ := bnd h
        refine rb_ld 124 hS wx5 ex6 rfl rfl ?_
        obtain ⟨z7, ez7, h⟩ := bnd h
        refine rb_call (ρc := 0) (s_X9_isSaid hS w0 ez7) ?_
        intro ad Cn bz7 H hS hx wz7
        dsimp only
        obtain rfl : bz7 = z7.1 := wz7
        have w0 := w0.mono hx
        by_cases hc242 : z7.1 = 0
        · have h := iteT hc242 h
          refine rif_t hc242 ?_
          exact sjX9_sayAt_250 ih136 hS w0 h
        · have h := iteF hc242 h
          refine rif_f hc242 ?_
          exact sjX9_sayAt_245 ih136 hS w0 h
  · have h := iteF hc182 h
    refine rif_f hc182 ?_
    by_cases hc187 : s0 = 0
    · have h := iteT hc187 h
      refine rif_t hc187 ?_
      exact sjX9_sayAt_209 ih136 hS w0 h
    · have h := iteF hc187 h
      refine rif_f hc187 ?_
      obtain ⟨x8, ex8, h⟩ := bnd h
      refine rb_ldr 100 124 hS w0 ex8 rfl rfl ?_
      intro bx8 wx8
      obtain ⟨x9, ex9, h⟩ := bnd h
      refine rb_ld 124 hS wx8 ex9 rfl rfl ?_
      obtain ⟨z10, ez10, h⟩ := bnd h
      refine rb_call (ρc := 0) (s_X9_isSaid hS w0 ez10) ?_
      intro ad Cn bz10 H hS hx wz10
      dsimp only
      obtain rfl : bz10 = z10.1 := wz10
      have w0 := w0.mono hx
      by_cases hc202 : z10.1 = 0
      · have h := iteT hc202 h
        refine rif_t hc202 ?_
        exact sjX9_sayAt_209 ih136 hS w0 h
      · have h := iteF hc202 h
        refine rif_f hc202 ?_
        exact sjX9_sayAt_210 ih136 hS w0 h
def glX9_sayAt_136 (p0 p2 p3 : Int) (self136 : Int → GS → GO) (p4 : Int) (G : GS) : GO :=
  (if p4 > p3 then some (0, G)
  else (gl 100 G p0 19).bind fun x1 => (gl 119 G x1 p2).bind fun x2 => (if x2 ≠ 0 then (gl 100 G p0 23).bind fun x3 => (gl 123 G x3 p2).bind fun x4 => (g_X9_isSaid p0 x4 p4 G).bind fun z5 => gjX9_sayAt_173 self136 p0 p2 p3 p4 z5.1 z5.2
  else (g_X9_isAsked p0 p2 p4 G).bind fun z6 => gjX9_sayAt_173 self136 p0 p2 p3 p4 z6.1 z6.2))
set_option maxHeartbeats 4000000 in
theorem slX9_sayAt_136 {G' : GS} {rr : Int} {p0 p2 p3 b0 : Int} : ∀ (n : Nat) (ad : Nat → Nat → Nat) (Cn : Nat → Nat) (H : PH) (G : GS) (p4 : Int) , SimA ad Cn H G → vrel ad Cn 100 b0 p0 → lh1 (glX9_sayAt_136 p0 p2 p3) n p4 G = some (rr, G') → RS ad Cn (lq1 (lX9_sayAt_136 b0 p2 p3) n p4 H) 0 rr G' := by
  intro n
  induction n with
  | zero => intro ad Cn H G p4 hS w0 h; cases h
  | succ n ih136 =>
    intro ad Cn H G p4 hS w0 h
    rw [lh1_s] at h
    rw [lq1_s]
    generalize lh1 (glX9_sayAt_136 p0 p2 p3) n = self136 at ih136 h
    generalize lq1 (lX9_sayAt_136 b0 p2 p3) n = fself136 at ih136 ⊢
    unfold glX9_sayAt_136 at h
    unfold lX9_sayAt_136
    by_cases hc139 : p4 > p3
    · have h := iteT hc139 h
      refine rif_t hc139 ?_
      cases h
      exact rret hS rfl
    · have h := iteF hc139 h
      refine rif_f hc139 ?_
      obtain ⟨x1, ex1, h⟩ := bnd h
      refine rb_ldr 100 119 hS w0 ex1 rfl rfl ?_
      intro bx1 wx1
      obtain ⟨x2, ex2, h⟩ := bnd h
      refine rb_ld 119 hS wx1 ex2 rfl rfl ?_
      by_cases hc148 : x2 ≠ 0
      · have h := iteT hc148 h
        refine rif_t hc148 ?_
        obtain ⟨x3, ex3, h⟩ := bnd h
        refine rb_ldr 100 123 hS w0 ex3 rfl rfl ?_
        intro bx3 wx3
        obtain ⟨x4, ex4, h⟩ := bnd h
        refine rb_ld 123 hS wx3 ex4 rfl rfl ?_
        obtain ⟨z5, ez5, h⟩ := bnd h
        refine rb_call (ρc := 0) (s_X9_isSaid hS w0 ez5) ?_
        intro ad Cn bz5 H hS hx wz5
        dsimp only
        obtain rfl : bz5 = z5.1 := wz5
        have w0 := w0.mono hx
        exact sjX9_sayAt_173 ih136 hS w0 h
      · have h := iteF hc148 h
        refine rif_f hc148 ?_
        obtain ⟨z6, ez6, h⟩ := bnd h
        refine rb_call (ρc := 0) (s_X9_isAsked hS w0 ez6) ?_
        intro ad Cn bz6 H hS hx wz6
        dsimp only
        obtain rfl : bz6 = z6.1 := wz6
        have w0 := w0.mono hx
        exact sjX9_sayAt_173 ih136 hS w0 h
def gjX9_sayAt_134 (p0 p2 p3 s0 : Int) (G : GS) : GO :=
  lh1 (glX9_sayAt_136 p0 p2 p3) 6000 s0 G
set_option maxHeartbeats 4000000 in
theorem sjX9_sayAt_134 {ad : Nat → Nat → Nat} {Cn : Nat → Nat} {H : PH} {G G' : GS} {rr : Int} {p0 p2 p3 s0 b0 : Int} (hS : SimA ad Cn H G) (w0 : vrel ad Cn 100 b0 p0) (h : gjX9_sayAt_134 p0 p2 p3 s0 G = some (rr, G')) : RS ad Cn (jX9_sayAt_134 b0 p2 p3 s0 H) 0 rr G' := by
  unfold gjX9_sayAt_134 at h
  unfold jX9_sayAt_134
  exact slX9_sayAt_136 6000 _ _ _ _ s0  hS w0 h
def gjX9_sayAt_119 (p0 p2 s0 : Int) (G : GS) : GO :=
  (gl 100 G p0 25).bind fun x1 => (gl 125 G x1 p2).bind fun x2 => (if x2 ≥ 0 then gjX9_sayAt_134 p0 p2 s0 1 G
  else gjX9_sayAt_134 p0 p2 s0 0 G)
set_option maxHeartbeats 4000000 in
theorem sjX9_sayAt_119 {ad : Nat → Nat → Nat} {Cn : Nat → Nat} {H : PH} {G G' : GS} {rr : Int} {p0 p2 s0 b0 : Int} (hS : SimA ad Cn H G) (w0 : vrel ad Cn 100 b0 p0) (h : gjX9_sayAt_119 p0 p2 s0 G = some (rr, G')) : RS ad Cn (jX9_sayAt_119 b0 p2 s0 H) 0 rr G' := by
  unfold gjX9_sayAt_119 at h
  unfold jX9_sayAt_119
  obtain ⟨x1, ex1, h⟩ := bnd h
  refine rb_ldr 100 125 hS w0 ex1 rfl rfl ?_
  intro bx1 wx1
  obtain ⟨x2, ex2, h⟩ := bnd h
  refine rb_ld 125 hS wx1 ex2 rfl rfl ?_
  by_cases hc126 : x2 ≥ 0
  · have h := iteT hc126 h
    refine rif_t hc126 ?_
    exact sjX9_sayAt_134 hS w0 h
  · have h := iteF hc126 h
    refine rif_f hc126 ?_
    exact sjX9_sayAt_134 hS w0 h
def gjX9_sayAt_93 (s0 s1 s2 : Int) (G : GS) : GO :=
  (gsz 145 G s0 s1 s2).bind fun G1 => some (0, G1)
set_option maxHeartbeats 4000000 in
theorem sjX9_sayAt_93 {ad : Nat → Nat → Nat} {Cn : Nat → Nat} {H : PH} {G G' : GS} {rr : Int} {s0 s1 s2 bs0 : Int} (hS : SimA ad Cn H G) (ws0 : vrel ad Cn 145 bs0 s0) (h : gjX9_sayAt_93 s0 s1 s2 G = some (rr, G')) : RS ad Cn (jX9_sayAt_93 bs0 s1 s2 H) 0 rr G' := by
  unfold gjX9_sayAt_93 at h
  unfold jX9_sayAt_93
  obtain ⟨G1, eG1, h⟩ := bnd h
  refine rb_stz 145 hS ws0 rfl eG1 rfl ?_
  intro H hS
  cases h
  exact rret hS rfl
def gjX9_sayAt_62 (self15 : Int → Int → GS → GO) (p0 p1 p2 p4 s0 s1 : Int) (G : GS) : GO :=
  self15 (w32 (s0 + s1)) (w32 (p4 + 1)) G
set_option maxHeartbeats 4000000 in
theorem sjX9_sayAt_62 {ad : Nat → Nat → Nat} {Cn : Nat → Nat} {H : PH} {G G' : GS} {rr : Int} {fself15 : Int → Int → PH → RO} {self15 : Int → Int → GS → GO} {p0 p1 p2 p4 s0 s1 b0 : Int} (ih15 : ∀ (ad : Nat → Nat → Nat) (Cn : Nat → Nat) (H : PH) (G : GS) (v3 v4 : Int) , SimA ad Cn H G → vrel ad Cn 100 b0 p0 → self15 v3 v4 G = some (rr, G') → RS ad Cn (fself15 v3 v4 H) 0 rr G') (hS : SimA ad Cn H G) (w0 : vrel ad Cn 100 b0 p0) (h : gjX9_sayAt_62 self15 p0 p1 p2 p4 s0 s1 G = some (rr, G')) : RS ad Cn (jX9_sayAt_62 fself15 b0 p1 p2 p4 s0 s1 H) 0 rr G' := by
  unfold gjX9_sayAt_62 at h
  unfold jX9_sayAt_62
  exact ih15 _ _ _ _ (w32 (s0 + s1)) (w32 (p4 + 1))  hS w0  h
def glX9_sayAt_15 (p0 p1 p2 : Int) (self15 : Int → Int → GS → GO) (p3 p4 : Int) (G : GS) : GO :=
  (gl 100 G p0 25).bind fun x1 => (gl 100 G p0 23).bind fun x2 => (gl 123 G x2 p2).bind fun x3 => (gl 125 G x1 x3).bind fun x4 => (g_X9_persons p0 p1 x4 G).bind fun z5 => (if p4 > z5.1 then (gl 100 z5.2 p0 45).bind fun x6 => (gl 100 z5.2 p0 20).bind fun x7 => (gl 120 z5.2 x7 p2).bind fun x8 => (if p3 < x8 then gjX9_sayAt_93 x6 (w32 (6 * p2)) 0 z5.2
  else gjX9_sayAt_93 x6 (w32 (6 * p2)) 1 z5.2)
  else (gl 100 z5.2 p0 45).bind fun x9 => (gl 100 z5.2 p0 23).bind fun x10 => (gl 123 z5.2 x10 p2).bind fun x11 => (gl 145 z5.2 x9 (w32 ((w32 (6 * x11)) + p4))).bind fun x12 => (if x12 = 0 then gjX9_sayAt_62 self15 p0 p1 p2 p4 p3 0 z5.2
  else gjX9_sayAt_62 self15 p0 p1 p2 p4 p3 1 z5.2))
set_option maxHeartbeats 4000000 in
theorem slX9_sayAt_15 {G' : GS} {rr : Int} {p0 p1 p2 b0 : Int} : ∀ (n : Nat) (ad : Nat → Nat → Nat) (Cn : Nat → Nat) (H : PH) (G : GS) (p3 p4 : Int) , SimA ad Cn H G → vrel ad Cn 100 b0 p0 → lh2 (glX9_sayAt_15 p0 p1 p2) n p3 p4 G = some (rr, G') → RS ad Cn (lq2 (lX9_sayAt_15 b0 p1 p2) n p3 p4 H) 0 rr G' := by
  intro n
  induction n with
  | zero => intro ad Cn H G p3 p4 hS w0 h; cases h
  | succ n ih15 =>
    intro ad Cn H G p3 p4 hS w0 h
    rw [lh2_s] at h
    rw [lq2_s]
    generalize lh2 (glX9_sayAt_15 p0 p1 p2) n = self15 at ih15 h
    generalize lq2 (lX9_sayAt_15 b0 p1 p2) n = fself15 at ih15 ⊢
    unfold glX9_sayAt_15 at h
    unfold lX9_sayAt_15
    obtain ⟨x1, ex1, h⟩ := bnd h
    refine rb_ldr 100 125 hS w0 ex1 rfl rfl ?_
    intro bx1 wx1
    obtain ⟨x2, ex2, h⟩ := bnd h
    refine rb_ldr 100 123 hS w0 ex2 rfl rfl ?_
    intro bx2 wx2
    obtain ⟨x3, ex3, h⟩ := bnd h
    refine rb_ld 123 hS wx2 ex3 rfl rfl ?_
    obtain ⟨x4, ex4, h⟩ := bnd h
    refine rb_ld 125 hS wx1 ex4 rfl rfl ?_
    obtain ⟨z5, ez5, h⟩ := bnd h
    refine rb_call (ρc := 0) (s_X9_persons hS w0 ez5) ?_
    intro ad Cn bz5 H hS hx wz5
    dsimp only
    obtain rfl : bz5 = z5.1 := wz5
    have w0 := w0.mono hx
    by_cases hc33 : p4 > z5.1
    · have h := iteT hc33 h
      refine rif_t hc33 ?_
      obtain ⟨x6, ex6, h⟩ := bnd h
      refine rb_ldr 100 145 hS w0 ex6 rfl rfl ?_
      intro bx6 wx6
      obtain ⟨x7, ex7, h⟩ := bnd h
      refine rb_ldr 100 120 hS w0 ex7 rfl rfl ?_
      intro bx7 wx7
      obtain ⟨x8, ex8, h⟩ := bnd h
      refine rb_ld 120 hS wx7 ex8 rfl rfl ?_
      by_cases hc85 : p3 < x8
      · have h := iteT hc85 h
        refine rif_t hc85 ?_
        exact sjX9_sayAt_93 hS wx6 h
      · have h := iteF hc85 h
        refine rif_f hc85 ?_
        exact sjX9_sayAt_93 hS wx6 h
    · have h := iteF hc33 h
      refine rif_f hc33 ?_
      obtain ⟨x9, ex9, h⟩ := bnd h
      refine rb_ldr 100 145 hS w0 ex9 rfl rfl ?_
      intro bx9 wx9
      obtain ⟨x10, ex10, h⟩ := bnd h
      refine rb_ldr 100 123 hS w0 ex10 rfl rfl ?_
      intro bx10 wx10
      obtain ⟨x11, ex11, h⟩ := bnd h
      refine rb_ld 123 hS wx10 ex11 rfl rfl ?_
      obtain ⟨x12, ex12, h⟩ := bnd h
      refine rb_ld 145 hS wx9 ex12 rfl rfl ?_
      by_cases hc54 : x12 = 0
      · have h := iteT hc54 h
        refine rif_t hc54 ?_
        exact sjX9_sayAt_62 ih15 hS w0 h
      · have h := iteF hc54 h
        refine rif_f hc54 ?_
        exact sjX9_sayAt_62 ih15 hS w0 h
def g_X9_sayAt (a0 a1 a2 : Int) (G : GS) : GO := gvm a0 <|
  (gl 100 G a0 19).bind fun x1 => (gl 119 G x1 a2).bind fun x2 => (if x2 ≠ 4 then (gl 100 G a0 25).bind fun x3 => (gl 125 G x3 a2).bind fun x4 => (if x4 ≥ 0 then (gl 100 G a0 25).bind fun x5 => (gl 125 G x5 a2).bind fun x6 => (g_X9_persons a0 a1 x6 G).bind fun z7 => gjX9_sayAt_119 a0 a2 z7.1 z7.2
  else gjX9_sayAt_119 a0 a2 0 G)
  else lh2 (glX9_sayAt_15 a0 a1 a2) 6000 0 1 G)
set_option maxHeartbeats 4000000 in
theorem s_X9_sayAt {ad : Nat → Nat → Nat} {Cn : Nat → Nat} {H : PH} {G G' : GS} {rr : Int} {a0 a1 a2 b0 : Int} (hS : SimA ad Cn H G) (w0 : vrel ad Cn 100 b0 a0) (h : g_X9_sayAt a0 a1 a2 G = some (rr, G')) : RS ad Cn (f_X9_sayAt b0 a1 a2 H) 0 rr G' := by
  unfold g_X9_sayAt at h
  unfold f_X9_sayAt
  obtain ⟨hv, h⟩ := gvm_spec h
  refine rb_vm 100 9 hS w0 hv rfl ?_
  obtain ⟨x1, ex1, h⟩ := bnd h
  refine rb_ldr 100 119 hS w0 ex1 rfl rfl ?_
  intro bx1 wx1
  obtain ⟨x2, ex2, h⟩ := bnd h
  refine rb_ld 119 hS wx1 ex2 rfl rfl ?_
  by_cases hc7 : x2 ≠ 4
  · have h := iteT hc7 h
    refine rif_t hc7 ?_
    obtain ⟨x3, ex3, h⟩ := bnd h
    refine rb_ldr 100 125 hS w0 ex3 rfl rfl ?_
    intro bx3 wx3
    obtain ⟨x4, ex4, h⟩ := bnd h
    refine rb_ld 125 hS wx3 ex4 rfl rfl ?_
    by_cases hc101 : x4 ≥ 0
    · have h := iteT hc101 h
      refine rif_t hc101 ?_
      obtain ⟨x5, ex5, h⟩ := bnd h
      refine rb_ldr 100 125 hS w0 ex5 rfl rfl ?_
      intro bx5 wx5
      obtain ⟨x6, ex6, h⟩ := bnd h
      refine rb_ld 125 hS wx5 ex6 rfl rfl ?_
      obtain ⟨z7, ez7, h⟩ := bnd h
      refine rb_call (ρc := 0) (s_X9_persons hS w0 ez7) ?_
      intro ad Cn bz7 H hS hx wz7
      dsimp only
      obtain rfl : bz7 = z7.1 := wz7
      have w0 := w0.mono hx
      exact sjX9_sayAt_119 hS w0 h
    · have h := iteF hc101 h
      refine rif_f hc101 ?_
      exact sjX9_sayAt_119 hS w0 h
  · have h := iteF hc7 h
    refine rif_f hc7 ?_
    exact slX9_sayAt_15 6000 _ _ _ _ 0 1  hS w0 h
/-! HouseholdVaultModel.workOut(I)V by roles -/
def gjX9_workOut_116 (self69 : Int → GS → GO) (p0 p1 p2 : Int) (G : GS) : GO :=
  self69 (w32 (p2 + 1)) G
set_option maxHeartbeats 4000000 in
theorem sjX9_workOut_116 {ad : Nat → Nat → Nat} {Cn : Nat → Nat} {H : PH} {G G' : GS} {rr : Int} {fself69 : Int → PH → RO} {self69 : Int → GS → GO} {p0 p1 p2 b0 : Int} (ih69 : ∀ (ad : Nat → Nat → Nat) (Cn : Nat → Nat) (H : PH) (G : GS) (v2 : Int) , SimA ad Cn H G → vrel ad Cn 100 b0 p0 → self69 v2 G = some (rr, G') → RS ad Cn (fself69 v2 H) 0 rr G') (hS : SimA ad Cn H G) (w0 : vrel ad Cn 100 b0 p0) (h : gjX9_workOut_116 self69 p0 p1 p2 G = some (rr, G')) : RS ad Cn (jX9_workOut_116 fself69 b0 p1 p2 H) 0 rr G' := by
  unfold gjX9_workOut_116 at h
  unfold jX9_workOut_116
  exact ih69 _ _ _ _ (w32 (p2 + 1))  hS w0  h
def glX9_workOut_69 (p0 p1 : Int) (self69 : Int → GS → GO) (p2 : Int) (G : GS) : GO :=
  (gl 100 G p0 29).bind fun x1 => (if p2 ≥ x1 then some (0, G)
  else (gl 100 G p0 28).bind fun x2 => (gl 128 G x2 p2).bind fun x3 => (if x3 ≥ 100 then (gl 100 G p0 28).bind fun x4 => (gl 128 G x4 p2).bind fun x5 => (g_X9_sayAt p0 p1 (w32 (x5 - 100)) G).bind fun z6 => gjX9_workOut_116 self69 p0 p1 p2 z6.2
  else (gl 100 G p0 28).bind fun x7 => (gl 128 G x7 p2).bind fun x8 => (g_X9_makeAt p0 p1 x8 G).bind fun z9 => gjX9_workOut_116 self69 p0 p1 p2 z9.2))
set_option maxHeartbeats 4000000 in
theorem slX9_workOut_69 {G' : GS} {rr : Int} {p0 p1 b0 : Int} : ∀ (n : Nat) (ad : Nat → Nat → Nat) (Cn : Nat → Nat) (H : PH) (G : GS) (p2 : Int) , SimA ad Cn H G → vrel ad Cn 100 b0 p0 → lh1 (glX9_workOut_69 p0 p1) n p2 G = some (rr, G') → RS ad Cn (lq1 (lX9_workOut_69 b0 p1) n p2 H) 0 rr G' := by
  intro n
  induction n with
  | zero => intro ad Cn H G p2 hS w0 h; cases h
  | succ n ih69 =>
    intro ad Cn H G p2 hS w0 h
    rw [lh1_s] at h
    rw [lq1_s]
    generalize lh1 (glX9_workOut_69 p0 p1) n = self69 at ih69 h
    generalize lq1 (lX9_workOut_69 b0 p1) n = fself69 at ih69 ⊢
    unfold glX9_workOut_69 at h
    unfold lX9_workOut_69
    obtain ⟨x1, ex1, h⟩ := bnd h
    refine rb_ld 100 hS w0 ex1 rfl rfl ?_
    by_cases hc74 : p2 ≥ x1
    · have h := iteT hc74 h
      refine rif_t hc74 ?_
      cases h
      exact rret hS rfl
    · have h := iteF hc74 h
      refine rif_f hc74 ?_
      obtain ⟨x2, ex2, h⟩ := bnd h
      refine rb_ldr 100 128 hS w0 ex2 rfl rfl ?_
      intro bx2 wx2
      obtain ⟨x3, ex3, h⟩ := bnd h
      refine rb_ld 128 hS wx2 ex3 rfl rfl ?_
      by_cases hc85 : x3 ≥ 100
      · have h := iteT hc85 h
        refine rif_t hc85 ?_
        obtain ⟨x4, ex4, h⟩ := bnd h
        refine rb_ldr 100 128 hS w0 ex4 rfl rfl ?_
        intro bx4 wx4
        obtain ⟨x5, ex5, h⟩ := bnd h
        refine rb_ld 128 hS wx4 ex5 rfl rfl ?_
        obtain ⟨z6, ez6, h⟩ := bnd h
        refine rb_call (ρc := 0) (s_X9_sayAt hS w0 ez6) ?_
        intro ad Cn bz6 H hS hx wz6
        dsimp only
        obtain rfl : bz6 = z6.1 := wz6
        have w0 := w0.mono hx
        exact sjX9_workOut_116 ih69 hS w0 h
      · have h := iteF hc85 h
        refine rif_f hc85 ?_
        obtain ⟨x7, ex7, h⟩ := bnd h
        refine rb_ldr 100 128 hS w0 ex7 rfl rfl ?_
        intro bx7 wx7
        obtain ⟨x8, ex8, h⟩ := bnd h
        refine rb_ld 128 hS wx7 ex8 rfl rfl ?_
        obtain ⟨z9, ez9, h⟩ := bnd h
        refine rb_call (ρc := 0) (s_X9_makeAt hS w0 ez9) ?_
        intro ad Cn bz9 H hS hx wz9
        dsimp only
        obtain rfl : bz9 = z9.1 := wz9
        have w0 := w0.mono hx
        exact sjX9_workOut_116 ih69 hS w0 h
def gjX9_workOut_61 (self2 : Int → GS → GO) (p0 p1 p2 : Int) (G : GS) : GO :=
  self2 (w32 (p2 + 1)) G
set_option maxHeartbeats 4000000 in
theorem sjX9_workOut_61 {ad : Nat → Nat → Nat} {Cn : Nat → Nat} {H : PH} {G G' : GS} {rr : Int} {fself2 : Int → PH → RO} {self2 : Int → GS → GO} {p0 p1 p2 b0 : Int} (ih2 : ∀ (ad : Nat → Nat → Nat) (Cn : Nat → Nat) (H : PH) (G : GS) (v2 : Int) , SimA ad Cn H G → vrel ad Cn 100 b0 p0 → self2 v2 G = some (rr, G') → RS ad Cn (fself2 v2 H) 0 rr G') (hS : SimA ad Cn H G) (w0 : vrel ad Cn 100 b0 p0) (h : gjX9_workOut_61 self2 p0 p1 p2 G = some (rr, G')) : RS ad Cn (jX9_workOut_61 fself2 b0 p1 p2 H) 0 rr G' := by
  unfold gjX9_workOut_61 at h
  unfold jX9_workOut_61
  exact ih2 _ _ _ _ (w32 (p2 + 1))  hS w0  h
def glX9_workOut_12 (self2 : Int → GS → GO) (p0 p1 p2 : Int) (self12 : Int → GS → GO) (p3 : Int) (G : GS) : GO :=
  (if p3 ≥ 6 then gjX9_workOut_61 self2 p0 p1 p2 G
  else (gl 100 G p0 3).bind fun x1 => (gl 103 G x1 p2).bind fun x2 => (if x2 ≠ 0 then gjX9_workOut_61 self2 p0 p1 p2 G
  else (gl 100 G p0 15).bind fun x3 => (g_X9_place p1 p2 p3 G).bind fun z4 => (gl 115 z4.2 x3 z4.1).bind fun x5 => (gl 100 z4.2 p0 16).bind fun x6 => (g_X9_place p1 p2 p3 z4.2).bind fun z7 => (gl 116 z7.2 x6 z7.1).bind fun x8 => (g_X9_told p0 p2 p3 x5 x8 z7.2).bind fun z9 => self12 (w32 (p3 + 1)) z9.2))
set_option maxHeartbeats 4000000 in
theorem slX9_workOut_12 {G' : GS} {rr : Int} {fself2 : Int → PH → RO} {self2 : Int → GS → GO} {p0 p1 p2 b0 : Int} (ih2 : ∀ (ad : Nat → Nat → Nat) (Cn : Nat → Nat) (H : PH) (G : GS) (v2 : Int) , SimA ad Cn H G → vrel ad Cn 100 b0 p0 → self2 v2 G = some (rr, G') → RS ad Cn (fself2 v2 H) 0 rr G') : ∀ (n : Nat) (ad : Nat → Nat → Nat) (Cn : Nat → Nat) (H : PH) (G : GS) (p3 : Int) , SimA ad Cn H G → vrel ad Cn 100 b0 p0 → lh1 (glX9_workOut_12 self2 p0 p1 p2) n p3 G = some (rr, G') → RS ad Cn (lq1 (lX9_workOut_12 fself2 b0 p1 p2) n p3 H) 0 rr G' := by
  intro n
  induction n with
  | zero => intro ad Cn H G p3 hS w0 h; cases h
  | succ n ih12 =>
    intro ad Cn H G p3 hS w0 h
    rw [lh1_s] at h
    rw [lq1_s]
    generalize lh1 (glX9_workOut_12 self2 p0 p1 p2) n = self12 at ih12 h
    generalize lq1 (lX9_workOut_12 fself2 b0 p1 p2) n = fself12 at ih12 ⊢
    unfold glX9_workOut_12 at h
    unfold lX9_workOut_12
    by_cases hc15 : p3 ≥ 6
    · have h := iteT hc15 h
      refine rif_t hc15 ?_
      exact sjX9_workOut_61 ih2 hS w0 h
    · have h := iteF hc15 h
      refine rif_f hc15 ?_
      obtain ⟨x1, ex1, h⟩ := bnd h
      refine rb_ldr 100 103 hS w0 ex1 rfl rfl ?_
      intro bx1 wx1
      obtain ⟨x2, ex2, h⟩ := bnd h
      refine rb_ld 103 hS wx1 ex2 rfl rfl ?_
      by_cases hc24 : x2 ≠ 0
      · have h := iteT hc24 h
        refine rif_t hc24 ?_
        exact sjX9_workOut_61 ih2 hS w0 h
      · have h := iteF hc24 h
        refine rif_f hc24 ?_
        obtain ⟨x3, ex3, h⟩ := bnd h
        refine rb_ldr 100 115 hS w0 ex3 rfl rfl ?_
        intro bx3 wx3
        obtain ⟨z4, ez4, h⟩ := bnd h
        refine rb_call (ρc := 0) (s_X9_place hS ez4) ?_
        intro ad Cn bz4 H hS hx wz4
        dsimp only
        obtain rfl : bz4 = z4.1 := wz4
        have w0 := w0.mono hx
        have wx3 := wx3.mono hx
        obtain ⟨x5, ex5, h⟩ := bnd h
        refine rb_ld 115 hS wx3 ex5 rfl rfl ?_
        obtain ⟨x6, ex6, h⟩ := bnd h
        refine rb_ldr 100 116 hS w0 ex6 rfl rfl ?_
        intro bx6 wx6
        obtain ⟨z7, ez7, h⟩ := bnd h
        refine rb_call (ρc := 0) (s_X9_place hS ez7) ?_
        intro ad Cn bz7 H hS hx wz7
        dsimp only
        obtain rfl : bz7 = z7.1 := wz7
        have w0 := w0.mono hx
        have wx6 := wx6.mono hx
        obtain ⟨x8, ex8, h⟩ := bnd h
        refine rb_ld 116 hS wx6 ex8 rfl rfl ?_
        obtain ⟨z9, ez9, h⟩ := bnd h
        refine rb_call (ρc := 0) (s_X9_told hS w0 ez9) ?_
        intro ad Cn bz9 H hS hx wz9
        dsimp only
        obtain rfl : bz9 = z9.1 := wz9
        have w0 := w0.mono hx
        exact ih12 _ _ _ _ (w32 (p3 + 1))  hS w0  h
def glX9_workOut_2 (p0 p1 : Int) (self2 : Int → GS → GO) (p2 : Int) (G : GS) : GO :=
  (gl 100 G p0 0).bind fun x1 => (if p2 ≥ x1 then lh1 (glX9_workOut_69 p0 p1) 6000 0 G
  else lh1 (glX9_workOut_12 self2 p0 p1 p2) 6000 0 G)
set_option maxHeartbeats 4000000 in
theorem slX9_workOut_2 {G' : GS} {rr : Int} {p0 p1 b0 : Int} : ∀ (n : Nat) (ad : Nat → Nat → Nat) (Cn : Nat → Nat) (H : PH) (G : GS) (p2 : Int) , SimA ad Cn H G → vrel ad Cn 100 b0 p0 → lh1 (glX9_workOut_2 p0 p1) n p2 G = some (rr, G') → RS ad Cn (lq1 (lX9_workOut_2 b0 p1) n p2 H) 0 rr G' := by
  intro n
  induction n with
  | zero => intro ad Cn H G p2 hS w0 h; cases h
  | succ n ih2 =>
    intro ad Cn H G p2 hS w0 h
    rw [lh1_s] at h
    rw [lq1_s]
    generalize lh1 (glX9_workOut_2 p0 p1) n = self2 at ih2 h
    generalize lq1 (lX9_workOut_2 b0 p1) n = fself2 at ih2 ⊢
    unfold glX9_workOut_2 at h
    unfold lX9_workOut_2
    obtain ⟨x1, ex1, h⟩ := bnd h
    refine rb_ld 100 hS w0 ex1 rfl rfl ?_
    by_cases hc7 : p2 ≥ x1
    · have h := iteT hc7 h
      refine rif_t hc7 ?_
      exact slX9_workOut_69 6000 _ _ _ _ 0  hS w0 h
    · have h := iteF hc7 h
      refine rif_f hc7 ?_
      exact slX9_workOut_12 ih2 6000 _ _ _ _ 0  hS w0 h
def g_X9_workOut (a0 a1 : Int) (G : GS) : GO := gvm a0 <|
  lh1 (glX9_workOut_2 a0 a1) 6000 0 G
set_option maxHeartbeats 4000000 in
theorem s_X9_workOut {ad : Nat → Nat → Nat} {Cn : Nat → Nat} {H : PH} {G G' : GS} {rr : Int} {a0 a1 b0 : Int} (hS : SimA ad Cn H G) (w0 : vrel ad Cn 100 b0 a0) (h : g_X9_workOut a0 a1 G = some (rr, G')) : RS ad Cn (f_X9_workOut b0 a1 H) 0 rr G' := by
  unfold g_X9_workOut at h
  unfold f_X9_workOut
  obtain ⟨hv, h⟩ := gvm_spec h
  refine rb_vm 100 9 hS w0 hv rfl ?_
  exact slX9_workOut_2 6000 _ _ _ _ 0  hS w0 h
/-! HouseholdVaultModel.value(III)J by roles -/
def g_X9_value (a0 a1 a2 a3 : Int) (G : GS) : GO := gvm a0 <|
  (g_X9_isPlace a0 a1 a2 a3 G).bind fun z1 => (if z1.1 ≠ 0 then (g_X9_workOut a0 a1 z1.2).bind fun z2 => (gl 100 z2.2 a0 44).bind fun x3 => (gl 144 z2.2 x3 (w32 ((w32 ((w32 (6 * a2)) + a3)) + 1))).bind fun x4 => (if x4 ≤ 0 then (gl 100 z2.2 a0 43).bind fun x5 => (gl 143 z2.2 x5 (w32 ((w32 ((w32 (6 * a2)) + a3)) + 1))).bind fun x6 => some (x6, z2.2)
  else some (0, z2.2))
  else some (0, z1.2))
set_option maxHeartbeats 4000000 in
theorem s_X9_value {ad : Nat → Nat → Nat} {Cn : Nat → Nat} {H : PH} {G G' : GS} {rr : Int} {a0 a1 a2 a3 b0 : Int} (hS : SimA ad Cn H G) (w0 : vrel ad Cn 100 b0 a0) (h : g_X9_value a0 a1 a2 a3 G = some (rr, G')) : RS ad Cn (f_X9_value b0 a1 a2 a3 H) 0 rr G' := by
  unfold g_X9_value at h
  unfold f_X9_value
  obtain ⟨hv, h⟩ := gvm_spec h
  refine rb_vm 100 9 hS w0 hv rfl ?_
  obtain ⟨z1, ez1, h⟩ := bnd h
  refine rb_call (ρc := 0) (s_X9_isPlace hS w0 ez1) ?_
  intro ad Cn bz1 H hS hx wz1
  dsimp only
  obtain rfl : bz1 = z1.1 := wz1
  have w0 := w0.mono hx
  by_cases hc7 : z1.1 ≠ 0
  · have h := iteT hc7 h
    refine rif_t hc7 ?_
    obtain ⟨z2, ez2, h⟩ := bnd h
    refine rb_call (ρc := 0) (s_X9_workOut hS w0 ez2) ?_
    intro ad Cn bz2 H hS hx wz2
    dsimp only
    obtain rfl : bz2 = z2.1 := wz2
    have w0 := w0.mono hx
    obtain ⟨x3, ex3, h⟩ := bnd h
    refine rb_ldr 100 144 hS w0 ex3 rfl rfl ?_
    intro bx3 wx3
    obtain ⟨x4, ex4, h⟩ := bnd h
    refine rb_ld 144 hS wx3 ex4 rfl rfl ?_
    by_cases hc30 : x4 ≤ 0
    · have h := iteT hc30 h
      refine rif_t hc30 ?_
      obtain ⟨x5, ex5, h⟩ := bnd h
      refine rb_ldr 100 143 hS w0 ex5 rfl rfl ?_
      intro bx5 wx5
      obtain ⟨x6, ex6, h⟩ := bnd h
      refine rb_ld 143 hS wx5 ex6 rfl rfl ?_
      cases h
      exact rret hS rfl
    · have h := iteF hc30 h
      refine rif_f hc30 ?_
      cases h
      exact rret hS rfl
  · have h := iteF hc7 h
    refine rif_f hc7 ?_
    cases h
    exact rret hS rfl
/-! HouseholdVaultModel.reason(III)I by roles -/
def g_X9_reason (a0 a1 a2 a3 : Int) (G : GS) : GO := gvm a0 <|
  (g_X9_isPlace a0 a1 a2 a3 G).bind fun z1 => (if z1.1 ≠ 0 then (g_X9_workOut a0 a1 z1.2).bind fun z2 => (gl 100 z2.2 a0 44).bind fun x3 => (gl 144 z2.2 x3 (w32 ((w32 ((w32 (6 * a2)) + a3)) + 1))).bind fun x4 => some (x4, z2.2)
  else some ((-1), z1.2))
set_option maxHeartbeats 4000000 in
theorem s_X9_reason {ad : Nat → Nat → Nat} {Cn : Nat → Nat} {H : PH} {G G' : GS} {rr : Int} {a0 a1 a2 a3 b0 : Int} (hS : SimA ad Cn H G) (w0 : vrel ad Cn 100 b0 a0) (h : g_X9_reason a0 a1 a2 a3 G = some (rr, G')) : RS ad Cn (f_X9_reason b0 a1 a2 a3 H) 0 rr G' := by
  unfold g_X9_reason at h
  unfold f_X9_reason
  obtain ⟨hv, h⟩ := gvm_spec h
  refine rb_vm 100 9 hS w0 hv rfl ?_
  obtain ⟨z1, ez1, h⟩ := bnd h
  refine rb_call (ρc := 0) (s_X9_isPlace hS w0 ez1) ?_
  intro ad Cn bz1 H hS hx wz1
  dsimp only
  obtain rfl : bz1 = z1.1 := wz1
  have w0 := w0.mono hx
  by_cases hc7 : z1.1 ≠ 0
  · have h := iteT hc7 h
    refine rif_t hc7 ?_
    obtain ⟨z2, ez2, h⟩ := bnd h
    refine rb_call (ρc := 0) (s_X9_workOut hS w0 ez2) ?_
    intro ad Cn bz2 H hS hx wz2
    dsimp only
    obtain rfl : bz2 = z2.1 := wz2
    have w0 := w0.mono hx
    obtain ⟨x3, ex3, h⟩ := bnd h
    refine rb_ldr 100 144 hS w0 ex3 rfl rfl ?_
    intro bx3 wx3
    obtain ⟨x4, ex4, h⟩ := bnd h
    refine rb_ld 144 hS wx3 ex4 rfl rfl ?_
    cases h
    exact rret hS rfl
  · have h := iteF hc7 h
    refine rif_f hc7 ?_
    cases h
    exact rret hS rfl
/-! HouseholdVaultModel.condition(IIII)I by roles -/
def g_X9_condition (a0 a1 a2 a3 a4 : Int) (G : GS) : GO := gvm a0 <|
  (gl 100 G a0 18).bind fun x1 => (gl 100 G a0 19).bind fun x2 => (gs 119 G x2 x1 a1).bind fun G3 => (gl 100 G3 a0 25).bind fun x4 => (gs 125 G3 x4 x1 a2).bind fun G5 => (gl 100 G5 a0 26).bind fun x6 => (gs 126 G5 x6 x1 a3).bind fun G7 => (gl 100 G7 a0 27).bind fun x8 => (gs 127 G7 x8 x1 a4).bind fun G9 => (gl 100 G9 a0 28).bind fun x10 => (gl 100 G9 a0 29).bind fun x11 => (gs 128 G9 x10 x11 (w32 (100 + x1))).bind fun G12 => (gl 100 G12 a0 29).bind fun x13 => (gs 100 G12 a0 29 (w32 (x13 + 1))).bind fun G14 => (gl 100 G14 a0 18).bind fun x15 => (gs 100 G14 a0 18 (w32 (x15 + 1))).bind fun G16 => some (x1, G16)
set_option maxHeartbeats 4000000 in
theorem s_X9_condition {ad : Nat → Nat → Nat} {Cn : Nat → Nat} {H : PH} {G G' : GS} {rr : Int} {a0 a1 a2 a3 a4 b0 : Int} (hS : SimA ad Cn H G) (w0 : vrel ad Cn 100 b0 a0) (h : g_X9_condition a0 a1 a2 a3 a4 G = some (rr, G')) : RS ad Cn (f_X9_condition b0 a1 a2 a3 a4 H) 0 rr G' := by
  unfold g_X9_condition at h
  unfold f_X9_condition
  obtain ⟨hv, h⟩ := gvm_spec h
  refine rb_vm 100 9 hS w0 hv rfl ?_
  obtain ⟨x1, ex1, h⟩ := bnd h
  refine rb_ld 100 hS w0 ex1 rfl rfl ?_
  obtain ⟨x2, ex2, h⟩ := bnd h
  refine rb_ldr 100 119 hS w0 ex2 rfl rfl ?_
  intro bx2 wx2
  obtain ⟨G3, eG3, h⟩ := bnd h
  refine rb_st 119 hS wx2 (show rrel _ _ 0 _ _ from rfl) eG3 rfl ?_
  intro H hS
  obtain ⟨x4, ex4, h⟩ := bnd h
  refine rb_ldr 100 125 hS w0 ex4 rfl rfl ?_
  intro bx4 wx4
  obtain ⟨G5, eG5, h⟩ := bnd h
  refine rb_st 125 hS wx4 (show rrel _ _ 0 _ _ from rfl) eG5 rfl ?_
  intro H hS
  obtain ⟨x6, ex6, h⟩ := bnd h
  refine rb_ldr 100 126 hS w0 ex6 rfl rfl ?_
  intro bx6 wx6
  obtain ⟨G7, eG7, h⟩ := bnd h
  refine rb_st 126 hS wx6 (show rrel _ _ 0 _ _ from rfl) eG7 rfl ?_
  intro H hS
  obtain ⟨x8, ex8, h⟩ := bnd h
  refine rb_ldr 100 127 hS w0 ex8 rfl rfl ?_
  intro bx8 wx8
  obtain ⟨G9, eG9, h⟩ := bnd h
  refine rb_st 127 hS wx8 (show rrel _ _ 0 _ _ from rfl) eG9 rfl ?_
  intro H hS
  obtain ⟨x10, ex10, h⟩ := bnd h
  refine rb_ldr 100 128 hS w0 ex10 rfl rfl ?_
  intro bx10 wx10
  obtain ⟨x11, ex11, h⟩ := bnd h
  refine rb_ld 100 hS w0 ex11 rfl rfl ?_
  obtain ⟨G12, eG12, h⟩ := bnd h
  refine rb_st 128 hS wx10 (show rrel _ _ 0 _ _ from rfl) eG12 rfl ?_
  intro H hS
  obtain ⟨x13, ex13, h⟩ := bnd h
  refine rb_ld 100 hS w0 ex13 rfl rfl ?_
  obtain ⟨G14, eG14, h⟩ := bnd h
  refine rb_st 100 hS w0 (show rrel _ _ 0 _ _ from rfl) eG14 rfl ?_
  intro H hS
  obtain ⟨x15, ex15, h⟩ := bnd h
  refine rb_ld 100 hS w0 ex15 rfl rfl ?_
  obtain ⟨G16, eG16, h⟩ := bnd h
  refine rb_st 100 hS w0 (show rrel _ _ 0 _ _ from rfl) eG16 rfl ?_
  intro H hS
  cases h
  exact rret hS rfl
/-! HouseholdVaultModel.ask(IIJ)I by roles -/
def gjX9_ask_70 (p0 p1 p2 p3 : Int) (G : GS) : GO :=
  (gl 100 G p0 18).bind fun x1 => (if x1 ≠ 60 then (gl 100 G p0 2).bind fun x2 => (gl 102 G x2 p2).bind fun x3 => (g_X9_condition p0 0 x3 1 p2 G).bind fun z4 => (gl 100 z4.2 p0 20).bind fun x5 => (gs 120 z4.2 x5 z4.1 p1).bind fun G6 => (gl 100 G6 p0 21).bind fun x7 => (gs 121 G6 x7 z4.1 p2).bind fun G8 => (gl 100 G8 p0 22).bind fun x9 => (gs 122 G8 x9 z4.1 p3).bind fun G10 => some (z4.1, G10)
  else some ((-4), G))
set_option maxHeartbeats 4000000 in
theorem sjX9_ask_70 {ad : Nat → Nat → Nat} {Cn : Nat → Nat} {H : PH} {G G' : GS} {rr : Int} {p0 p1 p2 p3 b0 : Int} (hS : SimA ad Cn H G) (w0 : vrel ad Cn 100 b0 p0) (h : gjX9_ask_70 p0 p1 p2 p3 G = some (rr, G')) : RS ad Cn (jX9_ask_70 b0 p1 p2 p3 H) 0 rr G' := by
  unfold gjX9_ask_70 at h
  unfold jX9_ask_70
  obtain ⟨x1, ex1, h⟩ := bnd h
  refine rb_ld 100 hS w0 ex1 rfl rfl ?_
  by_cases hc76 : x1 ≠ 60
  · have h := iteT hc76 h
    refine rif_t hc76 ?_
    obtain ⟨x2, ex2, h⟩ := bnd h
    refine rb_ldr 100 102 hS w0 ex2 rfl rfl ?_
    intro bx2 wx2
    obtain ⟨x3, ex3, h⟩ := bnd h
    refine rb_ld 102 hS wx2 ex3 rfl rfl ?_
    obtain ⟨z4, ez4, h⟩ := bnd h
    refine rb_call (ρc := 0) (s_X9_condition hS w0 ez4) ?_
    intro ad Cn bz4 H hS hx wz4
    dsimp only
    obtain rfl : bz4 = z4.1 := wz4
    have w0 := w0.mono hx
    obtain ⟨x5, ex5, h⟩ := bnd h
    refine rb_ldr 100 120 hS w0 ex5 rfl rfl ?_
    intro bx5 wx5
    obtain ⟨G6, eG6, h⟩ := bnd h
    refine rb_st 120 hS wx5 (show rrel _ _ 0 _ _ from rfl) eG6 rfl ?_
    intro H hS
    obtain ⟨x7, ex7, h⟩ := bnd h
    refine rb_ldr 100 121 hS w0 ex7 rfl rfl ?_
    intro bx7 wx7
    obtain ⟨G8, eG8, h⟩ := bnd h
    refine rb_st 121 hS wx7 (show rrel _ _ 0 _ _ from rfl) eG8 rfl ?_
    intro H hS
    obtain ⟨x9, ex9, h⟩ := bnd h
    refine rb_ldr 100 122 hS w0 ex9 rfl rfl ?_
    intro bx9 wx9
    obtain ⟨G10, eG10, h⟩ := bnd h
    refine rb_st 122 hS wx9 (show rrel _ _ 0 _ _ from rfl) eG10 rfl ?_
    intro H hS
    cases h
    exact rret hS rfl
  · have h := iteF hc76 h
    refine rif_f hc76 ?_
    cases h
    exact rret hS rfl
def gjX9_ask_57 (p0 p1 p2 p3 : Int) (G : GS) : GO :=
  (gl 100 G p0 1).bind fun x1 => (gl 101 G x1 p2).bind fun x2 => (if x2 ≥ 2 then gjX9_ask_70 p0 p1 p2 p3 G
  else some ((-2), G))
set_option maxHeartbeats 4000000 in
theorem sjX9_ask_57 {ad : Nat → Nat → Nat} {Cn : Nat → Nat} {H : PH} {G G' : GS} {rr : Int} {p0 p1 p2 p3 b0 : Int} (hS : SimA ad Cn H G) (w0 : vrel ad Cn 100 b0 p0) (h : gjX9_ask_57 p0 p1 p2 p3 G = some (rr, G')) : RS ad Cn (jX9_ask_57 b0 p1 p2 p3 H) 0 rr G' := by
  unfold gjX9_ask_57 at h
  unfold jX9_ask_57
  obtain ⟨x1, ex1, h⟩ := bnd h
  refine rb_ldr 100 101 hS w0 ex1 rfl rfl ?_
  intro bx1 wx1
  obtain ⟨x2, ex2, h⟩ := bnd h
  refine rb_ld 101 hS wx1 ex2 rfl rfl ?_
  by_cases hc64 : x2 ≥ 2
  · have h := iteT hc64 h
    refine rif_t hc64 ?_
    exact sjX9_ask_70 hS w0 h
  · have h := iteF hc64 h
    refine rif_f hc64 ?_
    cases h
    exact rret hS rfl
def gjX9_ask_47 (p0 p1 p2 p3 : Int) (G : GS) : GO :=
  (if p1 = 1 then gjX9_ask_57 p0 p1 p2 p3 G
  else (if p1 ≠ 2 then gjX9_ask_70 p0 p1 p2 p3 G
  else gjX9_ask_57 p0 p1 p2 p3 G))
set_option maxHeartbeats 4000000 in
theorem sjX9_ask_47 {ad : Nat → Nat → Nat} {Cn : Nat → Nat} {H : PH} {G G' : GS} {rr : Int} {p0 p1 p2 p3 b0 : Int} (hS : SimA ad Cn H G) (w0 : vrel ad Cn 100 b0 p0) (h : gjX9_ask_47 p0 p1 p2 p3 G = some (rr, G')) : RS ad Cn (jX9_ask_47 b0 p1 p2 p3 H) 0 rr G' := by
  unfold gjX9_ask_47 at h
  unfold jX9_ask_47
  by_cases hc49 : p1 = 1
  · have h := iteT hc49 h
    refine rif_t hc49 ?_
    exact sjX9_ask_57 hS w0 h
  · have h := iteF hc49 h
    refine rif_f hc49 ?_
    by_cases hc54 : p1 ≠ 2
    · have h := iteT hc54 h
      refine rif_t hc54 ?_
      exact sjX9_ask_70 hS w0 h
    · have h := iteF hc54 h
      refine rif_f hc54 ?_
      exact sjX9_ask_57 hS w0 h
def g_X9_ask (a0 a1 a2 a3 : Int) (G : GS) : GO := gvm a0 <|
  (g_X9_in a1 0 3 G).bind fun z1 => (if z1.1 = 0 then some ((-1), z1.2)
  else (g_X9_isQuestion a0 a2 z1.2).bind fun z2 => (if z2.1 = 0 then some ((-1), z2.2)
  else (if a1 ≠ 0 then gjX9_ask_47 a0 a1 a2 a3 z2.2
  else (gl 100 z2.2 a0 1).bind fun x3 => (gl 101 z2.2 x3 a2).bind fun x4 => (if x4 ≠ 1 then gjX9_ask_47 a0 a1 a2 a3 z2.2
  else (g_X9_in a3 0 7 z2.2).bind fun z5 => (if z5.1 ≠ 0 then gjX9_ask_47 a0 a1 a2 a3 z5.2
  else some ((-1), z5.2))))))
set_option maxHeartbeats 4000000 in
theorem s_X9_ask {ad : Nat → Nat → Nat} {Cn : Nat → Nat} {H : PH} {G G' : GS} {rr : Int} {a0 a1 a2 a3 b0 : Int} (hS : SimA ad Cn H G) (w0 : vrel ad Cn 100 b0 a0) (h : g_X9_ask a0 a1 a2 a3 G = some (rr, G')) : RS ad Cn (f_X9_ask b0 a1 a2 a3 H) 0 rr G' := by
  unfold g_X9_ask at h
  unfold f_X9_ask
  obtain ⟨hv, h⟩ := gvm_spec h
  refine rb_vm 100 9 hS w0 hv rfl ?_
  obtain ⟨z1, ez1, h⟩ := bnd h
  refine rb_call (ρc := 0) (s_X9_in hS ez1) ?_
  intro ad Cn bz1 H hS hx wz1
  dsimp only
  obtain rfl : bz1 = z1.1 := wz1
  have w0 := w0.mono hx
  by_cases hc9 : z1.1 = 0
  · have h := iteT hc9 h
    refine rif_t hc9 ?_
    cases h
    exact rret hS rfl
  · have h := iteF hc9 h
    refine rif_f hc9 ?_
    obtain ⟨z2, ez2, h⟩ := bnd h
    refine rb_call (ρc := 0) (s_X9_isQuestion hS w0 ez2) ?_
    intro ad Cn bz2 H hS hx wz2
    dsimp only
    obtain rfl : bz2 = z2.1 := wz2
    have w0 := w0.mono hx
    by_cases hc17 : z2.1 = 0
    · have h := iteT hc17 h
      refine rif_t hc17 ?_
      cases h
      exact rret hS rfl
    · have h := iteF hc17 h
      refine rif_f hc17 ?_
      by_cases hc21 : a1 ≠ 0
      · have h := iteT hc21 h
        refine rif_t hc21 ?_
        exact sjX9_ask_47 hS w0 h
      · have h := iteF hc21 h
        refine rif_f hc21 ?_
        obtain ⟨x3, ex3, h⟩ := bnd h
        refine rb_ldr 100 101 hS w0 ex3 rfl rfl ?_
        intro bx3 wx3
        obtain ⟨x4, ex4, h⟩ := bnd h
        refine rb_ld 101 hS wx3 ex4 rfl rfl ?_
        by_cases hc31 : x4 ≠ 1
        · have h := iteT hc31 h
          refine rif_t hc31 ?_
          exact sjX9_ask_47 hS w0 h
        · have h := iteF hc31 h
          refine rif_f hc31 ?_
          obtain ⟨z5, ez5, h⟩ := bnd h
          refine rb_call (ρc := 0) (s_X9_in hS ez5) ?_
          intro ad Cn bz5 H hS hx wz5
          dsimp only
          obtain rfl : bz5 = z5.1 := wz5
          have w0 := w0.mono hx
          by_cases hc42 : z5.1 ≠ 0
          · have h := iteT hc42 h
            refine rif_t hc42 ?_
            exact sjX9_ask_47 hS w0 h
          · have h := iteF hc42 h
            refine rif_f hc42 ?_
            cases h
            exact rret hS rfl
/-! HouseholdVaultModel.logic(III)I by roles -/
def gjX9_logic_193 (p0 p2 p4 s0 s1 s2 s3 s4 : Int) (G : GS) : GO :=
  (g_X9_condition s0 s1 s2 s3 s4 G).bind fun z1 => (gl 100 z1.2 p0 23).bind fun x2 => (gs 123 z1.2 x2 z1.1 p2).bind fun G3 => (gl 100 G3 p0 24).bind fun x4 => (gs 124 G3 x4 z1.1 p4).bind fun G5 => some (z1.1, G5)
set_option maxHeartbeats 4000000 in
theorem sjX9_logic_193 {ad : Nat → Nat → Nat} {Cn : Nat → Nat} {H : PH} {G G' : GS} {rr : Int} {p0 p2 p4 s0 s1 s2 s3 s4 b0 bs0 : Int} (hS : SimA ad Cn H G) (w0 : vrel ad Cn 100 b0 p0) (ws0 : vrel ad Cn 100 bs0 s0) (h : gjX9_logic_193 p0 p2 p4 s0 s1 s2 s3 s4 G = some (rr, G')) : RS ad Cn (jX9_logic_193 b0 p2 p4 bs0 s1 s2 s3 s4 H) 0 rr G' := by
  unfold gjX9_logic_193 at h
  unfold jX9_logic_193
  obtain ⟨z1, ez1, h⟩ := bnd h
  refine rb_call (ρc := 0) (s_X9_condition hS ws0 ez1) ?_
  intro ad Cn bz1 H hS hx wz1
  dsimp only
  obtain rfl : bz1 = z1.1 := wz1
  have w0 := w0.mono hx
  obtain ⟨x2, ex2, h⟩ := bnd h
  refine rb_ldr 100 123 hS w0 ex2 rfl rfl ?_
  intro bx2 wx2
  obtain ⟨G3, eG3, h⟩ := bnd h
  refine rb_st 123 hS wx2 (show rrel _ _ 0 _ _ from rfl) eG3 rfl ?_
  intro H hS
  obtain ⟨x4, ex4, h⟩ := bnd h
  refine rb_ldr 100 124 hS w0 ex4 rfl rfl ?_
  intro bx4 wx4
  obtain ⟨G5, eG5, h⟩ := bnd h
  refine rb_st 124 hS wx4 (show rrel _ _ 0 _ _ from rfl) eG5 rfl ?_
  intro H hS
  cases h
  exact rret hS rfl
def gjX9_logic_159 (p0 p2 p4 p5 s0 s1 s2 : Int) (G : GS) : GO :=
  (gl 100 G p0 27).bind fun x1 => (gl 127 G x1 p2).bind fun x2 => (gl 100 G p0 27).bind fun x3 => (gl 127 G x3 p4).bind fun x4 => (if x2 ≤ x4 then (gl 100 G p0 27).bind fun x5 => (gl 127 G x5 p4).bind fun x6 => gjX9_logic_193 p0 p2 p4 s0 s1 s2 p5 x6 G
  else (gl 100 G p0 27).bind fun x7 => (gl 127 G x7 p2).bind fun x8 => gjX9_logic_193 p0 p2 p4 s0 s1 s2 p5 x8 G)
set_option maxHeartbeats 4000000 in
theorem sjX9_logic_159 {ad : Nat → Nat → Nat} {Cn : Nat → Nat} {H : PH} {G G' : GS} {rr : Int} {p0 p2 p4 p5 s0 s1 s2 b0 bs0 : Int} (hS : SimA ad Cn H G) (w0 : vrel ad Cn 100 b0 p0) (ws0 : vrel ad Cn 100 bs0 s0) (h : gjX9_logic_159 p0 p2 p4 p5 s0 s1 s2 G = some (rr, G')) : RS ad Cn (jX9_logic_159 b0 p2 p4 p5 bs0 s1 s2 H) 0 rr G' := by
  unfold gjX9_logic_159 at h
  unfold jX9_logic_159
  obtain ⟨x1, ex1, h⟩ := bnd h
  refine rb_ldr 100 127 hS w0 ex1 rfl rfl ?_
  intro bx1 wx1
  obtain ⟨x2, ex2, h⟩ := bnd h
  refine rb_ld 127 hS wx1 ex2 rfl rfl ?_
  obtain ⟨x3, ex3, h⟩ := bnd h
  refine rb_ldr 100 127 hS w0 ex3 rfl rfl ?_
  intro bx3 wx3
  obtain ⟨x4, ex4, h⟩ := bnd h
  refine rb_ld 127 hS wx3 ex4 rfl rfl ?_
  by_cases hc174 : x2 ≤ x4
  · have h := iteT hc174 h
    refine rif_t hc174 ?_
    obtain ⟨x5, ex5, h⟩ := bnd h
    refine rb_ldr 100 127 hS w0 ex5 rfl rfl ?_
    intro bx5 wx5
    obtain ⟨x6, ex6, h⟩ := bnd h
    refine rb_ld 127 hS wx5 ex6 rfl rfl ?_
    exact sjX9_logic_193 hS w0 ws0 h
  · have h := iteF hc174 h
    refine rif_f hc174 ?_
    obtain ⟨x7, ex7, h⟩ := bnd h
    refine rb_ldr 100 127 hS w0 ex7 rfl rfl ?_
    intro bx7 wx7
    obtain ⟨x8, ex8, h⟩ := bnd h
    refine rb_ld 127 hS wx7 ex8 rfl rfl ?_
    exact sjX9_logic_193 hS w0 ws0 h
def gjX9_logic_108 (p0 p1 p2 p4 s0 s1 : Int) (G : GS) : GO :=
  (gl 100 G p0 18).bind fun x1 => (if x1 = 60 then some ((-4), G)
  else (if (w32 (s0 + s1)) ≤ 30 then (gl 100 G p0 25).bind fun x2 => (gl 125 G x2 p2).bind fun x3 => (if x3 ≥ 0 then (gl 100 G p0 25).bind fun x4 => (gl 125 G x4 p2).bind fun x5 => gjX9_logic_159 p0 p2 p4 (w32 (s0 + s1)) p0 (w32 (p1 + 1)) x5 G
  else (gl 100 G p0 25).bind fun x6 => (gl 125 G x6 p4).bind fun x7 => gjX9_logic_159 p0 p2 p4 (w32 (s0 + s1)) p0 (w32 (p1 + 1)) x7 G)
  else some ((-4), G)))
set_option maxHeartbeats 4000000 in
theorem sjX9_logic_108 {ad : Nat → Nat → Nat} {Cn : Nat → Nat} {H : PH} {G G' : GS} {rr : Int} {p0 p1 p2 p4 s0 s1 b0 : Int} (hS : SimA ad Cn H G) (w0 : vrel ad Cn 100 b0 p0) (h : gjX9_logic_108 p0 p1 p2 p4 s0 s1 G = some (rr, G')) : RS ad Cn (jX9_logic_108 b0 p1 p2 p4 s0 s1 H) 0 rr G' := by
  unfold gjX9_logic_108 at h
  unfold jX9_logic_108
  obtain ⟨x1, ex1, h⟩ := bnd h
  refine rb_ld 100 hS w0 ex1 rfl rfl ?_
  by_cases hc117 : x1 = 60
  · have h := iteT hc117 h
    refine rif_t hc117 ?_
    cases h
    exact rret hS rfl
  · have h := iteF hc117 h
    refine rif_f hc117 ?_
    by_cases hc124 : (w32 (s0 + s1)) ≤ 30
    · have h := iteT hc124 h
      refine rif_t hc124 ?_
      obtain ⟨x2, ex2, h⟩ := bnd h
      refine rb_ldr 100 125 hS w0 ex2 rfl rfl ?_
      intro bx2 wx2
      obtain ⟨x3, ex3, h⟩ := bnd h
      refine rb_ld 125 hS wx2 ex3 rfl rfl ?_
      by_cases hc140 : x3 ≥ 0
      · have h := iteT hc140 h
        refine rif_t hc140 ?_
        obtain ⟨x4, ex4, h⟩ := bnd h
        refine rb_ldr 100 125 hS w0 ex4 rfl rfl ?_
        intro bx4 wx4
        obtain ⟨x5, ex5, h⟩ := bnd h
        refine rb_ld 125 hS wx4 ex5 rfl rfl ?_
        exact sjX9_logic_159 hS w0 w0 h
      · have h := iteF hc140 h
        refine rif_f hc140 ?_
        obtain ⟨x6, ex6, h⟩ := bnd h
        refine rb_ldr 100 125 hS w0 ex6 rfl rfl ?_
        intro bx6 wx6
        obtain ⟨x7, ex7, h⟩ := bnd h
        refine rb_ld 125 hS wx6 ex7 rfl rfl ?_
        exact sjX9_logic_159 hS w0 w0 h
    · have h := iteF hc124 h
      refine rif_f hc124 ?_
      cases h
      exact rret hS rfl
def gjX9_logic_85 (p0 p1 p2 p3 p4 : Int) (G : GS) : GO :=
  (gl 100 G p0 26).bind fun x1 => (gl 126 G x1 p2).bind fun x2 => (if p1 ≥ 2 then gjX9_logic_108 p0 p1 p2 p4 (w32 (1 + x2)) 0 G
  else (gl 100 G p0 26).bind fun x3 => (gl 126 G x3 p3).bind fun x4 => gjX9_logic_108 p0 p1 p2 p4 (w32 (1 + x2)) x4 G)
set_option maxHeartbeats 4000000 in
theorem sjX9_logic_85 {ad : Nat → Nat → Nat} {Cn : Nat → Nat} {H : PH} {G G' : GS} {rr : Int} {p0 p1 p2 p3 p4 b0 : Int} (hS : SimA ad Cn H G) (w0 : vrel ad Cn 100 b0 p0) (h : gjX9_logic_85 p0 p1 p2 p3 p4 G = some (rr, G')) : RS ad Cn (jX9_logic_85 b0 p1 p2 p3 p4 H) 0 rr G' := by
  unfold gjX9_logic_85 at h
  unfold jX9_logic_85
  obtain ⟨x1, ex1, h⟩ := bnd h
  refine rb_ldr 100 126 hS w0 ex1 rfl rfl ?_
  intro bx1 wx1
  obtain ⟨x2, ex2, h⟩ := bnd h
  refine rb_ld 126 hS wx1 ex2 rfl rfl ?_
  by_cases hc95 : p1 ≥ 2
  · have h := iteT hc95 h
    refine rif_t hc95 ?_
    exact sjX9_logic_108 hS w0 h
  · have h := iteF hc95 h
    refine rif_f hc95 ?_
    obtain ⟨x3, ex3, h⟩ := bnd h
    refine rb_ldr 100 126 hS w0 ex3 rfl rfl ?_
    intro bx3 wx3
    obtain ⟨x4, ex4, h⟩ := bnd h
    refine rb_ld 126 hS wx3 ex4 rfl rfl ?_
    exact sjX9_logic_108 hS w0 h
def gjX9_logic_45 (p0 p1 p2 p3 s0 : Int) (G : GS) : GO :=
  (gl 100 G p0 25).bind fun x1 => (gl 125 G x1 p2).bind fun x2 => (if x2 < 0 then gjX9_logic_85 p0 p1 p2 p3 s0 G
  else (gl 100 G p0 25).bind fun x3 => (gl 125 G x3 s0).bind fun x4 => (if x4 < 0 then gjX9_logic_85 p0 p1 p2 p3 s0 G
  else (gl 100 G p0 25).bind fun x5 => (gl 125 G x5 p2).bind fun x6 => (gl 100 G p0 25).bind fun x7 => (gl 125 G x7 s0).bind fun x8 => (if x6 = x8 then gjX9_logic_85 p0 p1 p2 p3 s0 G
  else some ((-2), G))))
set_option maxHeartbeats 4000000 in
theorem sjX9_logic_45 {ad : Nat → Nat → Nat} {Cn : Nat → Nat} {H : PH} {G G' : GS} {rr : Int} {p0 p1 p2 p3 s0 b0 : Int} (hS : SimA ad Cn H G) (w0 : vrel ad Cn 100 b0 p0) (h : gjX9_logic_45 p0 p1 p2 p3 s0 G = some (rr, G')) : RS ad Cn (jX9_logic_45 b0 p1 p2 p3 s0 H) 0 rr G' := by
  unfold gjX9_logic_45 at h
  unfold jX9_logic_45
  obtain ⟨x1, ex1, h⟩ := bnd h
  refine rb_ldr 100 125 hS w0 ex1 rfl rfl ?_
  intro bx1 wx1
  obtain ⟨x2, ex2, h⟩ := bnd h
  refine rb_ld 125 hS wx1 ex2 rfl rfl ?_
  by_cases hc53 : x2 < 0
  · have h := iteT hc53 h
    refine rif_t hc53 ?_
    exact sjX9_logic_85 hS w0 h
  · have h := iteF hc53 h
    refine rif_f hc53 ?_
    obtain ⟨x3, ex3, h⟩ := bnd h
    refine rb_ldr 100 125 hS w0 ex3 rfl rfl ?_
    intro bx3 wx3
    obtain ⟨x4, ex4, h⟩ := bnd h
    refine rb_ld 125 hS wx3 ex4 rfl rfl ?_
    by_cases hc63 : x4 < 0
    · have h := iteT hc63 h
      refine rif_t hc63 ?_
      exact sjX9_logic_85 hS w0 h
    · have h := iteF hc63 h
      refine rif_f hc63 ?_
      obtain ⟨x5, ex5, h⟩ := bnd h
      refine rb_ldr 100 125 hS w0 ex5 rfl rfl ?_
      intro bx5 wx5
      obtain ⟨x6, ex6, h⟩ := bnd h
      refine rb_ld 125 hS wx5 ex6 rfl rfl ?_
      obtain ⟨x7, ex7, h⟩ := bnd h
      refine rb_ldr 100 125 hS w0 ex7 rfl rfl ?_
      intro bx7 wx7
      obtain ⟨x8, ex8, h⟩ := bnd h
      refine rb_ld 125 hS wx7 ex8 rfl rfl ?_
      by_cases hc79 : x6 = x8
      · have h := iteT hc79 h
        refine rif_t hc79 ?_
        exact sjX9_logic_85 hS w0 h
      · have h := iteF hc79 h
        refine rif_f hc79 ?_
        cases h
        exact rret hS rfl
def gjX9_logic_35 (p0 p1 p2 p3 : Int) (G : GS) : GO :=
  (if p1 ≥ 2 then gjX9_logic_45 p0 p1 p2 p3 p2 G
  else gjX9_logic_45 p0 p1 p2 p3 p3 G)
set_option maxHeartbeats 4000000 in
theorem sjX9_logic_35 {ad : Nat → Nat → Nat} {Cn : Nat → Nat} {H : PH} {G G' : GS} {rr : Int} {p0 p1 p2 p3 b0 : Int} (hS : SimA ad Cn H G) (w0 : vrel ad Cn 100 b0 p0) (h : gjX9_logic_35 p0 p1 p2 p3 G = some (rr, G')) : RS ad Cn (jX9_logic_35 b0 p1 p2 p3 H) 0 rr G' := by
  unfold gjX9_logic_35 at h
  unfold jX9_logic_35
  by_cases hc37 : p1 ≥ 2
  · have h := iteT hc37 h
    refine rif_t hc37 ?_
    exact sjX9_logic_45 hS w0 h
  · have h := iteF hc37 h
    refine rif_f hc37 ?_
    exact sjX9_logic_45 hS w0 h
def g_X9_logic (a0 a1 a2 a3 : Int) (G : GS) : GO := gvm a0 <|
  (g_X9_in a1 0 2 G).bind fun z1 => (if z1.1 = 0 then some ((-1), z1.2)
  else (g_X9_isCondition a0 a2 z1.2).bind fun z2 => (if z2.1 = 0 then some ((-1), z2.2)
  else (if a1 ≥ 2 then gjX9_logic_35 a0 a1 a2 a3 z2.2
  else (g_X9_isCondition a0 a3 z2.2).bind fun z3 => (if z3.1 ≠ 0 then gjX9_logic_35 a0 a1 a2 a3 z3.2
  else some ((-1), z3.2)))))
set_option maxHeartbeats 4000000 in
theorem s_X9_logic {ad : Nat → Nat → Nat} {Cn : Nat → Nat} {H : PH} {G G' : GS} {rr : Int} {a0 a1 a2 a3 b0 : Int} (hS : SimA ad Cn H G) (w0 : vrel ad Cn 100 b0 a0) (h : g_X9_logic a0 a1 a2 a3 G = some (rr, G')) : RS ad Cn (f_X9_logic b0 a1 a2 a3 H) 0 rr G' := by
  unfold g_X9_logic at h
  unfold f_X9_logic
  obtain ⟨hv, h⟩ := gvm_spec h
  refine rb_vm 100 9 hS w0 hv rfl ?_
  obtain ⟨z1, ez1, h⟩ := bnd h
  refine rb_call (ρc := 0) (s_X9_in hS ez1) ?_
  intro ad Cn bz1 H hS hx wz1
  dsimp only
  obtain rfl : bz1 = z1.1 := wz1
  have w0 := w0.mono hx
  by_cases hc9 : z1.1 = 0
  · have h := iteT hc9 h
    refine rif_t hc9 ?_
    cases h
    exact rret hS rfl
  · have h := iteF hc9 h
    refine rif_f hc9 ?_
    obtain ⟨z2, ez2, h⟩ := bnd h
    refine rb_call (ρc := 0) (s_X9_isCondition hS w0 ez2) ?_
    intro ad Cn bz2 H hS hx wz2
    dsimp only
    obtain rfl : bz2 = z2.1 := wz2
    have w0 := w0.mono hx
    by_cases hc17 : z2.1 = 0
    · have h := iteT hc17 h
      refine rif_t hc17 ?_
      cases h
      exact rret hS rfl
    · have h := iteF hc17 h
      refine rif_f hc17 ?_
      by_cases hc22 : a1 ≥ 2
      · have h := iteT hc22 h
        refine rif_t hc22 ?_
        exact sjX9_logic_35 hS w0 h
      · have h := iteF hc22 h
        refine rif_f hc22 ?_
        obtain ⟨z3, ez3, h⟩ := bnd h
        refine rb_call (ρc := 0) (s_X9_isCondition hS w0 ez3) ?_
        intro ad Cn bz3 H hS hx wz3
        dsimp only
        obtain rfl : bz3 = z3.1 := wz3
        have w0 := w0.mono hx
        by_cases hc30 : z3.1 ≠ 0
        · have h := iteT hc30 h
          refine rif_t hc30 ?_
          exact sjX9_logic_35 hS w0 h
        · have h := iteF hc30 h
          refine rif_f hc30 ?_
          cases h
          exact rret hS rfl
