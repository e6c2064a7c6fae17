/-! HouseholdVaultModel.changes(II)I by roles -/
def g_X9_changes (a0 a1 a2 : Int) (G : GS) : GO := gvm a0 <|
  (g_X9_isEdition a0 a1 G).bind fun z1 => (if z1.1 = 0 then some ((-1), z1.2)
  else (g_X9_isEdition a0 a2 z1.2).bind fun z2 => (if z2.1 = 0 then some ((-1), z2.2)
  else (g_X9_countChanges a0 a1 a2 (-1) z2.2).bind fun z3 => some (z3.1, z3.2)))
set_option maxHeartbeats 4000000 in
theorem s_X9_changes {ad : Nat → Nat → Nat} {Cn : Nat → Nat} {H : PH} {G G' : GS} {rr : Int} {a0 a1 a2 b0 : Int} (hS : SimA ad Cn H G) (w0 : vrel ad Cn 100 b0 a0) (h : g_X9_changes a0 a1 a2 G = some (rr, G')) : RS ad Cn (f_X9_changes b0 a1 a2 H) 0 rr G' := by
  unfold g_X9_changes at h
  unfold f_X9_changes
  obtain ⟨hv, h⟩ := gvm_spec h
  refine rb_vm 100 9 hS w0 hv rfl ?_
  obtain ⟨z1, ez1, h⟩ := bnd h
  refine rb_call (ρc := 0) (s_X9_isEdition hS w0 ez1) ?_
  intro ad Cn bz1 H hS hx wz1
  dsimp only
  obtain rfl : bz1 = z1.1 := wz1
  have w0 := w0.mono hx
  by_cases hc5 : z1.1 = 0
  · have h := iteT hc5 h
    refine rif_t hc5 ?_
    cases h
    exact rret hS rfl
  · have h := iteF hc5 h
    refine rif_f hc5 ?_
    obtain ⟨z2, ez2, h⟩ := bnd h
    refine rb_call (ρc := 0) (s_X9_isEdition hS w0 ez2) ?_
    intro ad Cn bz2 H hS hx wz2
    dsimp only
    obtain rfl : bz2 = z2.1 := wz2
    have w0 := w0.mono hx
    by_cases hc13 : z2.1 = 0
    · have h := iteT hc13 h
      refine rif_t hc13 ?_
      cases h
      exact rret hS rfl
    · have h := iteF hc13 h
      refine rif_f hc13 ?_
      obtain ⟨z3, ez3, h⟩ := bnd h
      refine rb_call (ρc := 0) (s_X9_countChanges hS w0 ez3) ?_
      intro ad Cn bz3 H hS hx wz3
      dsimp only
      obtain rfl : bz3 = z3.1 := wz3
      have w0 := w0.mono hx
      cases h
      exact rret hS rfl
/-! HouseholdVaultModel.changeAt(IIII)I by roles -/
def gjX9_changeAt_44 (G : GS) : GO :=
  some ((-2), G)
set_option maxHeartbeats 4000000 in
theorem sjX9_changeAt_44 {ad : Nat → Nat → Nat} {Cn : Nat → Nat} {H : PH} {G G' : GS} {rr : Int} (hS : SimA ad Cn H G)  (h : gjX9_changeAt_44  G = some (rr, G')) : RS ad Cn (jX9_changeAt_44  H) 0 rr G' := by
  unfold gjX9_changeAt_44 at h
  unfold jX9_changeAt_44
  cases h
  exact rret hS rfl
def g_X9_changeAt (a0 a1 a2 a3 a4 : Int) (G : GS) : GO := gvm a0 <|
  (g_X9_isEdition a0 a1 G).bind fun z1 => (if z1.1 = 0 then gjX9_changeAt_44  z1.2
  else (g_X9_isEdition a0 a2 z1.2).bind fun z2 => (if z2.1 = 0 then gjX9_changeAt_44  z2.2
  else (g_X9_in a4 0 2 z2.2).bind fun z3 => (if z3.1 = 0 then gjX9_changeAt_44  z3.2
  else (if a3 < 0 then gjX9_changeAt_44  z3.2
  else (g_X9_countChanges a0 a1 a2 a3 z3.2).bind fun z4 => (if a3 < z4.1 then (g_X9_sought a0 a4 z4.2).bind fun z5 => some (z5.1, z5.2)
  else gjX9_changeAt_44  z4.2)))))
set_option maxHeartbeats 4000000 in
theorem s_X9_changeAt {ad : Nat → Nat → Nat} {Cn : Nat → Nat} {H : PH} {G G' : GS} {rr : Int} {a0 a1 a2 a3 a4 b0 : Int} (hS : SimA ad Cn H G) (w0 : vrel ad Cn 100 b0 a0) (h : g_X9_changeAt a0 a1 a2 a3 a4 G = some (rr, G')) : RS ad Cn (f_X9_changeAt b0 a1 a2 a3 a4 H) 0 rr G' := by
  unfold g_X9_changeAt at h
  unfold f_X9_changeAt
  obtain ⟨hv, h⟩ := gvm_spec h
  refine rb_vm 100 9 hS w0 hv rfl ?_
  obtain ⟨z1, ez1, h⟩ := bnd h
  refine rb_call (ρc := 0) (s_X9_isEdition hS w0 ez1) ?_
  intro ad Cn bz1 H hS hx wz1
  dsimp only
  obtain rfl : bz1 = z1.1 := wz1
  have w0 := w0.mono hx
  by_cases hc5 : z1.1 = 0
  · have h := iteT hc5 h
    refine rif_t hc5 ?_
    exact sjX9_changeAt_44 hS h
  · have h := iteF hc5 h
    refine rif_f hc5 ?_
    obtain ⟨z2, ez2, h⟩ := bnd h
    refine rb_call (ρc := 0) (s_X9_isEdition hS w0 ez2) ?_
    intro ad Cn bz2 H hS hx wz2
    dsimp only
    obtain rfl : bz2 = z2.1 := wz2
    have w0 := w0.mono hx
    by_cases hc13 : z2.1 = 0
    · have h := iteT hc13 h
      refine rif_t hc13 ?_
      exact sjX9_changeAt_44 hS h
    · have h := iteF hc13 h
      refine rif_f hc13 ?_
      obtain ⟨z3, ez3, h⟩ := bnd h
      refine rb_call (ρc := 0) (s_X9_in hS ez3) ?_
      intro ad Cn bz3 H hS hx wz3
      dsimp only
      obtain rfl : bz3 = z3.1 := wz3
      have w0 := w0.mono hx
      by_cases hc26 : z3.1 = 0
      · have h := iteT hc26 h
        refine rif_t hc26 ?_
        exact sjX9_changeAt_44 hS h
      · have h := iteF hc26 h
        refine rif_f hc26 ?_
        by_cases hc30 : a3 < 0
        · have h := iteT hc30 h
          refine rif_t hc30 ?_
          exact sjX9_changeAt_44 hS h
        · have h := iteF hc30 h
          refine rif_f hc30 ?_
          obtain ⟨z4, ez4, h⟩ := bnd h
          refine rb_call (ρc := 0) (s_X9_countChanges hS w0 ez4) ?_
          intro ad Cn bz4 H hS hx wz4
          dsimp only
          obtain rfl : bz4 = z4.1 := wz4
          have w0 := w0.mono hx
          by_cases hc41 : a3 < z4.1
          · have h := iteT hc41 h
            refine rif_t hc41 ?_
            obtain ⟨z5, ez5, h⟩ := bnd h
            refine rb_call (ρc := 0) (s_X9_sought hS w0 ez5) ?_
            intro ad Cn bz5 H hS hx wz5
            dsimp only
            obtain rfl : bz5 = z5.1 := wz5
            have w0 := w0.mono hx
            cases h
            exact rret hS rfl
          · have h := iteF hc41 h
            refine rif_f hc41 ?_
            exact sjX9_changeAt_44 hS h
/-! HouseholdVaultModel.merge(I)I by roles -/
def gjX9_merge_221 (self14 : Int → Int → GS → GO) (self27 : Int → Int → GS → GO) (p0 p1 p2 p3 p4 : Int) (G : GS) : GO :=
  self27 p2 (w32 (p4 + 1)) G
set_option maxHeartbeats 4000000 in
theorem sjX9_merge_221 {ad : Nat → Nat → Nat} {Cn : Nat → Nat} {H : PH} {G G' : GS} {rr : Int} {fself14 : Int → Int → PH → RO} {self14 : Int → Int → GS → GO} {fself27 : Int → Int → PH → RO} {self27 : Int → Int → GS → GO} {p0 p1 p2 p3 p4 b0 : Int} (ih14 : ∀ (ad : Nat → Nat → Nat) (Cn : Nat → Nat) (H : PH) (G : GS) (v2 v3 : Int) , SimA ad Cn H G → vrel ad Cn 100 b0 p0 → self14 v2 v3 G = some (rr, G') → RS ad Cn (fself14 v2 v3 H) 0 rr G') (ih27 : ∀ (ad : Nat → Nat → Nat) (Cn : Nat → Nat) (H : PH) (G : GS) (v2 v4 : Int) , SimA ad Cn H G → vrel ad Cn 100 b0 p0 → self27 v2 v4 G = some (rr, G') → RS ad Cn (fself27 v2 v4 H) 0 rr G') (hS : SimA ad Cn H G) (w0 : vrel ad Cn 100 b0 p0) (h : gjX9_merge_221 self14 self27 p0 p1 p2 p3 p4 G = some (rr, G')) : RS ad Cn (jX9_merge_221 fself14 fself27 b0 p1 p2 p3 p4 H) 0 rr G' := by
  unfold gjX9_merge_221 at h
  unfold jX9_merge_221
  exact ih27 _ _ _ _ p2 (w32 (p4 + 1))  hS w0  h
def gjX9_merge_215 (self14 : Int → Int → GS → GO) (self27 : Int → Int → GS → GO) (self136 : Int → Int → GS → GO) (p0 p1 p2 p3 p4 p5 p6 p7 : Int) (G : GS) : GO :=
  self136 p2 (w32 (p7 + 1)) G
set_option maxHeartbeats 4000000 in
theorem sjX9_merge_215 {ad : Nat → Nat → Nat} {Cn : Nat → Nat} {H : PH} {G G' : GS} {rr : Int} {fself14 : Int → Int → PH → RO} {self14 : Int → Int → GS → GO} {fself27 : Int → Int → PH → RO} {self27 : Int → Int → GS → GO} {fself136 : Int → Int → PH → RO} {self136 : Int → Int → GS → GO} {p0 p1 p2 p3 p4 p5 p6 p7 b0 : Int} (ih14 : ∀ (ad : Nat → Nat → Nat) (Cn : Nat → Nat) (H : PH) (G : GS) (v2 v3 : Int) , SimA ad Cn H G → vrel ad Cn 100 b0 p0 → self14 v2 v3 G = some (rr, G') → RS ad Cn (fself14 v2 v3 H) 0 rr G') (ih27 : ∀ (ad : Nat → Nat → Nat) (Cn : Nat → Nat) (H : PH) (G : GS) (v2 v4 : Int) , SimA ad Cn H G → vrel ad Cn 100 b0 p0 → self27 v2 v4 G = some (rr, G') → RS ad Cn (fself27 v2 v4 H) 0 rr G') (ih136 : ∀ (ad : Nat → Nat → Nat) (Cn : Nat → Nat) (H : PH) (G : GS) (v2 v7 : Int) , SimA ad Cn H G → vrel ad Cn 100 b0 p0 → self136 v2 v7 G = some (rr, G') → RS ad Cn (fself136 v2 v7 H) 0 rr G') (hS : SimA ad Cn H G) (w0 : vrel ad Cn 100 b0 p0) (h : gjX9_merge_215 self14 self27 self136 p0 p1 p2 p3 p4 p5 p6 p7 G = some (rr, G')) : RS ad Cn (jX9_merge_215 fself14 fself27 fself136 b0 p1 p2 p3 p4 p5 p6 p7 H) 0 rr G' := by
  unfold gjX9_merge_215 at h
  unfold jX9_merge_215
  exact ih136 _ _ _ _ p2 (w32 (p7 + 1))  hS w0  h
def glX9_merge_136 (self14 : Int → Int → GS → GO) (self27 : Int → Int → GS → GO) (p0 p1 p3 p4 p5 p6 : Int) (self136 : Int → Int → GS → GO) (p2 p7 : Int) (G : GS) : GO :=
  (if p7 > p5 then gjX9_merge_221 self14 self27 p0 p1 p2 p3 p4 G
  else (if p7 > p6 then gjX9_merge_221 self14 self27 p0 p1 p2 p3 p4 G
  else (g_X9_place p3 p4 p7 G).bind fun z1 => (gl 100 z1.2 p0 16).bind fun x2 => (gl 116 z1.2 x2 z1.1).bind fun x3 => (if x3 ≤ 0 then gjX9_merge_215 self14 self27 self136 p0 p1 p2 p3 p4 p5 p6 p7 z1.2
  else (gl 100 z1.2 p0 34).bind fun x4 => (gl 134 z1.2 x4 (w32 ((w32 (5760 * p1)) + z1.1))).bind fun x5 => (if x5 ≠ 0 then gjX9_merge_215 self14 self27 self136 p0 p1 p2 p3 p4 p5 p6 p7 z1.2
  else (gl 100 z1.2 p0 15).bind fun x6 => (gl 100 z1.2 p0 33).bind fun x7 => (gl 133 z1.2 x7 (w32 ((w32 (5760 * p1)) + z1.1))).bind fun x8 => (gs 115 z1.2 x6 z1.1 x8).bind fun G9 => (gl 100 G9 p0 16).bind fun x10 => (gs 116 G9 x10 z1.1 0).bind fun G11 => gjX9_merge_215 self14 self27 self136 p0 p1 (w32 (p2 + 1)) p3 p4 p5 p6 p7 G11))))
set_option maxHeartbeats 4000000 in
theorem slX9_merge_136 {G' : GS} {rr : Int} {fself14 : Int → Int → PH → RO} {self14 : Int → Int → GS → GO} {fself27 : Int → Int → PH → RO} {self27 : Int → Int → GS → GO} {p0 p1 p3 p4 p5 p6 b0 : Int} (ih14 : ∀ (ad : Nat → Nat → Nat) (Cn : Nat → Nat) (H : PH) (G : GS) (v2 v3 : Int) , SimA ad Cn H G → vrel ad Cn 100 b0 p0 → self14 v2 v3 G = some (rr, G') → RS ad Cn (fself14 v2 v3 H) 0 rr G') (ih27 : ∀ (ad : Nat → Nat → Nat) (Cn : Nat → Nat) (H : PH) (G : GS) (v2 v4 : Int) , SimA ad Cn H G → vrel ad Cn 100 b0 p0 → self27 v2 v4 G = some (rr, G') → RS ad Cn (fself27 v2 v4 H) 0 rr G') : ∀ (n : Nat) (ad : Nat → Nat → Nat) (Cn : Nat → Nat) (H : PH) (G : GS) (p2 p7 : Int) , SimA ad Cn H G → vrel ad Cn 100 b0 p0 → lh2 (glX9_merge_136 self14 self27 p0 p1 p3 p4 p5 p6) n p2 p7 G = some (rr, G') → RS ad Cn (lq2 (lX9_merge_136 fself14 fself27 b0 p1 p3 p4 p5 p6) n p2 p7 H) 0 rr G' := by
  intro n
  induction n with
  | zero => intro ad Cn H G p2 p7 hS w0 h; cases h
  | succ n ih136 =>
    intro ad Cn H G p2 p7 hS w0 h
    rw [lh2_s] at h
    rw [lq2_s]
    generalize lh2 (glX9_merge_136 self14 self27 p0 p1 p3 p4 p5 p6) n = self136 at ih136 h
    generalize lq2 (lX9_merge_136 fself14 fself27 b0 p1 p3 p4 p5 p6) n = fself136 at ih136 ⊢
    unfold glX9_merge_136 at h
    unfold lX9_merge_136
    by_cases hc140 : p7 > p5
    · have h := iteT hc140 h
      refine rif_t hc140 ?_
      exact sjX9_merge_221 ih14 ih27 hS w0 h
    · have h := iteF hc140 h
      refine rif_f hc140 ?_
      by_cases hc147 : p7 > p6
      · have h := iteT hc147 h
        refine rif_t hc147 ?_
        exact sjX9_merge_221 ih14 ih27 hS w0 h
      · have h := iteF hc147 h
        refine rif_f hc147 ?_
        obtain ⟨z1, ez1, h⟩ := bnd h
        refine rb_call (ρc := 0) (s_X9_place hS ez1) ?_
        intro ad Cn bz1 H hS hx wz1
        dsimp only
        obtain rfl : bz1 = z1.1 := wz1
        have w0 := w0.mono hx
        obtain ⟨x2, ex2, h⟩ := bnd h
        refine rb_ldr 100 116 hS w0 ex2 rfl rfl ?_
        intro bx2 wx2
        obtain ⟨x3, ex3, h⟩ := bnd h
        refine rb_ld 116 hS wx2 ex3 rfl rfl ?_
        by_cases hc177 : x3 ≤ 0
        · have h := iteT hc177 h
          refine rif_t hc177 ?_
          exact sjX9_merge_215 ih14 ih27 ih136 hS w0 h
        · have h := iteF hc177 h
          refine rif_f hc177 ?_
          obtain ⟨x4, ex4, h⟩ := bnd h
          refine rb_ldr 100 134 hS w0 ex4 rfl rfl ?_
          intro bx4 wx4
          obtain ⟨x5, ex5, h⟩ := bnd h
          refine rb_ld 134 hS wx4 ex5 rfl rfl ?_
          by_cases hc187 : x5 ≠ 0
          · have h := iteT hc187 h
            refine rif_t hc187 ?_
            exact sjX9_merge_215 ih14 ih27 ih136 hS w0 h
          · have h := iteF hc187 h
            refine rif_f hc187 ?_
            obtain ⟨x6, ex6, h⟩ := bnd h
            refine rb_ldr 100 115 hS w0 ex6 rfl rfl ?_
            intro bx6 wx6
            obtain ⟨x7, ex7, h⟩ := bnd h
            refine rb_ldr 100 133 hS w0 ex7 rfl rfl ?_
            intro bx7 wx7
            obtain ⟨x8, ex8, h⟩ := bnd h
            refine rb_ld 133 hS wx7 ex8 rfl rfl ?_
            obtain ⟨G9, eG9, h⟩ := bnd h
            refine rb_st 115 hS wx6 (show rrel _ _ 0 _ _ from rfl) eG9 rfl ?_
            intro H hS
            obtain ⟨x10, ex10, h⟩ := bnd h
            refine rb_ldr 100 116 hS w0 ex10 rfl rfl ?_
            intro bx10 wx10
            obtain ⟨G11, eG11, h⟩ := bnd h
            refine rb_st 116 hS wx10 (show rrel _ _ 0 _ _ from rfl) eG11 rfl ?_
            intro H hS
            exact sjX9_merge_215 ih14 ih27 ih136 hS w0 h
def gjX9_merge_134 (self14 : Int → Int → GS → GO) (self27 : Int → Int → GS → GO) (p0 p1 p2 p3 p4 p5 p6 s0 : Int) (G : GS) : GO :=
  lh2 (glX9_merge_136 self14 self27 p0 p1 p3 p4 p5 p6) 6000 p2 s0 G
set_option maxHeartbeats 4000000 in
theorem sjX9_merge_134 {ad : Nat → Nat → Nat} {Cn : Nat → Nat} {H : PH} {G G' : GS} {rr : Int} {fself14 : Int → Int → PH → RO} {self14 : Int → Int → GS → GO} {fself27 : Int → Int → PH → RO} {self27 : Int → Int → GS → GO} {p0 p1 p2 p3 p4 p5 p6 s0 b0 : Int} (ih14 : ∀ (ad : Nat → Nat → Nat) (Cn : Nat → Nat) (H : PH) (G : GS) (v2 v3 : Int) , SimA ad Cn H G → vrel ad Cn 100 b0 p0 → self14 v2 v3 G = some (rr, G') → RS ad Cn (fself14 v2 v3 H) 0 rr G') (ih27 : ∀ (ad : Nat → Nat → Nat) (Cn : Nat → Nat) (H : PH) (G : GS) (v2 v4 : Int) , SimA ad Cn H G → vrel ad Cn 100 b0 p0 → self27 v2 v4 G = some (rr, G') → RS ad Cn (fself27 v2 v4 H) 0 rr G') (hS : SimA ad Cn H G) (w0 : vrel ad Cn 100 b0 p0) (h : gjX9_merge_134 self14 self27 p0 p1 p2 p3 p4 p5 p6 s0 G = some (rr, G')) : RS ad Cn (jX9_merge_134 fself14 fself27 b0 p1 p2 p3 p4 p5 p6 s0 H) 0 rr G' := by
  unfold gjX9_merge_134 at h
  unfold jX9_merge_134
  exact slX9_merge_136 ih14 ih27 6000 _ _ _ _ p2 s0  hS w0 h
def gjX9_merge_117 (self14 : Int → Int → GS → GO) (self27 : Int → Int → GS → GO) (p0 p1 p2 p3 p4 p5 s0 : Int) (G : GS) : GO :=
  (gl 100 G p0 2).bind fun x1 => (gl 102 G x1 p4).bind fun x2 => (if x2 ≥ 0 then gjX9_merge_134 self14 self27 p0 p1 p2 p3 p4 p5 s0 1 G
  else gjX9_merge_134 self14 self27 p0 p1 p2 p3 p4 p5 s0 0 G)
set_option maxHeartbeats 4000000 in
theorem sjX9_merge_117 {ad : Nat → Nat → Nat} {Cn : Nat → Nat} {H : PH} {G G' : GS} {rr : Int} {fself14 : Int → Int → PH → RO} {self14 : Int → Int → GS → GO} {fself27 : Int → Int → PH → RO} {self27 : Int → Int → GS → GO} {p0 p1 p2 p3 p4 p5 s0 b0 : Int} (ih14 : ∀ (ad : Nat → Nat → Nat) (Cn : Nat → Nat) (H : PH) (G : GS) (v2 v3 : Int) , SimA ad Cn H G → vrel ad Cn 100 b0 p0 → self14 v2 v3 G = some (rr, G') → RS ad Cn (fself14 v2 v3 H) 0 rr G') (ih27 : ∀ (ad : Nat → Nat → Nat) (Cn : Nat → Nat) (H : PH) (G : GS) (v2 v4 : Int) , SimA ad Cn H G → vrel ad Cn 100 b0 p0 → self27 v2 v4 G = some (rr, G') → RS ad Cn (fself27 v2 v4 H) 0 rr G') (hS : SimA ad Cn H G) (w0 : vrel ad Cn 100 b0 p0) (h : gjX9_merge_117 self14 self27 p0 p1 p2 p3 p4 p5 s0 G = some (rr, G')) : RS ad Cn (jX9_merge_117 fself14 fself27 b0 p1 p2 p3 p4 p5 s0 H) 0 rr G' := by
  unfold gjX9_merge_117 at h
  unfold jX9_merge_117
  obtain ⟨x1, ex1, h⟩ := bnd h
  refine rb_ldr 100 102 hS w0 ex1 rfl rfl ?_
  intro bx1 wx1
  obtain ⟨x2, ex2, h⟩ := bnd h
  refine rb_ld 102 hS wx1 ex2 rfl rfl ?_
  by_cases hc126 : x2 ≥ 0
  · have h := iteT hc126 h
    refine rif_t hc126 ?_
    exact sjX9_merge_134 ih14 ih27 hS w0 h
  · have h := iteF hc126 h
    refine rif_f hc126 ?_
    exact sjX9_merge_134 ih14 ih27 hS w0 h
def gjX9_merge_88 (self14 : Int → Int → GS → GO) (self27 : Int → Int → GS → GO) (p0 p1 p2 p3 p4 s0 : Int) (G : GS) : GO :=
  (gl 100 G p0 2).bind fun x1 => (gl 102 G x1 p4).bind fun x2 => (if x2 ≥ 0 then (gl 100 G p0 2).bind fun x3 => (gl 102 G x3 p4).bind fun x4 => (g_X9_personsThen p0 p1 p3 x4 G).bind fun z5 => gjX9_merge_117 self14 self27 p0 p1 p2 p3 p4 s0 z5.1 z5.2
  else gjX9_merge_117 self14 self27 p0 p1 p2 p3 p4 s0 0 G)
set_option maxHeartbeats 4000000 in
theorem sjX9_merge_88 {ad : Nat → Nat → Nat} {Cn : Nat → Nat} {H : PH} {G G' : GS} {rr : Int} {fself14 : Int → Int → PH → RO} {self14 : Int → Int → GS → GO} {fself27 : Int → Int → PH → RO} {self27 : Int → Int → GS → GO} {p0 p1 p2 p3 p4 s0 b0 : Int} (ih14 : ∀ (ad : Nat → Nat → Nat) (Cn : Nat → Nat) (H : PH) (G : GS) (v2 v3 : Int) , SimA ad Cn H G → vrel ad Cn 100 b0 p0 → self14 v2 v3 G = some (rr, G') → RS ad Cn (fself14 v2 v3 H) 0 rr G') (ih27 : ∀ (ad : Nat → Nat → Nat) (Cn : Nat → Nat) (H : PH) (G : GS) (v2 v4 : Int) , SimA ad Cn H G → vrel ad Cn 100 b0 p0 → self27 v2 v4 G = some (rr, G') → RS ad Cn (fself27 v2 v4 H) 0 rr G') (hS : SimA ad Cn H G) (w0 : vrel ad Cn 100 b0 p0) (h : gjX9_merge_88 self14 self27 p0 p1 p2 p3 p4 s0 G = some (rr, G')) : RS ad Cn (jX9_merge_88 fself14 fself27 b0 p1 p2 p3 p4 s0 H) 0 rr G' := by
  unfold gjX9_merge_88 at h
  unfold jX9_merge_88
  obtain ⟨x1, ex1, h⟩ := bnd h
  refine rb_ldr 100 102 hS w0 ex1 rfl rfl ?_
  intro bx1 wx1
  obtain ⟨x2, ex2, h⟩ := bnd h
  refine rb_ld 102 hS wx1 ex2 rfl rfl ?_
  by_cases hc97 : x2 ≥ 0
  · have h := iteT hc97 h
    refine rif_t hc97 ?_
    obtain ⟨x3, ex3, h⟩ := bnd h
    refine rb_ldr 100 102 hS w0 ex3 rfl rfl ?_
    intro bx3 wx3
    obtain ⟨x4, ex4, h⟩ := bnd h
    refine rb_ld 102 hS wx3 ex4 rfl rfl ?_
    obtain ⟨z5, ez5, h⟩ := bnd h
    refine rb_call (ρc := 0) (s_X9_personsThen hS w0 ez5) ?_
    intro ad Cn bz5 H hS hx wz5
    dsimp only
    obtain rfl : bz5 = z5.1 := wz5
    have w0 := w0.mono hx
    exact sjX9_merge_117 ih14 ih27 hS w0 h
  · have h := iteF hc97 h
    refine rif_f hc97 ?_
    exact sjX9_merge_117 ih14 ih27 hS w0 h
def glX9_merge_27 (self14 : Int → Int → GS → GO) (p0 p1 p3 : Int) (self27 : Int → Int → GS → GO) (p2 p4 : Int) (G : GS) : GO :=
  (gl 100 G p0 32).bind fun x1 => (gl 132 G x1 p1).bind fun x2 => (if p4 ≥ x2 then self14 p2 (w32 (p3 + 1)) G
  else (gl 100 G p0 3).bind fun x3 => (gl 103 G x3 p4).bind fun x4 => (if x4 > 0 then gjX9_merge_221 self14 self27 p0 p1 p2 p3 p4 G
  else (gl 100 G p0 1).bind fun x5 => (gl 101 G x5 p4).bind fun x6 => (if x6 ≠ 5 then (gl 100 G p0 2).bind fun x7 => (gl 102 G x7 p4).bind fun x8 => (if x8 ≥ 0 then (gl 100 G p0 2).bind fun x9 => (gl 102 G x9 p4).bind fun x10 => (g_X9_persons p0 p3 x10 G).bind fun z11 => gjX9_merge_88 self14 self27 p0 p1 p2 p3 p4 z11.1 z11.2
  else gjX9_merge_88 self14 self27 p0 p1 p2 p3 p4 0 G)
  else gjX9_merge_221 self14 self27 p0 p1 p2 p3 p4 G)))
set_option maxHeartbeats 4000000 in
theorem slX9_merge_27 {G' : GS} {rr : Int} {fself14 : Int → Int → PH → RO} {self14 : Int → Int → GS → GO} {p0 p1 p3 b0 : Int} (ih14 : ∀ (ad : Nat → Nat → Nat) (Cn : Nat → Nat) (H : PH) (G : GS) (v2 v3 : Int) , SimA ad Cn H G → vrel ad Cn 100 b0 p0 → self14 v2 v3 G = some (rr, G') → RS ad Cn (fself14 v2 v3 H) 0 rr G') : ∀ (n : Nat) (ad : Nat → Nat → Nat) (Cn : Nat → Nat) (H : PH) (G : GS) (p2 p4 : Int) , SimA ad Cn H G → vrel ad Cn 100 b0 p0 → lh2 (glX9_merge_27 self14 p0 p1 p3) n p2 p4 G = some (rr, G') → RS ad Cn (lq2 (lX9_merge_27 fself14 b0 p1 p3) n p2 p4 H) 0 rr G' := by
  intro n
  induction n with
  | zero => intro ad Cn H G p2 p4 hS w0 h; cases h
  | succ n ih27 =>
    intro ad Cn H G p2 p4 hS w0 h
    rw [lh2_s] at h
    rw [lq2_s]
    generalize lh2 (glX9_merge_27 self14 p0 p1 p3) n = self27 at ih27 h
    generalize lq2 (lX9_merge_27 fself14 b0 p1 p3) n = fself27 at ih27 ⊢
    unfold glX9_merge_27 at h
    unfold lX9_merge_27
    obtain ⟨x1, ex1, h⟩ := bnd h
    refine rb_ldr 100 132 hS w0 ex1 rfl rfl ?_
    intro bx1 wx1
    obtain ⟨x2, ex2, h⟩ := bnd h
    refine rb_ld 132 hS wx1 ex2 rfl rfl ?_
    by_cases hc35 : p4 ≥ x2
    · have h := iteT hc35 h
      refine rif_t hc35 ?_
      exact ih14 _ _ _ _ p2 (w32 (p3 + 1))  hS w0  h
    · have h := iteF hc35 h
      refine rif_f hc35 ?_
      obtain ⟨x3, ex3, h⟩ := bnd h
      refine rb_ldr 100 103 hS w0 ex3 rfl rfl ?_
      intro bx3 wx3
      obtain ⟨x4, ex4, h⟩ := bnd h
      refine rb_ld 103 hS wx3 ex4 rfl rfl ?_
      by_cases hc45 : x4 > 0
      · have h := iteT hc45 h
        refine rif_t hc45 ?_
        exact sjX9_merge_221 ih14 ih27 hS w0 h
      · have h := iteF hc45 h
        refine rif_f hc45 ?_
        obtain ⟨x5, ex5, h⟩ := bnd h
        refine rb_ldr 100 101 hS w0 ex5 rfl rfl ?_
        intro bx5 wx5
        obtain ⟨x6, ex6, h⟩ := bnd h
        refine rb_ld 101 hS wx5 ex6 rfl rfl ?_
        by_cases hc56 : x6 ≠ 5
        · have h := iteT hc56 h
          refine rif_t hc56 ?_
          obtain ⟨x7, ex7, h⟩ := bnd h
          refine rb_ldr 100 102 hS w0 ex7 rfl rfl ?_
          intro bx7 wx7
          obtain ⟨x8, ex8, h⟩ := bnd h
          refine rb_ld 102 hS wx7 ex8 rfl rfl ?_
          by_cases hc69 : x8 ≥ 0
          · have h := iteT hc69 h
            refine rif_t hc69 ?_
            obtain ⟨x9, ex9, h⟩ := bnd h
            refine rb_ldr 100 102 hS w0 ex9 rfl rfl ?_
            intro bx9 wx9
            obtain ⟨x10, ex10, h⟩ := bnd h
            refine rb_ld 102 hS wx9 ex10 rfl rfl ?_
            obtain ⟨z11, ez11, h⟩ := bnd h
            refine rb_call (ρc := 0) (s_X9_persons hS w0 ez11) ?_
            intro ad Cn bz11 H hS hx wz11
            dsimp only
            obtain rfl : bz11 = z11.1 := wz11
            have w0 := w0.mono hx
            exact sjX9_merge_88 ih14 ih27 hS w0 h
          · have h := iteF hc69 h
            refine rif_f hc69 ?_
            exact sjX9_merge_88 ih14 ih27 hS w0 h
        · have h := iteF hc56 h
          refine rif_f hc56 ?_
          exact sjX9_merge_221 ih14 ih27 hS w0 h
def glX9_merge_14 (p0 p1 : Int) (self14 : Int → Int → GS → GO) (p2 p3 : Int) (G : GS) : GO :=
  (gl 100 G p0 31).bind fun x1 => (gl 131 G x1 p1).bind fun x2 => (if p3 ≥ x2 then some (p2, G)
  else lh2 (glX9_merge_27 self14 p0 p1 p3) 6000 p2 0 G)
set_option maxHeartbeats 4000000 in
theorem slX9_merge_14 {G' : GS} {rr : Int} {p0 p1 b0 : Int} : ∀ (n : Nat) (ad : Nat → Nat → Nat) (Cn : Nat → Nat) (H : PH) (G : GS) (p2 p3 : Int) , SimA ad Cn H G → vrel ad Cn 100 b0 p0 → lh2 (glX9_merge_14 p0 p1) n p2 p3 G = some (rr, G') → RS ad Cn (lq2 (lX9_merge_14 b0 p1) n p2 p3 H) 0 rr G' := by
  intro n
  induction n with
  | zero => intro ad Cn H G p2 p3 hS w0 h; cases h
  | succ n ih14 =>
    intro ad Cn H G p2 p3 hS w0 h
    rw [lh2_s] at h
    rw [lq2_s]
    generalize lh2 (glX9_merge_14 p0 p1) n = self14 at ih14 h
    generalize lq2 (lX9_merge_14 b0 p1) n = fself14 at ih14 ⊢
    unfold glX9_merge_14 at h
    unfold lX9_merge_14
    obtain ⟨x1, ex1, h⟩ := bnd h
    refine rb_ldr 100 131 hS w0 ex1 rfl rfl ?_
    intro bx1 wx1
    obtain ⟨x2, ex2, h⟩ := bnd h
    refine rb_ld 131 hS wx1 ex2 rfl rfl ?_
    by_cases hc21 : p3 ≥ x2
    · have h := iteT hc21 h
      refine rif_t hc21 ?_
      cases h
      exact rret hS rfl
    · have h := iteF hc21 h
      refine rif_f hc21 ?_
      exact slX9_merge_27 ih14 6000 _ _ _ _ p2 0  hS w0 h
def g_X9_merge (a0 a1 : Int) (G : GS) : GO := gvm a0 <|
  (g_X9_isEdition a0 a1 G).bind fun z1 => (if z1.1 ≠ 0 then lh2 (glX9_merge_14 a0 a1) 6000 0 0 z1.2
  else some ((-1), z1.2))
set_option maxHeartbeats 4000000 in
theorem s_X9_merge {ad : Nat → Nat → Nat} {Cn : Nat → Nat} {H : PH} {G G' : GS} {rr : Int} {a0 a1 b0 : Int} (hS : SimA ad Cn H G) (w0 : vrel ad Cn 100 b0 a0) (h : g_X9_merge a0 a1 G = some (rr, G')) : RS ad Cn (f_X9_merge b0 a1 H) 0 rr G' := by
  unfold g_X9_merge at h
  unfold f_X9_merge
  obtain ⟨hv, h⟩ := gvm_spec h
  refine rb_vm 100 9 hS w0 hv rfl ?_
  obtain ⟨z1, ez1, h⟩ := bnd h
  refine rb_call (ρc := 0) (s_X9_isEdition hS w0 ez1) ?_
  intro ad Cn bz1 H hS hx wz1
  dsimp only
  obtain rfl : bz1 = z1.1 := wz1
  have w0 := w0.mono hx
  by_cases hc5 : z1.1 ≠ 0
  · have h := iteT hc5 h
    refine rif_t hc5 ?_
    exact slX9_merge_14 6000 _ _ _ _ 0 0  hS w0 h
  · have h := iteF hc5 h
    refine rif_f hc5 ?_
    cases h
    exact rret hS rfl
/-! HouseholdVaultModel.count(I)I by roles -/
def g_X9_count (a0 a1 : Int) (G : GS) : GO := gvm a0 <|
  (if a1 < 0 ∨ 5 < a1 then some ((-1), G)
  else List.getD [(gl 100 G a0 0).bind fun x1 => some (x1, G), (gl 100 G a0 14).bind fun x2 => some (x2, G), (gl 100 G a0 18).bind fun x3 => some (x3, G), (gl 100 G a0 30).bind fun x4 => some (x4, G), (gl 100 G a0 35).bind fun x5 => (if x5 = 0 then some (0, G)
  else (gl 100 G a0 37).bind fun x6 => some (x6, G)), (gl 100 G a0 35).bind fun x7 => (if x7 = 0 then some (0, G)
  else (gl 100 G a0 38).bind fun x8 => some (x8, G))] (a1 - 0).toNat none)
set_option maxHeartbeats 4000000 in
theorem s_X9_count {ad : Nat → Nat → Nat} {Cn : Nat → Nat} {H : PH} {G G' : GS} {rr : Int} {a0 a1 b0 : Int} (hS : SimA ad Cn H G) (w0 : vrel ad Cn 100 b0 a0) (h : g_X9_count a0 a1 G = some (rr, G')) : RS ad Cn (f_X9_count b0 a1 H) 0 rr G' := by
  unfold g_X9_count at h
  unfold f_X9_count
  obtain ⟨hv, h⟩ := gvm_spec h
  refine rb_vm 100 9 hS w0 hv rfl ?_
  by_cases hc : a1 < 0 ∨ 5 < a1
  · have h := iteT hc h
    refine rif_t hc ?_
    cases h
    exact rret hS rfl
  · have h := iteF hc h
    refine rif_f hc ?_
    obtain ⟨i, hin, ha⟩ := sw_case 6 hc (by decide)
    have h := sw_at ha h
    refine rsw ha ?_
    match i, hin, h with
    | 0, hin, h =>
      have h : ((gl 100 G a0 0).bind fun x1 => some (x1, G) : GO) = some (rr, G') := h
      simp only [List.getD_cons_succ, List.getD_cons_zero]
      obtain ⟨x1, ex1, h⟩ := bnd h
      refine rb_ld 100 hS w0 ex1 rfl rfl ?_
      cases h
      exact rret hS rfl
    | 1, hin, h =>
      have h : ((gl 100 G a0 14).bind fun x2 => some (x2, G) : GO) = some (rr, G') := h
      simp only [List.getD_cons_succ, List.getD_cons_zero]
      obtain ⟨x2, ex2, h⟩ := bnd h
      refine rb_ld 100 hS w0 ex2 rfl rfl ?_
      cases h
      exact rret hS rfl
    | 2, hin, h =>
      have h : ((gl 100 G a0 18).bind fun x3 => some (x3, G) : GO) = some (rr, G') := h
      simp only [List.getD_cons_succ, List.getD_cons_zero]
      obtain ⟨x3, ex3, h⟩ := bnd h
      refine rb_ld 100 hS w0 ex3 rfl rfl ?_
      cases h
      exact rret hS rfl
    | 3, hin, h =>
      have h : ((gl 100 G a0 30).bind fun x4 => some (x4, G) : GO) = some (rr, G') := h
      simp only [List.getD_cons_succ, List.getD_cons_zero]
      obtain ⟨x4, ex4, h⟩ := bnd h
      refine rb_ld 100 hS w0 ex4 rfl rfl ?_
      cases h
      exact rret hS rfl
    | 4, hin, h =>
      have h : ((gl 100 G a0 35).bind fun x5 => (if x5 = 0 then some (0, G)
  else (gl 100 G a0 37).bind fun x6 => some (x6, G)) : GO) = some (rr, G') := h
      simp only [List.getD_cons_succ, List.getD_cons_zero]
      obtain ⟨x5, ex5, h⟩ := bnd h
      refine rb_ld 100 hS w0 ex5 rfl rfl ?_
      by_cases hc64 : x5 = 0
      · have h := iteT hc64 h
        refine rif_t hc64 ?_
        cases h
        exact rret hS rfl
      · have h := iteF hc64 h
        refine rif_f hc64 ?_
        obtain ⟨x6, ex6, h⟩ := bnd h
        refine rb_ld 100 hS w0 ex6 rfl rfl ?_
        cases h
        exact rret hS rfl
    | 5, hin, h =>
      have h : ((gl 100 G a0 35).bind fun x7 => (if x7 = 0 then some (0, G)
  else (gl 100 G a0 38).bind fun x8 => some (x8, G)) : GO) = some (rr, G') := h
      simp only [List.getD_cons_succ, List.getD_cons_zero]
      obtain ⟨x7, ex7, h⟩ := bnd h
      refine rb_ld 100 hS w0 ex7 rfl rfl ?_
      by_cases hc80 : x7 = 0
      · have h := iteT hc80 h
        refine rif_t hc80 ?_
        cases h
        exact rret hS rfl
      · have h := iteF hc80 h
        refine rif_f hc80 ?_
        obtain ⟨x8, ex8, h⟩ := bnd h
        refine rb_ld 100 hS w0 ex8 rfl rfl ?_
        cases h
        exact rret hS rfl
    | i + 6, hin, h => exact absurd hin (by omega)
