/-! HouseholdVault.sum(I)I by roles -/
def gjX8_sum_42 (p0 p1 p2 : Int) (G : GS) : GO :=
  (gl 0 G p0 0).bind fun x1 => (g_X3_questionsAreFull x1 G).bind fun z2 => (if z2.1 = 0 then (gl 0 z2.2 p0 0).bind fun x3 => (gn 20 (cN 5 : Int) z2.2).bind fun z4 => (gl 20 z4.2 p2 0).bind fun x5 => (g_X5_init z4.1 x5 (-1) 3 p1 z4.2).bind fun z6 => (g_X3_addQuestion x3 z4.1 z6.2).bind fun z7 => some (z7.1, z7.2)
  else some ((-4), z2.2))
set_option maxHeartbeats 4000000 in
theorem sjX8_sum_42 {ad : Nat → Nat → Nat} {Cn : Nat → Nat} {H : PH} {G G' : GS} {rr : Int} {p0 p1 p2 b0 b2 : Int} (hS : SimA ad Cn H G) (w0 : vrel ad Cn 0 b0 p0) (w2 : vrel ad Cn 20 b2 p2) (h : gjX8_sum_42 p0 p1 p2 G = some (rr, G')) : RS ad Cn (jX8_sum_42 b0 p1 b2 H) 0 rr G' := by
  unfold gjX8_sum_42 at h
  unfold jX8_sum_42
  obtain ⟨x1, ex1, h⟩ := bnd h
  refine rb_ldr 0 1 hS w0 ex1 rfl rfl ?_
  intro bx1 wx1
  obtain ⟨z2, ez2, h⟩ := bnd h
  refine rb_call (ρc := 0) (s_X3_questionsAreFull hS wx1 ez2) ?_
  intro ad Cn bz2 H hS hx wz2
  dsimp only
  obtain rfl : bz2 = z2.1 := wz2
  have w0 := w0.mono hx
  have w2 := w2.mono hx
  by_cases hc49 : z2.1 = 0
  · have h := iteT hc49 h
    refine rif_t hc49 ?_
    obtain ⟨x3, ex3, h⟩ := bnd h
    refine rb_ldr 0 1 hS w0 ex3 rfl rfl ?_
    intro bx3 wx3
    obtain ⟨z4, ez4, h⟩ := bnd h
    refine rb_newo 20 hS ez4 rfl (by decide) ?_
    intro ad Cn bz4 H hS hx wz4
    dsimp only
    have w0 := w0.mono hx
    have w2 := w2.mono hx
    have wx3 := wx3.mono hx
    obtain ⟨x5, ex5, h⟩ := bnd h
    refine rb_ld 20 hS w2 ex5 rfl rfl ?_
    obtain ⟨z6, ez6, h⟩ := bnd h
    refine rb_call (ρc := 0) (s_X5_init hS wz4 ez6) ?_
    intro ad Cn bz6 H hS hx wz6
    dsimp only
    obtain rfl : bz6 = z6.1 := wz6
    have w0 := w0.mono hx
    have w2 := w2.mono hx
    have wx3 := wx3.mono hx
    have wz4 := wz4.mono hx
    obtain ⟨z7, ez7, h⟩ := bnd h
    refine rb_call (ρc := 0) (s_X3_addQuestion hS wx3 wz4 ez7) ?_
    intro ad Cn bz7 H hS hx wz7
    dsimp only
    obtain rfl : bz7 = z7.1 := wz7
    have w0 := w0.mono hx
    have w2 := w2.mono hx
    cases h
    exact rret hS rfl
  · have h := iteF hc49 h
    refine rif_f hc49 ?_
    cases h
    exact rret hS rfl
def g_X8_sum (a0 a1 : Int) (G : GS) : GO := gvm a0 <|
  (gl 0 G a0 0).bind fun x1 => (g_X3_questionOf x1 a1 G).bind fun z2 => (if z2.1 ≠ -1 then (gl 20 z2.2 z2.1 1).bind fun x3 => (if x3 = (-1) then some ((-2), z2.2)
  else (gl 20 z2.2 z2.1 0).bind fun x4 => (if x4 = 2 then gjX8_sum_42 a0 a1 z2.1 z2.2
  else (gl 20 z2.2 z2.1 0).bind fun x5 => (if x5 = 3 then gjX8_sum_42 a0 a1 z2.1 z2.2
  else some ((-2), z2.2))))
  else some ((-1), z2.2))
set_option maxHeartbeats 4000000 in
theorem s_X8_sum {ad : Nat → Nat → Nat} {Cn : Nat → Nat} {H : PH} {G G' : GS} {rr : Int} {a0 a1 b0 : Int} (hS : SimA ad Cn H G) (w0 : vrel ad Cn 0 b0 a0) (h : g_X8_sum a0 a1 G = some (rr, G')) : RS ad Cn (f_X8_sum b0 a1 H) 0 rr G' := by
  unfold g_X8_sum at h
  unfold f_X8_sum
  obtain ⟨hv, h⟩ := gvm_spec h
  refine rb_vm 0 8 hS w0 hv rfl ?_
  obtain ⟨x1, ex1, h⟩ := bnd h
  refine rb_ldr 0 1 hS w0 ex1 rfl rfl ?_
  intro bx1 wx1
  obtain ⟨z2, ez2, h⟩ := bnd h
  refine rb_call (ρc := 21) (s_X3_questionOf hS wx1 ez2) ?_
  intro ad Cn bz2 H hS hx wz2
  dsimp only
  have w0 := w0.mono hx
  by_cases hc10 : z2.1 ≠ -1
  · have h := iteT hc10 h
    refine rif_t (fun q => hc10 (wz2.null.mp q)) ?_
    obtain ⟨x3, ex3, h⟩ := bnd h
    refine rb_ld 20 hS wz2 ex3 rfl rfl ?_
    by_cases hc20 : x3 = (-1)
    · have h := iteT hc20 h
      refine rif_t hc20 ?_
      cases h
      exact rret hS rfl
    · have h := iteF hc20 h
      refine rif_f hc20 ?_
      obtain ⟨x4, ex4, h⟩ := bnd h
      refine rb_ld 20 hS wz2 ex4 rfl rfl ?_
      by_cases hc28 : x4 = 2
      · have h := iteT hc28 h
        refine rif_t hc28 ?_
        exact sjX8_sum_42 hS w0 wz2 h
      · have h := iteF hc28 h
        refine rif_f hc28 ?_
        obtain ⟨x5, ex5, h⟩ := bnd h
        refine rb_ld 20 hS wz2 ex5 rfl rfl ?_
        by_cases hc36 : x5 = 3
        · have h := iteT hc36 h
          refine rif_t hc36 ?_
          exact sjX8_sum_42 hS w0 wz2 h
        · have h := iteF hc36 h
          refine rif_f hc36 ?_
          cases h
          exact rret hS rfl
  · have h := iteF hc10 h
    refine rif_f (fun q => hc10 (fun z => q (wz2.null.mpr z))) ?_
    cases h
    exact rret hS rfl
/-! HouseholdVault.of(II)I by roles -/
def g_X8_of (a0 a1 a2 : Int) (G : GS) : GO := gvm a0 <|
  (gl 0 G a0 0).bind fun x1 => (g_X3_questionOf x1 a1 G).bind fun z2 => (if z2.1 ≠ -1 then (if a2 < 0 ∨ 5 < a2 then some ((-1), z2.2)
  else List.getD [(gl 20 z2.2 z2.1 0).bind fun x3 => some (x3, z2.2), (gl 20 z2.2 z2.1 1).bind fun x4 => some (x4, z2.2), (gl 20 z2.2 z2.1 5).bind fun x5 => some (x5, z2.2), (gl 20 z2.2 z2.1 2).bind fun x6 => some (x6, z2.2), (gl 20 z2.2 z2.1 10).bind fun x7 => some (x7, z2.2), (gl 20 z2.2 z2.1 11).bind fun x8 => (if x8 = 0 then some (0, z2.2)
  else some (1, z2.2))] (a2 - 0).toNat none)
  else some ((-1), z2.2))
set_option maxHeartbeats 4000000 in
theorem s_X8_of {ad : Nat → Nat → Nat} {Cn : Nat → Nat} {H : PH} {G G' : GS} {rr : Int} {a0 a1 a2 b0 : Int} (hS : SimA ad Cn H G) (w0 : vrel ad Cn 0 b0 a0) (h : g_X8_of a0 a1 a2 G = some (rr, G')) : RS ad Cn (f_X8_of b0 a1 a2 H) 0 rr G' := by
  unfold g_X8_of at h
  unfold f_X8_of
  obtain ⟨hv, h⟩ := gvm_spec h
  refine rb_vm 0 8 hS w0 hv rfl ?_
  obtain ⟨x1, ex1, h⟩ := bnd h
  refine rb_ldr 0 1 hS w0 ex1 rfl rfl ?_
  intro bx1 wx1
  obtain ⟨z2, ez2, h⟩ := bnd h
  refine rb_call (ρc := 21) (s_X3_questionOf hS wx1 ez2) ?_
  intro ad Cn bz2 H hS hx wz2
  dsimp only
  have w0 := w0.mono hx
  by_cases hc10 : z2.1 ≠ -1
  · have h := iteT hc10 h
    refine rif_t (fun q => hc10 (wz2.null.mp q)) ?_
    by_cases hc : a2 < 0 ∨ 5 < a2
    · have h := iteT hc h
      refine rif_t hc ?_
      cases h
      exact rret hS rfl
    · have h := iteF hc h
      refine rif_f hc ?_
      obtain ⟨i, hin, ha⟩ := sw_case 6 hc (by decide)
      have h := sw_at ha h
      refine rsw ha ?_
      match i, hin, h with
      | 0, hin, h =>
        have h : ((gl 20 z2.2 z2.1 0).bind fun x3 => some (x3, z2.2) : GO) = some (rr, G') := h
        simp only [List.getD_cons_succ, List.getD_cons_zero]
        obtain ⟨x3, ex3, h⟩ := bnd h
        refine rb_ld 20 hS wz2 ex3 rfl rfl ?_
        cases h
        exact rret hS rfl
      | 1, hin, h =>
        have h : ((gl 20 z2.2 z2.1 1).bind fun x4 => some (x4, z2.2) : GO) = some (rr, G') := h
        simp only [List.getD_cons_succ, List.getD_cons_zero]
        obtain ⟨x4, ex4, h⟩ := bnd h
        refine rb_ld 20 hS wz2 ex4 rfl rfl ?_
        cases h
        exact rret hS rfl
      | 2, hin, h =>
        have h : ((gl 20 z2.2 z2.1 5).bind fun x5 => some (x5, z2.2) : GO) = some (rr, G') := h
        simp only [List.getD_cons_succ, List.getD_cons_zero]
        obtain ⟨x5, ex5, h⟩ := bnd h
        refine rb_ld 20 hS wz2 ex5 rfl rfl ?_
        cases h
        exact rret hS rfl
      | 3, hin, h =>
        have h : ((gl 20 z2.2 z2.1 2).bind fun x6 => some (x6, z2.2) : GO) = some (rr, G') := h
        simp only [List.getD_cons_succ, List.getD_cons_zero]
        obtain ⟨x6, ex6, h⟩ := bnd h
        refine rb_ld 20 hS wz2 ex6 rfl rfl ?_
        cases h
        exact rret hS rfl
      | 4, hin, h =>
        have h : ((gl 20 z2.2 z2.1 10).bind fun x7 => some (x7, z2.2) : GO) = some (rr, G') := h
        simp only [List.getD_cons_succ, List.getD_cons_zero]
        obtain ⟨x7, ex7, h⟩ := bnd h
        refine rb_ld 20 hS wz2 ex7 rfl rfl ?_
        cases h
        exact rret hS rfl
      | 5, hin, h =>
        have h : ((gl 20 z2.2 z2.1 11).bind fun x8 => (if x8 = 0 then some (0, z2.2)
  else some (1, z2.2)) : GO) = some (rr, G') := h
        simp only [List.getD_cons_succ, List.getD_cons_zero]
        obtain ⟨x8, ex8, h⟩ := bnd h
        refine rb_ld 20 hS wz2 ex8 rfl rfl ?_
        by_cases hc85 : x8 = 0
        · have h := iteT hc85 h
          refine rif_t hc85 ?_
          cases h
          exact rret hS rfl
        · have h := iteF hc85 h
          refine rif_f hc85 ?_
          cases h
          exact rret hS rfl
      | i + 6, hin, h => exact absurd hin (by omega)
  · have h := iteF hc10 h
    refine rif_f (fun q => hc10 (fun z => q (wz2.null.mpr z))) ?_
    cases h
    exact rret hS rfl
/-! HouseholdVault.codeAt(II)I by roles -/
def g_X8_codeAt (a0 a1 a2 : Int) (G : GS) : GO := gvm a0 <|
  (gl 0 G a0 0).bind fun x1 => (g_X3_questionOf x1 a1 G).bind fun z2 => (if z2.1 = -1 then some (1000, z2.2)
  else (if a2 < 0 then some (1000, z2.2)
  else (gl 20 z2.2 z2.1 5).bind fun x3 => (if a2 < x3 then (gl 20 z2.2 z2.1 4).bind fun x4 => (gl 21 z2.2 x4 a2).bind fun x5 => some (x5, z2.2)
  else some (1000, z2.2))))
set_option maxHeartbeats 4000000 in
theorem s_X8_codeAt {ad : Nat → Nat → Nat} {Cn : Nat → Nat} {H : PH} {G G' : GS} {rr : Int} {a0 a1 a2 b0 : Int} (hS : SimA ad Cn H G) (w0 : vrel ad Cn 0 b0 a0) (h : g_X8_codeAt a0 a1 a2 G = some (rr, G')) : RS ad Cn (f_X8_codeAt b0 a1 a2 H) 0 rr G' := by
  unfold g_X8_codeAt at h
  unfold f_X8_codeAt
  obtain ⟨hv, h⟩ := gvm_spec h
  refine rb_vm 0 8 hS w0 hv rfl ?_
  obtain ⟨x1, ex1, h⟩ := bnd h
  refine rb_ldr 0 1 hS w0 ex1 rfl rfl ?_
  intro bx1 wx1
  obtain ⟨z2, ez2, h⟩ := bnd h
  refine rb_call (ρc := 21) (s_X3_questionOf hS wx1 ez2) ?_
  intro ad Cn bz2 H hS hx wz2
  dsimp only
  have w0 := w0.mono hx
  by_cases hc10 : z2.1 = -1
  · have h := iteT hc10 h
    refine rif_t (wz2.null.mpr hc10) ?_
    cases h
    exact rret hS rfl
  · have h := iteF hc10 h
    refine rif_f (fun q => hc10 (wz2.null.mp q)) ?_
    by_cases hc14 : a2 < 0
    · have h := iteT hc14 h
      refine rif_t hc14 ?_
      cases h
      exact rret hS rfl
    · have h := iteF hc14 h
      refine rif_f hc14 ?_
      obtain ⟨x3, ex3, h⟩ := bnd h
      refine rb_ld 20 hS wz2 ex3 rfl rfl ?_
      by_cases hc22 : a2 < x3
      · have h := iteT hc22 h
        refine rif_t hc22 ?_
        obtain ⟨x4, ex4, h⟩ := bnd h
        refine rb_ldr 20 21 hS wz2 ex4 rfl rfl ?_
        intro bx4 wx4
        obtain ⟨x5, ex5, h⟩ := bnd h
        refine rb_ld 21 hS wx4 ex5 rfl rfl ?_
        cases h
        exact rret hS rfl
      · have h := iteF hc22 h
        refine rif_f hc22 ?_
        cases h
        exact rret hS rfl
/-! HouseholdVault.household()I by roles -/
def gjX8_household_62 (self22 : Int → GS → GO) (p0 p1 p2 : Int) (G : GS) : GO :=
  self22 (w32 (p2 + 1)) G
set_option maxHeartbeats 4000000 in
theorem sjX8_household_62 {ad : Nat → Nat → Nat} {Cn : Nat → Nat} {H : PH} {G G' : GS} {rr : Int} {fself22 : Int → PH → RO} {self22 : Int → GS → GO} {p0 p1 p2 b0 b1 : Int} (ih22 : ∀ (ad : Nat → Nat → Nat) (Cn : Nat → Nat) (H : PH) (G : GS) (v2 : Int) , SimA ad Cn H G → vrel ad Cn 0 b0 p0 → vrel ad Cn 30 b1 p1 → self22 v2 G = some (rr, G') → RS ad Cn (fself22 v2 H) 0 rr G') (hS : SimA ad Cn H G) (w0 : vrel ad Cn 0 b0 p0) (w1 : vrel ad Cn 30 b1 p1) (h : gjX8_household_62 self22 p0 p1 p2 G = some (rr, G')) : RS ad Cn (jX8_household_62 fself22 b0 b1 p2 H) 0 rr G' := by
  unfold gjX8_household_62 at h
  unfold jX8_household_62
  exact ih22 _ _ _ _ (w32 (p2 + 1))  hS w0 w1  h
def glX8_household_22 (p0 p1 : Int) (self22 : Int → GS → GO) (p2 : Int) (G : GS) : GO :=
  (gl 0 G p0 0).bind fun x1 => (gl 1 G x1 1).bind fun x2 => (if p2 ≥ x2 then (gl 0 G p0 1).bind fun x3 => (gl 0 G p0 2).bind fun x4 => (gsa 5 G x3 x4 p1).bind fun G5 => (gl 0 G5 p0 2).bind fun x6 => (gs 0 G5 p0 2 (w32 (x6 + 1))).bind fun G7 => (gl 0 G7 p0 2).bind fun x8 => some ((w32 (x8 - 1)), G7)
  else (gl 0 G p0 0).bind fun x9 => (gl 1 G x9 0).bind fun x10 => (gl 2 G x10 p2).bind fun x11 => (gl 20 G x11 0).bind fun x12 => (if x12 ≠ 5 then gjX8_household_62 self22 p0 p1 p2 G
  else (gl 30 G p1 0).bind fun x13 => (g_X8_spot p2 (-1) G).bind fun z14 => (g_X6_put x13 z14.1 0 z14.2).bind fun z15 => gjX8_household_62 self22 p0 p1 p2 z15.2))
set_option maxHeartbeats 4000000 in
theorem slX8_household_22 {G' : GS} {rr : Int} {p0 p1 b0 b1 : Int} : ∀ (n : Nat) (ad : Nat → Nat → Nat) (Cn : Nat → Nat) (H : PH) (G : GS) (p2 : Int) , SimA ad Cn H G → vrel ad Cn 0 b0 p0 → vrel ad Cn 30 b1 p1 → lh1 (glX8_household_22 p0 p1) n p2 G = some (rr, G') → RS ad Cn (lq1 (lX8_household_22 b0 b1) n p2 H) 0 rr G' := by
  intro n
  induction n with
  | zero => intro ad Cn H G p2 hS w0 w1 h; cases h
  | succ n ih22 =>
    intro ad Cn H G p2 hS w0 w1 h
    rw [lh1_s] at h
    rw [lq1_s]
    generalize lh1 (glX8_household_22 p0 p1) n = self22 at ih22 h
    generalize lq1 (lX8_household_22 b0 b1) n = fself22 at ih22 ⊢
    unfold glX8_household_22 at h
    unfold lX8_household_22
    obtain ⟨x1, ex1, h⟩ := bnd h
    refine rb_ldr 0 1 hS w0 ex1 rfl rfl ?_
    intro bx1 wx1
    obtain ⟨x2, ex2, h⟩ := bnd h
    refine rb_ld 1 hS wx1 ex2 rfl rfl ?_
    by_cases hc30 : p2 ≥ x2
    · have h := iteT hc30 h
      refine rif_t hc30 ?_
      obtain ⟨x3, ex3, h⟩ := bnd h
      refine rb_ldr 0 5 hS w0 ex3 rfl rfl ?_
      intro bx3 wx3
      obtain ⟨x4, ex4, h⟩ := bnd h
      refine rb_ld 0 hS w0 ex4 rfl rfl ?_
      obtain ⟨G5, eG5, h⟩ := bnd h
      refine rb_sta 5 30 4 hS wx3 w1 rfl rfl eG5 rfl ?_
      intro H hS
      obtain ⟨x6, ex6, h⟩ := bnd h
      refine rb_ld 0 hS w0 ex6 rfl rfl ?_
      obtain ⟨G7, eG7, h⟩ := bnd h
      refine rb_st 0 hS w0 (show rrel _ _ 0 _ _ from rfl) eG7 rfl ?_
      intro H hS
      obtain ⟨x8, ex8, h⟩ := bnd h
      refine rb_ld 0 hS w0 ex8 rfl rfl ?_
      cases h
      exact rret hS rfl
    · have h := iteF hc30 h
      refine rif_f hc30 ?_
      obtain ⟨x9, ex9, h⟩ := bnd h
      refine rb_ldr 0 1 hS w0 ex9 rfl rfl ?_
      intro bx9 wx9
      obtain ⟨x10, ex10, h⟩ := bnd h
      refine rb_ldr 1 2 hS wx9 ex10 rfl rfl ?_
      intro bx10 wx10
      obtain ⟨x11, ex11, h⟩ := bnd h
      refine rb_ldr 2 20 hS wx10 ex11 rfl rfl ?_
      intro bx11 wx11
      obtain ⟨x12, ex12, h⟩ := bnd h
      refine rb_ld 20 hS wx11 ex12 rfl rfl ?_
      by_cases hc46 : x12 ≠ 5
      · have h := iteT hc46 h
        refine rif_t hc46 ?_
        exact sjX8_household_62 ih22 hS w0 w1 h
      · have h := iteF hc46 h
        refine rif_f hc46 ?_
        obtain ⟨x13, ex13, h⟩ := bnd h
        refine rb_ldr 30 31 hS w1 ex13 rfl rfl ?_
        intro bx13 wx13
        obtain ⟨z14, ez14, h⟩ := bnd h
        refine rb_call (ρc := 0) (s_X8_spot hS ez14) ?_
        intro ad Cn bz14 H hS hx wz14
        dsimp only
        obtain rfl : bz14 = z14.1 := wz14
        have w0 := w0.mono hx
        have w1 := w1.mono hx
        have wx13 := wx13.mono hx
        obtain ⟨z15, ez15, h⟩ := bnd h
        refine rb_call (ρc := 0) (s_X6_put hS wx13 ez15) ?_
        intro ad Cn bz15 H hS hx wz15
        dsimp only
        obtain rfl : bz15 = z15.1 := wz15
        have w0 := w0.mono hx
        have w1 := w1.mono hx
        exact sjX8_household_62 ih22 hS w0 w1 h
def g_X8_household (a0 : Int) (G : GS) : GO := gvm a0 <|
  (gl 0 G a0 2).bind fun x1 => (if x1 < 40 then (gn 30 (cN 4 : Int) G).bind fun z2 => (g_X4_init z2.1 z2.2).bind fun z3 => lh1 (glX8_household_22 a0 z2.1) 6000 0 z3.2
  else some ((-4), G))
set_option maxHeartbeats 4000000 in
theorem s_X8_household {ad : Nat → Nat → Nat} {Cn : Nat → Nat} {H : PH} {G G' : GS} {rr : Int} {a0 b0 : Int} (hS : SimA ad Cn H G) (w0 : vrel ad Cn 0 b0 a0) (h : g_X8_household a0 G = some (rr, G')) : RS ad Cn (f_X8_household b0 H) 0 rr G' := by
  unfold g_X8_household at h
  unfold f_X8_household
  obtain ⟨hv, h⟩ := gvm_spec h
  refine rb_vm 0 8 hS w0 hv rfl ?_
  obtain ⟨x1, ex1, h⟩ := bnd h
  refine rb_ld 0 hS w0 ex1 rfl rfl ?_
  by_cases hc6 : x1 < 40
  · have h := iteT hc6 h
    refine rif_t hc6 ?_
    obtain ⟨z2, ez2, h⟩ := bnd h
    refine rb_newo 30 hS ez2 rfl (by decide) ?_
    intro ad Cn bz2 H hS hx wz2
    dsimp only
    have w0 := w0.mono hx
    obtain ⟨z3, ez3, h⟩ := bnd h
    refine rb_call (ρc := 0) (s_X4_init hS wz2 ez3) ?_
    intro ad Cn bz3 H hS hx wz3
    dsimp only
    obtain rfl : bz3 = z3.1 := wz3
    have w0 := w0.mono hx
    have wz2 := wz2.mono hx
    exact slX8_household_22 6000 _ _ _ _ 0  hS w0 wz2 h
  · have h := iteF hc6 h
    refine rif_f hc6 ?_
    cases h
    exact rret hS rfl
/-! HouseholdVault.homeOf(I)LHouseholdVault$Household; by roles -/
def g_X8_homeOf (a0 a1 : Int) (G : GS) : GO := gvm a0 <|
  (if a1 < 0 then some ((-1), G)
  else (gl 0 G a0 2).bind fun x1 => (if a1 ≥ x1 then some ((-1), G)
  else (gl 0 G a0 1).bind fun x2 => (gl 5 G x2 a1).bind fun x3 => some (x3, G)))
set_option maxHeartbeats 4000000 in
theorem s_X8_homeOf {ad : Nat → Nat → Nat} {Cn : Nat → Nat} {H : PH} {G G' : GS} {rr : Int} {a0 a1 b0 : Int} (hS : SimA ad Cn H G) (w0 : vrel ad Cn 0 b0 a0) (h : g_X8_homeOf a0 a1 G = some (rr, G')) : RS ad Cn (f_X8_homeOf b0 a1 H) 31 rr G' := by
  unfold g_X8_homeOf at h
  unfold f_X8_homeOf
  obtain ⟨hv, h⟩ := gvm_spec h
  refine rb_vm 0 8 hS w0 hv rfl ?_
  by_cases hc1 : a1 < 0
  · have h := iteT hc1 h
    refine rif_t hc1 ?_
    cases h
    exact rret hS vrel.nul
  · have h := iteF hc1 h
    refine rif_f hc1 ?_
    obtain ⟨x1, ex1, h⟩ := bnd h
    refine rb_ld 0 hS w0 ex1 rfl rfl ?_
    by_cases hc9 : a1 ≥ x1
    · have h := iteT hc9 h
      refine rif_t hc9 ?_
      cases h
      exact rret hS vrel.nul
    · have h := iteF hc9 h
      refine rif_f hc9 ?_
      obtain ⟨x2, ex2, h⟩ := bnd h
      refine rb_ldr 0 5 hS w0 ex2 rfl rfl ?_
      intro bx2 wx2
      obtain ⟨x3, ex3, h⟩ := bnd h
      refine rb_ldr 5 30 hS wx2 ex3 rfl rfl ?_
      intro bx3 wx3
      cases h
      exact rret hS wx3
/-! HouseholdVault.isPlace(LHouseholdVault$Sheet;II)Z by roles -/
def g_X8_isPlace (a0 a1 a2 : Int) (G : GS) : GO :=
  (if a1 ≠ (-1) then (if a2 < 0 then some (0, G)
  else (g_X6_persons a0 a1 G).bind fun z1 => (if a2 ≥ z1.1 then some (0, z1.2)
  else some (1, z1.2)))
  else (if a2 ≠ (-1) then some (0, G)
  else some (1, G)))
set_option maxHeartbeats 4000000 in
theorem s_X8_isPlace {ad : Nat → Nat → Nat} {Cn : Nat → Nat} {H : PH} {G G' : GS} {rr : Int} {a0 a1 a2 b0 : Int} (hS : SimA ad Cn H G) (w0 : vrel ad Cn 31 b0 a0) (h : g_X8_isPlace a0 a1 a2 G = some (rr, G')) : RS ad Cn (f_X8_isPlace b0 a1 a2 H) 0 rr G' := by
  unfold g_X8_isPlace at h
  unfold f_X8_isPlace
  by_cases hc2 : a1 ≠ (-1)
  · have h := iteT hc2 h
    refine rif_t hc2 ?_
    by_cases hc17 : a2 < 0
    · have h := iteT hc17 h
      refine rif_t hc17 ?_
      cases h
      exact rret hS rfl
    · have h := iteF hc17 h
      refine rif_f hc17 ?_
      obtain ⟨z1, ez1, h⟩ := bnd h
      refine rb_call (ρc := 0) (s_X6_persons hS w0 ez1) ?_
      intro ad Cn bz1 H hS hx wz1
      dsimp only
      obtain rfl : bz1 = z1.1 := wz1
      have w0 := w0.mono hx
      by_cases hc26 : a2 ≥ z1.1
      · have h := iteT hc26 h
        refine rif_t hc26 ?_
        cases h
        exact rret hS rfl
      · have h := iteF hc26 h
        refine rif_f hc26 ?_
        cases h
        exact rret hS rfl
  · have h := iteF hc2 h
    refine rif_f hc2 ?_
    by_cases hc7 : a2 ≠ (-1)
    · have h := iteT hc7 h
      refine rif_t hc7 ?_
      cases h
      exact rret hS rfl
    · have h := iteF hc7 h
      refine rif_f hc7 ?_
      cases h
      exact rret hS rfl
/-! HouseholdVault.dropPersons(LHouseholdVault$Sheet;II)V by roles -/
def gjX8_dropPersons_62 (self3 : Int → GS → GO) (p0 p1 p2 p3 p4 : Int) (G : GS) : GO :=
  self3 (w32 (p4 + 1)) G
set_option maxHeartbeats 4000000 in
theorem sjX8_dropPersons_62 {ad : Nat → Nat → Nat} {Cn : Nat → Nat} {H : PH} {G G' : GS} {rr : Int} {fself3 : Int → PH → RO} {self3 : Int → GS → GO} {p0 p1 p2 p3 p4 b0 b1 : Int} (ih3 : ∀ (ad : Nat → Nat → Nat) (Cn : Nat → Nat) (H : PH) (G : GS) (v4 : Int) , SimA ad Cn H G → vrel ad Cn 0 b0 p0 → vrel ad Cn 31 b1 p1 → self3 v4 G = some (rr, G') → RS ad Cn (fself3 v4 H) 0 rr G') (hS : SimA ad Cn H G) (w0 : vrel ad Cn 0 b0 p0) (w1 : vrel ad Cn 31 b1 p1) (h : gjX8_dropPersons_62 self3 p0 p1 p2 p3 p4 G = some (rr, G')) : RS ad Cn (jX8_dropPersons_62 fself3 b0 b1 p2 p3 p4 H) 0 rr G' := by
  unfold gjX8_dropPersons_62 at h
  unfold jX8_dropPersons_62
  exact ih3 _ _ _ _ (w32 (p4 + 1))  hS w0 w1  h
def glX8_dropPersons_38 (self3 : Int → GS → GO) (p0 p1 p2 p3 p4 : Int) (self38 : Int → GS → GO) (p5 : Int) (G : GS) : GO :=
  (if p5 ≥ 5 then gjX8_dropPersons_62 self3 p0 p1 p2 p3 p4 G
  else (g_X8_spot p4 p5 G).bind fun z1 => (g_X6_lack p1 z1.1 1 z1.2).bind fun z2 => self38 (w32 (p5 + 1)) z2.2)
set_option maxHeartbeats 4000000 in
theorem slX8_dropPersons_38 {G' : GS} {rr : Int} {fself3 : Int → PH → RO} {self3 : Int → GS → GO} {p0 p1 p2 p3 p4 b0 b1 : Int} (ih3 : ∀ (ad : Nat → Nat → Nat) (Cn : Nat → Nat) (H : PH) (G : GS) (v4 : Int) , SimA ad Cn H G → vrel ad Cn 0 b0 p0 → vrel ad Cn 31 b1 p1 → self3 v4 G = some (rr, G') → RS ad Cn (fself3 v4 H) 0 rr G') : ∀ (n : Nat) (ad : Nat → Nat → Nat) (Cn : Nat → Nat) (H : PH) (G : GS) (p5 : Int) , SimA ad Cn H G → vrel ad Cn 0 b0 p0 → vrel ad Cn 31 b1 p1 → lh1 (glX8_dropPersons_38 self3 p0 p1 p2 p3 p4) n p5 G = some (rr, G') → RS ad Cn (lq1 (lX8_dropPersons_38 fself3 b0 b1 p2 p3 p4) n p5 H) 0 rr G' := by
  intro n
  induction n with
  | zero => intro ad Cn H G p5 hS w0 w1 h; cases h
  | succ n ih38 =>
    intro ad Cn H G p5 hS w0 w1 h
    rw [lh1_s] at h
    rw [lq1_s]
    generalize lh1 (glX8_dropPersons_38 self3 p0 p1 p2 p3 p4) n = self38 at ih38 h
    generalize lq1 (lX8_dropPersons_38 fself3 b0 b1 p2 p3 p4) n = fself38 at ih38 ⊢
    unfold glX8_dropPersons_38 at h
    unfold lX8_dropPersons_38
    by_cases hc41 : p5 ≥ 5
    · have h := iteT hc41 h
      refine rif_t hc41 ?_
      exact sjX8_dropPersons_62 ih3 hS w0 w1 h
    · have h := iteF hc41 h
      refine rif_f hc41 ?_
      obtain ⟨z1, ez1, h⟩ := bnd h
      refine rb_call (ρc := 0) (s_X8_spot hS ez1) ?_
      intro ad Cn bz1 H hS hx wz1
      dsimp only
      obtain rfl : bz1 = z1.1 := wz1
      have w0 := w0.mono hx
      have w1 := w1.mono hx
      obtain ⟨z2, ez2, h⟩ := bnd h
      refine rb_call (ρc := 0) (s_X6_lack hS w1 ez2) ?_
      intro ad Cn bz2 H hS hx wz2
      dsimp only
      obtain rfl : bz2 = z2.1 := wz2
      have w0 := w0.mono hx
      have w1 := w1.mono hx
      exact ih38 _ _ _ _ (w32 (p5 + 1))  hS w0 w1  h
def glX8_dropPersons_3 (p0 p1 p2 p3 : Int) (self3 : Int → GS → GO) (p4 : Int) (G : GS) : GO :=
  (gl 0 G p0 0).bind fun x1 => (gl 1 G x1 1).bind fun x2 => (if p4 ≥ x2 then some (0, G)
  else (gl 0 G p0 0).bind fun x3 => (gl 1 G x3 0).bind fun x4 => (gl 2 G x4 p4).bind fun x5 => (gl 20 G x5 1).bind fun x6 => (if x6 = p2 then lh1 (glX8_dropPersons_38 self3 p0 p1 p2 p3 p4) 6000 p3 G
  else gjX8_dropPersons_62 self3 p0 p1 p2 p3 p4 G))
set_option maxHeartbeats 4000000 in
theorem slX8_dropPersons_3 {G' : GS} {rr : Int} {p0 p1 p2 p3 b0 b1 : Int} : ∀ (n : Nat) (ad : Nat → Nat → Nat) (Cn : Nat → Nat) (H : PH) (G : GS) (p4 : Int) , SimA ad Cn H G → vrel ad Cn 0 b0 p0 → vrel ad Cn 31 b1 p1 → lh1 (glX8_dropPersons_3 p0 p1 p2 p3) n p4 G = some (rr, G') → RS ad Cn (lq1 (lX8_dropPersons_3 b0 b1 p2 p3) n p4 H) 0 rr G' := by
  intro n
  induction n with
  | zero => intro ad Cn H G p4 hS w0 w1 h; cases h
  | succ n ih3 =>
    intro ad Cn H G p4 hS w0 w1 h
    rw [lh1_s] at h
    rw [lq1_s]
    generalize lh1 (glX8_dropPersons_3 p0 p1 p2 p3) n = self3 at ih3 h
    generalize lq1 (lX8_dropPersons_3 b0 b1 p2 p3) n = fself3 at ih3 ⊢
    unfold glX8_dropPersons_3 at h
    unfold lX8_dropPersons_3
    obtain ⟨x1, ex1, h⟩ := bnd h
    refine rb_ldr 0 1 hS w0 ex1 rfl rfl ?_
    intro bx1 wx1
    obtain ⟨x2, ex2, h⟩ := bnd h
    refine rb_ld 1 hS wx1 ex2 rfl rfl ?_
    by_cases hc12 : p4 ≥ x2
    · have h := iteT hc12 h
      refine rif_t hc12 ?_
      cases h
      exact rret hS rfl
    · have h := iteF hc12 h
      refine rif_f hc12 ?_
      obtain ⟨x3, ex3, h⟩ := bnd h
      refine rb_ldr 0 1 hS w0 ex3 rfl rfl ?_
      intro bx3 wx3
      obtain ⟨x4, ex4, h⟩ := bnd h
      refine rb_ldr 1 2 hS wx3 ex4 rfl rfl ?_
      intro bx4 wx4
      obtain ⟨x5, ex5, h⟩ := bnd h
      refine rb_ldr 2 20 hS wx4 ex5 rfl rfl ?_
      intro bx5 wx5
      obtain ⟨x6, ex6, h⟩ := bnd h
      refine rb_ld 20 hS wx5 ex6 rfl rfl ?_
      by_cases hc29 : x6 = p2
      · have h := iteT hc29 h
        refine rif_t hc29 ?_
        exact slX8_dropPersons_38 ih3 6000 _ _ _ _ p3  hS w0 w1 h
      · have h := iteF hc29 h
        refine rif_f hc29 ?_
        exact sjX8_dropPersons_62 ih3 hS w0 w1 h
def g_X8_dropPersons (a0 a1 a2 a3 : Int) (G : GS) : GO := gvm a0 <|
  lh1 (glX8_dropPersons_3 a0 a1 a2 a3) 6000 0 G
set_option maxHeartbeats 4000000 in
theorem s_X8_dropPersons {ad : Nat → Nat → Nat} {Cn : Nat → Nat} {H : PH} {G G' : GS} {rr : Int} {a0 a1 a2 a3 b0 b1 : Int} (hS : SimA ad Cn H G) (w0 : vrel ad Cn 0 b0 a0) (w1 : vrel ad Cn 31 b1 a1) (h : g_X8_dropPersons a0 a1 a2 a3 G = some (rr, G')) : RS ad Cn (f_X8_dropPersons b0 b1 a2 a3 H) 0 rr G' := by
  unfold g_X8_dropPersons at h
  unfold f_X8_dropPersons
  obtain ⟨hv, h⟩ := gvm_spec h
  refine rb_vm 0 8 hS w0 hv rfl ?_
  exact slX8_dropPersons_3 6000 _ _ _ _ 0  hS w0 w1 h
/-! HouseholdVault.answer(IIIJ)I by roles -/
def gjX8_answer_106 (p6 : Int) (G : GS) : GO :=
  (g_X4_unsettle p6 0 G).bind fun z1 => some (1, z1.2)
set_option maxHeartbeats 4000000 in
theorem sjX8_answer_106 {ad : Nat → Nat → Nat} {Cn : Nat → Nat} {H : PH} {G G' : GS} {rr : Int} {p6 b6 : Int} (hS : SimA ad Cn H G) (w6 : vrel ad Cn 30 b6 p6) (h : gjX8_answer_106 p6 G = some (rr, G')) : RS ad Cn (jX8_answer_106 b6 H) 0 rr G' := by
  unfold gjX8_answer_106 at h
  unfold jX8_answer_106
  obtain ⟨z1, ez1, h⟩ := bnd h
  refine rb_call (ρc := 0) (s_X4_unsettle hS w6 ez1) ?_
  intro ad Cn bz1 H hS hx wz1
  dsimp only
  obtain rfl : bz1 = z1.1 := wz1
  have w6 := w6.mono hx
  cases h
  exact rret hS rfl
def g_X8_answer (a0 a1 a2 a3 a4 : Int) (G : GS) : GO := gvm a0 <|
  (g_X8_homeOf a0 a1 G).bind fun z1 => (gl 0 z1.2 a0 0).bind fun x2 => (g_X3_questionOf x2 a2 z1.2).bind fun z3 => (if z1.1 = -1 then some ((-1), z3.2)
  else (if z3.1 = -1 then some ((-1), z3.2)
  else (gl 30 z3.2 z1.1 0).bind fun x4 => (gl 20 z3.2 z3.1 1).bind fun x5 => (g_X8_isPlace x4 x5 a3 z3.2).bind fun z6 => (if z6.1 ≠ 0 then (gl 20 z6.2 z3.1 2).bind fun x7 => (if x7 = 0 then (g_X5_takes z3.1 a4 z6.2).bind fun z8 => (if z8.1 ≠ 0 then (gl 30 z8.2 z1.1 0).bind fun x9 => (g_X8_spot a2 a3 z8.2).bind fun z10 => (g_X6_put x9 z10.1 a4 z10.2).bind fun z11 => (gl 20 z11.2 z3.1 0).bind fun x12 => (if x12 ≠ 5 then gjX8_answer_106 z1.1 z11.2
  else (gl 30 z11.2 z1.1 0).bind fun x13 => (g_X8_dropPersons a0 x13 a2 (w32 a4) z11.2).bind fun z14 => gjX8_answer_106 z1.1 z14.2)
  else some ((-1), z8.2))
  else some ((-2), z6.2))
  else some ((-1), z6.2))))
set_option maxHeartbeats 4000000 in
theorem s_X8_answer {ad : Nat → Nat → Nat} {Cn : Nat → Nat} {H : PH} {G G' : GS} {rr : Int} {a0 a1 a2 a3 a4 b0 : Int} (hS : SimA ad Cn H G) (w0 : vrel ad Cn 0 b0 a0) (h : g_X8_answer a0 a1 a2 a3 a4 G = some (rr, G')) : RS ad Cn (f_X8_answer b0 a1 a2 a3 a4 H) 0 rr G' := by
  unfold g_X8_answer at h
  unfold f_X8_answer
  obtain ⟨hv, h⟩ := gvm_spec h
  refine rb_vm 0 8 hS w0 hv rfl ?_
  obtain ⟨z1, ez1, h⟩ := bnd h
  refine rb_call (ρc := 31) (s_X8_homeOf hS w0 ez1) ?_
  intro ad Cn bz1 H hS hx wz1
  dsimp only
  have w0 := w0.mono hx
  obtain ⟨x2, ex2, h⟩ := bnd h
  refine rb_ldr 0 1 hS w0 ex2 rfl rfl ?_
  intro bx2 wx2
  obtain ⟨z3, ez3, h⟩ := bnd h
  refine rb_call (ρc := 21) (s_X3_questionOf hS wx2 ez3) ?_
  intro ad Cn bz3 H hS hx wz3
  dsimp only
  have w0 := w0.mono hx
  have wz1 := wz1.mono hx
  by_cases hc19 : z1.1 = -1
  · have h := iteT hc19 h
    refine rif_t (wz1.null.mpr hc19) ?_
    cases h
    exact rret hS rfl
  · have h := iteF hc19 h
    refine rif_f (fun q => hc19 (wz1.null.mp q)) ?_
    by_cases hc24 : z3.1 = -1
    · have h := iteT hc24 h
      refine rif_t (wz3.null.mpr hc24) ?_
      cases h
      exact rret hS rfl
    · have h := iteF hc24 h
      refine rif_f (fun q => hc24 (wz3.null.mp q)) ?_
      obtain ⟨x4, ex4, h⟩ := bnd h
      refine rb_ldr 30 31 hS wz1 ex4 rfl rfl ?_
      intro bx4 wx4
      obtain ⟨x5, ex5, h⟩ := bnd h
      refine rb_ld 20 hS wz3 ex5 rfl rfl ?_
      obtain ⟨z6, ez6, h⟩ := bnd h
      refine rb_call (ρc := 0) (s_X8_isPlace hS wx4 ez6) ?_
      intro ad Cn bz6 H hS hx wz6
      dsimp only
      obtain rfl : bz6 = z6.1 := wz6
      have w0 := w0.mono hx
      have wz1 := wz1.mono hx
      have wz3 := wz3.mono hx
      by_cases hc41 : z6.1 ≠ 0
      · have h := iteT hc41 h
        refine rif_t hc41 ?_
        obtain ⟨x7, ex7, h⟩ := bnd h
        refine rb_ld 20 hS wz3 ex7 rfl rfl ?_
        by_cases hc51 : x7 = 0
        · have h := iteT hc51 h
          refine rif_t hc51 ?_
          obtain ⟨z8, ez8, h⟩ := bnd h
          refine rb_call (ρc := 0) (s_X5_takes hS wz3 ez8) ?_
          intro ad Cn bz8 H hS hx wz8
          dsimp only
          obtain rfl : bz8 = z8.1 := wz8
          have w0 := w0.mono hx
          have wz1 := wz1.mono hx
          have wz3 := wz3.mono hx
          by_cases hc64 : z8.1 ≠ 0
          · have h := iteT hc64 h
            refine rif_t hc64 ?_
            obtain ⟨x9, ex9, h⟩ := bnd h
            refine rb_ldr 30 31 hS wz1 ex9 rfl rfl ?_
            intro bx9 wx9
            obtain ⟨z10, ez10, h⟩ := bnd h
            refine rb_call (ρc := 0) (s_X8_spot hS ez10) ?_
            intro ad Cn bz10 H hS hx wz10
            dsimp only
            obtain rfl : bz10 = z10.1 := wz10
            have w0 := w0.mono hx
            have wz1 := wz1.mono hx
            have wz3 := wz3.mono hx
            have wx9 := wx9.mono hx
            obtain ⟨z11, ez11, h⟩ := bnd h
            refine rb_call (ρc := 0) (s_X6_put hS wx9 ez11) ?_
            intro ad Cn bz11 H hS hx wz11
            dsimp only
            obtain rfl : bz11 = z11.1 := wz11
            have w0 := w0.mono hx
            have wz1 := wz1.mono hx
            have wz3 := wz3.mono hx
            obtain ⟨x12, ex12, h⟩ := bnd h
            refine rb_ld 20 hS wz3 ex12 rfl rfl ?_
            by_cases hc90 : x12 ≠ 5
            · have h := iteT hc90 h
              refine rif_t hc90 ?_
              exact sjX8_answer_106 hS wz1 h
            · have h := iteF hc90 h
              refine rif_f hc90 ?_
              obtain ⟨x13, ex13, h⟩ := bnd h
              refine rb_ldr 30 31 hS wz1 ex13 rfl rfl ?_
              intro bx13 wx13
              obtain ⟨z14, ez14, h⟩ := bnd h
              refine rb_call (ρc := 0) (s_X8_dropPersons hS w0 wx13 ez14) ?_
              intro ad Cn bz14 H hS hx wz14
              dsimp only
              obtain rfl : bz14 = z14.1 := wz14
              have w0 := w0.mono hx
              have wz1 := wz1.mono hx
              have wz3 := wz3.mono hx
              exact sjX8_answer_106 hS wz1 h
          · have h := iteF hc64 h
            refine rif_f hc64 ?_
            cases h
            exact rret hS rfl
        · have h := iteF hc51 h
          refine rif_f hc51 ?_
          cases h
          exact rret hS rfl
      · have h := iteF hc41 h
        refine rif_f hc41 ?_
        cases h
        exact rret hS rfl
/-! HouseholdVault.missing(IIII)I by roles -/
def g_X8_missing (a0 a1 a2 a3 a4 : Int) (G : GS) : GO := gvm a0 <|
  (g_X8_homeOf a0 a1 G).bind fun z1 => (gl 0 z1.2 a0 0).bind fun x2 => (g_X3_questionOf x2 a2 z1.2).bind fun z3 => (if z1.1 = -1 then some ((-1), z3.2)
  else (if z3.1 = -1 then some ((-1), z3.2)
  else (gl 30 z3.2 z1.1 0).bind fun x4 => (gl 20 z3.2 z3.1 1).bind fun x5 => (g_X8_isPlace x4 x5 a3 z3.2).bind fun z6 => (if z6.1 ≠ 0 then (if a4 < 1 then some ((-1), z6.2)
  else (if a4 ≤ 5 then (gl 20 z6.2 z3.1 2).bind fun x7 => (if x7 ≠ 0 then some ((-2), z6.2)
  else (gl 20 z6.2 z3.1 0).bind fun x8 => (if x8 ≠ 5 then (gl 30 z6.2 z1.1 0).bind fun x9 => (g_X8_spot a2 a3 z6.2).bind fun z10 => (g_X6_lack x9 z10.1 a4 z10.2).bind fun z11 => (g_X4_unsettle z1.1 0 z11.2).bind fun z12 => some (1, z12.2)
  else some ((-2), z6.2)))
  else some ((-1), z6.2)))
  else some ((-1), z6.2))))
set_option maxHeartbeats 4000000 in
theorem s_X8_missing {ad : Nat → Nat → Nat} {Cn : Nat → Nat} {H : PH} {G G' : GS} {rr : Int} {a0 a1 a2 a3 a4 b0 : Int} (hS : SimA ad Cn H G) (w0 : vrel ad Cn 0 b0 a0) (h : g_X8_missing a0 a1 a2 a3 a4 G = some (rr, G')) : RS ad Cn (f_X8_missing b0 a1 a2 a3 a4 H) 0 rr G' := by
  unfold g_X8_missing at h
  unfold f_X8_missing
  obtain ⟨hv, h⟩ := gvm_spec h
  refine rb_vm 0 8 hS w0 hv rfl ?_
  obtain ⟨z1, ez1, h⟩ := bnd h
  refine rb_call (ρc := 31) (s_X8_homeOf hS w0 ez1) ?_
  intro ad Cn bz1 H hS hx wz1
  dsimp only
  have w0 := w0.mono hx
  obtain ⟨x2, ex2, h⟩ := bnd h
  refine rb_ldr 0 1 hS w0 ex2 rfl rfl ?_
  intro bx2 wx2
  obtain ⟨z3, ez3, h⟩ := bnd h
  refine rb_call (ρc := 21) (s_X3_questionOf hS wx2 ez3) ?_
  intro ad Cn bz3 H hS hx wz3
  dsimp only
  have w0 := w0.mono hx
  have wz1 := wz1.mono hx
  by_cases hc19 : z1.1 = -1
  · have h := iteT hc19 h
    refine rif_t (wz1.null.mpr hc19) ?_
    cases h
    exact rret hS rfl
  · have h := iteF hc19 h
    refine rif_f (fun q => hc19 (wz1.null.mp q)) ?_
    by_cases hc24 : z3.1 = -1
    · have h := iteT hc24 h
      refine rif_t (wz3.null.mpr hc24) ?_
      cases h
      exact rret hS rfl
    · have h := iteF hc24 h
      refine rif_f (fun q => hc24 (wz3.null.mp q)) ?_
      obtain ⟨x4, ex4, h⟩ := bnd h
      refine rb_ldr 30 31 hS wz1 ex4 rfl rfl ?_
      intro bx4 wx4
      obtain ⟨x5, ex5, h⟩ := bnd h
      refine rb_ld 20 hS wz3 ex5 rfl rfl ?_
      obtain ⟨z6, ez6, h⟩ := bnd h
      refine rb_call (ρc := 0) (s_X8_isPlace hS wx4 ez6) ?_
      intro ad Cn bz6 H hS hx wz6
      dsimp only
      obtain rfl : bz6 = z6.1 := wz6
      have w0 := w0.mono hx
      have wz1 := wz1.mono hx
      have wz3 := wz3.mono hx
      by_cases hc41 : z6.1 ≠ 0
      · have h := iteT hc41 h
        refine rif_t hc41 ?_
        by_cases hc49 : a4 < 1
        · have h := iteT hc49 h
          refine rif_t hc49 ?_
          cases h
          exact rret hS rfl
        · have h := iteF hc49 h
          refine rif_f hc49 ?_
          by_cases hc55 : a4 ≤ 5
          · have h := iteT hc55 h
            refine rif_t hc55 ?_
            obtain ⟨x7, ex7, h⟩ := bnd h
            refine rb_ld 20 hS wz3 ex7 rfl rfl ?_
            by_cases hc65 : x7 ≠ 0
            · have h := iteT hc65 h
              refine rif_t hc65 ?_
              cases h
              exact rret hS rfl
            · have h := iteF hc65 h
              refine rif_f hc65 ?_
              obtain ⟨x8, ex8, h⟩ := bnd h
              refine rb_ld 20 hS wz3 ex8 rfl rfl ?_
              by_cases hc74 : x8 ≠ 5
              · have h := iteT hc74 h
                refine rif_t hc74 ?_
                obtain ⟨x9, ex9, h⟩ := bnd h
                refine rb_ldr 30 31 hS wz1 ex9 rfl rfl ?_
                intro bx9 wx9
                obtain ⟨z10, ez10, h⟩ := bnd h
                refine rb_call (ρc := 0) (s_X8_spot hS ez10) ?_
                intro ad Cn bz10 H hS hx wz10
                dsimp only
                obtain rfl : bz10 = z10.1 := wz10
                have w0 := w0.mono hx
                have wz1 := wz1.mono hx
                have wz3 := wz3.mono hx
                have wx9 := wx9.mono hx
                obtain ⟨z11, ez11, h⟩ := bnd h
                refine rb_call (ρc := 0) (s_X6_lack hS wx9 ez11) ?_
                intro ad Cn bz11 H hS hx wz11
                dsimp only
                obtain rfl : bz11 = z11.1 := wz11
                have w0 := w0.mono hx
                have wz1 := wz1.mono hx
                have wz3 := wz3.mono hx
                obtain ⟨z12, ez12, h⟩ := bnd h
                refine rb_call (ρc := 0) (s_X4_unsettle hS wz1 ez12) ?_
                intro ad Cn bz12 H hS hx wz12
                dsimp only
                obtain rfl : bz12 = z12.1 := wz12
                have w0 := w0.mono hx
                have wz1 := wz1.mono hx
                have wz3 := wz3.mono hx
                cases h
                exact rret hS rfl
              · have h := iteF hc74 h
                refine rif_f hc74 ?_
                cases h
                exact rret hS rfl
          · have h := iteF hc55 h
            refine rif_f hc55 ?_
            cases h
            exact rret hS rfl
      · have h := iteF hc41 h
        refine rif_f hc41 ?_
        cases h
        exact rret hS rfl
/-! HouseholdVault.settledSheet(III)LHouseholdVault$Sheet; by roles -/
def g_X8_settledSheet (a0 a1 a2 a3 : Int) (G : GS) : GO := gvm a0 <|
  (g_X8_homeOf a0 a1 G).bind fun z1 => (gl 0 z1.2 a0 0).bind fun x2 => (g_X3_questionOf x2 a2 z1.2).bind fun z3 => (if z1.1 = -1 then some ((-1), z3.2)
  else (if z3.1 = -1 then some ((-1), z3.2)
  else (gl 30 z3.2 z1.1 0).bind fun x4 => (gl 20 z3.2 z3.1 1).bind fun x5 => (g_X8_isPlace x4 x5 a3 z3.2).bind fun z6 => (if z6.1 ≠ 0 then (gl 0 z6.2 a0 0).bind fun x7 => (g_X3_settle x7 z1.1 z6.2).bind fun z8 => (gl 30 z8.2 z1.1 0).bind fun x9 => some (x9, z8.2)
  else some ((-1), z6.2))))
set_option maxHeartbeats 4000000 in
theorem s_X8_settledSheet {ad : Nat → Nat → Nat} {Cn : Nat → Nat} {H : PH} {G G' : GS} {rr : Int} {a0 a1 a2 a3 b0 : Int} (hS : SimA ad Cn H G) (w0 : vrel ad Cn 0 b0 a0) (h : g_X8_settledSheet a0 a1 a2 a3 G = some (rr, G')) : RS ad Cn (f_X8_settledSheet b0 a1 a2 a3 H) 32 rr G' := by
  unfold g_X8_settledSheet at h
  unfold f_X8_settledSheet
  obtain ⟨hv, h⟩ := gvm_spec h
  refine rb_vm 0 8 hS w0 hv rfl ?_
  obtain ⟨z1, ez1, h⟩ := bnd h
  refine rb_call (ρc := 31) (s_X8_homeOf hS w0 ez1) ?_
  intro ad Cn bz1 H hS hx wz1
  dsimp only
  have w0 := w0.mono hx
  obtain ⟨x2, ex2, h⟩ := bnd h
  refine rb_ldr 0 1 hS w0 ex2 rfl rfl ?_
  intro bx2 wx2
  obtain ⟨z3, ez3, h⟩ := bnd h
  refine rb_call (ρc := 21) (s_X3_questionOf hS wx2 ez3) ?_
  intro ad Cn bz3 H hS hx wz3
  dsimp only
  have w0 := w0.mono hx
  have wz1 := wz1.mono hx
  by_cases hc19 : z1.1 = -1
  · have h := iteT hc19 h
    refine rif_t (wz1.null.mpr hc19) ?_
    cases h
    exact rret hS vrel.nul
  · have h := iteF hc19 h
    refine rif_f (fun q => hc19 (wz1.null.mp q)) ?_
    by_cases hc24 : z3.1 = -1
    · have h := iteT hc24 h
      refine rif_t (wz3.null.mpr hc24) ?_
      cases h
      exact rret hS vrel.nul
    · have h := iteF hc24 h
      refine rif_f (fun q => hc24 (wz3.null.mp q)) ?_
      obtain ⟨x4, ex4, h⟩ := bnd h
      refine rb_ldr 30 31 hS wz1 ex4 rfl rfl ?_
      intro bx4 wx4
      obtain ⟨x5, ex5, h⟩ := bnd h
      refine rb_ld 20 hS wz3 ex5 rfl rfl ?_
      obtain ⟨z6, ez6, h⟩ := bnd h
      refine rb_call (ρc := 0) (s_X8_isPlace hS wx4 ez6) ?_
      intro ad Cn bz6 H hS hx wz6
      dsimp only
      obtain rfl : bz6 = z6.1 := wz6
      have w0 := w0.mono hx
      have wz1 := wz1.mono hx
      have wz3 := wz3.mono hx
      by_cases hc41 : z6.1 ≠ 0
      · have h := iteT hc41 h
        refine rif_t hc41 ?_
        obtain ⟨x7, ex7, h⟩ := bnd h
        refine rb_ldr 0 1 hS w0 ex7 rfl rfl ?_
        intro bx7 wx7
        obtain ⟨z8, ez8, h⟩ := bnd h
        refine rb_call (ρc := 0) (s_X3_settle hS wx7 wz1 ez8) ?_
        intro ad Cn bz8 H hS hx wz8
        dsimp only
        obtain rfl : bz8 = z8.1 := wz8
        have w0 := w0.mono hx
        have wz1 := wz1.mono hx
        have wz3 := wz3.mono hx
        obtain ⟨x9, ex9, h⟩ := bnd h
        refine rb_ldr 30 31 hS wz1 ex9 rfl rfl ?_
        intro bx9 wx9
        cases h
        exact rret hS wx9
      · have h := iteF hc41 h
        refine rif_f hc41 ?_
        cases h
        exact rret hS vrel.nul
/-! HouseholdVault.value(III)J by roles -/
def g_X8_value (a0 a1 a2 a3 : Int) (G : GS) : GO := gvm a0 <|
  (g_X8_settledSheet a0 a1 a2 a3 G).bind fun z1 => (if z1.1 ≠ -1 then (gl 31 z1.2 z1.1 0).bind fun x2 => (g_X8_spot a2 a3 z1.2).bind fun z3 => (gl 32 z3.2 x2 z3.1).bind fun x4 => some (x4, z3.2)
  else some (0, z1.2))
set_option maxHeartbeats 4000000 in
theorem s_X8_value {ad : Nat → Nat → Nat} {Cn : Nat → Nat} {H : PH} {G G' : GS} {rr : Int} {a0 a1 a2 a3 b0 : Int} (hS : SimA ad Cn H G) (w0 : vrel ad Cn 0 b0 a0) (h : g_X8_value a0 a1 a2 a3 G = some (rr, G')) : RS ad Cn (f_X8_value b0 a1 a2 a3 H) 0 rr G' := by
  unfold g_X8_value at h
  unfold f_X8_value
  obtain ⟨hv, h⟩ := gvm_spec h
  refine rb_vm 0 8 hS w0 hv rfl ?_
  obtain ⟨z1, ez1, h⟩ := bnd h
  refine rb_call (ρc := 32) (s_X8_settledSheet hS w0 ez1) ?_
  intro ad Cn bz1 H hS hx wz1
  dsimp only
  have w0 := w0.mono hx
  by_cases hc11 : z1.1 ≠ -1
  · have h := iteT hc11 h
    refine rif_t (fun q => hc11 (wz1.null.mp q)) ?_
    obtain ⟨x2, ex2, h⟩ := bnd h
    refine rb_ldr 31 32 hS wz1 ex2 rfl rfl ?_
    intro bx2 wx2
    obtain ⟨z3, ez3, h⟩ := bnd h
    refine rb_call (ρc := 0) (s_X8_spot hS ez3) ?_
    intro ad Cn bz3 H hS hx wz3
    dsimp only
    obtain rfl : bz3 = z3.1 := wz3
    have w0 := w0.mono hx
    have wz1 := wz1.mono hx
    have wx2 := wx2.mono hx
    obtain ⟨x4, ex4, h⟩ := bnd h
    refine rb_ld 32 hS wx2 ex4 rfl rfl ?_
    cases h
    exact rret hS rfl
  · have h := iteF hc11 h
    refine rif_f (fun q => hc11 (fun z => q (wz1.null.mpr z))) ?_
    cases h
    exact rret hS rfl
/-! HouseholdVault.reason(III)I by roles -/
def g_X8_reason (a0 a1 a2 a3 : Int) (G : GS) : GO := gvm a0 <|
  (g_X8_settledSheet a0 a1 a2 a3 G).bind fun z1 => (if z1.1 ≠ -1 then (gl 31 z1.2 z1.1 1).bind fun x2 => (g_X8_spot a2 a3 z1.2).bind fun z3 => (gl 33 z3.2 x2 z3.1).bind fun x4 => some (x4, z3.2)
  else some ((-1), z1.2))
set_option maxHeartbeats 4000000 in
theorem s_X8_reason {ad : Nat → Nat → Nat} {Cn : Nat → Nat} {H : PH} {G G' : GS} {rr : Int} {a0 a1 a2 a3 b0 : Int} (hS : SimA ad Cn H G) (w0 : vrel ad Cn 0 b0 a0) (h : g_X8_reason a0 a1 a2 a3 G = some (rr, G')) : RS ad Cn (f_X8_reason b0 a1 a2 a3 H) 0 rr G' := by
  unfold g_X8_reason at h
  unfold f_X8_reason
  obtain ⟨hv, h⟩ := gvm_spec h
  refine rb_vm 0 8 hS w0 hv rfl ?_
  obtain ⟨z1, ez1, h⟩ := bnd h
  refine rb_call (ρc := 32) (s_X8_settledSheet hS w0 ez1) ?_
  intro ad Cn bz1 H hS hx wz1
  dsimp only
  have w0 := w0.mono hx
  by_cases hc11 : z1.1 ≠ -1
  · have h := iteT hc11 h
    refine rif_t (fun q => hc11 (wz1.null.mp q)) ?_
    obtain ⟨x2, ex2, h⟩ := bnd h
    refine rb_ldr 31 33 hS wz1 ex2 rfl rfl ?_
    intro bx2 wx2
    obtain ⟨z3, ez3, h⟩ := bnd h
    refine rb_call (ρc := 0) (s_X8_spot hS ez3) ?_
    intro ad Cn bz3 H hS hx wz3
    dsimp only
    obtain rfl : bz3 = z3.1 := wz3
    have w0 := w0.mono hx
    have wz1 := wz1.mono hx
    have wx2 := wx2.mono hx
    obtain ⟨x4, ex4, h⟩ := bnd h
    refine rb_ld 33 hS wx2 ex4 rfl rfl ?_
    cases h
    exact rret hS rfl
  · have h := iteF hc11 h
    refine rif_f (fun q => hc11 (fun z => q (wz1.null.mpr z))) ?_
    cases h
    exact rret hS rfl
/-! HouseholdVault.personOf(II)I by roles -/
def g_X8_personOf (a0 a1 : Int) (G : GS) : GO :=
  (if a0 ≠ (-1) then some (a1, G)
  else some ((-1), G))
set_option maxHeartbeats 4000000 in
theorem s_X8_personOf {ad : Nat → Nat → Nat} {Cn : Nat → Nat} {H : PH} {G G' : GS} {rr : Int} {a0 a1 : Int} (hS : SimA ad Cn H G)  (h : g_X8_personOf a0 a1 G = some (rr, G')) : RS ad Cn (f_X8_personOf a0 a1 H) 0 rr G' := by
  unfold g_X8_personOf at h
  unfold f_X8_personOf
  by_cases hc2 : a0 ≠ (-1)
  · have h := iteT hc2 h
    refine rif_t hc2 ?_
    cases h
    exact rret hS rfl
  · have h := iteF hc2 h
    refine rif_f hc2 ?_
    cases h
    exact rret hS rfl
/-! HouseholdVault.ask(IIJ)I by roles -/
def gjX8_ask_77 (p0 p1 p2 p3 p5 : Int) (G : GS) : GO :=
  (gl 0 G p0 0).bind fun x1 => (g_X3_conditionsAreFull x1 1 G).bind fun z2 => (if z2.1 = 0 then (gl 0 z2.2 p0 0).bind fun x3 => (gn 40 (cN 0 : Int) z2.2).bind fun z4 => (gl 20 z4.2 p5 1).bind fun x5 => (g_X0_init z4.1 p1 p2 (-1) p3 x5 1 p2 z4.2).bind fun z6 => (g_X3_addCondition x3 z4.1 z6.2).bind fun z7 => some (z7.1, z7.2)
  else some ((-4), z2.2))
set_option maxHeartbeats 4000000 in
theorem sjX8_ask_77 {ad : Nat → Nat → Nat} {Cn : Nat → Nat} {H : PH} {G G' : GS} {rr : Int} {p0 p1 p2 p3 p5 b0 b5 : Int} (hS : SimA ad Cn H G) (w0 : vrel ad Cn 0 b0 p0) (w5 : vrel ad Cn 20 b5 p5) (h : gjX8_ask_77 p0 p1 p2 p3 p5 G = some (rr, G')) : RS ad Cn (jX8_ask_77 b0 p1 p2 p3 b5 H) 0 rr G' := by
  unfold gjX8_ask_77 at h
  unfold jX8_ask_77
  obtain ⟨x1, ex1, h⟩ := bnd h
  refine rb_ldr 0 1 hS w0 ex1 rfl rfl ?_
  intro bx1 wx1
  obtain ⟨z2, ez2, h⟩ := bnd h
  refine rb_call (ρc := 0) (s_X3_conditionsAreFull hS wx1 ez2) ?_
  intro ad Cn bz2 H hS hx wz2
  dsimp only
  obtain rfl : bz2 = z2.1 := wz2
  have w0 := w0.mono hx
  have w5 := w5.mono hx
  by_cases hc85 : z2.1 = 0
  · have h := iteT hc85 h
    refine rif_t hc85 ?_
    obtain ⟨x3, ex3, h⟩ := bnd h
    refine rb_ldr 0 1 hS w0 ex3 rfl rfl ?_
    intro bx3 wx3
    obtain ⟨z4, ez4, h⟩ := bnd h
    refine rb_newo 40 hS ez4 rfl (by decide) ?_
    intro ad Cn bz4 H hS hx wz4
    dsimp only
    have w0 := w0.mono hx
    have w5 := w5.mono hx
    have wx3 := wx3.mono hx
    obtain ⟨x5, ex5, h⟩ := bnd h
    refine rb_ld 20 hS w5 ex5 rfl rfl ?_
    obtain ⟨z6, ez6, h⟩ := bnd h
    refine rb_call (ρc := 0) (s_X0_init hS wz4 ez6) ?_
    intro ad Cn bz6 H hS hx wz6
    dsimp only
    obtain rfl : bz6 = z6.1 := wz6
    have w0 := w0.mono hx
    have w5 := w5.mono hx
    have wx3 := wx3.mono hx
    have wz4 := wz4.mono hx
    obtain ⟨z7, ez7, h⟩ := bnd h
    refine rb_call (ρc := 0) (s_X3_addCondition hS wx3 wz4 ez7) ?_
    intro ad Cn bz7 H hS hx wz7
    dsimp only
    obtain rfl : bz7 = z7.1 := wz7
    have w0 := w0.mono hx
    have w5 := w5.mono hx
    cases h
    exact rret hS rfl
  · have h := iteF hc85 h
    refine rif_f hc85 ?_
    cases h
    exact rret hS rfl
def gjX8_ask_65 (p0 p1 p2 p3 p5 : Int) (G : GS) : GO :=
  (gl 20 G p5 0).bind fun x1 => (if x1 > 1 then gjX8_ask_77 p0 p1 p2 p3 p5 G
  else some ((-2), G))
set_option maxHeartbeats 4000000 in
theorem sjX8_ask_65 {ad : Nat → Nat → Nat} {Cn : Nat → Nat} {H : PH} {G G' : GS} {rr : Int} {p0 p1 p2 p3 p5 b0 b5 : Int} (hS : SimA ad Cn H G) (w0 : vrel ad Cn 0 b0 p0) (w5 : vrel ad Cn 20 b5 p5) (h : gjX8_ask_65 p0 p1 p2 p3 p5 G = some (rr, G')) : RS ad Cn (jX8_ask_65 b0 p1 p2 p3 b5 H) 0 rr G' := by
  unfold gjX8_ask_65 at h
  unfold jX8_ask_65
  obtain ⟨x1, ex1, h⟩ := bnd h
  refine rb_ld 20 hS w5 ex1 rfl rfl ?_
  by_cases hc71 : x1 > 1
  · have h := iteT hc71 h
    refine rif_t hc71 ?_
    exact sjX8_ask_77 hS w0 w5 h
  · have h := iteF hc71 h
    refine rif_f hc71 ?_
    cases h
    exact rret hS rfl
def gjX8_ask_55 (p0 p1 p2 p3 p5 : Int) (G : GS) : GO :=
  (if p1 = 1 then gjX8_ask_65 p0 p1 p2 p3 p5 G
  else (if p1 ≠ 2 then gjX8_ask_77 p0 p1 p2 p3 p5 G
  else gjX8_ask_65 p0 p1 p2 p3 p5 G))
set_option maxHeartbeats 4000000 in
theorem sjX8_ask_55 {ad : Nat → Nat → Nat} {Cn : Nat → Nat} {H : PH} {G G' : GS} {rr : Int} {p0 p1 p2 p3 p5 b0 b5 : Int} (hS : SimA ad Cn H G) (w0 : vrel ad Cn 0 b0 p0) (w5 : vrel ad Cn 20 b5 p5) (h : gjX8_ask_55 p0 p1 p2 p3 p5 G = some (rr, G')) : RS ad Cn (jX8_ask_55 b0 p1 p2 p3 b5 H) 0 rr G' := by
  unfold gjX8_ask_55 at h
  unfold jX8_ask_55
  by_cases hc57 : p1 = 1
  · have h := iteT hc57 h
    refine rif_t hc57 ?_
    exact sjX8_ask_65 hS w0 w5 h
  · have h := iteF hc57 h
    refine rif_f hc57 ?_
    by_cases hc62 : p1 ≠ 2
    · have h := iteT hc62 h
      refine rif_t hc62 ?_
      exact sjX8_ask_77 hS w0 w5 h
    · have h := iteF hc62 h
      refine rif_f hc62 ?_
      exact sjX8_ask_65 hS w0 w5 h
def g_X8_ask (a0 a1 a2 a3 : Int) (G : GS) : GO := gvm a0 <|
  (gl 0 G a0 0).bind fun x1 => (g_X3_questionOf x1 a2 G).bind fun z2 => (if a1 < 0 then some ((-1), z2.2)
  else (if a1 > 3 then some ((-1), z2.2)
  else (if z2.1 ≠ -1 then (if a1 ≠ 0 then gjX8_ask_55 a0 a1 a2 a3 z2.1 z2.2
  else (gl 20 z2.2 z2.1 0).bind fun x3 => (if x3 ≠ 1 then gjX8_ask_55 a0 a1 a2 a3 z2.1 z2.2
  else (if (lc a3 0) < 0 then some ((-1), z2.2)
  else (if (lc a3 8) < 0 then gjX8_ask_55 a0 a1 a2 a3 z2.1 z2.2
  else some ((-1), z2.2)))))
  else some ((-1), z2.2))))
set_option maxHeartbeats 4000000 in
theorem s_X8_ask {ad : Nat → Nat → Nat} {Cn : Nat → Nat} {H : PH} {G G' : GS} {rr : Int} {a0 a1 a2 a3 b0 : Int} (hS : SimA ad Cn H G) (w0 : vrel ad Cn 0 b0 a0) (h : g_X8_ask a0 a1 a2 a3 G = some (rr, G')) : RS ad Cn (f_X8_ask b0 a1 a2 a3 H) 0 rr G' := by
  unfold g_X8_ask at h
  unfold f_X8_ask
  obtain ⟨hv, h⟩ := gvm_spec h
  refine rb_vm 0 8 hS w0 hv rfl ?_
  obtain ⟨x1, ex1, h⟩ := bnd h
  refine rb_ldr 0 1 hS w0 ex1 rfl rfl ?_
  intro bx1 wx1
  obtain ⟨z2, ez2, h⟩ := bnd h
  refine rb_call (ρc := 21) (s_X3_questionOf hS wx1 ez2) ?_
  intro ad Cn bz2 H hS hx wz2
  dsimp only
  have w0 := w0.mono hx
  by_cases hc11 : a1 < 0
  · have h := iteT hc11 h
    refine rif_t hc11 ?_
    cases h
    exact rret hS rfl
  · have h := iteF hc11 h
    refine rif_f hc11 ?_
    by_cases hc16 : a1 > 3
    · have h := iteT hc16 h
      refine rif_t hc16 ?_
      cases h
      exact rret hS rfl
    · have h := iteF hc16 h
      refine rif_f hc16 ?_
      by_cases hc21 : z2.1 ≠ -1
      · have h := iteT hc21 h
        refine rif_t (fun q => hc21 (wz2.null.mp q)) ?_
        by_cases hc27 : a1 ≠ 0
        · have h := iteT hc27 h
          refine rif_t hc27 ?_
          exact sjX8_ask_55 hS w0 wz2 h
        · have h := iteF hc27 h
          refine rif_f hc27 ?_
          obtain ⟨x3, ex3, h⟩ := bnd h
          refine rb_ld 20 hS wz2 ex3 rfl rfl ?_
          by_cases hc36 : x3 ≠ 1
          · have h := iteT hc36 h
            refine rif_t hc36 ?_
            exact sjX8_ask_55 hS w0 wz2 h
          · have h := iteF hc36 h
            refine rif_f hc36 ?_
            by_cases hc42 : (lc a3 0) < 0
            · have h := iteT hc42 h
              refine rif_t hc42 ?_
              cases h
              exact rret hS rfl
            · have h := iteF hc42 h
              refine rif_f hc42 ?_
              by_cases hc50 : (lc a3 8) < 0
              · have h := iteT hc50 h
                refine rif_t hc50 ?_
                exact sjX8_ask_55 hS w0 wz2 h
              · have h := iteF hc50 h
                refine rif_f hc50 ?_
                cases h
                exact rret hS rfl
      · have h := iteF hc21 h
        refine rif_f (fun q => hc21 (fun z => q (wz2.null.mpr z))) ?_
        cases h
        exact rret hS rfl
/-! HouseholdVault.logic(III)I by roles -/
def gjX8_logic_193 (p0 p1 p2 p3 p4 p5 p6 s0 : Int) (G : GS) : GO :=
  (gl 40 G p4 6).bind fun x1 => (gl 40 G p5 6).bind fun x2 => (gl 0 G p0 0).bind fun x3 => (gn 40 (cN 0 : Int) G).bind fun z4 => (g_X0_init z4.1 (w32 (4 + p1)) p2 p3 0 s0 p6 (imax x1 x2) z4.2).bind fun z5 => (g_X3_addCondition x3 z4.1 z5.2).bind fun z6 => some (z6.1, z6.2)
set_option maxHeartbeats 4000000 in
theorem sjX8_logic_193 {ad : Nat → Nat → Nat} {Cn : Nat → Nat} {H : PH} {G G' : GS} {rr : Int} {p0 p1 p2 p3 p4 p5 p6 s0 b0 b4 b5 : Int} (hS : SimA ad Cn H G) (w0 : vrel ad Cn 0 b0 p0) (w4 : vrel ad Cn 40 b4 p4) (w5 : vrel ad Cn 40 b5 p5) (h : gjX8_logic_193 p0 p1 p2 p3 p4 p5 p6 s0 G = some (rr, G')) : RS ad Cn (jX8_logic_193 b0 p1 p2 p3 b4 b5 p6 s0 H) 0 rr G' := by
  unfold gjX8_logic_193 at h
  unfold jX8_logic_193
  obtain ⟨x1, ex1, h⟩ := bnd h
  refine rb_ld 40 hS w4 ex1 rfl rfl ?_
  obtain ⟨x2, ex2, h⟩ := bnd h
  refine rb_ld 40 hS w5 ex2 rfl rfl ?_
  obtain ⟨x3, ex3, h⟩ := bnd h
  refine rb_ldr 0 1 hS w0 ex3 rfl rfl ?_
  intro bx3 wx3
  obtain ⟨z4, ez4, h⟩ := bnd h
  refine rb_newo 40 hS ez4 rfl (by decide) ?_
  intro ad Cn bz4 H hS hx wz4
  dsimp only
  have w0 := w0.mono hx
  have w4 := w4.mono hx
  have w5 := w5.mono hx
  have wx3 := wx3.mono hx
  obtain ⟨z5, ez5, h⟩ := bnd h
  refine rb_call (ρc := 0) (s_X0_init hS wz4 ez5) ?_
  intro ad Cn bz5 H hS hx wz5
  dsimp only
  obtain rfl : bz5 = z5.1 := wz5
  have w0 := w0.mono hx
  have w4 := w4.mono hx
  have w5 := w5.mono hx
  have wx3 := wx3.mono hx
  have wz4 := wz4.mono hx
  obtain ⟨z6, ez6, h⟩ := bnd h
  refine rb_call (ρc := 0) (s_X3_addCondition hS wx3 wz4 ez6) ?_
  intro ad Cn bz6 H hS hx wz6
  dsimp only
  obtain rfl : bz6 = z6.1 := wz6
  have w0 := w0.mono hx
  have w4 := w4.mono hx
  have w5 := w5.mono hx
  cases h
  exact rret hS rfl
def gjX8_logic_141 (p0 p1 p2 p3 p4 p5 : Int) (G : GS) : GO :=
  (gl 40 G p4 5).bind fun x1 => (gl 40 G p5 5).bind fun x2 => (gl 0 G p0 0).bind fun x3 => (g_X3_conditionsAreFull x3 (w32 ((w32 (x1 + x2)) + 1)) G).bind fun z4 => (if z4.1 = 0 then (gl 40 z4.2 p4 4).bind fun x5 => (if x5 ≠ (-1) then (gl 40 z4.2 p4 4).bind fun x6 => gjX8_logic_193 p0 p1 p2 p3 p4 p5 (w32 ((w32 (x1 + x2)) + 1)) x6 z4.2
  else (gl 40 z4.2 p5 4).bind fun x7 => gjX8_logic_193 p0 p1 p2 p3 p4 p5 (w32 ((w32 (x1 + x2)) + 1)) x7 z4.2)
  else some ((-4), z4.2))
set_option maxHeartbeats 4000000 in
theorem sjX8_logic_141 {ad : Nat → Nat → Nat} {Cn : Nat → Nat} {H : PH} {G G' : GS} {rr : Int} {p0 p1 p2 p3 p4 p5 b0 b4 b5 : Int} (hS : SimA ad Cn H G) (w0 : vrel ad Cn 0 b0 p0) (w4 : vrel ad Cn 40 b4 p4) (w5 : vrel ad Cn 40 b5 p5) (h : gjX8_logic_141 p0 p1 p2 p3 p4 p5 G = some (rr, G')) : RS ad Cn (jX8_logic_141 b0 p1 p2 p3 b4 b5 H) 0 rr G' := by
  unfold gjX8_logic_141 at h
  unfold jX8_logic_141
  obtain ⟨x1, ex1, h⟩ := bnd h
  refine rb_ld 40 hS w4 ex1 rfl rfl ?_
  obtain ⟨x2, ex2, h⟩ := bnd h
  refine rb_ld 40 hS w5 ex2 rfl rfl ?_
  obtain ⟨x3, ex3, h⟩ := bnd h
  refine rb_ldr 0 1 hS w0 ex3 rfl rfl ?_
  intro bx3 wx3
  obtain ⟨z4, ez4, h⟩ := bnd h
  refine rb_call (ρc := 0) (s_X3_conditionsAreFull hS wx3 ez4) ?_
  intro ad Cn bz4 H hS hx wz4
  dsimp only
  obtain rfl : bz4 = z4.1 := wz4
  have w0 := w0.mono hx
  have w4 := w4.mono hx
  have w5 := w5.mono hx
  by_cases hc165 : z4.1 = 0
  · have h := iteT hc165 h
    refine rif_t hc165 ?_
    obtain ⟨x5, ex5, h⟩ := bnd h
    refine rb_ld 40 hS w4 ex5 rfl rfl ?_
    by_cases hc177 : x5 ≠ (-1)
    · have h := iteT hc177 h
      refine rif_t hc177 ?_
      obtain ⟨x6, ex6, h⟩ := bnd h
      refine rb_ld 40 hS w4 ex6 rfl rfl ?_
      exact sjX8_logic_193 hS w0 w4 w5 h
    · have h := iteF hc177 h
      refine rif_f hc177 ?_
      obtain ⟨x7, ex7, h⟩ := bnd h
      refine rb_ld 40 hS w5 ex7 rfl rfl ?_
      exact sjX8_logic_193 hS w0 w4 w5 h
  · have h := iteF hc165 h
    refine rif_f hc165 ?_
    cases h
    exact rret hS rfl
def g_X8_logic (a0 a1 a2 a3 : Int) (G : GS) : GO := gvm a0 <|
  (gl 0 G a0 0).bind fun x1 => (g_X3_conditionOf x1 a2 G).bind fun z2 => (if a1 < 0 then some ((-1), z2.2)
  else (if a1 > 2 then some ((-1), z2.2)
  else (if z2.1 ≠ -1 then (if (w32 (4 + a1)) ≠ 6 then (gl 0 z2.2 a0 0).bind fun x3 => (g_X3_conditionOf x3 a3 z2.2).bind fun z4 => (if z4.1 ≠ -1 then (gl 40 z4.2 z2.1 4).bind fun x5 => (if x5 = (-1) then gjX8_logic_141 a0 a1 a2 a3 z2.1 z4.1 z4.2
  else (gl 40 z4.2 z4.1 4).bind fun x6 => (if x6 = (-1) then gjX8_logic_141 a0 a1 a2 a3 z2.1 z4.1 z4.2
  else (gl 40 z4.2 z2.1 4).bind fun x7 => (gl 40 z4.2 z4.1 4).bind fun x8 => (if x7 = x8 then gjX8_logic_141 a0 a1 a2 a3 z2.1 z4.1 z4.2
  else some ((-2), z4.2))))
  else some ((-1), z4.2))
  else (gl 40 z2.2 z2.1 5).bind fun x9 => (gl 0 z2.2 a0 0).bind fun x10 => (g_X3_conditionsAreFull x10 (w32 (x9 + 1)) z2.2).bind fun z11 => (if z11.1 = 0 then (gl 0 z11.2 a0 0).bind fun x12 => (gn 40 (cN 0 : Int) z11.2).bind fun z13 => (gl 40 z13.2 z2.1 4).bind fun x14 => (gl 40 z13.2 z2.1 6).bind fun x15 => (g_X0_init z13.1 6 a2 (-1) 0 x14 (w32 (x9 + 1)) x15 z13.2).bind fun z16 => (g_X3_addCondition x12 z13.1 z16.2).bind fun z17 => some (z17.1, z17.2)
  else some ((-4), z11.2)))
  else some ((-1), z2.2))))
set_option maxHeartbeats 4000000 in
theorem s_X8_logic {ad : Nat → Nat → Nat} {Cn : Nat → Nat} {H : PH} {G G' : GS} {rr : Int} {a0 a1 a2 a3 b0 : Int} (hS : SimA ad Cn H G) (w0 : vrel ad Cn 0 b0 a0) (h : g_X8_logic a0 a1 a2 a3 G = some (rr, G')) : RS ad Cn (f_X8_logic b0 a1 a2 a3 H) 0 rr G' := by
  unfold g_X8_logic at h
  unfold f_X8_logic
  obtain ⟨hv, h⟩ := gvm_spec h
  refine rb_vm 0 8 hS w0 hv rfl ?_
  obtain ⟨x1, ex1, h⟩ := bnd h
  refine rb_ldr 0 1 hS w0 ex1 rfl rfl ?_
  intro bx1 wx1
  obtain ⟨z2, ez2, h⟩ := bnd h
  refine rb_call (ρc := 41) (s_X3_conditionOf hS wx1 ez2) ?_
  intro ad Cn bz2 H hS hx wz2
  dsimp only
  have w0 := w0.mono hx
  by_cases hc11 : a1 < 0
  · have h := iteT hc11 h
    refine rif_t hc11 ?_
    cases h
    exact rret hS rfl
  · have h := iteF hc11 h
    refine rif_f hc11 ?_
    by_cases hc16 : a1 > 2
    · have h := iteT hc16 h
      refine rif_t hc16 ?_
      cases h
      exact rret hS rfl
    · have h := iteF hc16 h
      refine rif_f hc16 ?_
      by_cases hc21 : z2.1 ≠ -1
      · have h := iteT hc21 h
        refine rif_t (fun q => hc21 (wz2.null.mp q)) ?_
        by_cases hc31 : (w32 (4 + a1)) ≠ 6
        · have h := iteT hc31 h
          refine rif_t hc31 ?_
          obtain ⟨x3, ex3, h⟩ := bnd h
          refine rb_ldr 0 1 hS w0 ex3 rfl rfl ?_
          intro bx3 wx3
          obtain ⟨z4, ez4, h⟩ := bnd h
          refine rb_call (ρc := 41) (s_X3_conditionOf hS wx3 ez4) ?_
          intro ad Cn bz4 H hS hx wz4
          dsimp only
          have w0 := w0.mono hx
          have wz2 := wz2.mono hx
          by_cases hc102 : z4.1 ≠ -1
          · have h := iteT hc102 h
            refine rif_t (fun q => hc102 (wz4.null.mp q)) ?_
            obtain ⟨x5, ex5, h⟩ := bnd h
            refine rb_ld 40 hS wz2 ex5 rfl rfl ?_
            by_cases hc113 : x5 = (-1)
            · have h := iteT hc113 h
              refine rif_t hc113 ?_
              exact sjX8_logic_141 hS w0 wz2 wz4 h
            · have h := iteF hc113 h
              refine rif_f hc113 ?_
              obtain ⟨x6, ex6, h⟩ := bnd h
              refine rb_ld 40 hS wz4 ex6 rfl rfl ?_
              by_cases hc122 : x6 = (-1)
              · have h := iteT hc122 h
                refine rif_t hc122 ?_
                exact sjX8_logic_141 hS w0 wz2 wz4 h
              · have h := iteF hc122 h
                refine rif_f hc122 ?_
                obtain ⟨x7, ex7, h⟩ := bnd h
                refine rb_ld 40 hS wz2 ex7 rfl rfl ?_
                obtain ⟨x8, ex8, h⟩ := bnd h
                refine rb_ld 40 hS wz4 ex8 rfl rfl ?_
                by_cases hc135 : x7 = x8
                · have h := iteT hc135 h
                  refine rif_t hc135 ?_
                  exact sjX8_logic_141 hS w0 wz2 wz4 h
                · have h := iteF hc135 h
                  refine rif_f hc135 ?_
                  cases h
                  exact rret hS rfl
          · have h := iteF hc102 h
            refine rif_f (fun q => hc102 (fun z => q (wz4.null.mpr z))) ?_
            cases h
            exact rret hS rfl
        · have h := iteF hc31 h
          refine rif_f hc31 ?_
          obtain ⟨x9, ex9, h⟩ := bnd h
          refine rb_ld 40 hS wz2 ex9 rfl rfl ?_
          obtain ⟨x10, ex10, h⟩ := bnd h
          refine rb_ldr 0 1 hS w0 ex10 rfl rfl ?_
          intro bx10 wx10
          obtain ⟨z11, ez11, h⟩ := bnd h
          refine rb_call (ρc := 0) (s_X3_conditionsAreFull hS wx10 ez11) ?_
          intro ad Cn bz11 H hS hx wz11
          dsimp only
          obtain rfl : bz11 = z11.1 := wz11
          have w0 := w0.mono hx
          have wz2 := wz2.mono hx
          by_cases hc52 : z11.1 = 0
          · have h := iteT hc52 h
            refine rif_t hc52 ?_
            obtain ⟨x12, ex12, h⟩ := bnd h
            refine rb_ldr 0 1 hS w0 ex12 rfl rfl ?_
            intro bx12 wx12
            obtain ⟨z13, ez13, h⟩ := bnd h
            refine rb_newo 40 hS ez13 rfl (by decide) ?_
            intro ad Cn bz13 H hS hx wz13
            dsimp only
            have w0 := w0.mono hx
            have wz2 := wz2.mono hx
            have wx12 := wx12.mono hx
            obtain ⟨x14, ex14, h⟩ := bnd h
            refine rb_ld 40 hS wz2 ex14 rfl rfl ?_
            obtain ⟨x15, ex15, h⟩ := bnd h
            refine rb_ld 40 hS wz2 ex15 rfl rfl ?_
            obtain ⟨z16, ez16, h⟩ := bnd h
            refine rb_call (ρc := 0) (s_X0_init hS wz13 ez16) ?_
            intro ad Cn bz16 H hS hx wz16
            dsimp only
            obtain rfl : bz16 = z16.1 := wz16
            have w0 := w0.mono hx
            have wz2 := wz2.mono hx
            have wx12 := wx12.mono hx
            have wz13 := wz13.mono hx
            obtain ⟨z17, ez17, h⟩ := bnd h
            refine rb_call (ρc := 0) (s_X3_addCondition hS wx12 wz13 ez17) ?_
            intro ad Cn bz17 H hS hx wz17
            dsimp only
            obtain rfl : bz17 = z17.1 := wz17
            have w0 := w0.mono hx
            have wz2 := wz2.mono hx
            cases h
            exact rret hS rfl
          · have h := iteF hc52 h
            refine rif_f hc52 ?_
            cases h
            exact rret hS rfl
      · have h := iteF hc21 h
        refine rif_f (fun q => hc21 (fun z => q (wz2.null.mpr z))) ?_
        cases h
        exact rret hS rfl
/-! HouseholdVault.some(II)I by roles -/
def g_X8_some (a0 a1 a2 : Int) (G : GS) : GO := gvm a0 <|
  (gl 0 G a0 0).bind fun x1 => (g_X3_conditionOf x1 a1 G).bind fun z2 => (if z2.1 = -1 then some ((-1), z2.2)
  else (if a2 < 0 then some ((-1), z2.2)
  else (if a2 ≤ 5 then (gl 40 z2.2 z2.1 4).bind fun x3 => (if x3 ≠ (-1) then (gl 40 z2.2 z2.1 5).bind fun x4 => (gl 0 z2.2 a0 0).bind fun x5 => (g_X3_conditionsAreFull x5 (w32 (x4 + 1)) z2.2).bind fun z6 => (if z6.1 = 0 then (gl 0 z6.2 a0 0).bind fun x7 => (gn 40 (cN 0 : Int) z6.2).bind fun z8 => (gl 40 z8.2 z2.1 6).bind fun x9 => (g_X0_init z8.1 7 a1 (-1) a2 (-1) (w32 (x4 + 1)) x9 z8.2).bind fun z10 => (g_X3_addCondition x7 z8.1 z10.2).bind fun z11 => some (z11.1, z11.2)
  else some ((-4), z6.2))
  else some ((-2), z2.2))
  else some ((-1), z2.2))))
set_option maxHeartbeats 4000000 in
theorem s_X8_some {ad : Nat → Nat → Nat} {Cn : Nat → Nat} {H : PH} {G G' : GS} {rr : Int} {a0 a1 a2 b0 : Int} (hS : SimA ad Cn H G) (w0 : vrel ad Cn 0 b0 a0) (h : g_X8_some a0 a1 a2 G = some (rr, G')) : RS ad Cn (f_X8_some b0 a1 a2 H) 0 rr G' := by
  unfold g_X8_some at h
  unfold f_X8_some
  obtain ⟨hv, h⟩ := gvm_spec h
  refine rb_vm 0 8 hS w0 hv rfl ?_
  obtain ⟨x1, ex1, h⟩ := bnd h
  refine rb_ldr 0 1 hS w0 ex1 rfl rfl ?_
  intro bx1 wx1
  obtain ⟨z2, ez2, h⟩ := bnd h
  refine rb_call (ρc := 41) (s_X3_conditionOf hS wx1 ez2) ?_
  intro ad Cn bz2 H hS hx wz2
  dsimp only
  have w0 := w0.mono hx
  by_cases hc10 : z2.1 = -1
  · have h := iteT hc10 h
    refine rif_t (wz2.null.mpr hc10) ?_
    cases h
    exact rret hS rfl
  · have h := iteF hc10 h
    refine rif_f (fun q => hc10 (wz2.null.mp q)) ?_
    by_cases hc14 : a2 < 0
    · have h := iteT hc14 h
      refine rif_t hc14 ?_
      cases h
      exact rret hS rfl
    · have h := iteF hc14 h
      refine rif_f hc14 ?_
      by_cases hc19 : a2 ≤ 5
      · have h := iteT hc19 h
        refine rif_t hc19 ?_
        obtain ⟨x3, ex3, h⟩ := bnd h
        refine rb_ld 40 hS wz2 ex3 rfl rfl ?_
        by_cases hc29 : x3 ≠ (-1)
        · have h := iteT hc29 h
          refine rif_t hc29 ?_
          obtain ⟨x4, ex4, h⟩ := bnd h
          refine rb_ld 40 hS wz2 ex4 rfl rfl ?_
          obtain ⟨x5, ex5, h⟩ := bnd h
          refine rb_ldr 0 1 hS w0 ex5 rfl rfl ?_
          intro bx5 wx5
          obtain ⟨z6, ez6, h⟩ := bnd h
          refine rb_call (ρc := 0) (s_X3_conditionsAreFull hS wx5 ez6) ?_
          intro ad Cn bz6 H hS hx wz6
          dsimp only
          obtain rfl : bz6 = z6.1 := wz6
          have w0 := w0.mono hx
          have wz2 := wz2.mono hx
          by_cases hc52 : z6.1 = 0
          · have h := iteT hc52 h
            refine rif_t hc52 ?_
            obtain ⟨x7, ex7, h⟩ := bnd h
            refine rb_ldr 0 1 hS w0 ex7 rfl rfl ?_
            intro bx7 wx7
            obtain ⟨z8, ez8, h⟩ := bnd h
            refine rb_newo 40 hS ez8 rfl (by decide) ?_
            intro ad Cn bz8 H hS hx wz8
            dsimp only
            have w0 := w0.mono hx
            have wz2 := wz2.mono hx
            have wx7 := wx7.mono hx
            obtain ⟨x9, ex9, h⟩ := bnd h
            refine rb_ld 40 hS wz2 ex9 rfl rfl ?_
            obtain ⟨z10, ez10, h⟩ := bnd h
            refine rb_call (ρc := 0) (s_X0_init hS wz8 ez10) ?_
            intro ad Cn bz10 H hS hx wz10
            dsimp only
            obtain rfl : bz10 = z10.1 := wz10
            have w0 := w0.mono hx
            have wz2 := wz2.mono hx
            have wx7 := wx7.mono hx
            have wz8 := wz8.mono hx
            obtain ⟨z11, ez11, h⟩ := bnd h
            refine rb_call (ρc := 0) (s_X3_addCondition hS wx7 wz8 ez11) ?_
            intro ad Cn bz11 H hS hx wz11
            dsimp only
            obtain rfl : bz11 = z11.1 := wz11
            have w0 := w0.mono hx
            have wz2 := wz2.mono hx
            cases h
            exact rret hS rfl
          · have h := iteF hc52 h
            refine rif_f hc52 ?_
            cases h
            exact rret hS rfl
        · have h := iteF hc29 h
          refine rif_f hc29 ?_
          cases h
          exact rret hS rfl
      · have h := iteF hc19 h
        refine rif_f hc19 ?_
        cases h
        exact rret hS rfl
/-! HouseholdVault.holds(III)I by roles -/
def g_X8_holds (a0 a1 a2 a3 : Int) (G : GS) : GO := gvm a0 <|
  (gl 0 G a0 0).bind fun x1 => (g_X3_conditionOf x1 a1 G).bind fun z2 => (g_X8_homeOf a0 a2 z2.2).bind fun z3 => (if z2.1 = -1 then some ((-1), z3.2)
  else (if z3.1 = -1 then some ((-1), z3.2)
  else (gl 30 z3.2 z3.1 0).bind fun x4 => (gl 40 z3.2 z2.1 4).bind fun x5 => (g_X8_isPlace x4 x5 a3 z3.2).bind fun z6 => (if z6.1 ≠ 0 then (gl 0 z6.2 a0 0).bind fun x7 => (g_X3_settle x7 z3.1 z6.2).bind fun z8 => (gl 40 z8.2 z2.1 4).bind fun x9 => (g_X4_isSo z3.1 a1 x9 (imax a3 0) z8.2).bind fun z10 => (if z10.1 = 0 then some (0, z10.2)
  else some (1, z10.2))
  else some ((-1), z6.2))))
set_option maxHeartbeats 4000000 in
theorem s_X8_holds {ad : Nat → Nat → Nat} {Cn : Nat → Nat} {H : PH} {G G' : GS} {rr : Int} {a0 a1 a2 a3 b0 : Int} (hS : SimA ad Cn H G) (w0 : vrel ad Cn 0 b0 a0) (h : g_X8_holds a0 a1 a2 a3 G = some (rr, G')) : RS ad Cn (f_X8_holds b0 a1 a2 a3 H) 0 rr G' := by
  unfold g_X8_holds at h
  unfold f_X8_holds
  obtain ⟨hv, h⟩ := gvm_spec h
  refine rb_vm 0 8 hS w0 hv rfl ?_
  obtain ⟨x1, ex1, h⟩ := bnd h
  refine rb_ldr 0 1 hS w0 ex1 rfl rfl ?_
  intro bx1 wx1
  obtain ⟨z2, ez2, h⟩ := bnd h
  refine rb_call (ρc := 41) (s_X3_conditionOf hS wx1 ez2) ?_
  intro ad Cn bz2 H hS hx wz2
  dsimp only
  have w0 := w0.mono hx
  obtain ⟨z3, ez3, h⟩ := bnd h
  refine rb_call (ρc := 31) (s_X8_homeOf hS w0 ez3) ?_
  intro ad Cn bz3 H hS hx wz3
  dsimp only
  have w0 := w0.mono hx
  have wz2 := wz2.mono hx
  by_cases hc19 : z2.1 = -1
  · have h := iteT hc19 h
    refine rif_t (wz2.null.mpr hc19) ?_
    cases h
    exact rret hS rfl
  · have h := iteF hc19 h
    refine rif_f (fun q => hc19 (wz2.null.mp q)) ?_
    by_cases hc24 : z3.1 = -1
    · have h := iteT hc24 h
      refine rif_t (wz3.null.mpr hc24) ?_
      cases h
      exact rret hS rfl
    · have h := iteF hc24 h
      refine rif_f (fun q => hc24 (wz3.null.mp q)) ?_
      obtain ⟨x4, ex4, h⟩ := bnd h
      refine rb_ldr 30 31 hS wz3 ex4 rfl rfl ?_
      intro bx4 wx4
      obtain ⟨x5, ex5, h⟩ := bnd h
      refine rb_ld 40 hS wz2 ex5 rfl rfl ?_
      obtain ⟨z6, ez6, h⟩ := bnd h
      refine rb_call (ρc := 0) (s_X8_isPlace hS wx4 ez6) ?_
      intro ad Cn bz6 H hS hx wz6
      dsimp only
      obtain rfl : bz6 = z6.1 := wz6
      have w0 := w0.mono hx
      have wz2 := wz2.mono hx
      have wz3 := wz3.mono hx
      by_cases hc41 : z6.1 ≠ 0
      · have h := iteT hc41 h
        refine rif_t hc41 ?_
        obtain ⟨x7, ex7, h⟩ := bnd h
        refine rb_ldr 0 1 hS w0 ex7 rfl rfl ?_
        intro bx7 wx7
        obtain ⟨z8, ez8, h⟩ := bnd h
        refine rb_call (ρc := 0) (s_X3_settle hS wx7 wz3 ez8) ?_
        intro ad Cn bz8 H hS hx wz8
        dsimp only
        obtain rfl : bz8 = z8.1 := wz8
        have w0 := w0.mono hx
        have wz2 := wz2.mono hx
        have wz3 := wz3.mono hx
        obtain ⟨x9, ex9, h⟩ := bnd h
        refine rb_ld 40 hS wz2 ex9 rfl rfl ?_
        obtain ⟨z10, ez10, h⟩ := bnd h
        refine rb_call (ρc := 0) (s_X4_isSo hS wz3 ez10) ?_
        intro ad Cn bz10 H hS hx wz10
        dsimp only
        obtain rfl : bz10 = z10.1 := wz10
        have w0 := w0.mono hx
        have wz2 := wz2.mono hx
        have wz3 := wz3.mono hx
        by_cases hc71 : z10.1 = 0
        · have h := iteT hc71 h
          refine rif_t hc71 ?_
          cases h
          exact rret hS rfl
        · have h := iteF hc71 h
          refine rif_f hc71 ?_
          cases h
          exact rret hS rfl
      · have h := iteF hc41 h
        refine rif_f hc41 ?_
        cases h
        exact rret hS rfl
/-! HouseholdVault.filter(II)I by roles -/
def gjX8_filter_86 (p2 p3 : Int) (G : GS) : GO :=
  (gs 20 G p3 10 p2).bind fun G1 => some (1, G1)
set_option maxHeartbeats 4000000 in
theorem sjX8_filter_86 {ad : Nat → Nat → Nat} {Cn : Nat → Nat} {H : PH} {G G' : GS} {rr : Int} {p2 p3 b3 : Int} (hS : SimA ad Cn H G) (w3 : vrel ad Cn 20 b3 p3) (h : gjX8_filter_86 p2 p3 G = some (rr, G')) : RS ad Cn (jX8_filter_86 p2 b3 H) 0 rr G' := by
  unfold gjX8_filter_86 at h
  unfold jX8_filter_86
  obtain ⟨G1, eG1, h⟩ := bnd h
  refine rb_st 20 hS w3 (show rrel _ _ 0 _ _ from rfl) eG1 rfl ?_
  intro H hS
  cases h
  exact rret hS rfl
def gjX8_filter_74 (p1 p2 p3 p4 : Int) (G : GS) : GO :=
  (gl 40 G p4 6).bind fun x1 => (if x1 < p1 then gjX8_filter_86 p2 p3 G
  else some ((-2), G))
set_option maxHeartbeats 4000000 in
theorem sjX8_filter_74 {ad : Nat → Nat → Nat} {Cn : Nat → Nat} {H : PH} {G G' : GS} {rr : Int} {p1 p2 p3 p4 b3 b4 : Int} (hS : SimA ad Cn H G) (w3 : vrel ad Cn 20 b3 p3) (w4 : vrel ad Cn 40 b4 p4) (h : gjX8_filter_74 p1 p2 p3 p4 G = some (rr, G')) : RS ad Cn (jX8_filter_74 p1 p2 b3 b4 H) 0 rr G' := by
  unfold gjX8_filter_74 at h
  unfold jX8_filter_74
  obtain ⟨x1, ex1, h⟩ := bnd h
  refine rb_ld 40 hS w4 ex1 rfl rfl ?_
  by_cases hc80 : x1 < p1
  · have h := iteT hc80 h
    refine rif_t hc80 ?_
    exact sjX8_filter_86 hS w3 h
  · have h := iteF hc80 h
    refine rif_f hc80 ?_
    cases h
    exact rret hS rfl
def gjX8_filter_35 (p1 p2 p3 p4 : Int) (G : GS) : GO :=
  (gl 20 G p3 2).bind fun x1 => (if x1 = 0 then (if p4 = -1 then gjX8_filter_86 p2 p3 G
  else (gl 40 G p4 4).bind fun x2 => (if x2 = (-1) then gjX8_filter_74 p1 p2 p3 p4 G
  else (gl 40 G p4 4).bind fun x3 => (gl 20 G p3 1).bind fun x4 => (if x3 = x4 then gjX8_filter_74 p1 p2 p3 p4 G
  else some ((-2), G))))
  else some ((-2), G))
set_option maxHeartbeats 4000000 in
theorem sjX8_filter_35 {ad : Nat → Nat → Nat} {Cn : Nat → Nat} {H : PH} {G G' : GS} {rr : Int} {p1 p2 p3 p4 b3 b4 : Int} (hS : SimA ad Cn H G) (w3 : vrel ad Cn 20 b3 p3) (w4 : vrel ad Cn 40 b4 p4) (h : gjX8_filter_35 p1 p2 p3 p4 G = some (rr, G')) : RS ad Cn (jX8_filter_35 p1 p2 b3 b4 H) 0 rr G' := by
  unfold gjX8_filter_35 at h
  unfold jX8_filter_35
  obtain ⟨x1, ex1, h⟩ := bnd h
  refine rb_ld 20 hS w3 ex1 rfl rfl ?_
  by_cases hc39 : x1 = 0
  · have h := iteT hc39 h
    refine rif_t hc39 ?_
    by_cases hc47 : p4 = -1
    · have h := iteT hc47 h
      refine rif_t (w4.null.mpr hc47) ?_
      exact sjX8_filter_86 hS w3 h
    · have h := iteF hc47 h
      refine rif_f (fun q => hc47 (w4.null.mp q)) ?_
      obtain ⟨x2, ex2, h⟩ := bnd h
      refine rb_ld 40 hS w4 ex2 rfl rfl ?_
      by_cases hc56 : x2 = (-1)
      · have h := iteT hc56 h
        refine rif_t hc56 ?_
        exact sjX8_filter_74 hS w3 w4 h
      · have h := iteF hc56 h
        refine rif_f hc56 ?_
        obtain ⟨x3, ex3, h⟩ := bnd h
        refine rb_ld 40 hS w4 ex3 rfl rfl ?_
        obtain ⟨x4, ex4, h⟩ := bnd h
        refine rb_ld 20 hS w3 ex4 rfl rfl ?_
        by_cases hc68 : x3 = x4
        · have h := iteT hc68 h
          refine rif_t hc68 ?_
          exact sjX8_filter_74 hS w3 w4 h
        · have h := iteF hc68 h
          refine rif_f hc68 ?_
          cases h
          exact rret hS rfl
  · have h := iteF hc39 h
    refine rif_f hc39 ?_
    cases h
    exact rret hS rfl
def g_X8_filter (a0 a1 a2 : Int) (G : GS) : GO := gvm a0 <|
  (gl 0 G a0 0).bind fun x1 => (g_X3_questionOf x1 a1 G).bind fun z2 => (gl 0 z2.2 a0 0).bind fun x3 => (g_X3_conditionOf x3 a2 z2.2).bind fun z4 => (if z2.1 = -1 then some ((-1), z4.2)
  else (if a2 = (-1) then gjX8_filter_35 a1 a2 z2.1 z4.1 z4.2
  else (if z4.1 ≠ -1 then gjX8_filter_35 a1 a2 z2.1 z4.1 z4.2
  else some ((-1), z4.2))))
set_option maxHeartbeats 4000000 in
theorem s_X8_filter {ad : Nat → Nat → Nat} {Cn : Nat → Nat} {H : PH} {G G' : GS} {rr : Int} {a0 a1 a2 b0 : Int} (hS : SimA ad Cn H G) (w0 : vrel ad Cn 0 b0 a0) (h : g_X8_filter a0 a1 a2 G = some (rr, G')) : RS ad Cn (f_X8_filter b0 a1 a2 H) 0 rr G' := by
  unfold g_X8_filter at h
  unfold f_X8_filter
  obtain ⟨hv, h⟩ := gvm_spec h
  refine rb_vm 0 8 hS w0 hv rfl ?_
  obtain ⟨x1, ex1, h⟩ := bnd h
  refine rb_ldr 0 1 hS w0 ex1 rfl rfl ?_
  intro bx1 wx1
  obtain ⟨z2, ez2, h⟩ := bnd h
  refine rb_call (ρc := 21) (s_X3_questionOf hS wx1 ez2) ?_
  intro ad Cn bz2 H hS hx wz2
  dsimp only
  have w0 := w0.mono hx
  obtain ⟨x3, ex3, h⟩ := bnd h
  refine rb_ldr 0 1 hS w0 ex3 rfl rfl ?_
  intro bx3 wx3
  obtain ⟨z4, ez4, h⟩ := bnd h
  refine rb_call (ρc := 41) (s_X3_conditionOf hS wx3 ez4) ?_
  intro ad Cn bz4 H hS hx wz4
  dsimp only
  have w0 := w0.mono hx
  have wz2 := wz2.mono hx
  by_cases hc20 : z2.1 = -1
  · have h := iteT hc20 h
    refine rif_t (wz2.null.mpr hc20) ?_
    cases h
    exact rret hS rfl
  · have h := iteF hc20 h
    refine rif_f (fun q => hc20 (wz2.null.mp q)) ?_
    by_cases hc25 : a2 = (-1)
    · have h := iteT hc25 h
      refine rif_t hc25 ?_
      exact sjX8_filter_35 hS wz2 wz4 h
    · have h := iteF hc25 h
      refine rif_f hc25 ?_
      by_cases hc30 : z4.1 ≠ -1
      · have h := iteT hc30 h
        refine rif_t (fun q => hc30 (wz4.null.mp q)) ?_
        exact sjX8_filter_35 hS wz2 wz4 h
      · have h := iteF hc30 h
        refine rif_f (fun q => hc30 (fun z => q (wz4.null.mpr z))) ?_
        cases h
        exact rret hS rfl
/-! HouseholdVault.isGiven(LHouseholdVault$Sheet;LHouseholdVault$Question;I)Z by roles -/
def g_X8_isGiven (a0 a1 a2 : Int) (G : GS) : GO :=
  (gl 20 G a1 0).bind fun x1 => (if x1 ≠ 5 then (gl 31 G a0 1).bind fun x2 => (gl 33 G x2 a2).bind fun x3 => (if x3 ≠ 0 then some (0, G)
  else some (1, G))
  else (gl 31 G a0 0).bind fun x4 => (gl 32 G x4 a2).bind fun x5 => (if (lc x5 0) = 0 then some (0, G)
  else some (1, G)))
set_option maxHeartbeats 4000000 in
theorem s_X8_isGiven {ad : Nat → Nat → Nat} {Cn : Nat → Nat} {H : PH} {G G' : GS} {rr : Int} {a0 a1 a2 b0 b1 : Int} (hS : SimA ad Cn H G) (w0 : vrel ad Cn 31 b0 a0) (w1 : vrel ad Cn 20 b1 a1) (h : g_X8_isGiven a0 a1 a2 G = some (rr, G')) : RS ad Cn (f_X8_isGiven b0 b1 a2 H) 0 rr G' := by
  unfold g_X8_isGiven at h
  unfold f_X8_isGiven
  obtain ⟨x1, ex1, h⟩ := bnd h
  refine rb_ld 20 hS w1 ex1 rfl rfl ?_
  by_cases hc5 : x1 ≠ 5
  · have h := iteT hc5 h
    refine rif_t hc5 ?_
    obtain ⟨x2, ex2, h⟩ := bnd h
    refine rb_ldr 31 33 hS w0 ex2 rfl rfl ?_
    intro bx2 wx2
    obtain ⟨x3, ex3, h⟩ := bnd h
    refine rb_ld 33 hS wx2 ex3 rfl rfl ?_
    by_cases hc31 : x3 ≠ 0
    · have h := iteT hc31 h
      refine rif_t hc31 ?_
      cases h
      exact rret hS rfl
    · have h := iteF hc31 h
      refine rif_f hc31 ?_
      cases h
      exact rret hS rfl
  · have h := iteF hc5 h
    refine rif_f hc5 ?_
    obtain ⟨x4, ex4, h⟩ := bnd h
    refine rb_ldr 31 32 hS w0 ex4 rfl rfl ?_
    intro bx4 wx4
    obtain ⟨x5, ex5, h⟩ := bnd h
    refine rb_ld 32 hS wx4 ex5 rfl rfl ?_
    by_cases hc16 : (lc x5 0) = 0
    · have h := iteT hc16 h
      refine rif_t hc16 ?_
      cases h
      exact rret hS rfl
    · have h := iteF hc16 h
      refine rif_f hc16 ?_
      cases h
      exact rret hS rfl
/-! HouseholdVault.meetAgainst(II)V by roles -/
def gjX8_meetAgainst_124 (self55 : Int → GS → GO) (p0 p1 p2 p3 p4 p5 p6 p7 : Int) (G : GS) : GO :=
  self55 (w32 (p7 + 1)) G
set_option maxHeartbeats 4000000 in
theorem sjX8_meetAgainst_124 {ad : Nat → Nat → Nat} {Cn : Nat → Nat} {H : PH} {G G' : GS} {rr : Int} {fself55 : Int → PH → RO} {self55 : Int → GS → GO} {p0 p1 p2 p3 p4 p5 p6 p7 b0 b3 b4 b5 : Int} (ih55 : ∀ (ad : Nat → Nat → Nat) (Cn : Nat → Nat) (H : PH) (G : GS) (v7 : Int) , SimA ad Cn H G → vrel ad Cn 0 b0 p0 → vrel ad Cn 30 b3 p3 → vrel ad Cn 20 b4 p4 → vrel ad Cn 40 b5 p5 → self55 v7 G = some (rr, G') → RS ad Cn (fself55 v7 H) 0 rr G') (hS : SimA ad Cn H G) (w0 : vrel ad Cn 0 b0 p0) (w3 : vrel ad Cn 30 b3 p3) (w4 : vrel ad Cn 20 b4 p4) (w5 : vrel ad Cn 40 b5 p5) (h : gjX8_meetAgainst_124 self55 p0 p1 p2 p3 p4 p5 p6 p7 G = some (rr, G')) : RS ad Cn (jX8_meetAgainst_124 fself55 b0 p1 p2 b3 b4 b5 p6 p7 H) 0 rr G' := by
  unfold gjX8_meetAgainst_124 at h
  unfold jX8_meetAgainst_124
  exact ih55 _ _ _ _ (w32 (p7 + 1))  hS w0 w3 w4 w5  h
def glX8_meetAgainst_55 (p0 p1 p2 p3 p4 p5 p6 : Int) (self55 : Int → GS → GO) (p7 : Int) (G : GS) : GO :=
  (if p7 ≥ p6 then some (0, G)
  else (gl 30 G p3 0).bind fun x1 => (g_X8_spot p2 p7 G).bind fun z2 => (g_X8_isGiven x1 p4 z2.1 z2.2).bind fun z3 => (if z3.1 ≠ 0 then (gl 20 z3.2 p4 10).bind fun x4 => (gl 40 z3.2 p5 4).bind fun x5 => (g_X4_isSo p3 x4 x5 p7 z3.2).bind fun z6 => (if z6.1 = 0 then (gl 0 z6.2 p0 6).bind fun x7 => (gl 20 z6.2 p4 1).bind fun x8 => (g_X8_personOf x8 p7 z6.2).bind fun z9 => (g_X2_meet x7 p1 p2 z9.1 z9.2).bind fun z10 => gjX8_meetAgainst_124 self55 p0 p1 p2 p3 p4 p5 p6 p7 z10.2
  else gjX8_meetAgainst_124 self55 p0 p1 p2 p3 p4 p5 p6 p7 z6.2)
  else gjX8_meetAgainst_124 self55 p0 p1 p2 p3 p4 p5 p6 p7 z3.2))
set_option maxHeartbeats 4000000 in
theorem slX8_meetAgainst_55 {G' : GS} {rr : Int} {p0 p1 p2 p3 p4 p5 p6 b0 b3 b4 b5 : Int} : ∀ (n : Nat) (ad : Nat → Nat → Nat) (Cn : Nat → Nat) (H : PH) (G : GS) (p7 : Int) , SimA ad Cn H G → vrel ad Cn 0 b0 p0 → vrel ad Cn 30 b3 p3 → vrel ad Cn 20 b4 p4 → vrel ad Cn 40 b5 p5 → lh1 (glX8_meetAgainst_55 p0 p1 p2 p3 p4 p5 p6) n p7 G = some (rr, G') → RS ad Cn (lq1 (lX8_meetAgainst_55 b0 p1 p2 b3 b4 b5 p6) n p7 H) 0 rr G' := by
  intro n
  induction n with
  | zero => intro ad Cn H G p7 hS w0 w3 w4 w5 h; cases h
  | succ n ih55 =>
    intro ad Cn H G p7 hS w0 w3 w4 w5 h
    rw [lh1_s] at h
    rw [lq1_s]
    generalize lh1 (glX8_meetAgainst_55 p0 p1 p2 p3 p4 p5 p6) n = self55 at ih55 h
    generalize lq1 (lX8_meetAgainst_55 b0 p1 p2 b3 b4 b5 p6) n = fself55 at ih55 ⊢
    unfold glX8_meetAgainst_55 at h
    unfold lX8_meetAgainst_55
    by_cases hc59 : p7 ≥ p6
    · have h := iteT hc59 h
      refine rif_t hc59 ?_
      cases h
      exact rret hS rfl
    · have h := iteF hc59 h
      refine rif_f hc59 ?_
      obtain ⟨x1, ex1, h⟩ := bnd h
      refine rb_ldr 30 31 hS w3 ex1 rfl rfl ?_
      intro bx1 wx1
      obtain ⟨z2, ez2, h⟩ := bnd h
      refine rb_call (ρc := 0) (s_X8_spot hS ez2) ?_
      intro ad Cn bz2 H hS hx wz2
      dsimp only
      obtain rfl : bz2 = z2.1 := wz2
      have w0 := w0.mono hx
      have w3 := w3.mono hx
      have w4 := w4.mono hx
      have w5 := w5.mono hx
      have wx1 := wx1.mono hx
      obtain ⟨z3, ez3, h⟩ := bnd h
      refine rb_call (ρc := 0) (s_X8_isGiven hS wx1 w4 ez3) ?_
      intro ad Cn bz3 H hS hx wz3
      dsimp only
      obtain rfl : bz3 = z3.1 := wz3
      have w0 := w0.mono hx
      have w3 := w3.mono hx
      have w4 := w4.mono hx
      have w5 := w5.mono hx
      by_cases hc77 : z3.1 ≠ 0
      · have h := iteT hc77 h
        refine rif_t hc77 ?_
        obtain ⟨x4, ex4, h⟩ := bnd h
        refine rb_ld 20 hS w4 ex4 rfl rfl ?_
        obtain ⟨x5, ex5, h⟩ := bnd h
        refine rb_ld 40 hS w5 ex5 rfl rfl ?_
        obtain ⟨z6, ez6, h⟩ := bnd h
        refine rb_call (ρc := 0) (s_X4_isSo hS w3 ez6) ?_
        intro ad Cn bz6 H hS hx wz6
        dsimp only
        obtain rfl : bz6 = z6.1 := wz6
        have w0 := w0.mono hx
        have w3 := w3.mono hx
        have w4 := w4.mono hx
        have w5 := w5.mono hx
        by_cases hc99 : z6.1 = 0
        · have h := iteT hc99 h
          refine rif_t hc99 ?_
          obtain ⟨x7, ex7, h⟩ := bnd h
          refine rb_ldr 0 13 hS w0 ex7 rfl rfl ?_
          intro bx7 wx7
          obtain ⟨x8, ex8, h⟩ := bnd h
          refine rb_ld 20 hS w4 ex8 rfl rfl ?_
          obtain ⟨z9, ez9, h⟩ := bnd h
          refine rb_call (ρc := 0) (s_X8_personOf hS ez9) ?_
          intro ad Cn bz9 H hS hx wz9
          dsimp only
          obtain rfl : bz9 = z9.1 := wz9
          have w0 := w0.mono hx
          have w3 := w3.mono hx
          have w4 := w4.mono hx
          have w5 := w5.mono hx
          have wx7 := wx7.mono hx
          obtain ⟨z10, ez10, h⟩ := bnd h
          refine rb_call (ρc := 0) (s_X2_meet hS wx7 ez10) ?_
          intro ad Cn bz10 H hS hx wz10
          dsimp only
          obtain rfl : bz10 = z10.1 := wz10
          have w0 := w0.mono hx
          have w3 := w3.mono hx
          have w4 := w4.mono hx
          have w5 := w5.mono hx
          exact sjX8_meetAgainst_124 ih55 hS w0 w3 w4 w5 h
        · have h := iteF hc99 h
          refine rif_f hc99 ?_
          exact sjX8_meetAgainst_124 ih55 hS w0 w3 w4 w5 h
      · have h := iteF hc77 h
        refine rif_f hc77 ?_
        exact sjX8_meetAgainst_124 ih55 hS w0 w3 w4 w5 h
def g_X8_meetAgainst (a0 a1 a2 : Int) (G : GS) : GO := gvm a0 <|
  (gl 0 G a0 1).bind fun x1 => (gl 5 G x1 a1).bind fun x2 => (gl 0 G a0 0).bind fun x3 => (gl 1 G x3 0).bind fun x4 => (gl 2 G x4 a2).bind fun x5 => (gl 0 G a0 0).bind fun x6 => (gl 20 G x5 10).bind fun x7 => (g_X3_conditionOf x6 x7 G).bind fun z8 => (if z8.1 ≠ -1 then (gl 30 z8.2 x2 0).bind fun x9 => (gl 20 z8.2 x5 1).bind fun x10 => (g_X8_placesOf x9 x10 z8.2).bind fun z11 => lh1 (glX8_meetAgainst_55 a0 a1 a2 x2 x5 z8.1 z11.1) 6000 0 z11.2
  else some (0, z8.2))
set_option maxHeartbeats 4000000 in
theorem s_X8_meetAgainst {ad : Nat → Nat → Nat} {Cn : Nat → Nat} {H : PH} {G G' : GS} {rr : Int} {a0 a1 a2 b0 : Int} (hS : SimA ad Cn H G) (w0 : vrel ad Cn 0 b0 a0) (h : g_X8_meetAgainst a0 a1 a2 G = some (rr, G')) : RS ad Cn (f_X8_meetAgainst b0 a1 a2 H) 0 rr G' := by
  unfold g_X8_meetAgainst at h
  unfold f_X8_meetAgainst
  obtain ⟨hv, h⟩ := gvm_spec h
  refine rb_vm 0 8 hS w0 hv rfl ?_
  obtain ⟨x1, ex1, h⟩ := bnd h
  refine rb_ldr 0 5 hS w0 ex1 rfl rfl ?_
  intro bx1 wx1
  obtain ⟨x2, ex2, h⟩ := bnd h
  refine rb_ldr 5 30 hS wx1 ex2 rfl rfl ?_
  intro bx2 wx2
  obtain ⟨x3, ex3, h⟩ := bnd h
  refine rb_ldr 0 1 hS w0 ex3 rfl rfl ?_
  intro bx3 wx3
  obtain ⟨x4, ex4, h⟩ := bnd h
  refine rb_ldr 1 2 hS wx3 ex4 rfl rfl ?_
  intro bx4 wx4
  obtain ⟨x5, ex5, h⟩ := bnd h
  refine rb_ldr 2 20 hS wx4 ex5 rfl rfl ?_
  intro bx5 wx5
  obtain ⟨x6, ex6, h⟩ := bnd h
  refine rb_ldr 0 1 hS w0 ex6 rfl rfl ?_
  intro bx6 wx6
  obtain ⟨x7, ex7, h⟩ := bnd h
  refine rb_ld 20 hS wx5 ex7 rfl rfl ?_
  obtain ⟨z8, ez8, h⟩ := bnd h
  refine rb_call (ρc := 41) (s_X3_conditionOf hS wx6 ez8) ?_
  intro ad Cn bz8 H hS hx wz8
  dsimp only
  have w0 := w0.mono hx
  have wx2 := wx2.mono hx
  have wx5 := wx5.mono hx
  by_cases hc34 : z8.1 ≠ -1
  · have h := iteT hc34 h
    refine rif_t (fun q => hc34 (wz8.null.mp q)) ?_
    obtain ⟨x9, ex9, h⟩ := bnd h
    refine rb_ldr 30 31 hS wx2 ex9 rfl rfl ?_
    intro bx9 wx9
    obtain ⟨x10, ex10, h⟩ := bnd h
    refine rb_ld 20 hS wx5 ex10 rfl rfl ?_
    obtain ⟨z11, ez11, h⟩ := bnd h
    refine rb_call (ρc := 0) (s_X8_placesOf hS wx9 ez11) ?_
    intro ad Cn bz11 H hS hx wz11
    dsimp only
    obtain rfl : bz11 = z11.1 := wz11
    have w0 := w0.mono hx
    have wx2 := wx2.mono hx
    have wx5 := wx5.mono hx
    have wz8 := wz8.mono hx
    exact slX8_meetAgainst_55 6000 _ _ _ _ 0  hS w0 wx2 wx5 wz8 h
  · have h := iteF hc34 h
    refine rif_f (fun q => hc34 (fun z => q (wz8.null.mpr z))) ?_
    cases h
    exact rret hS rfl
/-! HouseholdVault.findAgainst(I)V by roles -/
def gjX8_findAgainst_66 (self10 : Int → GS → GO) (self33 : Int → GS → GO) (p0 p2 p3 : Int) (G : GS) : GO :=
  self33 (w32 (p3 + 1)) G
set_option maxHeartbeats 4000000 in
theorem sjX8_findAgainst_66 {ad : Nat → Nat → Nat} {Cn : Nat → Nat} {H : PH} {G G' : GS} {rr : Int} {fself10 : Int → PH → RO} {self10 : Int → GS → GO} {fself33 : Int → PH → RO} {self33 : Int → GS → GO} {p0 p2 p3 b0 : Int} (ih10 : ∀ (ad : Nat → Nat → Nat) (Cn : Nat → Nat) (H : PH) (G : GS) (v2 : Int) , SimA ad Cn H G → vrel ad Cn 0 b0 p0 → self10 v2 G = some (rr, G') → RS ad Cn (fself10 v2 H) 0 rr G') (ih33 : ∀ (ad : Nat → Nat → Nat) (Cn : Nat → Nat) (H : PH) (G : GS) (v3 : Int) , SimA ad Cn H G → vrel ad Cn 0 b0 p0 → self33 v3 G = some (rr, G') → RS ad Cn (fself33 v3 H) 0 rr G') (hS : SimA ad Cn H G) (w0 : vrel ad Cn 0 b0 p0) (h : gjX8_findAgainst_66 self10 self33 p0 p2 p3 G = some (rr, G')) : RS ad Cn (jX8_findAgainst_66 fself10 fself33 b0 p2 p3 H) 0 rr G' := by
  unfold gjX8_findAgainst_66 at h
  unfold jX8_findAgainst_66
  exact ih33 _ _ _ _ (w32 (p3 + 1))  hS w0  h
def glX8_findAgainst_33 (self10 : Int → GS → GO) (p0 p2 : Int) (self33 : Int → GS → GO) (p3 : Int) (G : GS) : GO :=
  (gl 0 G p0 0).bind fun x1 => (gl 1 G x1 1).bind fun x2 => (if p3 ≥ x2 then self10 (w32 (p2 + 1)) G
  else (gl 0 G p0 0).bind fun x3 => (gl 1 G x3 0).bind fun x4 => (gl 2 G x4 p3).bind fun x5 => (gl 20 G x5 10).bind fun x6 => (if x6 = (-1) then gjX8_findAgainst_66 self10 self33 p0 p2 p3 G
  else (g_X8_meetAgainst p0 p2 p3 G).bind fun z7 => gjX8_findAgainst_66 self10 self33 p0 p2 p3 z7.2))
set_option maxHeartbeats 4000000 in
theorem slX8_findAgainst_33 {G' : GS} {rr : Int} {fself10 : Int → PH → RO} {self10 : Int → GS → GO} {p0 p2 b0 : Int} (ih10 : ∀ (ad : Nat → Nat → Nat) (Cn : Nat → Nat) (H : PH) (G : GS) (v2 : Int) , SimA ad Cn H G → vrel ad Cn 0 b0 p0 → self10 v2 G = some (rr, G') → RS ad Cn (fself10 v2 H) 0 rr G') : ∀ (n : Nat) (ad : Nat → Nat → Nat) (Cn : Nat → Nat) (H : PH) (G : GS) (p3 : Int) , SimA ad Cn H G → vrel ad Cn 0 b0 p0 → lh1 (glX8_findAgainst_33 self10 p0 p2) n p3 G = some (rr, G') → RS ad Cn (lq1 (lX8_findAgainst_33 fself10 b0 p2) n p3 H) 0 rr G' := by
  intro n
  induction n with
  | zero => intro ad Cn H G p3 hS w0 h; cases h
  | succ n ih33 =>
    intro ad Cn H G p3 hS w0 h
    rw [lh1_s] at h
    rw [lq1_s]
    generalize lh1 (glX8_findAgainst_33 self10 p0 p2) n = self33 at ih33 h
    generalize lq1 (lX8_findAgainst_33 fself10 b0 p2) n = fself33 at ih33 ⊢
    unfold glX8_findAgainst_33 at h
    unfold lX8_findAgainst_33
    obtain ⟨x1, ex1, h⟩ := bnd h
    refine rb_ldr 0 1 hS w0 ex1 rfl rfl ?_
    intro bx1 wx1
    obtain ⟨x2, ex2, h⟩ := bnd h
    refine rb_ld 1 hS wx1 ex2 rfl rfl ?_
    by_cases hc41 : p3 ≥ x2
    · have h := iteT hc41 h
      refine rif_t hc41 ?_
      exact ih10 _ _ _ _ (w32 (p2 + 1))  hS w0  h
    · have h := iteF hc41 h
      refine rif_f hc41 ?_
      obtain ⟨x3, ex3, h⟩ := bnd h
      refine rb_ldr 0 1 hS w0 ex3 rfl rfl ?_
      intro bx3 wx3
      obtain ⟨x4, ex4, h⟩ := bnd h
      refine rb_ldr 1 2 hS wx3 ex4 rfl rfl ?_
      intro bx4 wx4
      obtain ⟨x5, ex5, h⟩ := bnd h
      refine rb_ldr 2 20 hS wx4 ex5 rfl rfl ?_
      intro bx5 wx5
      obtain ⟨x6, ex6, h⟩ := bnd h
      refine rb_ld 20 hS wx5 ex6 rfl rfl ?_
      by_cases hc57 : x6 = (-1)
      · have h := iteT hc57 h
        refine rif_t hc57 ?_
        exact sjX8_findAgainst_66 ih10 ih33 hS w0 h
      · have h := iteF hc57 h
        refine rif_f hc57 ?_
        obtain ⟨z7, ez7, h⟩ := bnd h
        refine rb_call (ρc := 0) (s_X8_meetAgainst hS w0 ez7) ?_
        intro ad Cn bz7 H hS hx wz7
        dsimp only
        obtain rfl : bz7 = z7.1 := wz7
        have w0 := w0.mono hx
        exact sjX8_findAgainst_66 ih10 ih33 hS w0 h
def glX8_findAgainst_10 (p0 : Int) (self10 : Int → GS → GO) (p2 : Int) (G : GS) : GO :=
  (gl 0 G p0 2).bind fun x1 => (if p2 ≥ x1 then some (0, G)
  else (gl 0 G p0 0).bind fun x2 => (gl 0 G p0 1).bind fun x3 => (gl 5 G x3 p2).bind fun x4 => (g_X3_settle x2 x4 G).bind fun z5 => lh1 (glX8_findAgainst_33 self10 p0 p2) 6000 0 z5.2)
set_option maxHeartbeats 4000000 in
theorem slX8_findAgainst_10 {G' : GS} {rr : Int} {p0 b0 : Int} : ∀ (n : Nat) (ad : Nat → Nat → Nat) (Cn : Nat → Nat) (H : PH) (G : GS) (p2 : Int) , SimA ad Cn H G → vrel ad Cn 0 b0 p0 → lh1 (glX8_findAgainst_10 p0) n p2 G = some (rr, G') → RS ad Cn (lq1 (lX8_findAgainst_10 b0) n p2 H) 0 rr G' := by
  intro n
  induction n with
  | zero => intro ad Cn H G p2 hS w0 h; cases h
  | succ n ih10 =>
    intro ad Cn H G p2 hS w0 h
    rw [lh1_s] at h
    rw [lq1_s]
    generalize lh1 (glX8_findAgainst_10 p0) n = self10 at ih10 h
    generalize lq1 (lX8_findAgainst_10 b0) n = fself10 at ih10 ⊢
    unfold glX8_findAgainst_10 at h
    unfold lX8_findAgainst_10
    obtain ⟨x1, ex1, h⟩ := bnd h
    refine rb_ld 0 hS w0 ex1 rfl rfl ?_
    by_cases hc15 : p2 ≥ x1
    · have h := iteT hc15 h
      refine rif_t hc15 ?_
      cases h
      exact rret hS rfl
    · have h := iteF hc15 h
      refine rif_f hc15 ?_
      obtain ⟨x2, ex2, h⟩ := bnd h
      refine rb_ldr 0 1 hS w0 ex2 rfl rfl ?_
      intro bx2 wx2
      obtain ⟨x3, ex3, h⟩ := bnd h
      refine rb_ldr 0 5 hS w0 ex3 rfl rfl ?_
      intro bx3 wx3
      obtain ⟨x4, ex4, h⟩ := bnd h
      refine rb_ldr 5 30 hS wx3 ex4 rfl rfl ?_
      intro bx4 wx4
      obtain ⟨z5, ez5, h⟩ := bnd h
      refine rb_call (ρc := 0) (s_X3_settle hS wx2 wx4 ez5) ?_
      intro ad Cn bz5 H hS hx wz5
      dsimp only
      obtain rfl : bz5 = z5.1 := wz5
      have w0 := w0.mono hx
      exact slX8_findAgainst_33 ih10 6000 _ _ _ _ 0  hS w0 h
def g_X8_findAgainst (a0 a1 : Int) (G : GS) : GO := gvm a0 <|
  (gl 0 G a0 6).bind fun x1 => (g_X2_start x1 a1 G).bind fun z2 => lh1 (glX8_findAgainst_10 a0) 6000 0 z2.2
set_option maxHeartbeats 4000000 in
theorem s_X8_findAgainst {ad : Nat → Nat → Nat} {Cn : Nat → Nat} {H : PH} {G G' : GS} {rr : Int} {a0 a1 b0 : Int} (hS : SimA ad Cn H G) (w0 : vrel ad Cn 0 b0 a0) (h : g_X8_findAgainst a0 a1 G = some (rr, G')) : RS ad Cn (f_X8_findAgainst b0 a1 H) 0 rr G' := by
  unfold g_X8_findAgainst at h
  unfold f_X8_findAgainst
  obtain ⟨hv, h⟩ := gvm_spec h
  refine rb_vm 0 8 hS w0 hv rfl ?_
  obtain ⟨x1, ex1, h⟩ := bnd h
  refine rb_ldr 0 13 hS w0 ex1 rfl rfl ?_
  intro bx1 wx1
  obtain ⟨z2, ez2, h⟩ := bnd h
  refine rb_call (ρc := 0) (s_X2_start hS wx1 ez2) ?_
  intro ad Cn bz2 H hS hx wz2
  dsimp only
  obtain rfl : bz2 = z2.1 := wz2
  have w0 := w0.mono hx
  exact slX8_findAgainst_10 6000 _ _ _ _ 0  hS w0 h
/-! HouseholdVault.against()I by roles -/
def g_X8_against (a0 : Int) (G : GS) : GO := gvm a0 <|
  (g_X8_findAgainst a0 (-1) G).bind fun z1 => (gl 0 z1.2 a0 6).bind fun x2 => (gl 13 z1.2 x2 1).bind fun x3 => some (x3, z1.2)
set_option maxHeartbeats 4000000 in
theorem s_X8_against {ad : Nat → Nat → Nat} {Cn : Nat → Nat} {H : PH} {G G' : GS} {rr : Int} {a0 b0 : Int} (hS : SimA ad Cn H G) (w0 : vrel ad Cn 0 b0 a0) (h : g_X8_against a0 G = some (rr, G')) : RS ad Cn (f_X8_against b0 H) 0 rr G' := by
  unfold g_X8_against at h
  unfold f_X8_against
  obtain ⟨hv, h⟩ := gvm_spec h
  refine rb_vm 0 8 hS w0 hv rfl ?_
  obtain ⟨z1, ez1, h⟩ := bnd h
  refine rb_call (ρc := 0) (s_X8_findAgainst hS w0 ez1) ?_
  intro ad Cn bz1 H hS hx wz1
  dsimp only
  obtain rfl : bz1 = z1.1 := wz1
  have w0 := w0.mono hx
  obtain ⟨x2, ex2, h⟩ := bnd h
  refine rb_ldr 0 13 hS w0 ex2 rfl rfl ?_
  intro bx2 wx2
  obtain ⟨x3, ex3, h⟩ := bnd h
  refine rb_ld 13 hS wx2 ex3 rfl rfl ?_
  cases h
  exact rret hS rfl
/-! HouseholdVault.againstAt(II)I by roles -/
def g_X8_againstAt (a0 a1 a2 : Int) (G : GS) : GO := gvm a0 <|
  (if a1 ≥ 0 then (g_X8_findAgainst a0 a1 G).bind fun z1 => (gl 0 z1.2 a0 6).bind fun x2 => (g_X2_told x2 a2 3 (-2) z1.2).bind fun z3 => some (z3.1, z3.2)
  else some ((-2), G))
set_option maxHeartbeats 4000000 in
theorem s_X8_againstAt {ad : Nat → Nat → Nat} {Cn : Nat → Nat} {H : PH} {G G' : GS} {rr : Int} {a0 a1 a2 b0 : Int} (hS : SimA ad Cn H G) (w0 : vrel ad Cn 0 b0 a0) (h : g_X8_againstAt a0 a1 a2 G = some (rr, G')) : RS ad Cn (f_X8_againstAt b0 a1 a2 H) 0 rr G' := by
  unfold g_X8_againstAt at h
  unfold f_X8_againstAt
  obtain ⟨hv, h⟩ := gvm_spec h
  refine rb_vm 0 8 hS w0 hv rfl ?_
  by_cases hc1 : a1 ≥ 0
  · have h := iteT hc1 h
    refine rif_t hc1 ?_
    obtain ⟨z1, ez1, h⟩ := bnd h
    refine rb_call (ρc := 0) (s_X8_findAgainst hS w0 ez1) ?_
    intro ad Cn bz1 H hS hx wz1
    dsimp only
    obtain rfl : bz1 = z1.1 := wz1
    have w0 := w0.mono hx
    obtain ⟨x2, ex2, h⟩ := bnd h
    refine rb_ldr 0 13 hS w0 ex2 rfl rfl ?_
    intro bx2 wx2
    obtain ⟨z3, ez3, h⟩ := bnd h
    refine rb_call (ρc := 0) (s_X2_told hS wx2 ez3) ?_
    intro ad Cn bz3 H hS hx wz3
    dsimp only
    obtain rfl : bz3 = z3.1 := wz3
    have w0 := w0.mono hx
    cases h
    exact rret hS rfl
  · have h := iteF hc1 h
    refine rif_f hc1 ?_
    cases h
    exact rret hS rfl
/-! HouseholdVault.weight(III)I by roles -/
def g_X8_weight (a0 a1 a2 a3 : Int) (G : GS) : GO := gvm a0 <|
  (g_X8_homeOf a0 a1 G).bind fun z1 => (if z1.1 = -1 then some ((-1), z1.2)
  else (if a2 < 0 then some ((-1), z1.2)
  else (if a2 > 1000 then some ((-1), z1.2)
  else (if a3 < 1 then some ((-1), z1.2)
  else (if a3 ≤ 10 then (if a3 = 0 then none else (gs 30 z1.2 z1.1 3 (w32 (a2 * (w32 (Int.tdiv 2520 a3))))).bind fun G2 => some (1, G2))
  else some ((-1), z1.2))))))
set_option maxHeartbeats 4000000 in
theorem s_X8_weight {ad : Nat → Nat → Nat} {Cn : Nat → Nat} {H : PH} {G G' : GS} {rr : Int} {a0 a1 a2 a3 b0 : Int} (hS : SimA ad Cn H G) (w0 : vrel ad Cn 0 b0 a0) (h : g_X8_weight a0 a1 a2 a3 G = some (rr, G')) : RS ad Cn (f_X8_weight b0 a1 a2 a3 H) 0 rr G' := by
  unfold g_X8_weight at h
  unfold f_X8_weight
  obtain ⟨hv, h⟩ := gvm_spec h
  refine rb_vm 0 8 hS w0 hv rfl ?_
  obtain ⟨z1, ez1, h⟩ := bnd h
  refine rb_call (ρc := 31) (s_X8_homeOf hS w0 ez1) ?_
  intro ad Cn bz1 H hS hx wz1
  dsimp only
  have w0 := w0.mono hx
  by_cases hc9 : z1.1 = -1
  · have h := iteT hc9 h
    refine rif_t (wz1.null.mpr hc9) ?_
    cases h
    exact rret hS rfl
  · have h := iteF hc9 h
    refine rif_f (fun q => hc9 (wz1.null.mp q)) ?_
    by_cases hc13 : a2 < 0
    · have h := iteT hc13 h
      refine rif_t hc13 ?_
      cases h
      exact rret hS rfl
    · have h := iteF hc13 h
      refine rif_f hc13 ?_
      by_cases hc20 : a2 > 1000
      · have h := iteT hc20 h
        refine rif_t hc20 ?_
        cases h
        exact rret hS rfl
      · have h := iteF hc20 h
        refine rif_f hc20 ?_
        by_cases hc25 : a3 < 1
        · have h := iteT hc25 h
          refine rif_t hc25 ?_
          cases h
          exact rret hS rfl
        · have h := iteF hc25 h
          refine rif_f hc25 ?_
          by_cases hc31 : a3 ≤ 10
          · have h := iteT hc31 h
            refine rif_t hc31 ?_
            by_cases hz43 : a3 = 0
            · rw [if_pos hz43] at h; cases h
            have h := iteF hz43 h
            refine rif_f hz43 ?_
            obtain ⟨G2, eG2, h⟩ := bnd h
            refine rb_st 30 hS wz1 (show rrel _ _ 0 _ _ from rfl) eG2 rfl ?_
            intro H hS
            cases h
            exact rret hS rfl
          · have h := iteF hc31 h
            refine rif_f hc31 ?_
            cases h
            exact rret hS rfl
/-! HouseholdVault.table(II)I by roles -/
def gjX8_table_151 (self100 : Int → GS → GO) (p0 p1 p2 p3 p4 p5 p6 s0 : Int) (G : GS) : GO :=
  (gl 0 G p0 5).bind fun x1 => (gl 30 G p6 0).bind fun x2 => (g_X8_spot p1 (-1) G).bind fun z3 => (g_X5_lineOf p3 x2 z3.1 z3.2).bind fun z4 => (gl 30 z4.2 p6 3).bind fun x5 => (g_X7_add x1 z4.1 s0 x5 z4.2).bind fun z6 => self100 (w32 (p5 + 1)) z6.2
set_option maxHeartbeats 4000000 in
theorem sjX8_table_151 {ad : Nat → Nat → Nat} {Cn : Nat → Nat} {H : PH} {G G' : GS} {rr : Int} {fself100 : Int → PH → RO} {self100 : Int → GS → GO} {p0 p1 p2 p3 p4 p5 p6 s0 b0 b3 b4 b6 : Int} (ih100 : ∀ (ad : Nat → Nat → Nat) (Cn : Nat → Nat) (H : PH) (G : GS) (v5 : Int) , SimA ad Cn H G → vrel ad Cn 0 b0 p0 → vrel ad Cn 20 b3 p3 → vrel ad Cn 20 b4 p4 → self100 v5 G = some (rr, G') → RS ad Cn (fself100 v5 H) 0 rr G') (hS : SimA ad Cn H G) (w0 : vrel ad Cn 0 b0 p0) (w3 : vrel ad Cn 20 b3 p3) (w4 : vrel ad Cn 20 b4 p4) (w6 : vrel ad Cn 30 b6 p6) (h : gjX8_table_151 self100 p0 p1 p2 p3 p4 p5 p6 s0 G = some (rr, G')) : RS ad Cn (jX8_table_151 fself100 b0 p1 p2 b3 b4 p5 b6 s0 H) 0 rr G' := by
  unfold gjX8_table_151 at h
  unfold jX8_table_151
  obtain ⟨x1, ex1, h⟩ := bnd h
  refine rb_ldr 0 7 hS w0 ex1 rfl rfl ?_
  intro bx1 wx1
  obtain ⟨x2, ex2, h⟩ := bnd h
  refine rb_ldr 30 31 hS w6 ex2 rfl rfl ?_
  intro bx2 wx2
  obtain ⟨z3, ez3, h⟩ := bnd h
  refine rb_call (ρc := 0) (s_X8_spot hS ez3) ?_
  intro ad Cn bz3 H hS hx wz3
  dsimp only
  obtain rfl : bz3 = z3.1 := wz3
  have w0 := w0.mono hx
  have w3 := w3.mono hx
  have w4 := w4.mono hx
  have w6 := w6.mono hx
  have wx1 := wx1.mono hx
  have wx2 := wx2.mono hx
  obtain ⟨z4, ez4, h⟩ := bnd h
  refine rb_call (ρc := 0) (s_X5_lineOf hS w3 wx2 ez4) ?_
  intro ad Cn bz4 H hS hx wz4
  dsimp only
  obtain rfl : bz4 = z4.1 := wz4
  have w0 := w0.mono hx
  have w3 := w3.mono hx
  have w4 := w4.mono hx
  have w6 := w6.mono hx
  have wx1 := wx1.mono hx
  obtain ⟨x5, ex5, h⟩ := bnd h
  refine rb_ld 30 hS w6 ex5 rfl rfl ?_
  obtain ⟨z6, ez6, h⟩ := bnd h
  refine rb_call (ρc := 0) (s_X7_add hS wx1 ez6) ?_
  intro ad Cn bz6 H hS hx wz6
  dsimp only
  obtain rfl : bz6 = z6.1 := wz6
  have w0 := w0.mono hx
  have w3 := w3.mono hx
  have w4 := w4.mono hx
  have w6 := w6.mono hx
  exact ih100 _ _ _ _ (w32 (p5 + 1))  hS w0 w3 w4  h
def glX8_table_100 (p0 p1 p2 p3 p4 : Int) (self100 : Int → GS → GO) (p5 : Int) (G : GS) : GO :=
  (gl 0 G p0 2).bind fun x1 => (if p5 ≥ x1 then (gl 0 G p0 5).bind fun x2 => (g_X7_cells x2 G).bind fun z3 => some (z3.1, z3.2)
  else (gl 0 G p0 1).bind fun x4 => (gl 5 G x4 p5).bind fun x5 => (gl 0 G p0 0).bind fun x6 => (g_X3_settle x6 x5 G).bind fun z7 => (if p4 ≠ -1 then (gl 30 z7.2 x5 0).bind fun x8 => (g_X8_spot p2 (-1) z7.2).bind fun z9 => (g_X5_lineOf p4 x8 z9.1 z9.2).bind fun z10 => gjX8_table_151 self100 p0 p1 p2 p3 p4 p5 x5 z10.1 z10.2
  else gjX8_table_151 self100 p0 p1 p2 p3 p4 p5 x5 0 z7.2))
set_option maxHeartbeats 4000000 in
theorem slX8_table_100 {G' : GS} {rr : Int} {p0 p1 p2 p3 p4 b0 b3 b4 : Int} : ∀ (n : Nat) (ad : Nat → Nat → Nat) (Cn : Nat → Nat) (H : PH) (G : GS) (p5 : Int) , SimA ad Cn H G → vrel ad Cn 0 b0 p0 → vrel ad Cn 20 b3 p3 → vrel ad Cn 20 b4 p4 → lh1 (glX8_table_100 p0 p1 p2 p3 p4) n p5 G = some (rr, G') → RS ad Cn (lq1 (lX8_table_100 b0 p1 p2 b3 b4) n p5 H) 0 rr G' := by
  intro n
  induction n with
  | zero => intro ad Cn H G p5 hS w0 w3 w4 h; cases h
  | succ n ih100 =>
    intro ad Cn H G p5 hS w0 w3 w4 h
    rw [lh1_s] at h
    rw [lq1_s]
    generalize lh1 (glX8_table_100 p0 p1 p2 p3 p4) n = self100 at ih100 h
    generalize lq1 (lX8_table_100 b0 p1 p2 b3 b4) n = fself100 at ih100 ⊢
    unfold glX8_table_100 at h
    unfold lX8_table_100
    obtain ⟨x1, ex1, h⟩ := bnd h
    refine rb_ld 0 hS w0 ex1 rfl rfl ?_
    by_cases hc106 : p5 ≥ x1
    · have h := iteT hc106 h
      refine rif_t hc106 ?_
      obtain ⟨x2, ex2, h⟩ := bnd h
      refine rb_ldr 0 7 hS w0 ex2 rfl rfl ?_
      intro bx2 wx2
      obtain ⟨z3, ez3, h⟩ := bnd h
      refine rb_call (ρc := 0) (s_X7_cells hS wx2 ez3) ?_
      intro ad Cn bz3 H hS hx wz3
      dsimp only
      obtain rfl : bz3 = z3.1 := wz3
      have w0 := w0.mono hx
      have w3 := w3.mono hx
      have w4 := w4.mono hx
      cases h
      exact rret hS rfl
    · have h := iteF hc106 h
      refine rif_f hc106 ?_
      obtain ⟨x4, ex4, h⟩ := bnd h
      refine rb_ldr 0 5 hS w0 ex4 rfl rfl ?_
      intro bx4 wx4
      obtain ⟨x5, ex5, h⟩ := bnd h
      refine rb_ldr 5 30 hS wx4 ex5 rfl rfl ?_
      intro bx5 wx5
      obtain ⟨x6, ex6, h⟩ := bnd h
      refine rb_ldr 0 1 hS w0 ex6 rfl rfl ?_
      intro bx6 wx6
      obtain ⟨z7, ez7, h⟩ := bnd h
      refine rb_call (ρc := 0) (s_X3_settle hS wx6 wx5 ez7) ?_
      intro ad Cn bz7 H hS hx wz7
      dsimp only
      obtain rfl : bz7 = z7.1 := wz7
      have w0 := w0.mono hx
      have w3 := w3.mono hx
      have w4 := w4.mono hx
      have wx5 := wx5.mono hx
      by_cases hc129 : p4 ≠ -1
      · have h := iteT hc129 h
        refine rif_t (fun q => hc129 (w4.null.mp q)) ?_
        obtain ⟨x8, ex8, h⟩ := bnd h
        refine rb_ldr 30 31 hS wx5 ex8 rfl rfl ?_
        intro bx8 wx8
        obtain ⟨z9, ez9, h⟩ := bnd h
        refine rb_call (ρc := 0) (s_X8_spot hS ez9) ?_
        intro ad Cn bz9 H hS hx wz9
        dsimp only
        obtain rfl : bz9 = z9.1 := wz9
        have w0 := w0.mono hx
        have w3 := w3.mono hx
        have w4 := w4.mono hx
        have wx5 := wx5.mono hx
        have wx8 := wx8.mono hx
        obtain ⟨z10, ez10, h⟩ := bnd h
        refine rb_call (ρc := 0) (s_X5_lineOf hS w4 wx8 ez10) ?_
        intro ad Cn bz10 H hS hx wz10
        dsimp only
        obtain rfl : bz10 = z10.1 := wz10
        have w0 := w0.mono hx
        have w3 := w3.mono hx
        have w4 := w4.mono hx
        have wx5 := wx5.mono hx
        exact sjX8_table_151 ih100 hS w0 w3 w4 wx5 h
      · have h := iteF hc129 h
        refine rif_f (fun q => hc129 (fun z => q (w4.null.mpr z))) ?_
        exact sjX8_table_151 ih100 hS w0 w3 w4 wx5 h
def gjX8_table_94 (p0 p1 p2 p3 p4 s0 s1 s2 s3 : Int) (G : GS) : GO :=
  (g_X7_start s0 s1 s2 s3 G).bind fun z1 => lh1 (glX8_table_100 p0 p1 p2 p3 p4) 6000 0 z1.2
set_option maxHeartbeats 4000000 in
theorem sjX8_table_94 {ad : Nat → Nat → Nat} {Cn : Nat → Nat} {H : PH} {G G' : GS} {rr : Int} {p0 p1 p2 p3 p4 s0 s1 s2 s3 b0 b3 b4 bs0 : Int} (hS : SimA ad Cn H G) (w0 : vrel ad Cn 0 b0 p0) (w3 : vrel ad Cn 20 b3 p3) (w4 : vrel ad Cn 20 b4 p4) (ws0 : vrel ad Cn 7 bs0 s0) (h : gjX8_table_94 p0 p1 p2 p3 p4 s0 s1 s2 s3 G = some (rr, G')) : RS ad Cn (jX8_table_94 b0 p1 p2 b3 b4 bs0 s1 s2 s3 H) 0 rr G' := by
  unfold gjX8_table_94 at h
  unfold jX8_table_94
  obtain ⟨z1, ez1, h⟩ := bnd h
  refine rb_call (ρc := 0) (s_X7_start hS ws0 ez1) ?_
  intro ad Cn bz1 H hS hx wz1
  dsimp only
  obtain rfl : bz1 = z1.1 := wz1
  have w0 := w0.mono hx
  have w3 := w3.mono hx
  have w4 := w4.mono hx
  exact slX8_table_100 6000 _ _ _ _ 0  hS w0 w3 w4 h
def gjX8_table_84 (p0 p1 p2 p3 p4 s0 s1 s2 : Int) (G : GS) : GO :=
  (if p4 = -1 then gjX8_table_94 p0 p1 p2 p3 p4 s0 s1 s2 0 G
  else gjX8_table_94 p0 p1 p2 p3 p4 s0 s1 s2 1 G)
set_option maxHeartbeats 4000000 in
theorem sjX8_table_84 {ad : Nat → Nat → Nat} {Cn : Nat → Nat} {H : PH} {G G' : GS} {rr : Int} {p0 p1 p2 p3 p4 s0 s1 s2 b0 b3 b4 bs0 : Int} (hS : SimA ad Cn H G) (w0 : vrel ad Cn 0 b0 p0) (w3 : vrel ad Cn 20 b3 p3) (w4 : vrel ad Cn 20 b4 p4) (ws0 : vrel ad Cn 7 bs0 s0) (h : gjX8_table_84 p0 p1 p2 p3 p4 s0 s1 s2 G = some (rr, G')) : RS ad Cn (jX8_table_84 b0 p1 p2 b3 b4 bs0 s1 s2 H) 0 rr G' := by
  unfold gjX8_table_84 at h
  unfold jX8_table_84
  by_cases hc86 : p4 = -1
  · have h := iteT hc86 h
    refine rif_t (w4.null.mpr hc86) ?_
    exact sjX8_table_94 hS w0 w3 w4 ws0 h
  · have h := iteF hc86 h
    refine rif_f (fun q => hc86 (w4.null.mp q)) ?_
    exact sjX8_table_94 hS w0 w3 w4 ws0 h
def gjX8_table_58 (p0 p1 p2 p3 p4 : Int) (G : GS) : GO :=
  (gl 0 G p0 5).bind fun x1 => (gl 20 G p3 5).bind fun x2 => (if p4 ≠ -1 then (gl 20 G p4 5).bind fun x3 => gjX8_table_84 p0 p1 p2 p3 p4 x1 (w32 (x2 + 1)) (w32 (x3 + 1)) G
  else gjX8_table_84 p0 p1 p2 p3 p4 x1 (w32 (x2 + 1)) 1 G)
set_option maxHeartbeats 4000000 in
theorem sjX8_table_58 {ad : Nat → Nat → Nat} {Cn : Nat → Nat} {H : PH} {G G' : GS} {rr : Int} {p0 p1 p2 p3 p4 b0 b3 b4 : Int} (hS : SimA ad Cn H G) (w0 : vrel ad Cn 0 b0 p0) (w3 : vrel ad Cn 20 b3 p3) (w4 : vrel ad Cn 20 b4 p4) (h : gjX8_table_58 p0 p1 p2 p3 p4 G = some (rr, G')) : RS ad Cn (jX8_table_58 b0 p1 p2 b3 b4 H) 0 rr G' := by
  unfold gjX8_table_58 at h
  unfold jX8_table_58
  obtain ⟨x1, ex1, h⟩ := bnd h
  refine rb_ldr 0 7 hS w0 ex1 rfl rfl ?_
  intro bx1 wx1
  obtain ⟨x2, ex2, h⟩ := bnd h
  refine rb_ld 20 hS w3 ex2 rfl rfl ?_
  by_cases hc70 : p4 ≠ -1
  · have h := iteT hc70 h
    refine rif_t (fun q => hc70 (w4.null.mp q)) ?_
    obtain ⟨x3, ex3, h⟩ := bnd h
    refine rb_ld 20 hS w4 ex3 rfl rfl ?_
    exact sjX8_table_84 hS w0 w3 w4 wx1 h
  · have h := iteF hc70 h
    refine rif_f (fun q => hc70 (fun z => q (w4.null.mpr z))) ?_
    exact sjX8_table_84 hS w0 w3 w4 wx1 h
def gjX8_table_35 (p0 p1 p2 p3 p4 : Int) (G : GS) : GO :=
  (g_X5_makesLines p3 G).bind fun z1 => (if z1.1 = 0 then some ((-2), z1.2)
  else (if p4 = -1 then gjX8_table_58 p0 p1 p2 p3 p4 z1.2
  else (g_X5_makesLines p4 z1.2).bind fun z2 => (if z2.1 ≠ 0 then gjX8_table_58 p0 p1 p2 p3 p4 z2.2
  else some ((-2), z2.2))))
set_option maxHeartbeats 4000000 in
theorem sjX8_table_35 {ad : Nat → Nat → Nat} {Cn : Nat → Nat} {H : PH} {G G' : GS} {rr : Int} {p0 p1 p2 p3 p4 b0 b3 b4 : Int} (hS : SimA ad Cn H G) (w0 : vrel ad Cn 0 b0 p0) (w3 : vrel ad Cn 20 b3 p3) (w4 : vrel ad Cn 20 b4 p4) (h : gjX8_table_35 p0 p1 p2 p3 p4 G = some (rr, G')) : RS ad Cn (jX8_table_35 b0 p1 p2 b3 b4 H) 0 rr G' := by
  unfold gjX8_table_35 at h
  unfold jX8_table_35
  obtain ⟨z1, ez1, h⟩ := bnd h
  refine rb_call (ρc := 0) (s_X5_makesLines hS w3 ez1) ?_
  intro ad Cn bz1 H hS hx wz1
  dsimp only
  obtain rfl : bz1 = z1.1 := wz1
  have w0 := w0.mono hx
  have w3 := w3.mono hx
  have w4 := w4.mono hx
  by_cases hc39 : z1.1 = 0
  · have h := iteT hc39 h
    refine rif_t hc39 ?_
    cases h
    exact rret hS rfl
  · have h := iteF hc39 h
    refine rif_f hc39 ?_
    by_cases hc44 : p4 = -1
    · have h := iteT hc44 h
      refine rif_t (w4.null.mpr hc44) ?_
      exact sjX8_table_58 hS w0 w3 w4 h
    · have h := iteF hc44 h
      refine rif_f (fun q => hc44 (w4.null.mp q)) ?_
      obtain ⟨z2, ez2, h⟩ := bnd h
      refine rb_call (ρc := 0) (s_X5_makesLines hS w4 ez2) ?_
      intro ad Cn bz2 H hS hx wz2
      dsimp only
      obtain rfl : bz2 = z2.1 := wz2
      have w0 := w0.mono hx
      have w3 := w3.mono hx
      have w4 := w4.mono hx
      by_cases hc52 : z2.1 ≠ 0
      · have h := iteT hc52 h
        refine rif_t hc52 ?_
        exact sjX8_table_58 hS w0 w3 w4 h
      · have h := iteF hc52 h
        refine rif_f hc52 ?_
        cases h
        exact rret hS rfl
def g_X8_table (a0 a1 a2 : Int) (G : GS) : GO := gvm a0 <|
  (gl 0 G a0 0).bind fun x1 => (g_X3_questionOf x1 a1 G).bind fun z2 => (gl 0 z2.2 a0 0).bind fun x3 => (g_X3_questionOf x3 a2 z2.2).bind fun z4 => (if z2.1 = -1 then some ((-1), z4.2)
  else (if a2 = (-1) then gjX8_table_35 a0 a1 a2 z2.1 z4.1 z4.2
  else (if z4.1 ≠ -1 then gjX8_table_35 a0 a1 a2 z2.1 z4.1 z4.2
  else some ((-1), z4.2))))
set_option maxHeartbeats 4000000 in
theorem s_X8_table {ad : Nat → Nat → Nat} {Cn : Nat → Nat} {H : PH} {G G' : GS} {rr : Int} {a0 a1 a2 b0 : Int} (hS : SimA ad Cn H G) (w0 : vrel ad Cn 0 b0 a0) (h : g_X8_table a0 a1 a2 G = some (rr, G')) : RS ad Cn (f_X8_table b0 a1 a2 H) 0 rr G' := by
  unfold g_X8_table at h
  unfold f_X8_table
  obtain ⟨hv, h⟩ := gvm_spec h
  refine rb_vm 0 8 hS w0 hv rfl ?_
  obtain ⟨x1, ex1, h⟩ := bnd h
  refine rb_ldr 0 1 hS w0 ex1 rfl rfl ?_
  intro bx1 wx1
  obtain ⟨z2, ez2, h⟩ := bnd h
  refine rb_call (ρc := 21) (s_X3_questionOf hS wx1 ez2) ?_
  intro ad Cn bz2 H hS hx wz2
  dsimp only
  have w0 := w0.mono hx
  obtain ⟨x3, ex3, h⟩ := bnd h
  refine rb_ldr 0 1 hS w0 ex3 rfl rfl ?_
  intro bx3 wx3
  obtain ⟨z4, ez4, h⟩ := bnd h
  refine rb_call (ρc := 21) (s_X3_questionOf hS wx3 ez4) ?_
  intro ad Cn bz4 H hS hx wz4
  dsimp only
  have w0 := w0.mono hx
  have wz2 := wz2.mono hx
  by_cases hc20 : z2.1 = -1
  · have h := iteT hc20 h
    refine rif_t (wz2.null.mpr hc20) ?_
    cases h
    exact rret hS rfl
  · have h := iteF hc20 h
    refine rif_f (fun q => hc20 (wz2.null.mp q)) ?_
    by_cases hc25 : a2 = (-1)
    · have h := iteT hc25 h
      refine rif_t hc25 ?_
      exact sjX8_table_35 hS w0 wz2 wz4 h
    · have h := iteF hc25 h
      refine rif_f hc25 ?_
      by_cases hc30 : z4.1 ≠ -1
      · have h := iteT hc30 h
        refine rif_t (fun q => hc30 (wz4.null.mp q)) ?_
        exact sjX8_table_35 hS w0 wz2 wz4 h
      · have h := iteF hc30 h
        refine rif_f (fun q => hc30 (fun z => q (wz4.null.mpr z))) ?_
        cases h
        exact rret hS rfl
