def gjL_law_1683 (X : List Int) (self18 : Int → GS → GO) (p1 p2 p3 : Int) (G : GS) : GO :=
  self18 (w32 (p3 + 7)) G
set_option maxHeartbeats 4000000 in
theorem sjL_law_1683 {X : List Int} {ad : Nat → Nat → Nat} {Cn : Nat → Nat} {H : PH} {G G' : GS} {rr : Int} {fself18 : Int → PH → RO} {self18 : Int → GS → GO} {p1 p2 p3 b1 b2 : Int} (ih18 : ∀ (ad : Nat → Nat → Nat) (Cn : Nat → Nat) (H : PH) (G : GS) (v3 : Int) , SimA ad Cn H G → vrel ad Cn 0 b1 p1 → vrel ad Cn 100 b2 p2 → self18 v3 G = some (rr, G') → RS ad Cn (fself18 v3 H) 0 rr G') (hS : SimA ad Cn H G) (w1 : vrel ad Cn 0 b1 p1) (w2 : vrel ad Cn 100 b2 p2) (h : gjL_law_1683 X self18 p1 p2 p3 G = some (rr, G')) : RS ad Cn (jL_law_1683 X fself18 b1 b2 p3 H) 0 rr G' := by
  unfold gjL_law_1683 at h
  unfold jL_law_1683
  exact ih18 _ _ _ _ (w32 (p3 + 7))  hS w1 w2  h
def gjL_law_204 (X : List Int) (self18 : Int → GS → GO) (p1 p2 p3 : Int) (G : GS) : GO :=
  (sld X (w32 (p3 + 1))).bind fun x1 => (sld X (w32 (p3 + 2))).bind fun x2 => (g_X8_question p1 x1 x2 G).bind fun z3 => (sld X (w32 (p3 + 1))).bind fun x4 => (sld X (w32 (p3 + 2))).bind fun x5 => (g_X9_question p2 x4 x5 z3.2).bind fun z6 => (if z3.1 = z6.1 then gjL_law_1683 X self18 p1 p2 p3 z6.2
  else some (0, z6.2))
set_option maxHeartbeats 4000000 in
theorem sjL_law_204 {X : List Int} {ad : Nat → Nat → Nat} {Cn : Nat → Nat} {H : PH} {G G' : GS} {rr : Int} {fself18 : Int → PH → RO} {self18 : Int → GS → GO} {p1 p2 p3 b1 b2 : Int} (ih18 : ∀ (ad : Nat → Nat → Nat) (Cn : Nat → Nat) (H : PH) (G : GS) (v3 : Int) , SimA ad Cn H G → vrel ad Cn 0 b1 p1 → vrel ad Cn 100 b2 p2 → self18 v3 G = some (rr, G') → RS ad Cn (fself18 v3 H) 0 rr G') (hS : SimA ad Cn H G) (w1 : vrel ad Cn 0 b1 p1) (w2 : vrel ad Cn 100 b2 p2) (h : gjL_law_204 X self18 p1 p2 p3 G = some (rr, G')) : RS ad Cn (jL_law_204 X fself18 b1 b2 p3 H) 0 rr G' := by
  unfold gjL_law_204 at h
  unfold jL_law_204
  obtain ⟨x1, ex1, h⟩ := bnd h
  refine rb_o ex1 ?_
  obtain ⟨x2, ex2, h⟩ := bnd h
  refine rb_o ex2 ?_
  obtain ⟨z3, ez3, h⟩ := bnd h
  refine rb_call (ρc := 0) (s_X8_question hS w1 ez3) ?_
  intro ad Cn bz3 H hS hx wz3
  dsimp only
  obtain rfl : bz3 = z3.1 := wz3
  have w1 := w1.mono hx
  have w2 := w2.mono hx
  obtain ⟨x4, ex4, h⟩ := bnd h
  refine rb_o ex4 ?_
  obtain ⟨x5, ex5, h⟩ := bnd h
  refine rb_o ex5 ?_
  obtain ⟨z6, ez6, h⟩ := bnd h
  refine rb_call (ρc := 0) (s_X9_question hS w2 ez6) ?_
  intro ad Cn bz6 H hS hx wz6
  dsimp only
  obtain rfl : bz6 = z6.1 := wz6
  have w1 := w1.mono hx
  have w2 := w2.mono hx
  by_cases hc232 : z3.1 = z6.1
  · have h := iteT hc232 h
    refine rif_t hc232 ?_
    exact sjL_law_1683 ih18 hS w1 w2 h
  · have h := iteF hc232 h
    refine rif_f hc232 ?_
    cases h
    exact rret hS rfl
def gjL_law_237 (X : List Int) (self18 : Int → GS → GO) (p1 p2 p3 : Int) (G : GS) : GO :=
  (sld X (w32 (p3 + 1))).bind fun x1 => (sld X (w32 (p3 + 2))).bind fun x2 => (g_X8_code p1 x1 x2 G).bind fun z3 => (sld X (w32 (p3 + 1))).bind fun x4 => (sld X (w32 (p3 + 2))).bind fun x5 => (g_X9_code p2 x4 x5 z3.2).bind fun z6 => (if z3.1 = z6.1 then gjL_law_1683 X self18 p1 p2 p3 z6.2
  else some (0, z6.2))
set_option maxHeartbeats 4000000 in
theorem sjL_law_237 {X : List Int} {ad : Nat → Nat → Nat} {Cn : Nat → Nat} {H : PH} {G G' : GS} {rr : Int} {fself18 : Int → PH → RO} {self18 : Int → GS → GO} {p1 p2 p3 b1 b2 : Int} (ih18 : ∀ (ad : Nat → Nat → Nat) (Cn : Nat → Nat) (H : PH) (G : GS) (v3 : Int) , SimA ad Cn H G → vrel ad Cn 0 b1 p1 → vrel ad Cn 100 b2 p2 → self18 v3 G = some (rr, G') → RS ad Cn (fself18 v3 H) 0 rr G') (hS : SimA ad Cn H G) (w1 : vrel ad Cn 0 b1 p1) (w2 : vrel ad Cn 100 b2 p2) (h : gjL_law_237 X self18 p1 p2 p3 G = some (rr, G')) : RS ad Cn (jL_law_237 X fself18 b1 b2 p3 H) 0 rr G' := by
  unfold gjL_law_237 at h
  unfold jL_law_237
  obtain ⟨x1, ex1, h⟩ := bnd h
  refine rb_o ex1 ?_
  obtain ⟨x2, ex2, h⟩ := bnd h
  refine rb_o ex2 ?_
  obtain ⟨z3, ez3, h⟩ := bnd h
  refine rb_call (ρc := 0) (s_X8_code hS w1 ez3) ?_
  intro ad Cn bz3 H hS hx wz3
  dsimp only
  obtain rfl : bz3 = z3.1 := wz3
  have w1 := w1.mono hx
  have w2 := w2.mono hx
  obtain ⟨x4, ex4, h⟩ := bnd h
  refine rb_o ex4 ?_
  obtain ⟨x5, ex5, h⟩ := bnd h
  refine rb_o ex5 ?_
  obtain ⟨z6, ez6, h⟩ := bnd h
  refine rb_call (ρc := 0) (s_X9_code hS w2 ez6) ?_
  intro ad Cn bz6 H hS hx wz6
  dsimp only
  obtain rfl : bz6 = z6.1 := wz6
  have w1 := w1.mono hx
  have w2 := w2.mono hx
  by_cases hc265 : z3.1 = z6.1
  · have h := iteT hc265 h
    refine rif_t hc265 ?_
    exact sjL_law_1683 ih18 hS w1 w2 h
  · have h := iteF hc265 h
    refine rif_f hc265 ?_
    cases h
    exact rret hS rfl
def gjL_law_270 (X : List Int) (self18 : Int → GS → GO) (p1 p2 p3 : Int) (G : GS) : GO :=
  (sld X (w32 (p3 + 1))).bind fun x1 => (g_X8_map p1 x1 G).bind fun z2 => (sld X (w32 (p3 + 1))).bind fun x3 => (g_X9_map p2 x3 z2.2).bind fun z4 => (if z2.1 = z4.1 then gjL_law_1683 X self18 p1 p2 p3 z4.2
  else some (0, z4.2))
set_option maxHeartbeats 4000000 in
theorem sjL_law_270 {X : List Int} {ad : Nat → Nat → Nat} {Cn : Nat → Nat} {H : PH} {G G' : GS} {rr : Int} {fself18 : Int → PH → RO} {self18 : Int → GS → GO} {p1 p2 p3 b1 b2 : Int} (ih18 : ∀ (ad : Nat → Nat → Nat) (Cn : Nat → Nat) (H : PH) (G : GS) (v3 : Int) , SimA ad Cn H G → vrel ad Cn 0 b1 p1 → vrel ad Cn 100 b2 p2 → self18 v3 G = some (rr, G') → RS ad Cn (fself18 v3 H) 0 rr G') (hS : SimA ad Cn H G) (w1 : vrel ad Cn 0 b1 p1) (w2 : vrel ad Cn 100 b2 p2) (h : gjL_law_270 X self18 p1 p2 p3 G = some (rr, G')) : RS ad Cn (jL_law_270 X fself18 b1 b2 p3 H) 0 rr G' := by
  unfold gjL_law_270 at h
  unfold jL_law_270
  obtain ⟨x1, ex1, h⟩ := bnd h
  refine rb_o ex1 ?_
  obtain ⟨z2, ez2, h⟩ := bnd h
  refine rb_call (ρc := 0) (s_X8_map hS w1 ez2) ?_
  intro ad Cn bz2 H hS hx wz2
  dsimp only
  obtain rfl : bz2 = z2.1 := wz2
  have w1 := w1.mono hx
  have w2 := w2.mono hx
  obtain ⟨x3, ex3, h⟩ := bnd h
  refine rb_o ex3 ?_
  obtain ⟨z4, ez4, h⟩ := bnd h
  refine rb_call (ρc := 0) (s_X9_map hS w2 ez4) ?_
  intro ad Cn bz4 H hS hx wz4
  dsimp only
  obtain rfl : bz4 = z4.1 := wz4
  have w1 := w1.mono hx
  have w2 := w2.mono hx
  by_cases hc288 : z2.1 = z4.1
  · have h := iteT hc288 h
    refine rif_t hc288 ?_
    exact sjL_law_1683 ih18 hS w1 w2 h
  · have h := iteF hc288 h
    refine rif_f hc288 ?_
    cases h
    exact rret hS rfl
def gjL_law_293 (X : List Int) (self18 : Int → GS → GO) (p1 p2 p3 : Int) (G : GS) : GO :=
  (sld X (w32 (p3 + 1))).bind fun x1 => (sld X (w32 (p3 + 2))).bind fun x2 => (sld X (w32 (p3 + 3))).bind fun x3 => (sld X (w32 (p3 + 4))).bind fun x4 => (sld X (w32 (p3 + 5))).bind fun x5 => (sld X (w32 (p3 + 6))).bind fun x6 => (g_X8_row p1 x1 (l_or (l_shl x2 32) (l_and x3 4294967295)) (l_or (l_shl x4 32) (l_and x5 4294967295)) x6 G).bind fun z7 => (sld X (w32 (p3 + 1))).bind fun x8 => (sld X (w32 (p3 + 2))).bind fun x9 => (sld X (w32 (p3 + 3))).bind fun x10 => (sld X (w32 (p3 + 4))).bind fun x11 => (sld X (w32 (p3 + 5))).bind fun x12 => (sld X (w32 (p3 + 6))).bind fun x13 => (g_X9_row p2 x8 (l_or (l_shl x9 32) (l_and x10 4294967295)) (l_or (l_shl x11 32) (l_and x12 4294967295)) x13 z7.2).bind fun z14 => (if z7.1 = z14.1 then gjL_law_1683 X self18 p1 p2 p3 z14.2
  else some (0, z14.2))
set_option maxHeartbeats 4000000 in
theorem sjL_law_293 {X : List Int} {ad : Nat → Nat → Nat} {Cn : Nat → Nat} {H : PH} {G G' : GS} {rr : Int} {fself18 : Int → PH → RO} {self18 : Int → GS → GO} {p1 p2 p3 b1 b2 : Int} (ih18 : ∀ (ad : Nat → Nat → Nat) (Cn : Nat → Nat) (H : PH) (G : GS) (v3 : Int) , SimA ad Cn H G → vrel ad Cn 0 b1 p1 → vrel ad Cn 100 b2 p2 → self18 v3 G = some (rr, G') → RS ad Cn (fself18 v3 H) 0 rr G') (hS : SimA ad Cn H G) (w1 : vrel ad Cn 0 b1 p1) (w2 : vrel ad Cn 100 b2 p2) (h : gjL_law_293 X self18 p1 p2 p3 G = some (rr, G')) : RS ad Cn (jL_law_293 X fself18 b1 b2 p3 H) 0 rr G' := by
  unfold gjL_law_293 at h
  unfold jL_law_293
  obtain ⟨x1, ex1, h⟩ := bnd h
  refine rb_o ex1 ?_
  obtain ⟨x2, ex2, h⟩ := bnd h
  refine rb_o ex2 ?_
  obtain ⟨x3, ex3, h⟩ := bnd h
  refine rb_o ex3 ?_
  obtain ⟨x4, ex4, h⟩ := bnd h
  refine rb_o ex4 ?_
  obtain ⟨x5, ex5, h⟩ := bnd h
  refine rb_o ex5 ?_
  obtain ⟨x6, ex6, h⟩ := bnd h
  refine rb_o ex6 ?_
  obtain ⟨z7, ez7, h⟩ := bnd h
  refine rb_call (ρc := 0) (s_X8_row hS w1 ez7) ?_
  intro ad Cn bz7 H hS hx wz7
  dsimp only
  obtain rfl : bz7 = z7.1 := wz7
  have w1 := w1.mono hx
  have w2 := w2.mono hx
  obtain ⟨x8, ex8, h⟩ := bnd h
  refine rb_o ex8 ?_
  obtain ⟨x9, ex9, h⟩ := bnd h
  refine rb_o ex9 ?_
  obtain ⟨x10, ex10, h⟩ := bnd h
  refine rb_o ex10 ?_
  obtain ⟨x11, ex11, h⟩ := bnd h
  refine rb_o ex11 ?_
  obtain ⟨x12, ex12, h⟩ := bnd h
  refine rb_o ex12 ?_
  obtain ⟨x13, ex13, h⟩ := bnd h
  refine rb_o ex13 ?_
  obtain ⟨z14, ez14, h⟩ := bnd h
  refine rb_call (ρc := 0) (s_X9_row hS w2 ez14) ?_
  intro ad Cn bz14 H hS hx wz14
  dsimp only
  obtain rfl : bz14 = z14.1 := wz14
  have w1 := w1.mono hx
  have w2 := w2.mono hx
  by_cases hc403 : z7.1 = z14.1
  · have h := iteT hc403 h
    refine rif_t hc403 ?_
    exact sjL_law_1683 ih18 hS w1 w2 h
  · have h := iteF hc403 h
    refine rif_f hc403 ?_
    cases h
    exact rret hS rfl
def gjL_law_408 (X : List Int) (self18 : Int → GS → GO) (p1 p2 p3 : Int) (G : GS) : GO :=
  (sld X (w32 (p3 + 1))).bind fun x1 => (sld X (w32 (p3 + 2))).bind fun x2 => (g_X8_howMany p1 x1 x2 G).bind fun z3 => (sld X (w32 (p3 + 1))).bind fun x4 => (sld X (w32 (p3 + 2))).bind fun x5 => (g_X9_howMany p2 x4 x5 z3.2).bind fun z6 => (if z3.1 = z6.1 then gjL_law_1683 X self18 p1 p2 p3 z6.2
  else some (0, z6.2))
set_option maxHeartbeats 4000000 in
theorem sjL_law_408 {X : List Int} {ad : Nat → Nat → Nat} {Cn : Nat → Nat} {H : PH} {G G' : GS} {rr : Int} {fself18 : Int → PH → RO} {self18 : Int → GS → GO} {p1 p2 p3 b1 b2 : Int} (ih18 : ∀ (ad : Nat → Nat → Nat) (Cn : Nat → Nat) (H : PH) (G : GS) (v3 : Int) , SimA ad Cn H G → vrel ad Cn 0 b1 p1 → vrel ad Cn 100 b2 p2 → self18 v3 G = some (rr, G') → RS ad Cn (fself18 v3 H) 0 rr G') (hS : SimA ad Cn H G) (w1 : vrel ad Cn 0 b1 p1) (w2 : vrel ad Cn 100 b2 p2) (h : gjL_law_408 X self18 p1 p2 p3 G = some (rr, G')) : RS ad Cn (jL_law_408 X fself18 b1 b2 p3 H) 0 rr G' := by
  unfold gjL_law_408 at h
  unfold jL_law_408
  obtain ⟨x1, ex1, h⟩ := bnd h
  refine rb_o ex1 ?_
  obtain ⟨x2, ex2, h⟩ := bnd h
  refine rb_o ex2 ?_
  obtain ⟨z3, ez3, h⟩ := bnd h
  refine rb_call (ρc := 0) (s_X8_howMany hS w1 ez3) ?_
  intro ad Cn bz3 H hS hx wz3
  dsimp only
  obtain rfl : bz3 = z3.1 := wz3
  have w1 := w1.mono hx
  have w2 := w2.mono hx
  obtain ⟨x4, ex4, h⟩ := bnd h
  refine rb_o ex4 ?_
  obtain ⟨x5, ex5, h⟩ := bnd h
  refine rb_o ex5 ?_
  obtain ⟨z6, ez6, h⟩ := bnd h
  refine rb_call (ρc := 0) (s_X9_howMany hS w2 ez6) ?_
  intro ad Cn bz6 H hS hx wz6
  dsimp only
  obtain rfl : bz6 = z6.1 := wz6
  have w1 := w1.mono hx
  have w2 := w2.mono hx
  by_cases hc436 : z3.1 = z6.1
  · have h := iteT hc436 h
    refine rif_t hc436 ?_
    exact sjL_law_1683 ih18 hS w1 w2 h
  · have h := iteF hc436 h
    refine rif_f hc436 ?_
    cases h
    exact rret hS rfl
def gjL_law_441 (X : List Int) (self18 : Int → GS → GO) (p1 p2 p3 : Int) (G : GS) : GO :=
  (sld X (w32 (p3 + 1))).bind fun x1 => (g_X8_sum p1 x1 G).bind fun z2 => (sld X (w32 (p3 + 1))).bind fun x3 => (g_X9_sum p2 x3 z2.2).bind fun z4 => (if z2.1 = z4.1 then gjL_law_1683 X self18 p1 p2 p3 z4.2
  else some (0, z4.2))
set_option maxHeartbeats 4000000 in
theorem sjL_law_441 {X : List Int} {ad : Nat → Nat → Nat} {Cn : Nat → Nat} {H : PH} {G G' : GS} {rr : Int} {fself18 : Int → PH → RO} {self18 : Int → GS → GO} {p1 p2 p3 b1 b2 : Int} (ih18 : ∀ (ad : Nat → Nat → Nat) (Cn : Nat → Nat) (H : PH) (G : GS) (v3 : Int) , SimA ad Cn H G → vrel ad Cn 0 b1 p1 → vrel ad Cn 100 b2 p2 → self18 v3 G = some (rr, G') → RS ad Cn (fself18 v3 H) 0 rr G') (hS : SimA ad Cn H G) (w1 : vrel ad Cn 0 b1 p1) (w2 : vrel ad Cn 100 b2 p2) (h : gjL_law_441 X self18 p1 p2 p3 G = some (rr, G')) : RS ad Cn (jL_law_441 X fself18 b1 b2 p3 H) 0 rr G' := by
  unfold gjL_law_441 at h
  unfold jL_law_441
  obtain ⟨x1, ex1, h⟩ := bnd h
  refine rb_o ex1 ?_
  obtain ⟨z2, ez2, h⟩ := bnd h
  refine rb_call (ρc := 0) (s_X8_sum hS w1 ez2) ?_
  intro ad Cn bz2 H hS hx wz2
  dsimp only
  obtain rfl : bz2 = z2.1 := wz2
  have w1 := w1.mono hx
  have w2 := w2.mono hx
  obtain ⟨x3, ex3, h⟩ := bnd h
  refine rb_o ex3 ?_
  obtain ⟨z4, ez4, h⟩ := bnd h
  refine rb_call (ρc := 0) (s_X9_sum hS w2 ez4) ?_
  intro ad Cn bz4 H hS hx wz4
  dsimp only
  obtain rfl : bz4 = z4.1 := wz4
  have w1 := w1.mono hx
  have w2 := w2.mono hx
  by_cases hc459 : z2.1 = z4.1
  · have h := iteT hc459 h
    refine rif_t hc459 ?_
    exact sjL_law_1683 ih18 hS w1 w2 h
  · have h := iteF hc459 h
    refine rif_f hc459 ?_
    cases h
    exact rret hS rfl
def gjL_law_464 (X : List Int) (self18 : Int → GS → GO) (p1 p2 p3 : Int) (G : GS) : GO :=
  (sld X (w32 (p3 + 1))).bind fun x1 => (sld X (w32 (p3 + 2))).bind fun x2 => (g_X8_of p1 x1 x2 G).bind fun z3 => (sld X (w32 (p3 + 1))).bind fun x4 => (sld X (w32 (p3 + 2))).bind fun x5 => (g_X9_of p2 x4 x5 z3.2).bind fun z6 => (if z3.1 = z6.1 then gjL_law_1683 X self18 p1 p2 p3 z6.2
  else some (0, z6.2))
set_option maxHeartbeats 4000000 in
theorem sjL_law_464 {X : List Int} {ad : Nat → Nat → Nat} {Cn : Nat → Nat} {H : PH} {G G' : GS} {rr : Int} {fself18 : Int → PH → RO} {self18 : Int → GS → GO} {p1 p2 p3 b1 b2 : Int} (ih18 : ∀ (ad : Nat → Nat → Nat) (Cn : Nat → Nat) (H : PH) (G : GS) (v3 : Int) , SimA ad Cn H G → vrel ad Cn 0 b1 p1 → vrel ad Cn 100 b2 p2 → self18 v3 G = some (rr, G') → RS ad Cn (fself18 v3 H) 0 rr G') (hS : SimA ad Cn H G) (w1 : vrel ad Cn 0 b1 p1) (w2 : vrel ad Cn 100 b2 p2) (h : gjL_law_464 X self18 p1 p2 p3 G = some (rr, G')) : RS ad Cn (jL_law_464 X fself18 b1 b2 p3 H) 0 rr G' := by
  unfold gjL_law_464 at h
  unfold jL_law_464
  obtain ⟨x1, ex1, h⟩ := bnd h
  refine rb_o ex1 ?_
  obtain ⟨x2, ex2, h⟩ := bnd h
  refine rb_o ex2 ?_
  obtain ⟨z3, ez3, h⟩ := bnd h
  refine rb_call (ρc := 0) (s_X8_of hS w1 ez3) ?_
  intro ad Cn bz3 H hS hx wz3
  dsimp only
  obtain rfl : bz3 = z3.1 := wz3
  have w1 := w1.mono hx
  have w2 := w2.mono hx
  obtain ⟨x4, ex4, h⟩ := bnd h
  refine rb_o ex4 ?_
  obtain ⟨x5, ex5, h⟩ := bnd h
  refine rb_o ex5 ?_
  obtain ⟨z6, ez6, h⟩ := bnd h
  refine rb_call (ρc := 0) (s_X9_of hS w2 ez6) ?_
  intro ad Cn bz6 H hS hx wz6
  dsimp only
  obtain rfl : bz6 = z6.1 := wz6
  have w1 := w1.mono hx
  have w2 := w2.mono hx
  by_cases hc492 : z3.1 = z6.1
  · have h := iteT hc492 h
    refine rif_t hc492 ?_
    exact sjL_law_1683 ih18 hS w1 w2 h
  · have h := iteF hc492 h
    refine rif_f hc492 ?_
    cases h
    exact rret hS rfl
def gjL_law_497 (X : List Int) (self18 : Int → GS → GO) (p1 p2 p3 : Int) (G : GS) : GO :=
  (sld X (w32 (p3 + 1))).bind fun x1 => (sld X (w32 (p3 + 2))).bind fun x2 => (g_X8_codeAt p1 x1 x2 G).bind fun z3 => (sld X (w32 (p3 + 1))).bind fun x4 => (sld X (w32 (p3 + 2))).bind fun x5 => (g_X9_codeAt p2 x4 x5 z3.2).bind fun z6 => (if z3.1 = z6.1 then gjL_law_1683 X self18 p1 p2 p3 z6.2
  else some (0, z6.2))
set_option maxHeartbeats 4000000 in
theorem sjL_law_497 {X : List Int} {ad : Nat → Nat → Nat} {Cn : Nat → Nat} {H : PH} {G G' : GS} {rr : Int} {fself18 : Int → PH → RO} {self18 : Int → GS → GO} {p1 p2 p3 b1 b2 : Int} (ih18 : ∀ (ad : Nat → Nat → Nat) (Cn : Nat → Nat) (H : PH) (G : GS) (v3 : Int) , SimA ad Cn H G → vrel ad Cn 0 b1 p1 → vrel ad Cn 100 b2 p2 → self18 v3 G = some (rr, G') → RS ad Cn (fself18 v3 H) 0 rr G') (hS : SimA ad Cn H G) (w1 : vrel ad Cn 0 b1 p1) (w2 : vrel ad Cn 100 b2 p2) (h : gjL_law_497 X self18 p1 p2 p3 G = some (rr, G')) : RS ad Cn (jL_law_497 X fself18 b1 b2 p3 H) 0 rr G' := by
  unfold gjL_law_497 at h
  unfold jL_law_497
  obtain ⟨x1, ex1, h⟩ := bnd h
  refine rb_o ex1 ?_
  obtain ⟨x2, ex2, h⟩ := bnd h
  refine rb_o ex2 ?_
  obtain ⟨z3, ez3, h⟩ := bnd h
  refine rb_call (ρc := 0) (s_X8_codeAt hS w1 ez3) ?_
  intro ad Cn bz3 H hS hx wz3
  dsimp only
  obtain rfl : bz3 = z3.1 := wz3
  have w1 := w1.mono hx
  have w2 := w2.mono hx
  obtain ⟨x4, ex4, h⟩ := bnd h
  refine rb_o ex4 ?_
  obtain ⟨x5, ex5, h⟩ := bnd h
  refine rb_o ex5 ?_
  obtain ⟨z6, ez6, h⟩ := bnd h
  refine rb_call (ρc := 0) (s_X9_codeAt hS w2 ez6) ?_
  intro ad Cn bz6 H hS hx wz6
  dsimp only
  obtain rfl : bz6 = z6.1 := wz6
  have w1 := w1.mono hx
  have w2 := w2.mono hx
  by_cases hc525 : z3.1 = z6.1
  · have h := iteT hc525 h
    refine rif_t hc525 ?_
    exact sjL_law_1683 ih18 hS w1 w2 h
  · have h := iteF hc525 h
    refine rif_f hc525 ?_
    cases h
    exact rret hS rfl
def gjL_law_530 (X : List Int) (self18 : Int → GS → GO) (p1 p2 p3 : Int) (G : GS) : GO :=
  (g_X8_household p1 G).bind fun z1 => (g_X9_household p2 z1.2).bind fun z2 => (if z1.1 = z2.1 then gjL_law_1683 X self18 p1 p2 p3 z2.2
  else some (0, z2.2))
set_option maxHeartbeats 4000000 in
theorem sjL_law_530 {X : List Int} {ad : Nat → Nat → Nat} {Cn : Nat → Nat} {H : PH} {G G' : GS} {rr : Int} {fself18 : Int → PH → RO} {self18 : Int → GS → GO} {p1 p2 p3 b1 b2 : Int} (ih18 : ∀ (ad : Nat → Nat → Nat) (Cn : Nat → Nat) (H : PH) (G : GS) (v3 : Int) , SimA ad Cn H G → vrel ad Cn 0 b1 p1 → vrel ad Cn 100 b2 p2 → self18 v3 G = some (rr, G') → RS ad Cn (fself18 v3 H) 0 rr G') (hS : SimA ad Cn H G) (w1 : vrel ad Cn 0 b1 p1) (w2 : vrel ad Cn 100 b2 p2) (h : gjL_law_530 X self18 p1 p2 p3 G = some (rr, G')) : RS ad Cn (jL_law_530 X fself18 b1 b2 p3 H) 0 rr G' := by
  unfold gjL_law_530 at h
  unfold jL_law_530
  obtain ⟨z1, ez1, h⟩ := bnd h
  refine rb_call (ρc := 0) (s_X8_household hS w1 ez1) ?_
  intro ad Cn bz1 H hS hx wz1
  dsimp only
  obtain rfl : bz1 = z1.1 := wz1
  have w1 := w1.mono hx
  have w2 := w2.mono hx
  obtain ⟨z2, ez2, h⟩ := bnd h
  refine rb_call (ρc := 0) (s_X9_household hS w2 ez2) ?_
  intro ad Cn bz2 H hS hx wz2
  dsimp only
  obtain rfl : bz2 = z2.1 := wz2
  have w1 := w1.mono hx
  have w2 := w2.mono hx
  by_cases hc538 : z1.1 = z2.1
  · have h := iteT hc538 h
    refine rif_t hc538 ?_
    exact sjL_law_1683 ih18 hS w1 w2 h
  · have h := iteF hc538 h
    refine rif_f hc538 ?_
    cases h
    exact rret hS rfl
def gjL_law_543 (X : List Int) (self18 : Int → GS → GO) (p1 p2 p3 : Int) (G : GS) : GO :=
  (sld X (w32 (p3 + 1))).bind fun x1 => (sld X (w32 (p3 + 2))).bind fun x2 => (sld X (w32 (p3 + 3))).bind fun x3 => (sld X (w32 (p3 + 4))).bind fun x4 => (sld X (w32 (p3 + 5))).bind fun x5 => (g_X8_answer p1 x1 x2 x3 (l_or (l_shl x4 32) (l_and x5 4294967295)) G).bind fun z6 => (sld X (w32 (p3 + 1))).bind fun x7 => (sld X (w32 (p3 + 2))).bind fun x8 => (sld X (w32 (p3 + 3))).bind fun x9 => (sld X (w32 (p3 + 4))).bind fun x10 => (sld X (w32 (p3 + 5))).bind fun x11 => (g_X9_answer p2 x7 x8 x9 (l_or (l_shl x10 32) (l_and x11 4294967295)) z6.2).bind fun z12 => (if z6.1 = z12.1 then gjL_law_1683 X self18 p1 p2 p3 z12.2
  else some (0, z12.2))
set_option maxHeartbeats 4000000 in
theorem sjL_law_543 {X : List Int} {ad : Nat → Nat → Nat} {Cn : Nat → Nat} {H : PH} {G G' : GS} {rr : Int} {fself18 : Int → PH → RO} {self18 : Int → GS → GO} {p1 p2 p3 b1 b2 : Int} (ih18 : ∀ (ad : Nat → Nat → Nat) (Cn : Nat → Nat) (H : PH) (G : GS) (v3 : Int) , SimA ad Cn H G → vrel ad Cn 0 b1 p1 → vrel ad Cn 100 b2 p2 → self18 v3 G = some (rr, G') → RS ad Cn (fself18 v3 H) 0 rr G') (hS : SimA ad Cn H G) (w1 : vrel ad Cn 0 b1 p1) (w2 : vrel ad Cn 100 b2 p2) (h : gjL_law_543 X self18 p1 p2 p3 G = some (rr, G')) : RS ad Cn (jL_law_543 X fself18 b1 b2 p3 H) 0 rr G' := by
  unfold gjL_law_543 at h
  unfold jL_law_543
  obtain ⟨x1, ex1, h⟩ := bnd h
  refine rb_o ex1 ?_
  obtain ⟨x2, ex2, h⟩ := bnd h
  refine rb_o ex2 ?_
  obtain ⟨x3, ex3, h⟩ := bnd h
  refine rb_o ex3 ?_
  obtain ⟨x4, ex4, h⟩ := bnd h
  refine rb_o ex4 ?_
  obtain ⟨x5, ex5, h⟩ := bnd h
  refine rb_o ex5 ?_
  obtain ⟨z6, ez6, h⟩ := bnd h
  refine rb_call (ρc := 0) (s_X8_answer hS w1 ez6) ?_
  intro ad Cn bz6 H hS hx wz6
  dsimp only
  obtain rfl : bz6 = z6.1 := wz6
  have w1 := w1.mono hx
  have w2 := w2.mono hx
  obtain ⟨x7, ex7, h⟩ := bnd h
  refine rb_o ex7 ?_
  obtain ⟨x8, ex8, h⟩ := bnd h
  refine rb_o ex8 ?_
  obtain ⟨x9, ex9, h⟩ := bnd h
  refine rb_o ex9 ?_
  obtain ⟨x10, ex10, h⟩ := bnd h
  refine rb_o ex10 ?_
  obtain ⟨x11, ex11, h⟩ := bnd h
  refine rb_o ex11 ?_
  obtain ⟨z12, ez12, h⟩ := bnd h
  refine rb_call (ρc := 0) (s_X9_answer hS w2 ez12) ?_
  intro ad Cn bz12 H hS hx wz12
  dsimp only
  obtain rfl : bz12 = z12.1 := wz12
  have w1 := w1.mono hx
  have w2 := w2.mono hx
  by_cases hc621 : z6.1 = z12.1
  · have h := iteT hc621 h
    refine rif_t hc621 ?_
    exact sjL_law_1683 ih18 hS w1 w2 h
  · have h := iteF hc621 h
    refine rif_f hc621 ?_
    cases h
    exact rret hS rfl
def gjL_law_626 (X : List Int) (self18 : Int → GS → GO) (p1 p2 p3 : Int) (G : GS) : GO :=
  (sld X (w32 (p3 + 1))).bind fun x1 => (sld X (w32 (p3 + 2))).bind fun x2 => (sld X (w32 (p3 + 3))).bind fun x3 => (sld X (w32 (p3 + 4))).bind fun x4 => (g_X8_missing p1 x1 x2 x3 x4 G).bind fun z5 => (sld X (w32 (p3 + 1))).bind fun x6 => (sld X (w32 (p3 + 2))).bind fun x7 => (sld X (w32 (p3 + 3))).bind fun x8 => (sld X (w32 (p3 + 4))).bind fun x9 => (g_X9_missing p2 x6 x7 x8 x9 z5.2).bind fun z10 => (if z5.1 = z10.1 then gjL_law_1683 X self18 p1 p2 p3 z10.2
  else some (0, z10.2))
set_option maxHeartbeats 4000000 in
theorem sjL_law_626 {X : List Int} {ad : Nat → Nat → Nat} {Cn : Nat → Nat} {H : PH} {G G' : GS} {rr : Int} {fself18 : Int → PH → RO} {self18 : Int → GS → GO} {p1 p2 p3 b1 b2 : Int} (ih18 : ∀ (ad : Nat → Nat → Nat) (Cn : Nat → Nat) (H : PH) (G : GS) (v3 : Int) , SimA ad Cn H G → vrel ad Cn 0 b1 p1 → vrel ad Cn 100 b2 p2 → self18 v3 G = some (rr, G') → RS ad Cn (fself18 v3 H) 0 rr G') (hS : SimA ad Cn H G) (w1 : vrel ad Cn 0 b1 p1) (w2 : vrel ad Cn 100 b2 p2) (h : gjL_law_626 X self18 p1 p2 p3 G = some (rr, G')) : RS ad Cn (jL_law_626 X fself18 b1 b2 p3 H) 0 rr G' := by
  unfold gjL_law_626 at h
  unfold jL_law_626
  obtain ⟨x1, ex1, h⟩ := bnd h
  refine rb_o ex1 ?_
  obtain ⟨x2, ex2, h⟩ := bnd h
  refine rb_o ex2 ?_
  obtain ⟨x3, ex3, h⟩ := bnd h
  refine rb_o ex3 ?_
  obtain ⟨x4, ex4, h⟩ := bnd h
  refine rb_o ex4 ?_
  obtain ⟨z5, ez5, h⟩ := bnd h
  refine rb_call (ρc := 0) (s_X8_missing hS w1 ez5) ?_
  intro ad Cn bz5 H hS hx wz5
  dsimp only
  obtain rfl : bz5 = z5.1 := wz5
  have w1 := w1.mono hx
  have w2 := w2.mono hx
  obtain ⟨x6, ex6, h⟩ := bnd h
  refine rb_o ex6 ?_
  obtain ⟨x7, ex7, h⟩ := bnd h
  refine rb_o ex7 ?_
  obtain ⟨x8, ex8, h⟩ := bnd h
  refine rb_o ex8 ?_
  obtain ⟨x9, ex9, h⟩ := bnd h
  refine rb_o ex9 ?_
  obtain ⟨z10, ez10, h⟩ := bnd h
  refine rb_call (ρc := 0) (s_X9_missing hS w2 ez10) ?_
  intro ad Cn bz10 H hS hx wz10
  dsimp only
  obtain rfl : bz10 = z10.1 := wz10
  have w1 := w1.mono hx
  have w2 := w2.mono hx
  by_cases hc674 : z5.1 = z10.1
  · have h := iteT hc674 h
    refine rif_t hc674 ?_
    exact sjL_law_1683 ih18 hS w1 w2 h
  · have h := iteF hc674 h
    refine rif_f hc674 ?_
    cases h
    exact rret hS rfl
def gjL_law_679 (X : List Int) (self18 : Int → GS → GO) (p1 p2 p3 : Int) (G : GS) : GO :=
  (sld X (w32 (p3 + 1))).bind fun x1 => (sld X (w32 (p3 + 2))).bind fun x2 => (sld X (w32 (p3 + 3))).bind fun x3 => (g_X8_value p1 x1 x2 x3 G).bind fun z4 => (sld X (w32 (p3 + 1))).bind fun x5 => (sld X (w32 (p3 + 2))).bind fun x6 => (sld X (w32 (p3 + 3))).bind fun x7 => (g_X9_value p2 x5 x6 x7 z4.2).bind fun z8 => (if (lc z4.1 z8.1) = 0 then gjL_law_1683 X self18 p1 p2 p3 z8.2
  else some (0, z8.2))
set_option maxHeartbeats 4000000 in
theorem sjL_law_679 {X : List Int} {ad : Nat → Nat → Nat} {Cn : Nat → Nat} {H : PH} {G G' : GS} {rr : Int} {fself18 : Int → PH → RO} {self18 : Int → GS → GO} {p1 p2 p3 b1 b2 : Int} (ih18 : ∀ (ad : Nat → Nat → Nat) (Cn : Nat → Nat) (H : PH) (G : GS) (v3 : Int) , SimA ad Cn H G → vrel ad Cn 0 b1 p1 → vrel ad Cn 100 b2 p2 → self18 v3 G = some (rr, G') → RS ad Cn (fself18 v3 H) 0 rr G') (hS : SimA ad Cn H G) (w1 : vrel ad Cn 0 b1 p1) (w2 : vrel ad Cn 100 b2 p2) (h : gjL_law_679 X self18 p1 p2 p3 G = some (rr, G')) : RS ad Cn (jL_law_679 X fself18 b1 b2 p3 H) 0 rr G' := by
  unfold gjL_law_679 at h
  unfold jL_law_679
  obtain ⟨x1, ex1, h⟩ := bnd h
  refine rb_o ex1 ?_
  obtain ⟨x2, ex2, h⟩ := bnd h
  refine rb_o ex2 ?_
  obtain ⟨x3, ex3, h⟩ := bnd h
  refine rb_o ex3 ?_
  obtain ⟨z4, ez4, h⟩ := bnd h
  refine rb_call (ρc := 0) (s_X8_value hS w1 ez4) ?_
  intro ad Cn bz4 H hS hx wz4
  dsimp only
  obtain rfl : bz4 = z4.1 := wz4
  have w1 := w1.mono hx
  have w2 := w2.mono hx
  obtain ⟨x5, ex5, h⟩ := bnd h
  refine rb_o ex5 ?_
  obtain ⟨x6, ex6, h⟩ := bnd h
  refine rb_o ex6 ?_
  obtain ⟨x7, ex7, h⟩ := bnd h
  refine rb_o ex7 ?_
  obtain ⟨z8, ez8, h⟩ := bnd h
  refine rb_call (ρc := 0) (s_X9_value hS w2 ez8) ?_
  intro ad Cn bz8 H hS hx wz8
  dsimp only
  obtain rfl : bz8 = z8.1 := wz8
  have w1 := w1.mono hx
  have w2 := w2.mono hx
  by_cases hc718 : (lc z4.1 z8.1) = 0
  · have h := iteT hc718 h
    refine rif_t hc718 ?_
    exact sjL_law_1683 ih18 hS w1 w2 h
  · have h := iteF hc718 h
    refine rif_f hc718 ?_
    cases h
    exact rret hS rfl
def gjL_law_723 (X : List Int) (self18 : Int → GS → GO) (p1 p2 p3 : Int) (G : GS) : GO :=
  (sld X (w32 (p3 + 1))).bind fun x1 => (sld X (w32 (p3 + 2))).bind fun x2 => (sld X (w32 (p3 + 3))).bind fun x3 => (g_X8_reason p1 x1 x2 x3 G).bind fun z4 => (sld X (w32 (p3 + 1))).bind fun x5 => (sld X (w32 (p3 + 2))).bind fun x6 => (sld X (w32 (p3 + 3))).bind fun x7 => (g_X9_reason p2 x5 x6 x7 z4.2).bind fun z8 => (if z4.1 = z8.1 then gjL_law_1683 X self18 p1 p2 p3 z8.2
  else some (0, z8.2))
set_option maxHeartbeats 4000000 in
theorem sjL_law_723 {X : List Int} {ad : Nat → Nat → Nat} {Cn : Nat → Nat} {H : PH} {G G' : GS} {rr : Int} {fself18 : Int → PH → RO} {self18 : Int → GS → GO} {p1 p2 p3 b1 b2 : Int} (ih18 : ∀ (ad : Nat → Nat → Nat) (Cn : Nat → Nat) (H : PH) (G : GS) (v3 : Int) , SimA ad Cn H G → vrel ad Cn 0 b1 p1 → vrel ad Cn 100 b2 p2 → self18 v3 G = some (rr, G') → RS ad Cn (fself18 v3 H) 0 rr G') (hS : SimA ad Cn H G) (w1 : vrel ad Cn 0 b1 p1) (w2 : vrel ad Cn 100 b2 p2) (h : gjL_law_723 X self18 p1 p2 p3 G = some (rr, G')) : RS ad Cn (jL_law_723 X fself18 b1 b2 p3 H) 0 rr G' := by
  unfold gjL_law_723 at h
  unfold jL_law_723
  obtain ⟨x1, ex1, h⟩ := bnd h
  refine rb_o ex1 ?_
  obtain ⟨x2, ex2, h⟩ := bnd h
  refine rb_o ex2 ?_
  obtain ⟨x3, ex3, h⟩ := bnd h
  refine rb_o ex3 ?_
  obtain ⟨z4, ez4, h⟩ := bnd h
  refine rb_call (ρc := 0) (s_X8_reason hS w1 ez4) ?_
  intro ad Cn bz4 H hS hx wz4
  dsimp only
  obtain rfl : bz4 = z4.1 := wz4
  have w1 := w1.mono hx
  have w2 := w2.mono hx
  obtain ⟨x5, ex5, h⟩ := bnd h
  refine rb_o ex5 ?_
  obtain ⟨x6, ex6, h⟩ := bnd h
  refine rb_o ex6 ?_
  obtain ⟨x7, ex7, h⟩ := bnd h
  refine rb_o ex7 ?_
  obtain ⟨z8, ez8, h⟩ := bnd h
  refine rb_call (ρc := 0) (s_X9_reason hS w2 ez8) ?_
  intro ad Cn bz8 H hS hx wz8
  dsimp only
  obtain rfl : bz8 = z8.1 := wz8
  have w1 := w1.mono hx
  have w2 := w2.mono hx
  by_cases hc761 : z4.1 = z8.1
  · have h := iteT hc761 h
    refine rif_t hc761 ?_
    exact sjL_law_1683 ih18 hS w1 w2 h
  · have h := iteF hc761 h
    refine rif_f hc761 ?_
    cases h
    exact rret hS rfl
def gjL_law_766 (X : List Int) (self18 : Int → GS → GO) (p1 p2 p3 : Int) (G : GS) : GO :=
  (sld X (w32 (p3 + 1))).bind fun x1 => (sld X (w32 (p3 + 2))).bind fun x2 => (sld X (w32 (p3 + 3))).bind fun x3 => (sld X (w32 (p3 + 4))).bind fun x4 => (g_X8_ask p1 x1 x2 (l_or (l_shl x3 32) (l_and x4 4294967295)) G).bind fun z5 => (sld X (w32 (p3 + 1))).bind fun x6 => (sld X (w32 (p3 + 2))).bind fun x7 => (sld X (w32 (p3 + 3))).bind fun x8 => (sld X (w32 (p3 + 4))).bind fun x9 => (g_X9_ask p2 x6 x7 (l_or (l_shl x8 32) (l_and x9 4294967295)) z5.2).bind fun z10 => (if z5.1 = z10.1 then gjL_law_1683 X self18 p1 p2 p3 z10.2
  else some (0, z10.2))
set_option maxHeartbeats 4000000 in
theorem sjL_law_766 {X : List Int} {ad : Nat → Nat → Nat} {Cn : Nat → Nat} {H : PH} {G G' : GS} {rr : Int} {fself18 : Int → PH → RO} {self18 : Int → GS → GO} {p1 p2 p3 b1 b2 : Int} (ih18 : ∀ (ad : Nat → Nat → Nat) (Cn : Nat → Nat) (H : PH) (G : GS) (v3 : Int) , SimA ad Cn H G → vrel ad Cn 0 b1 p1 → vrel ad Cn 100 b2 p2 → self18 v3 G = some (rr, G') → RS ad Cn (fself18 v3 H) 0 rr G') (hS : SimA ad Cn H G) (w1 : vrel ad Cn 0 b1 p1) (w2 : vrel ad Cn 100 b2 p2) (h : gjL_law_766 X self18 p1 p2 p3 G = some (rr, G')) : RS ad Cn (jL_law_766 X fself18 b1 b2 p3 H) 0 rr G' := by
  unfold gjL_law_766 at h
  unfold jL_law_766
  obtain ⟨x1, ex1, h⟩ := bnd h
  refine rb_o ex1 ?_
  obtain ⟨x2, ex2, h⟩ := bnd h
  refine rb_o ex2 ?_
  obtain ⟨x3, ex3, h⟩ := bnd h
  refine rb_o ex3 ?_
  obtain ⟨x4, ex4, h⟩ := bnd h
  refine rb_o ex4 ?_
  obtain ⟨z5, ez5, h⟩ := bnd h
  refine rb_call (ρc := 0) (s_X8_ask hS w1 ez5) ?_
  intro ad Cn bz5 H hS hx wz5
  dsimp only
  obtain rfl : bz5 = z5.1 := wz5
  have w1 := w1.mono hx
  have w2 := w2.mono hx
  obtain ⟨x6, ex6, h⟩ := bnd h
  refine rb_o ex6 ?_
  obtain ⟨x7, ex7, h⟩ := bnd h
  refine rb_o ex7 ?_
  obtain ⟨x8, ex8, h⟩ := bnd h
  refine rb_o ex8 ?_
  obtain ⟨x9, ex9, h⟩ := bnd h
  refine rb_o ex9 ?_
  obtain ⟨z10, ez10, h⟩ := bnd h
  refine rb_call (ρc := 0) (s_X9_ask hS w2 ez10) ?_
  intro ad Cn bz10 H hS hx wz10
  dsimp only
  obtain rfl : bz10 = z10.1 := wz10
  have w1 := w1.mono hx
  have w2 := w2.mono hx
  by_cases hc834 : z5.1 = z10.1
  · have h := iteT hc834 h
    refine rif_t hc834 ?_
    exact sjL_law_1683 ih18 hS w1 w2 h
  · have h := iteF hc834 h
    refine rif_f hc834 ?_
    cases h
    exact rret hS rfl
def gjL_law_839 (X : List Int) (self18 : Int → GS → GO) (p1 p2 p3 : Int) (G : GS) : GO :=
  (sld X (w32 (p3 + 1))).bind fun x1 => (sld X (w32 (p3 + 2))).bind fun x2 => (sld X (w32 (p3 + 3))).bind fun x3 => (g_X8_logic p1 x1 x2 x3 G).bind fun z4 => (sld X (w32 (p3 + 1))).bind fun x5 => (sld X (w32 (p3 + 2))).bind fun x6 => (sld X (w32 (p3 + 3))).bind fun x7 => (g_X9_logic p2 x5 x6 x7 z4.2).bind fun z8 => (if z4.1 = z8.1 then gjL_law_1683 X self18 p1 p2 p3 z8.2
  else some (0, z8.2))
set_option maxHeartbeats 4000000 in
theorem sjL_law_839 {X : List Int} {ad : Nat → Nat → Nat} {Cn : Nat → Nat} {H : PH} {G G' : GS} {rr : Int} {fself18 : Int → PH → RO} {self18 : Int → GS → GO} {p1 p2 p3 b1 b2 : Int} (ih18 : ∀ (ad : Nat → Nat → Nat) (Cn : Nat → Nat) (H : PH) (G : GS) (v3 : Int) , SimA ad Cn H G → vrel ad Cn 0 b1 p1 → vrel ad Cn 100 b2 p2 → self18 v3 G = some (rr, G') → RS ad Cn (fself18 v3 H) 0 rr G') (hS : SimA ad Cn H G) (w1 : vrel ad Cn 0 b1 p1) (w2 : vrel ad Cn 100 b2 p2) (h : gjL_law_839 X self18 p1 p2 p3 G = some (rr, G')) : RS ad Cn (jL_law_839 X fself18 b1 b2 p3 H) 0 rr G' := by
  unfold gjL_law_839 at h
  unfold jL_law_839
  obtain ⟨x1, ex1, h⟩ := bnd h
  refine rb_o ex1 ?_
  obtain ⟨x2, ex2, h⟩ := bnd h
  refine rb_o ex2 ?_
  obtain ⟨x3, ex3, h⟩ := bnd h
  refine rb_o ex3 ?_
  obtain ⟨z4, ez4, h⟩ := bnd h
  refine rb_call (ρc := 0) (s_X8_logic hS w1 ez4) ?_
  intro ad Cn bz4 H hS hx wz4
  dsimp only
  obtain rfl : bz4 = z4.1 := wz4
  have w1 := w1.mono hx
  have w2 := w2.mono hx
  obtain ⟨x5, ex5, h⟩ := bnd h
  refine rb_o ex5 ?_
  obtain ⟨x6, ex6, h⟩ := bnd h
  refine rb_o ex6 ?_
  obtain ⟨x7, ex7, h⟩ := bnd h
  refine rb_o ex7 ?_
  obtain ⟨z8, ez8, h⟩ := bnd h
  refine rb_call (ρc := 0) (s_X9_logic hS w2 ez8) ?_
  intro ad Cn bz8 H hS hx wz8
  dsimp only
  obtain rfl : bz8 = z8.1 := wz8
  have w1 := w1.mono hx
  have w2 := w2.mono hx
  by_cases hc877 : z4.1 = z8.1
  · have h := iteT hc877 h
    refine rif_t hc877 ?_
    exact sjL_law_1683 ih18 hS w1 w2 h
  · have h := iteF hc877 h
    refine rif_f hc877 ?_
    cases h
    exact rret hS rfl
def gjL_law_882 (X : List Int) (self18 : Int → GS → GO) (p1 p2 p3 : Int) (G : GS) : GO :=
  (sld X (w32 (p3 + 1))).bind fun x1 => (sld X (w32 (p3 + 2))).bind fun x2 => (g_X8_some p1 x1 x2 G).bind fun z3 => (sld X (w32 (p3 + 1))).bind fun x4 => (sld X (w32 (p3 + 2))).bind fun x5 => (g_X9_some p2 x4 x5 z3.2).bind fun z6 => (if z3.1 = z6.1 then gjL_law_1683 X self18 p1 p2 p3 z6.2
  else some (0, z6.2))
set_option maxHeartbeats 4000000 in
theorem sjL_law_882 {X : List Int} {ad : Nat → Nat → Nat} {Cn : Nat → Nat} {H : PH} {G G' : GS} {rr : Int} {fself18 : Int → PH → RO} {self18 : Int → GS → GO} {p1 p2 p3 b1 b2 : Int} (ih18 : ∀ (ad : Nat → Nat → Nat) (Cn : Nat → Nat) (H : PH) (G : GS) (v3 : Int) , SimA ad Cn H G → vrel ad Cn 0 b1 p1 → vrel ad Cn 100 b2 p2 → self18 v3 G = some (rr, G') → RS ad Cn (fself18 v3 H) 0 rr G') (hS : SimA ad Cn H G) (w1 : vrel ad Cn 0 b1 p1) (w2 : vrel ad Cn 100 b2 p2) (h : gjL_law_882 X self18 p1 p2 p3 G = some (rr, G')) : RS ad Cn (jL_law_882 X fself18 b1 b2 p3 H) 0 rr G' := by
  unfold gjL_law_882 at h
  unfold jL_law_882
  obtain ⟨x1, ex1, h⟩ := bnd h
  refine rb_o ex1 ?_
  obtain ⟨x2, ex2, h⟩ := bnd h
  refine rb_o ex2 ?_
  obtain ⟨z3, ez3, h⟩ := bnd h
  refine rb_call (ρc := 0) (s_X8_some hS w1 ez3) ?_
  intro ad Cn bz3 H hS hx wz3
  dsimp only
  obtain rfl : bz3 = z3.1 := wz3
  have w1 := w1.mono hx
  have w2 := w2.mono hx
  obtain ⟨x4, ex4, h⟩ := bnd h
  refine rb_o ex4 ?_
  obtain ⟨x5, ex5, h⟩ := bnd h
  refine rb_o ex5 ?_
  obtain ⟨z6, ez6, h⟩ := bnd h
  refine rb_call (ρc := 0) (s_X9_some hS w2 ez6) ?_
  intro ad Cn bz6 H hS hx wz6
  dsimp only
  obtain rfl : bz6 = z6.1 := wz6
  have w1 := w1.mono hx
  have w2 := w2.mono hx
  by_cases hc910 : z3.1 = z6.1
  · have h := iteT hc910 h
    refine rif_t hc910 ?_
    exact sjL_law_1683 ih18 hS w1 w2 h
  · have h := iteF hc910 h
    refine rif_f hc910 ?_
    cases h
    exact rret hS rfl
def gjL_law_915 (X : List Int) (self18 : Int → GS → GO) (p1 p2 p3 : Int) (G : GS) : GO :=
  (sld X (w32 (p3 + 1))).bind fun x1 => (sld X (w32 (p3 + 2))).bind fun x2 => (sld X (w32 (p3 + 3))).bind fun x3 => (g_X8_holds p1 x1 x2 x3 G).bind fun z4 => (sld X (w32 (p3 + 1))).bind fun x5 => (sld X (w32 (p3 + 2))).bind fun x6 => (sld X (w32 (p3 + 3))).bind fun x7 => (g_X9_holds p2 x5 x6 x7 z4.2).bind fun z8 => (if z4.1 = z8.1 then gjL_law_1683 X self18 p1 p2 p3 z8.2
  else some (0, z8.2))
set_option maxHeartbeats 4000000 in
theorem sjL_law_915 {X : List Int} {ad : Nat → Nat → Nat} {Cn : Nat → Nat} {H : PH} {G G' : GS} {rr : Int} {fself18 : Int → PH → RO} {self18 : Int → GS → GO} {p1 p2 p3 b1 b2 : Int} (ih18 : ∀ (ad : Nat → Nat → Nat) (Cn : Nat → Nat) (H : PH) (G : GS) (v3 : Int) , SimA ad Cn H G → vrel ad Cn 0 b1 p1 → vrel ad Cn 100 b2 p2 → self18 v3 G = some (rr, G') → RS ad Cn (fself18 v3 H) 0 rr G') (hS : SimA ad Cn H G) (w1 : vrel ad Cn 0 b1 p1) (w2 : vrel ad Cn 100 b2 p2) (h : gjL_law_915 X self18 p1 p2 p3 G = some (rr, G')) : RS ad Cn (jL_law_915 X fself18 b1 b2 p3 H) 0 rr G' := by
  unfold gjL_law_915 at h
  unfold jL_law_915
  obtain ⟨x1, ex1, h⟩ := bnd h
  refine rb_o ex1 ?_
  obtain ⟨x2, ex2, h⟩ := bnd h
  refine rb_o ex2 ?_
  obtain ⟨x3, ex3, h⟩ := bnd h
  refine rb_o ex3 ?_
  obtain ⟨z4, ez4, h⟩ := bnd h
  refine rb_call (ρc := 0) (s_X8_holds hS w1 ez4) ?_
  intro ad Cn bz4 H hS hx wz4
  dsimp only
  obtain rfl : bz4 = z4.1 := wz4
  have w1 := w1.mono hx
  have w2 := w2.mono hx
  obtain ⟨x5, ex5, h⟩ := bnd h
  refine rb_o ex5 ?_
  obtain ⟨x6, ex6, h⟩ := bnd h
  refine rb_o ex6 ?_
  obtain ⟨x7, ex7, h⟩ := bnd h
  refine rb_o ex7 ?_
  obtain ⟨z8, ez8, h⟩ := bnd h
  refine rb_call (ρc := 0) (s_X9_holds hS w2 ez8) ?_
  intro ad Cn bz8 H hS hx wz8
  dsimp only
  obtain rfl : bz8 = z8.1 := wz8
  have w1 := w1.mono hx
  have w2 := w2.mono hx
  by_cases hc953 : z4.1 = z8.1
  · have h := iteT hc953 h
    refine rif_t hc953 ?_
    exact sjL_law_1683 ih18 hS w1 w2 h
  · have h := iteF hc953 h
    refine rif_f hc953 ?_
    cases h
    exact rret hS rfl
def gjL_law_958 (X : List Int) (self18 : Int → GS → GO) (p1 p2 p3 : Int) (G : GS) : GO :=
  (sld X (w32 (p3 + 1))).bind fun x1 => (sld X (w32 (p3 + 2))).bind fun x2 => (g_X8_filter p1 x1 x2 G).bind fun z3 => (sld X (w32 (p3 + 1))).bind fun x4 => (sld X (w32 (p3 + 2))).bind fun x5 => (g_X9_filter p2 x4 x5 z3.2).bind fun z6 => (if z3.1 = z6.1 then gjL_law_1683 X self18 p1 p2 p3 z6.2
  else some (0, z6.2))
set_option maxHeartbeats 4000000 in
theorem sjL_law_958 {X : List Int} {ad : Nat → Nat → Nat} {Cn : Nat → Nat} {H : PH} {G G' : GS} {rr : Int} {fself18 : Int → PH → RO} {self18 : Int → GS → GO} {p1 p2 p3 b1 b2 : Int} (ih18 : ∀ (ad : Nat → Nat → Nat) (Cn : Nat → Nat) (H : PH) (G : GS) (v3 : Int) , SimA ad Cn H G → vrel ad Cn 0 b1 p1 → vrel ad Cn 100 b2 p2 → self18 v3 G = some (rr, G') → RS ad Cn (fself18 v3 H) 0 rr G') (hS : SimA ad Cn H G) (w1 : vrel ad Cn 0 b1 p1) (w2 : vrel ad Cn 100 b2 p2) (h : gjL_law_958 X self18 p1 p2 p3 G = some (rr, G')) : RS ad Cn (jL_law_958 X fself18 b1 b2 p3 H) 0 rr G' := by
  unfold gjL_law_958 at h
  unfold jL_law_958
  obtain ⟨x1, ex1, h⟩ := bnd h
  refine rb_o ex1 ?_
  obtain ⟨x2, ex2, h⟩ := bnd h
  refine rb_o ex2 ?_
  obtain ⟨z3, ez3, h⟩ := bnd h
  refine rb_call (ρc := 0) (s_X8_filter hS w1 ez3) ?_
  intro ad Cn bz3 H hS hx wz3
  dsimp only
  obtain rfl : bz3 = z3.1 := wz3
  have w1 := w1.mono hx
  have w2 := w2.mono hx
  obtain ⟨x4, ex4, h⟩ := bnd h
  refine rb_o ex4 ?_
  obtain ⟨x5, ex5, h⟩ := bnd h
  refine rb_o ex5 ?_
  obtain ⟨z6, ez6, h⟩ := bnd h
  refine rb_call (ρc := 0) (s_X9_filter hS w2 ez6) ?_
  intro ad Cn bz6 H hS hx wz6
  dsimp only
  obtain rfl : bz6 = z6.1 := wz6
  have w1 := w1.mono hx
  have w2 := w2.mono hx
  by_cases hc986 : z3.1 = z6.1
  · have h := iteT hc986 h
    refine rif_t hc986 ?_
    exact sjL_law_1683 ih18 hS w1 w2 h
  · have h := iteF hc986 h
    refine rif_f hc986 ?_
    cases h
    exact rret hS rfl
def gjL_law_991 (X : List Int) (self18 : Int → GS → GO) (p1 p2 p3 : Int) (G : GS) : GO :=
  (g_X8_against p1 G).bind fun z1 => (g_X9_against p2 z1.2).bind fun z2 => (if z1.1 = z2.1 then gjL_law_1683 X self18 p1 p2 p3 z2.2
  else some (0, z2.2))
set_option maxHeartbeats 4000000 in
theorem sjL_law_991 {X : List Int} {ad : Nat → Nat → Nat} {Cn : Nat → Nat} {H : PH} {G G' : GS} {rr : Int} {fself18 : Int → PH → RO} {self18 : Int → GS → GO} {p1 p2 p3 b1 b2 : Int} (ih18 : ∀ (ad : Nat → Nat → Nat) (Cn : Nat → Nat) (H : PH) (G : GS) (v3 : Int) , SimA ad Cn H G → vrel ad Cn 0 b1 p1 → vrel ad Cn 100 b2 p2 → self18 v3 G = some (rr, G') → RS ad Cn (fself18 v3 H) 0 rr G') (hS : SimA ad Cn H G) (w1 : vrel ad Cn 0 b1 p1) (w2 : vrel ad Cn 100 b2 p2) (h : gjL_law_991 X self18 p1 p2 p3 G = some (rr, G')) : RS ad Cn (jL_law_991 X fself18 b1 b2 p3 H) 0 rr G' := by
  unfold gjL_law_991 at h
  unfold jL_law_991
  obtain ⟨z1, ez1, h⟩ := bnd h
  refine rb_call (ρc := 0) (s_X8_against hS w1 ez1) ?_
  intro ad Cn bz1 H hS hx wz1
  dsimp only
  obtain rfl : bz1 = z1.1 := wz1
  have w1 := w1.mono hx
  have w2 := w2.mono hx
  obtain ⟨z2, ez2, h⟩ := bnd h
  refine rb_call (ρc := 0) (s_X9_against hS w2 ez2) ?_
  intro ad Cn bz2 H hS hx wz2
  dsimp only
  obtain rfl : bz2 = z2.1 := wz2
  have w1 := w1.mono hx
  have w2 := w2.mono hx
  by_cases hc999 : z1.1 = z2.1
  · have h := iteT hc999 h
    refine rif_t hc999 ?_
    exact sjL_law_1683 ih18 hS w1 w2 h
  · have h := iteF hc999 h
    refine rif_f hc999 ?_
    cases h
    exact rret hS rfl
def gjL_law_1004 (X : List Int) (self18 : Int → GS → GO) (p1 p2 p3 : Int) (G : GS) : GO :=
  (sld X (w32 (p3 + 1))).bind fun x1 => (sld X (w32 (p3 + 2))).bind fun x2 => (g_X8_againstAt p1 x1 x2 G).bind fun z3 => (sld X (w32 (p3 + 1))).bind fun x4 => (sld X (w32 (p3 + 2))).bind fun x5 => (g_X9_againstAt p2 x4 x5 z3.2).bind fun z6 => (if z3.1 = z6.1 then gjL_law_1683 X self18 p1 p2 p3 z6.2
  else some (0, z6.2))
set_option maxHeartbeats 4000000 in
theorem sjL_law_1004 {X : List Int} {ad : Nat → Nat → Nat} {Cn : Nat → Nat} {H : PH} {G G' : GS} {rr : Int} {fself18 : Int → PH → RO} {self18 : Int → GS → GO} {p1 p2 p3 b1 b2 : Int} (ih18 : ∀ (ad : Nat → Nat → Nat) (Cn : Nat → Nat) (H : PH) (G : GS) (v3 : Int) , SimA ad Cn H G → vrel ad Cn 0 b1 p1 → vrel ad Cn 100 b2 p2 → self18 v3 G = some (rr, G') → RS ad Cn (fself18 v3 H) 0 rr G') (hS : SimA ad Cn H G) (w1 : vrel ad Cn 0 b1 p1) (w2 : vrel ad Cn 100 b2 p2) (h : gjL_law_1004 X self18 p1 p2 p3 G = some (rr, G')) : RS ad Cn (jL_law_1004 X fself18 b1 b2 p3 H) 0 rr G' := by
  unfold gjL_law_1004 at h
  unfold jL_law_1004
  obtain ⟨x1, ex1, h⟩ := bnd h
  refine rb_o ex1 ?_
  obtain ⟨x2, ex2, h⟩ := bnd h
  refine rb_o ex2 ?_
  obtain ⟨z3, ez3, h⟩ := bnd h
  refine rb_call (ρc := 0) (s_X8_againstAt hS w1 ez3) ?_
  intro ad Cn bz3 H hS hx wz3
  dsimp only
  obtain rfl : bz3 = z3.1 := wz3
  have w1 := w1.mono hx
  have w2 := w2.mono hx
  obtain ⟨x4, ex4, h⟩ := bnd h
  refine rb_o ex4 ?_
  obtain ⟨x5, ex5, h⟩ := bnd h
  refine rb_o ex5 ?_
  obtain ⟨z6, ez6, h⟩ := bnd h
  refine rb_call (ρc := 0) (s_X9_againstAt hS w2 ez6) ?_
  intro ad Cn bz6 H hS hx wz6
  dsimp only
  obtain rfl : bz6 = z6.1 := wz6
  have w1 := w1.mono hx
  have w2 := w2.mono hx
  by_cases hc1032 : z3.1 = z6.1
  · have h := iteT hc1032 h
    refine rif_t hc1032 ?_
    exact sjL_law_1683 ih18 hS w1 w2 h
  · have h := iteF hc1032 h
    refine rif_f hc1032 ?_
    cases h
    exact rret hS rfl
def gjL_law_1037 (X : List Int) (self18 : Int → GS → GO) (p1 p2 p3 : Int) (G : GS) : GO :=
  (sld X (w32 (p3 + 1))).bind fun x1 => (sld X (w32 (p3 + 2))).bind fun x2 => (sld X (w32 (p3 + 3))).bind fun x3 => (g_X8_weight p1 x1 x2 x3 G).bind fun z4 => (sld X (w32 (p3 + 1))).bind fun x5 => (sld X (w32 (p3 + 2))).bind fun x6 => (sld X (w32 (p3 + 3))).bind fun x7 => (g_X9_weight p2 x5 x6 x7 z4.2).bind fun z8 => (if z4.1 = z8.1 then gjL_law_1683 X self18 p1 p2 p3 z8.2
  else some (0, z8.2))
set_option maxHeartbeats 4000000 in
theorem sjL_law_1037 {X : List Int} {ad : Nat → Nat → Nat} {Cn : Nat → Nat} {H : PH} {G G' : GS} {rr : Int} {fself18 : Int → PH → RO} {self18 : Int → GS → GO} {p1 p2 p3 b1 b2 : Int} (ih18 : ∀ (ad : Nat → Nat → Nat) (Cn : Nat → Nat) (H : PH) (G : GS) (v3 : Int) , SimA ad Cn H G → vrel ad Cn 0 b1 p1 → vrel ad Cn 100 b2 p2 → self18 v3 G = some (rr, G') → RS ad Cn (fself18 v3 H) 0 rr G') (hS : SimA ad Cn H G) (w1 : vrel ad Cn 0 b1 p1) (w2 : vrel ad Cn 100 b2 p2) (h : gjL_law_1037 X self18 p1 p2 p3 G = some (rr, G')) : RS ad Cn (jL_law_1037 X fself18 b1 b2 p3 H) 0 rr G' := by
  unfold gjL_law_1037 at h
  unfold jL_law_1037
  obtain ⟨x1, ex1, h⟩ := bnd h
  refine rb_o ex1 ?_
  obtain ⟨x2, ex2, h⟩ := bnd h
  refine rb_o ex2 ?_
  obtain ⟨x3, ex3, h⟩ := bnd h
  refine rb_o ex3 ?_
  obtain ⟨z4, ez4, h⟩ := bnd h
  refine rb_call (ρc := 0) (s_X8_weight hS w1 ez4) ?_
  intro ad Cn bz4 H hS hx wz4
  dsimp only
  obtain rfl : bz4 = z4.1 := wz4
  have w1 := w1.mono hx
  have w2 := w2.mono hx
  obtain ⟨x5, ex5, h⟩ := bnd h
  refine rb_o ex5 ?_
  obtain ⟨x6, ex6, h⟩ := bnd h
  refine rb_o ex6 ?_
  obtain ⟨x7, ex7, h⟩ := bnd h
  refine rb_o ex7 ?_
  obtain ⟨z8, ez8, h⟩ := bnd h
  refine rb_call (ρc := 0) (s_X9_weight hS w2 ez8) ?_
  intro ad Cn bz8 H hS hx wz8
  dsimp only
  obtain rfl : bz8 = z8.1 := wz8
  have w1 := w1.mono hx
  have w2 := w2.mono hx
  by_cases hc1075 : z4.1 = z8.1
  · have h := iteT hc1075 h
    refine rif_t hc1075 ?_
    exact sjL_law_1683 ih18 hS w1 w2 h
  · have h := iteF hc1075 h
    refine rif_f hc1075 ?_
    cases h
    exact rret hS rfl
def gjL_law_1080 (X : List Int) (self18 : Int → GS → GO) (p1 p2 p3 : Int) (G : GS) : GO :=
  (sld X (w32 (p3 + 1))).bind fun x1 => (sld X (w32 (p3 + 2))).bind fun x2 => (g_X8_table p1 x1 x2 G).bind fun z3 => (sld X (w32 (p3 + 1))).bind fun x4 => (sld X (w32 (p3 + 2))).bind fun x5 => (g_X9_table p2 x4 x5 z3.2).bind fun z6 => (if z3.1 = z6.1 then gjL_law_1683 X self18 p1 p2 p3 z6.2
  else some (0, z6.2))
set_option maxHeartbeats 4000000 in
theorem sjL_law_1080 {X : List Int} {ad : Nat → Nat → Nat} {Cn : Nat → Nat} {H : PH} {G G' : GS} {rr : Int} {fself18 : Int → PH → RO} {self18 : Int → GS → GO} {p1 p2 p3 b1 b2 : Int} (ih18 : ∀ (ad : Nat → Nat → Nat) (Cn : Nat → Nat) (H : PH) (G : GS) (v3 : Int) , SimA ad Cn H G → vrel ad Cn 0 b1 p1 → vrel ad Cn 100 b2 p2 → self18 v3 G = some (rr, G') → RS ad Cn (fself18 v3 H) 0 rr G') (hS : SimA ad Cn H G) (w1 : vrel ad Cn 0 b1 p1) (w2 : vrel ad Cn 100 b2 p2) (h : gjL_law_1080 X self18 p1 p2 p3 G = some (rr, G')) : RS ad Cn (jL_law_1080 X fself18 b1 b2 p3 H) 0 rr G' := by
  unfold gjL_law_1080 at h
  unfold jL_law_1080
  obtain ⟨x1, ex1, h⟩ := bnd h
  refine rb_o ex1 ?_
  obtain ⟨x2, ex2, h⟩ := bnd h
  refine rb_o ex2 ?_
  obtain ⟨z3, ez3, h⟩ := bnd h
  refine rb_call (ρc := 0) (s_X8_table hS w1 ez3) ?_
  intro ad Cn bz3 H hS hx wz3
  dsimp only
  obtain rfl : bz3 = z3.1 := wz3
  have w1 := w1.mono hx
  have w2 := w2.mono hx
  obtain ⟨x4, ex4, h⟩ := bnd h
  refine rb_o ex4 ?_
  obtain ⟨x5, ex5, h⟩ := bnd h
  refine rb_o ex5 ?_
  obtain ⟨z6, ez6, h⟩ := bnd h
  refine rb_call (ρc := 0) (s_X9_table hS w2 ez6) ?_
  intro ad Cn bz6 H hS hx wz6
  dsimp only
  obtain rfl : bz6 = z6.1 := wz6
  have w1 := w1.mono hx
  have w2 := w2.mono hx
  by_cases hc1108 : z3.1 = z6.1
  · have h := iteT hc1108 h
    refine rif_t hc1108 ?_
    exact sjL_law_1683 ih18 hS w1 w2 h
  · have h := iteF hc1108 h
    refine rif_f hc1108 ?_
    cases h
    exact rret hS rfl
def gjL_law_1113 (X : List Int) (self18 : Int → GS → GO) (p1 p2 p3 : Int) (G : GS) : GO :=
  (sld X (w32 (p3 + 1))).bind fun x1 => (sld X (w32 (p3 + 2))).bind fun x2 => (sld X (w32 (p3 + 3))).bind fun x3 => (g_X8_cell p1 x1 x2 x3 G).bind fun z4 => (sld X (w32 (p3 + 1))).bind fun x5 => (sld X (w32 (p3 + 2))).bind fun x6 => (sld X (w32 (p3 + 3))).bind fun x7 => (g_X9_cell p2 x5 x6 x7 z4.2).bind fun z8 => (if (lc z4.1 z8.1) = 0 then gjL_law_1683 X self18 p1 p2 p3 z8.2
  else some (0, z8.2))
set_option maxHeartbeats 4000000 in
theorem sjL_law_1113 {X : List Int} {ad : Nat → Nat → Nat} {Cn : Nat → Nat} {H : PH} {G G' : GS} {rr : Int} {fself18 : Int → PH → RO} {self18 : Int → GS → GO} {p1 p2 p3 b1 b2 : Int} (ih18 : ∀ (ad : Nat → Nat → Nat) (Cn : Nat → Nat) (H : PH) (G : GS) (v3 : Int) , SimA ad Cn H G → vrel ad Cn 0 b1 p1 → vrel ad Cn 100 b2 p2 → self18 v3 G = some (rr, G') → RS ad Cn (fself18 v3 H) 0 rr G') (hS : SimA ad Cn H G) (w1 : vrel ad Cn 0 b1 p1) (w2 : vrel ad Cn 100 b2 p2) (h : gjL_law_1113 X self18 p1 p2 p3 G = some (rr, G')) : RS ad Cn (jL_law_1113 X fself18 b1 b2 p3 H) 0 rr G' := by
  unfold gjL_law_1113 at h
  unfold jL_law_1113
  obtain ⟨x1, ex1, h⟩ := bnd h
  refine rb_o ex1 ?_
  obtain ⟨x2, ex2, h⟩ := bnd h
  refine rb_o ex2 ?_
  obtain ⟨x3, ex3, h⟩ := bnd h
  refine rb_o ex3 ?_
  obtain ⟨z4, ez4, h⟩ := bnd h
  refine rb_call (ρc := 0) (s_X8_cell hS w1 ez4) ?_
  intro ad Cn bz4 H hS hx wz4
  dsimp only
  obtain rfl : bz4 = z4.1 := wz4
  have w1 := w1.mono hx
  have w2 := w2.mono hx
  obtain ⟨x5, ex5, h⟩ := bnd h
  refine rb_o ex5 ?_
  obtain ⟨x6, ex6, h⟩ := bnd h
  refine rb_o ex6 ?_
  obtain ⟨x7, ex7, h⟩ := bnd h
  refine rb_o ex7 ?_
  obtain ⟨z8, ez8, h⟩ := bnd h
  refine rb_call (ρc := 0) (s_X9_cell hS w2 ez8) ?_
  intro ad Cn bz8 H hS hx wz8
  dsimp only
  obtain rfl : bz8 = z8.1 := wz8
  have w1 := w1.mono hx
  have w2 := w2.mono hx
  by_cases hc1152 : (lc z4.1 z8.1) = 0
  · have h := iteT hc1152 h
    refine rif_t hc1152 ?_
    exact sjL_law_1683 ih18 hS w1 w2 h
  · have h := iteF hc1152 h
    refine rif_f hc1152 ?_
    cases h
    exact rret hS rfl
def gjL_law_1157 (X : List Int) (self18 : Int → GS → GO) (p1 p2 p3 : Int) (G : GS) : GO :=
  (sld X (w32 (p3 + 1))).bind fun x1 => (g_X8_shares p1 x1 G).bind fun z2 => (sld X (w32 (p3 + 1))).bind fun x3 => (g_X9_shares p2 x3 z2.2).bind fun z4 => (if z2.1 = z4.1 then gjL_law_1683 X self18 p1 p2 p3 z4.2
  else some (0, z4.2))
set_option maxHeartbeats 4000000 in
theorem sjL_law_1157 {X : List Int} {ad : Nat → Nat → Nat} {Cn : Nat → Nat} {H : PH} {G G' : GS} {rr : Int} {fself18 : Int → PH → RO} {self18 : Int → GS → GO} {p1 p2 p3 b1 b2 : Int} (ih18 : ∀ (ad : Nat → Nat → Nat) (Cn : Nat → Nat) (H : PH) (G : GS) (v3 : Int) , SimA ad Cn H G → vrel ad Cn 0 b1 p1 → vrel ad Cn 100 b2 p2 → self18 v3 G = some (rr, G') → RS ad Cn (fself18 v3 H) 0 rr G') (hS : SimA ad Cn H G) (w1 : vrel ad Cn 0 b1 p1) (w2 : vrel ad Cn 100 b2 p2) (h : gjL_law_1157 X self18 p1 p2 p3 G = some (rr, G')) : RS ad Cn (jL_law_1157 X fself18 b1 b2 p3 H) 0 rr G' := by
  unfold gjL_law_1157 at h
  unfold jL_law_1157
  obtain ⟨x1, ex1, h⟩ := bnd h
  refine rb_o ex1 ?_
  obtain ⟨z2, ez2, h⟩ := bnd h
  refine rb_call (ρc := 0) (s_X8_shares hS w1 ez2) ?_
  intro ad Cn bz2 H hS hx wz2
  dsimp only
  obtain rfl : bz2 = z2.1 := wz2
  have w1 := w1.mono hx
  have w2 := w2.mono hx
  obtain ⟨x3, ex3, h⟩ := bnd h
  refine rb_o ex3 ?_
  obtain ⟨z4, ez4, h⟩ := bnd h
  refine rb_call (ρc := 0) (s_X9_shares hS w2 ez4) ?_
  intro ad Cn bz4 H hS hx wz4
  dsimp only
  obtain rfl : bz4 = z4.1 := wz4
  have w1 := w1.mono hx
  have w2 := w2.mono hx
  by_cases hc1175 : z2.1 = z4.1
  · have h := iteT hc1175 h
    refine rif_t hc1175 ?_
    exact sjL_law_1683 ih18 hS w1 w2 h
  · have h := iteF hc1175 h
    refine rif_f hc1175 ?_
    cases h
    exact rret hS rfl
def gjL_law_1180 (X : List Int) (self18 : Int → GS → GO) (p1 p2 p3 : Int) (G : GS) : GO :=
  (sld X (w32 (p3 + 1))).bind fun x1 => (sld X (w32 (p3 + 2))).bind fun x2 => (g_X8_share p1 x1 x2 G).bind fun z3 => (sld X (w32 (p3 + 1))).bind fun x4 => (sld X (w32 (p3 + 2))).bind fun x5 => (g_X9_share p2 x4 x5 z3.2).bind fun z6 => (if z3.1 = z6.1 then gjL_law_1683 X self18 p1 p2 p3 z6.2
  else some (0, z6.2))
set_option maxHeartbeats 4000000 in
theorem sjL_law_1180 {X : List Int} {ad : Nat → Nat → Nat} {Cn : Nat → Nat} {H : PH} {G G' : GS} {rr : Int} {fself18 : Int → PH → RO} {self18 : Int → GS → GO} {p1 p2 p3 b1 b2 : Int} (ih18 : ∀ (ad : Nat → Nat → Nat) (Cn : Nat → Nat) (H : PH) (G : GS) (v3 : Int) , SimA ad Cn H G → vrel ad Cn 0 b1 p1 → vrel ad Cn 100 b2 p2 → self18 v3 G = some (rr, G') → RS ad Cn (fself18 v3 H) 0 rr G') (hS : SimA ad Cn H G) (w1 : vrel ad Cn 0 b1 p1) (w2 : vrel ad Cn 100 b2 p2) (h : gjL_law_1180 X self18 p1 p2 p3 G = some (rr, G')) : RS ad Cn (jL_law_1180 X fself18 b1 b2 p3 H) 0 rr G' := by
  unfold gjL_law_1180 at h
  unfold jL_law_1180
  obtain ⟨x1, ex1, h⟩ := bnd h
  refine rb_o ex1 ?_
  obtain ⟨x2, ex2, h⟩ := bnd h
  refine rb_o ex2 ?_
  obtain ⟨z3, ez3, h⟩ := bnd h
  refine rb_call (ρc := 0) (s_X8_share hS w1 ez3) ?_
  intro ad Cn bz3 H hS hx wz3
  dsimp only
  obtain rfl : bz3 = z3.1 := wz3
  have w1 := w1.mono hx
  have w2 := w2.mono hx
  obtain ⟨x4, ex4, h⟩ := bnd h
  refine rb_o ex4 ?_
  obtain ⟨x5, ex5, h⟩ := bnd h
  refine rb_o ex5 ?_
  obtain ⟨z6, ez6, h⟩ := bnd h
  refine rb_call (ρc := 0) (s_X9_share hS w2 ez6) ?_
  intro ad Cn bz6 H hS hx wz6
  dsimp only
  obtain rfl : bz6 = z6.1 := wz6
  have w1 := w1.mono hx
  have w2 := w2.mono hx
  by_cases hc1208 : z3.1 = z6.1
  · have h := iteT hc1208 h
    refine rif_t hc1208 ?_
    exact sjL_law_1683 ih18 hS w1 w2 h
  · have h := iteF hc1208 h
    refine rif_f hc1208 ?_
    cases h
    exact rret hS rfl
def gjL_law_1213 (X : List Int) (self18 : Int → GS → GO) (p1 p2 p3 : Int) (G : GS) : GO :=
  (sld X (w32 (p3 + 1))).bind fun x1 => (g_X8_shown p1 x1 G).bind fun z2 => (sld X (w32 (p3 + 1))).bind fun x3 => (g_X9_shown p2 x3 z2.2).bind fun z4 => (if z2.1 = z4.1 then gjL_law_1683 X self18 p1 p2 p3 z4.2
  else some (0, z4.2))
set_option maxHeartbeats 4000000 in
theorem sjL_law_1213 {X : List Int} {ad : Nat → Nat → Nat} {Cn : Nat → Nat} {H : PH} {G G' : GS} {rr : Int} {fself18 : Int → PH → RO} {self18 : Int → GS → GO} {p1 p2 p3 b1 b2 : Int} (ih18 : ∀ (ad : Nat → Nat → Nat) (Cn : Nat → Nat) (H : PH) (G : GS) (v3 : Int) , SimA ad Cn H G → vrel ad Cn 0 b1 p1 → vrel ad Cn 100 b2 p2 → self18 v3 G = some (rr, G') → RS ad Cn (fself18 v3 H) 0 rr G') (hS : SimA ad Cn H G) (w1 : vrel ad Cn 0 b1 p1) (w2 : vrel ad Cn 100 b2 p2) (h : gjL_law_1213 X self18 p1 p2 p3 G = some (rr, G')) : RS ad Cn (jL_law_1213 X fself18 b1 b2 p3 H) 0 rr G' := by
  unfold gjL_law_1213 at h
  unfold jL_law_1213
  obtain ⟨x1, ex1, h⟩ := bnd h
  refine rb_o ex1 ?_
  obtain ⟨z2, ez2, h⟩ := bnd h
  refine rb_call (ρc := 0) (s_X8_shown hS w1 ez2) ?_
  intro ad Cn bz2 H hS hx wz2
  dsimp only
  obtain rfl : bz2 = z2.1 := wz2
  have w1 := w1.mono hx
  have w2 := w2.mono hx
  obtain ⟨x3, ex3, h⟩ := bnd h
  refine rb_o ex3 ?_
  obtain ⟨z4, ez4, h⟩ := bnd h
  refine rb_call (ρc := 0) (s_X9_shown hS w2 ez4) ?_
  intro ad Cn bz4 H hS hx wz4
  dsimp only
  obtain rfl : bz4 = z4.1 := wz4
  have w1 := w1.mono hx
  have w2 := w2.mono hx
  by_cases hc1231 : z2.1 = z4.1
  · have h := iteT hc1231 h
    refine rif_t hc1231 ?_
    exact sjL_law_1683 ih18 hS w1 w2 h
  · have h := iteF hc1231 h
    refine rif_f hc1231 ?_
    cases h
    exact rret hS rfl
def gjL_law_1236 (X : List Int) (self18 : Int → GS → GO) (p1 p2 p3 : Int) (G : GS) : GO :=
  (g_X8_follows p1 G).bind fun z1 => (g_X9_follows p2 z1.2).bind fun z2 => (if z1.1 = z2.1 then gjL_law_1683 X self18 p1 p2 p3 z2.2
  else some (0, z2.2))
set_option maxHeartbeats 4000000 in
theorem sjL_law_1236 {X : List Int} {ad : Nat → Nat → Nat} {Cn : Nat → Nat} {H : PH} {G G' : GS} {rr : Int} {fself18 : Int → PH → RO} {self18 : Int → GS → GO} {p1 p2 p3 b1 b2 : Int} (ih18 : ∀ (ad : Nat → Nat → Nat) (Cn : Nat → Nat) (H : PH) (G : GS) (v3 : Int) , SimA ad Cn H G → vrel ad Cn 0 b1 p1 → vrel ad Cn 100 b2 p2 → self18 v3 G = some (rr, G') → RS ad Cn (fself18 v3 H) 0 rr G') (hS : SimA ad Cn H G) (w1 : vrel ad Cn 0 b1 p1) (w2 : vrel ad Cn 100 b2 p2) (h : gjL_law_1236 X self18 p1 p2 p3 G = some (rr, G')) : RS ad Cn (jL_law_1236 X fself18 b1 b2 p3 H) 0 rr G' := by
  unfold gjL_law_1236 at h
  unfold jL_law_1236
  obtain ⟨z1, ez1, h⟩ := bnd h
  refine rb_call (ρc := 0) (s_X8_follows hS w1 ez1) ?_
  intro ad Cn bz1 H hS hx wz1
  dsimp only
  obtain rfl : bz1 = z1.1 := wz1
  have w1 := w1.mono hx
  have w2 := w2.mono hx
  obtain ⟨z2, ez2, h⟩ := bnd h
  refine rb_call (ρc := 0) (s_X9_follows hS w2 ez2) ?_
  intro ad Cn bz2 H hS hx wz2
  dsimp only
  obtain rfl : bz2 = z2.1 := wz2
  have w1 := w1.mono hx
  have w2 := w2.mono hx
  by_cases hc1244 : z1.1 = z2.1
  · have h := iteT hc1244 h
    refine rif_t hc1244 ?_
    exact sjL_law_1683 ih18 hS w1 w2 h
  · have h := iteF hc1244 h
    refine rif_f hc1244 ?_
    cases h
    exact rret hS rfl
def gjL_law_1249 (X : List Int) (self18 : Int → GS → GO) (p1 p2 p3 : Int) (G : GS) : GO :=
  (sld X (w32 (p3 + 1))).bind fun x1 => (sld X (w32 (p3 + 2))).bind fun x2 => (g_X8_rank p1 x1 x2 G).bind fun z3 => (sld X (w32 (p3 + 1))).bind fun x4 => (sld X (w32 (p3 + 2))).bind fun x5 => (g_X9_rank p2 x4 x5 z3.2).bind fun z6 => (if z3.1 = z6.1 then gjL_law_1683 X self18 p1 p2 p3 z6.2
  else some (0, z6.2))
set_option maxHeartbeats 4000000 in
theorem sjL_law_1249 {X : List Int} {ad : Nat → Nat → Nat} {Cn : Nat → Nat} {H : PH} {G G' : GS} {rr : Int} {fself18 : Int → PH → RO} {self18 : Int → GS → GO} {p1 p2 p3 b1 b2 : Int} (ih18 : ∀ (ad : Nat → Nat → Nat) (Cn : Nat → Nat) (H : PH) (G : GS) (v3 : Int) , SimA ad Cn H G → vrel ad Cn 0 b1 p1 → vrel ad Cn 100 b2 p2 → self18 v3 G = some (rr, G') → RS ad Cn (fself18 v3 H) 0 rr G') (hS : SimA ad Cn H G) (w1 : vrel ad Cn 0 b1 p1) (w2 : vrel ad Cn 100 b2 p2) (h : gjL_law_1249 X self18 p1 p2 p3 G = some (rr, G')) : RS ad Cn (jL_law_1249 X fself18 b1 b2 p3 H) 0 rr G' := by
  unfold gjL_law_1249 at h
  unfold jL_law_1249
  obtain ⟨x1, ex1, h⟩ := bnd h
  refine rb_o ex1 ?_
  obtain ⟨x2, ex2, h⟩ := bnd h
  refine rb_o ex2 ?_
  obtain ⟨z3, ez3, h⟩ := bnd h
  refine rb_call (ρc := 0) (s_X8_rank hS w1 ez3) ?_
  intro ad Cn bz3 H hS hx wz3
  dsimp only
  obtain rfl : bz3 = z3.1 := wz3
  have w1 := w1.mono hx
  have w2 := w2.mono hx
  obtain ⟨x4, ex4, h⟩ := bnd h
  refine rb_o ex4 ?_
  obtain ⟨x5, ex5, h⟩ := bnd h
  refine rb_o ex5 ?_
  obtain ⟨z6, ez6, h⟩ := bnd h
  refine rb_call (ρc := 0) (s_X9_rank hS w2 ez6) ?_
  intro ad Cn bz6 H hS hx wz6
  dsimp only
  obtain rfl : bz6 = z6.1 := wz6
  have w1 := w1.mono hx
  have w2 := w2.mono hx
  by_cases hc1277 : z3.1 = z6.1
  · have h := iteT hc1277 h
    refine rif_t hc1277 ?_
    exact sjL_law_1683 ih18 hS w1 w2 h
  · have h := iteF hc1277 h
    refine rif_f hc1277 ?_
    cases h
    exact rret hS rfl
def gjL_law_1282 (X : List Int) (self18 : Int → GS → GO) (p1 p2 p3 : Int) (G : GS) : GO :=
  (sld X (w32 (p3 + 1))).bind fun x1 => (sld X (w32 (p3 + 2))).bind fun x2 => (sld X (w32 (p3 + 3))).bind fun x3 => (sld X (w32 (p3 + 4))).bind fun x4 => (g_X8_part p1 x1 x2 x3 x4 G).bind fun z5 => (sld X (w32 (p3 + 1))).bind fun x6 => (sld X (w32 (p3 + 2))).bind fun x7 => (sld X (w32 (p3 + 3))).bind fun x8 => (sld X (w32 (p3 + 4))).bind fun x9 => (g_X9_part p2 x6 x7 x8 x9 z5.2).bind fun z10 => (if (lc z5.1 z10.1) = 0 then gjL_law_1683 X self18 p1 p2 p3 z10.2
  else some (0, z10.2))
set_option maxHeartbeats 4000000 in
theorem sjL_law_1282 {X : List Int} {ad : Nat → Nat → Nat} {Cn : Nat → Nat} {H : PH} {G G' : GS} {rr : Int} {fself18 : Int → PH → RO} {self18 : Int → GS → GO} {p1 p2 p3 b1 b2 : Int} (ih18 : ∀ (ad : Nat → Nat → Nat) (Cn : Nat → Nat) (H : PH) (G : GS) (v3 : Int) , SimA ad Cn H G → vrel ad Cn 0 b1 p1 → vrel ad Cn 100 b2 p2 → self18 v3 G = some (rr, G') → RS ad Cn (fself18 v3 H) 0 rr G') (hS : SimA ad Cn H G) (w1 : vrel ad Cn 0 b1 p1) (w2 : vrel ad Cn 100 b2 p2) (h : gjL_law_1282 X self18 p1 p2 p3 G = some (rr, G')) : RS ad Cn (jL_law_1282 X fself18 b1 b2 p3 H) 0 rr G' := by
  unfold gjL_law_1282 at h
  unfold jL_law_1282
  obtain ⟨x1, ex1, h⟩ := bnd h
  refine rb_o ex1 ?_
  obtain ⟨x2, ex2, h⟩ := bnd h
  refine rb_o ex2 ?_
  obtain ⟨x3, ex3, h⟩ := bnd h
  refine rb_o ex3 ?_
  obtain ⟨x4, ex4, h⟩ := bnd h
  refine rb_o ex4 ?_
  obtain ⟨z5, ez5, h⟩ := bnd h
  refine rb_call (ρc := 0) (s_X8_part hS w1 ez5) ?_
  intro ad Cn bz5 H hS hx wz5
  dsimp only
  obtain rfl : bz5 = z5.1 := wz5
  have w1 := w1.mono hx
  have w2 := w2.mono hx
  obtain ⟨x6, ex6, h⟩ := bnd h
  refine rb_o ex6 ?_
  obtain ⟨x7, ex7, h⟩ := bnd h
  refine rb_o ex7 ?_
  obtain ⟨x8, ex8, h⟩ := bnd h
  refine rb_o ex8 ?_
  obtain ⟨x9, ex9, h⟩ := bnd h
  refine rb_o ex9 ?_
  obtain ⟨z10, ez10, h⟩ := bnd h
  refine rb_call (ρc := 0) (s_X9_part hS w2 ez10) ?_
  intro ad Cn bz10 H hS hx wz10
  dsimp only
  obtain rfl : bz10 = z10.1 := wz10
  have w1 := w1.mono hx
  have w2 := w2.mono hx
  by_cases hc1331 : (lc z5.1 z10.1) = 0
  · have h := iteT hc1331 h
    refine rif_t hc1331 ?_
    exact sjL_law_1683 ih18 hS w1 w2 h
  · have h := iteF hc1331 h
    refine rif_f hc1331 ?_
    cases h
    exact rret hS rfl
def gjL_law_1377 (X : List Int) (self18 : Int → GS → GO) (p1 p2 p3 s0 s1 s2 s3 : Int) (G : GS) : GO :=
  (g_X9_mark s1 s2 s3 G).bind fun z1 => (if s0 = z1.1 then gjL_law_1683 X self18 p1 p2 p3 z1.2
  else some (0, z1.2))
set_option maxHeartbeats 4000000 in
theorem sjL_law_1377 {X : List Int} {ad : Nat → Nat → Nat} {Cn : Nat → Nat} {H : PH} {G G' : GS} {rr : Int} {fself18 : Int → PH → RO} {self18 : Int → GS → GO} {p1 p2 p3 s0 s1 s2 s3 b1 b2 bs1 : Int} (ih18 : ∀ (ad : Nat → Nat → Nat) (Cn : Nat → Nat) (H : PH) (G : GS) (v3 : Int) , SimA ad Cn H G → vrel ad Cn 0 b1 p1 → vrel ad Cn 100 b2 p2 → self18 v3 G = some (rr, G') → RS ad Cn (fself18 v3 H) 0 rr G') (hS : SimA ad Cn H G) (w1 : vrel ad Cn 0 b1 p1) (w2 : vrel ad Cn 100 b2 p2) (ws1 : vrel ad Cn 100 bs1 s1) (h : gjL_law_1377 X self18 p1 p2 p3 s0 s1 s2 s3 G = some (rr, G')) : RS ad Cn (jL_law_1377 X fself18 b1 b2 p3 s0 bs1 s2 s3 H) 0 rr G' := by
  unfold gjL_law_1377 at h
  unfold jL_law_1377
  obtain ⟨z1, ez1, h⟩ := bnd h
  refine rb_call (ρc := 0) (s_X9_mark hS ws1 ez1) ?_
  intro ad Cn bz1 H hS hx wz1
  dsimp only
  obtain rfl : bz1 = z1.1 := wz1
  have w1 := w1.mono hx
  have w2 := w2.mono hx
  by_cases hc1380 : s0 = z1.1
  · have h := iteT hc1380 h
    refine rif_t hc1380 ?_
    exact sjL_law_1683 ih18 hS w1 w2 h
  · have h := iteF hc1380 h
    refine rif_f hc1380 ?_
    cases h
    exact rret hS rfl
def gjL_law_1355 (X : List Int) (self18 : Int → GS → GO) (p1 p2 p3 s0 s1 s2 : Int) (G : GS) : GO :=
  (g_X8_mark s0 s1 s2 G).bind fun z1 => (sld X (w32 (p3 + 1))).bind fun x2 => (sld X (w32 (p3 + 2))).bind fun x3 => (if x3 = 0 then gjL_law_1377 X self18 p1 p2 p3 z1.1 p2 x2 0 z1.2
  else gjL_law_1377 X self18 p1 p2 p3 z1.1 p2 x2 1 z1.2)
set_option maxHeartbeats 4000000 in
theorem sjL_law_1355 {X : List Int} {ad : Nat → Nat → Nat} {Cn : Nat → Nat} {H : PH} {G G' : GS} {rr : Int} {fself18 : Int → PH → RO} {self18 : Int → GS → GO} {p1 p2 p3 s0 s1 s2 b1 b2 bs0 : Int} (ih18 : ∀ (ad : Nat → Nat → Nat) (Cn : Nat → Nat) (H : PH) (G : GS) (v3 : Int) , SimA ad Cn H G → vrel ad Cn 0 b1 p1 → vrel ad Cn 100 b2 p2 → self18 v3 G = some (rr, G') → RS ad Cn (fself18 v3 H) 0 rr G') (hS : SimA ad Cn H G) (w1 : vrel ad Cn 0 b1 p1) (w2 : vrel ad Cn 100 b2 p2) (ws0 : vrel ad Cn 0 bs0 s0) (h : gjL_law_1355 X self18 p1 p2 p3 s0 s1 s2 G = some (rr, G')) : RS ad Cn (jL_law_1355 X fself18 b1 b2 p3 bs0 s1 s2 H) 0 rr G' := by
  unfold gjL_law_1355 at h
  unfold jL_law_1355
  obtain ⟨z1, ez1, h⟩ := bnd h
  refine rb_call (ρc := 0) (s_X8_mark hS ws0 ez1) ?_
  intro ad Cn bz1 H hS hx wz1
  dsimp only
  obtain rfl : bz1 = z1.1 := wz1
  have w1 := w1.mono hx
  have w2 := w2.mono hx
  obtain ⟨x2, ex2, h⟩ := bnd h
  refine rb_o ex2 ?_
  obtain ⟨x3, ex3, h⟩ := bnd h
  refine rb_o ex3 ?_
  by_cases hc1369 : x3 = 0
  · have h := iteT hc1369 h
    refine rif_t hc1369 ?_
    exact sjL_law_1377 ih18 hS w1 w2 w2 h
  · have h := iteF hc1369 h
    refine rif_f hc1369 ?_
    exact sjL_law_1377 ih18 hS w1 w2 w2 h
def gjL_law_1336 (X : List Int) (self18 : Int → GS → GO) (p1 p2 p3 : Int) (G : GS) : GO :=
  (sld X (w32 (p3 + 1))).bind fun x1 => (sld X (w32 (p3 + 2))).bind fun x2 => (if x2 = 0 then gjL_law_1355 X self18 p1 p2 p3 p1 x1 0 G
  else gjL_law_1355 X self18 p1 p2 p3 p1 x1 1 G)
set_option maxHeartbeats 4000000 in
theorem sjL_law_1336 {X : List Int} {ad : Nat → Nat → Nat} {Cn : Nat → Nat} {H : PH} {G G' : GS} {rr : Int} {fself18 : Int → PH → RO} {self18 : Int → GS → GO} {p1 p2 p3 b1 b2 : Int} (ih18 : ∀ (ad : Nat → Nat → Nat) (Cn : Nat → Nat) (H : PH) (G : GS) (v3 : Int) , SimA ad Cn H G → vrel ad Cn 0 b1 p1 → vrel ad Cn 100 b2 p2 → self18 v3 G = some (rr, G') → RS ad Cn (fself18 v3 H) 0 rr G') (hS : SimA ad Cn H G) (w1 : vrel ad Cn 0 b1 p1) (w2 : vrel ad Cn 100 b2 p2) (h : gjL_law_1336 X self18 p1 p2 p3 G = some (rr, G')) : RS ad Cn (jL_law_1336 X fself18 b1 b2 p3 H) 0 rr G' := by
  unfold gjL_law_1336 at h
  unfold jL_law_1336
  obtain ⟨x1, ex1, h⟩ := bnd h
  refine rb_o ex1 ?_
  obtain ⟨x2, ex2, h⟩ := bnd h
  refine rb_o ex2 ?_
  by_cases hc1347 : x2 = 0
  · have h := iteT hc1347 h
    refine rif_t hc1347 ?_
    exact sjL_law_1355 ih18 hS w1 w2 w1 h
  · have h := iteF hc1347 h
    refine rif_f hc1347 ?_
    exact sjL_law_1355 ih18 hS w1 w2 w1 h
def gjL_law_1385 (X : List Int) (self18 : Int → GS → GO) (p1 p2 p3 : Int) (G : GS) : GO :=
  (g_X8_doubles p1 G).bind fun z1 => (g_X9_doubles p2 z1.2).bind fun z2 => (if z1.1 = z2.1 then gjL_law_1683 X self18 p1 p2 p3 z2.2
  else some (0, z2.2))
set_option maxHeartbeats 4000000 in
theorem sjL_law_1385 {X : List Int} {ad : Nat → Nat → Nat} {Cn : Nat → Nat} {H : PH} {G G' : GS} {rr : Int} {fself18 : Int → PH → RO} {self18 : Int → GS → GO} {p1 p2 p3 b1 b2 : Int} (ih18 : ∀ (ad : Nat → Nat → Nat) (Cn : Nat → Nat) (H : PH) (G : GS) (v3 : Int) , SimA ad Cn H G → vrel ad Cn 0 b1 p1 → vrel ad Cn 100 b2 p2 → self18 v3 G = some (rr, G') → RS ad Cn (fself18 v3 H) 0 rr G') (hS : SimA ad Cn H G) (w1 : vrel ad Cn 0 b1 p1) (w2 : vrel ad Cn 100 b2 p2) (h : gjL_law_1385 X self18 p1 p2 p3 G = some (rr, G')) : RS ad Cn (jL_law_1385 X fself18 b1 b2 p3 H) 0 rr G' := by
  unfold gjL_law_1385 at h
  unfold jL_law_1385
  obtain ⟨z1, ez1, h⟩ := bnd h
  refine rb_call (ρc := 0) (s_X8_doubles hS w1 ez1) ?_
  intro ad Cn bz1 H hS hx wz1
  dsimp only
  obtain rfl : bz1 = z1.1 := wz1
  have w1 := w1.mono hx
  have w2 := w2.mono hx
  obtain ⟨z2, ez2, h⟩ := bnd h
  refine rb_call (ρc := 0) (s_X9_doubles hS w2 ez2) ?_
  intro ad Cn bz2 H hS hx wz2
  dsimp only
  obtain rfl : bz2 = z2.1 := wz2
  have w1 := w1.mono hx
  have w2 := w2.mono hx
  by_cases hc1393 : z1.1 = z2.1
  · have h := iteT hc1393 h
    refine rif_t hc1393 ?_
    exact sjL_law_1683 ih18 hS w1 w2 h
  · have h := iteF hc1393 h
    refine rif_f hc1393 ?_
    cases h
    exact rret hS rfl
def gjL_law_1398 (X : List Int) (self18 : Int → GS → GO) (p1 p2 p3 : Int) (G : GS) : GO :=
  (sld X (w32 (p3 + 1))).bind fun x1 => (sld X (w32 (p3 + 2))).bind fun x2 => (g_X8_doubleAt p1 x1 x2 G).bind fun z3 => (sld X (w32 (p3 + 1))).bind fun x4 => (sld X (w32 (p3 + 2))).bind fun x5 => (g_X9_doubleAt p2 x4 x5 z3.2).bind fun z6 => (if z3.1 = z6.1 then gjL_law_1683 X self18 p1 p2 p3 z6.2
  else some (0, z6.2))
set_option maxHeartbeats 4000000 in
theorem sjL_law_1398 {X : List Int} {ad : Nat → Nat → Nat} {Cn : Nat → Nat} {H : PH} {G G' : GS} {rr : Int} {fself18 : Int → PH → RO} {self18 : Int → GS → GO} {p1 p2 p3 b1 b2 : Int} (ih18 : ∀ (ad : Nat → Nat → Nat) (Cn : Nat → Nat) (H : PH) (G : GS) (v3 : Int) , SimA ad Cn H G → vrel ad Cn 0 b1 p1 → vrel ad Cn 100 b2 p2 → self18 v3 G = some (rr, G') → RS ad Cn (fself18 v3 H) 0 rr G') (hS : SimA ad Cn H G) (w1 : vrel ad Cn 0 b1 p1) (w2 : vrel ad Cn 100 b2 p2) (h : gjL_law_1398 X self18 p1 p2 p3 G = some (rr, G')) : RS ad Cn (jL_law_1398 X fself18 b1 b2 p3 H) 0 rr G' := by
  unfold gjL_law_1398 at h
  unfold jL_law_1398
  obtain ⟨x1, ex1, h⟩ := bnd h
  refine rb_o ex1 ?_
  obtain ⟨x2, ex2, h⟩ := bnd h
  refine rb_o ex2 ?_
  obtain ⟨z3, ez3, h⟩ := bnd h
  refine rb_call (ρc := 0) (s_X8_doubleAt hS w1 ez3) ?_
  intro ad Cn bz3 H hS hx wz3
  dsimp only
  obtain rfl : bz3 = z3.1 := wz3
  have w1 := w1.mono hx
  have w2 := w2.mono hx
  obtain ⟨x4, ex4, h⟩ := bnd h
  refine rb_o ex4 ?_
  obtain ⟨x5, ex5, h⟩ := bnd h
  refine rb_o ex5 ?_
  obtain ⟨z6, ez6, h⟩ := bnd h
  refine rb_call (ρc := 0) (s_X9_doubleAt hS w2 ez6) ?_
  intro ad Cn bz6 H hS hx wz6
  dsimp only
  obtain rfl : bz6 = z6.1 := wz6
  have w1 := w1.mono hx
  have w2 := w2.mono hx
  by_cases hc1426 : z3.1 = z6.1
  · have h := iteT hc1426 h
    refine rif_t hc1426 ?_
    exact sjL_law_1683 ih18 hS w1 w2 h
  · have h := iteF hc1426 h
    refine rif_f hc1426 ?_
    cases h
    exact rret hS rfl
def gjL_law_1431 (X : List Int) (self18 : Int → GS → GO) (p1 p2 p3 : Int) (G : GS) : GO :=
  (g_X8_freeze p1 G).bind fun z1 => (g_X9_freeze p2 z1.2).bind fun z2 => (if z1.1 = z2.1 then gjL_law_1683 X self18 p1 p2 p3 z2.2
  else some (0, z2.2))
set_option maxHeartbeats 4000000 in
theorem sjL_law_1431 {X : List Int} {ad : Nat → Nat → Nat} {Cn : Nat → Nat} {H : PH} {G G' : GS} {rr : Int} {fself18 : Int → PH → RO} {self18 : Int → GS → GO} {p1 p2 p3 b1 b2 : Int} (ih18 : ∀ (ad : Nat → Nat → Nat) (Cn : Nat → Nat) (H : PH) (G : GS) (v3 : Int) , SimA ad Cn H G → vrel ad Cn 0 b1 p1 → vrel ad Cn 100 b2 p2 → self18 v3 G = some (rr, G') → RS ad Cn (fself18 v3 H) 0 rr G') (hS : SimA ad Cn H G) (w1 : vrel ad Cn 0 b1 p1) (w2 : vrel ad Cn 100 b2 p2) (h : gjL_law_1431 X self18 p1 p2 p3 G = some (rr, G')) : RS ad Cn (jL_law_1431 X fself18 b1 b2 p3 H) 0 rr G' := by
  unfold gjL_law_1431 at h
  unfold jL_law_1431
  obtain ⟨z1, ez1, h⟩ := bnd h
  refine rb_call (ρc := 0) (s_X8_freeze hS w1 ez1) ?_
  intro ad Cn bz1 H hS hx wz1
  dsimp only
  obtain rfl : bz1 = z1.1 := wz1
  have w1 := w1.mono hx
  have w2 := w2.mono hx
  obtain ⟨z2, ez2, h⟩ := bnd h
  refine rb_call (ρc := 0) (s_X9_freeze hS w2 ez2) ?_
  intro ad Cn bz2 H hS hx wz2
  dsimp only
  obtain rfl : bz2 = z2.1 := wz2
  have w1 := w1.mono hx
  have w2 := w2.mono hx
  by_cases hc1439 : z1.1 = z2.1
  · have h := iteT hc1439 h
    refine rif_t hc1439 ?_
    exact sjL_law_1683 ih18 hS w1 w2 h
  · have h := iteF hc1439 h
    refine rif_f hc1439 ?_
    cases h
    exact rret hS rfl
def gjL_law_1444 (X : List Int) (self18 : Int → GS → GO) (p1 p2 p3 : Int) (G : GS) : GO :=
  (sld X (w32 (p3 + 1))).bind fun x1 => (sld X (w32 (p3 + 2))).bind fun x2 => (sld X (w32 (p3 + 3))).bind fun x3 => (sld X (w32 (p3 + 4))).bind fun x4 => (g_X8_frozen p1 x1 x2 x3 x4 G).bind fun z5 => (sld X (w32 (p3 + 1))).bind fun x6 => (sld X (w32 (p3 + 2))).bind fun x7 => (sld X (w32 (p3 + 3))).bind fun x8 => (sld X (w32 (p3 + 4))).bind fun x9 => (g_X9_frozen p2 x6 x7 x8 x9 z5.2).bind fun z10 => (if (lc z5.1 z10.1) = 0 then gjL_law_1683 X self18 p1 p2 p3 z10.2
  else some (0, z10.2))
set_option maxHeartbeats 4000000 in
theorem sjL_law_1444 {X : List Int} {ad : Nat → Nat → Nat} {Cn : Nat → Nat} {H : PH} {G G' : GS} {rr : Int} {fself18 : Int → PH → RO} {self18 : Int → GS → GO} {p1 p2 p3 b1 b2 : Int} (ih18 : ∀ (ad : Nat → Nat → Nat) (Cn : Nat → Nat) (H : PH) (G : GS) (v3 : Int) , SimA ad Cn H G → vrel ad Cn 0 b1 p1 → vrel ad Cn 100 b2 p2 → self18 v3 G = some (rr, G') → RS ad Cn (fself18 v3 H) 0 rr G') (hS : SimA ad Cn H G) (w1 : vrel ad Cn 0 b1 p1) (w2 : vrel ad Cn 100 b2 p2) (h : gjL_law_1444 X self18 p1 p2 p3 G = some (rr, G')) : RS ad Cn (jL_law_1444 X fself18 b1 b2 p3 H) 0 rr G' := by
  unfold gjL_law_1444 at h
  unfold jL_law_1444
  obtain ⟨x1, ex1, h⟩ := bnd h
  refine rb_o ex1 ?_
  obtain ⟨x2, ex2, h⟩ := bnd h
  refine rb_o ex2 ?_
  obtain ⟨x3, ex3, h⟩ := bnd h
  refine rb_o ex3 ?_
  obtain ⟨x4, ex4, h⟩ := bnd h
  refine rb_o ex4 ?_
  obtain ⟨z5, ez5, h⟩ := bnd h
  refine rb_call (ρc := 0) (s_X8_frozen hS w1 ez5) ?_
  intro ad Cn bz5 H hS hx wz5
  dsimp only
  obtain rfl : bz5 = z5.1 := wz5
  have w1 := w1.mono hx
  have w2 := w2.mono hx
  obtain ⟨x6, ex6, h⟩ := bnd h
  refine rb_o ex6 ?_
  obtain ⟨x7, ex7, h⟩ := bnd h
  refine rb_o ex7 ?_
  obtain ⟨x8, ex8, h⟩ := bnd h
  refine rb_o ex8 ?_
  obtain ⟨x9, ex9, h⟩ := bnd h
  refine rb_o ex9 ?_
  obtain ⟨z10, ez10, h⟩ := bnd h
  refine rb_call (ρc := 0) (s_X9_frozen hS w2 ez10) ?_
  intro ad Cn bz10 H hS hx wz10
  dsimp only
  obtain rfl : bz10 = z10.1 := wz10
  have w1 := w1.mono hx
  have w2 := w2.mono hx
  by_cases hc1493 : (lc z5.1 z10.1) = 0
  · have h := iteT hc1493 h
    refine rif_t hc1493 ?_
    exact sjL_law_1683 ih18 hS w1 w2 h
  · have h := iteF hc1493 h
    refine rif_f hc1493 ?_
    cases h
    exact rret hS rfl
def gjL_law_1498 (X : List Int) (self18 : Int → GS → GO) (p1 p2 p3 : Int) (G : GS) : GO :=
  (sld X (w32 (p3 + 1))).bind fun x1 => (sld X (w32 (p3 + 2))).bind fun x2 => (sld X (w32 (p3 + 3))).bind fun x3 => (sld X (w32 (p3 + 4))).bind fun x4 => (g_X8_frozenReason p1 x1 x2 x3 x4 G).bind fun z5 => (sld X (w32 (p3 + 1))).bind fun x6 => (sld X (w32 (p3 + 2))).bind fun x7 => (sld X (w32 (p3 + 3))).bind fun x8 => (sld X (w32 (p3 + 4))).bind fun x9 => (g_X9_frozenReason p2 x6 x7 x8 x9 z5.2).bind fun z10 => (if z5.1 = z10.1 then gjL_law_1683 X self18 p1 p2 p3 z10.2
  else some (0, z10.2))
set_option maxHeartbeats 4000000 in
theorem sjL_law_1498 {X : List Int} {ad : Nat → Nat → Nat} {Cn : Nat → Nat} {H : PH} {G G' : GS} {rr : Int} {fself18 : Int → PH → RO} {self18 : Int → GS → GO} {p1 p2 p3 b1 b2 : Int} (ih18 : ∀ (ad : Nat → Nat → Nat) (Cn : Nat → Nat) (H : PH) (G : GS) (v3 : Int) , SimA ad Cn H G → vrel ad Cn 0 b1 p1 → vrel ad Cn 100 b2 p2 → self18 v3 G = some (rr, G') → RS ad Cn (fself18 v3 H) 0 rr G') (hS : SimA ad Cn H G) (w1 : vrel ad Cn 0 b1 p1) (w2 : vrel ad Cn 100 b2 p2) (h : gjL_law_1498 X self18 p1 p2 p3 G = some (rr, G')) : RS ad Cn (jL_law_1498 X fself18 b1 b2 p3 H) 0 rr G' := by
  unfold gjL_law_1498 at h
  unfold jL_law_1498
  obtain ⟨x1, ex1, h⟩ := bnd h
  refine rb_o ex1 ?_
  obtain ⟨x2, ex2, h⟩ := bnd h
  refine rb_o ex2 ?_
  obtain ⟨x3, ex3, h⟩ := bnd h
  refine rb_o ex3 ?_
  obtain ⟨x4, ex4, h⟩ := bnd h
  refine rb_o ex4 ?_
  obtain ⟨z5, ez5, h⟩ := bnd h
  refine rb_call (ρc := 0) (s_X8_frozenReason hS w1 ez5) ?_
  intro ad Cn bz5 H hS hx wz5
  dsimp only
  obtain rfl : bz5 = z5.1 := wz5
  have w1 := w1.mono hx
  have w2 := w2.mono hx
  obtain ⟨x6, ex6, h⟩ := bnd h
  refine rb_o ex6 ?_
  obtain ⟨x7, ex7, h⟩ := bnd h
  refine rb_o ex7 ?_
  obtain ⟨x8, ex8, h⟩ := bnd h
  refine rb_o ex8 ?_
  obtain ⟨x9, ex9, h⟩ := bnd h
  refine rb_o ex9 ?_
  obtain ⟨z10, ez10, h⟩ := bnd h
  refine rb_call (ρc := 0) (s_X9_frozenReason hS w2 ez10) ?_
  intro ad Cn bz10 H hS hx wz10
  dsimp only
  obtain rfl : bz10 = z10.1 := wz10
  have w1 := w1.mono hx
  have w2 := w2.mono hx
  by_cases hc1546 : z5.1 = z10.1
  · have h := iteT hc1546 h
    refine rif_t hc1546 ?_
    exact sjL_law_1683 ih18 hS w1 w2 h
  · have h := iteF hc1546 h
    refine rif_f hc1546 ?_
    cases h
    exact rret hS rfl
def gjL_law_1551 (X : List Int) (self18 : Int → GS → GO) (p1 p2 p3 : Int) (G : GS) : GO :=
  (sld X (w32 (p3 + 1))).bind fun x1 => (sld X (w32 (p3 + 2))).bind fun x2 => (g_X8_changes p1 x1 x2 G).bind fun z3 => (sld X (w32 (p3 + 1))).bind fun x4 => (sld X (w32 (p3 + 2))).bind fun x5 => (g_X9_changes p2 x4 x5 z3.2).bind fun z6 => (if z3.1 = z6.1 then gjL_law_1683 X self18 p1 p2 p3 z6.2
  else some (0, z6.2))
set_option maxHeartbeats 4000000 in
theorem sjL_law_1551 {X : List Int} {ad : Nat → Nat → Nat} {Cn : Nat → Nat} {H : PH} {G G' : GS} {rr : Int} {fself18 : Int → PH → RO} {self18 : Int → GS → GO} {p1 p2 p3 b1 b2 : Int} (ih18 : ∀ (ad : Nat → Nat → Nat) (Cn : Nat → Nat) (H : PH) (G : GS) (v3 : Int) , SimA ad Cn H G → vrel ad Cn 0 b1 p1 → vrel ad Cn 100 b2 p2 → self18 v3 G = some (rr, G') → RS ad Cn (fself18 v3 H) 0 rr G') (hS : SimA ad Cn H G) (w1 : vrel ad Cn 0 b1 p1) (w2 : vrel ad Cn 100 b2 p2) (h : gjL_law_1551 X self18 p1 p2 p3 G = some (rr, G')) : RS ad Cn (jL_law_1551 X fself18 b1 b2 p3 H) 0 rr G' := by
  unfold gjL_law_1551 at h
  unfold jL_law_1551
  obtain ⟨x1, ex1, h⟩ := bnd h
  refine rb_o ex1 ?_
  obtain ⟨x2, ex2, h⟩ := bnd h
  refine rb_o ex2 ?_
  obtain ⟨z3, ez3, h⟩ := bnd h
  refine rb_call (ρc := 0) (s_X8_changes hS w1 ez3) ?_
  intro ad Cn bz3 H hS hx wz3
  dsimp only
  obtain rfl : bz3 = z3.1 := wz3
  have w1 := w1.mono hx
  have w2 := w2.mono hx
  obtain ⟨x4, ex4, h⟩ := bnd h
  refine rb_o ex4 ?_
  obtain ⟨x5, ex5, h⟩ := bnd h
  refine rb_o ex5 ?_
  obtain ⟨z6, ez6, h⟩ := bnd h
  refine rb_call (ρc := 0) (s_X9_changes hS w2 ez6) ?_
  intro ad Cn bz6 H hS hx wz6
  dsimp only
  obtain rfl : bz6 = z6.1 := wz6
  have w1 := w1.mono hx
  have w2 := w2.mono hx
  by_cases hc1579 : z3.1 = z6.1
  · have h := iteT hc1579 h
    refine rif_t hc1579 ?_
    exact sjL_law_1683 ih18 hS w1 w2 h
  · have h := iteF hc1579 h
    refine rif_f hc1579 ?_
    cases h
    exact rret hS rfl
def gjL_law_1584 (X : List Int) (self18 : Int → GS → GO) (p1 p2 p3 : Int) (G : GS) : GO :=
  (sld X (w32 (p3 + 1))).bind fun x1 => (sld X (w32 (p3 + 2))).bind fun x2 => (sld X (w32 (p3 + 3))).bind fun x3 => (sld X (w32 (p3 + 4))).bind fun x4 => (g_X8_changeAt p1 x1 x2 x3 x4 G).bind fun z5 => (sld X (w32 (p3 + 1))).bind fun x6 => (sld X (w32 (p3 + 2))).bind fun x7 => (sld X (w32 (p3 + 3))).bind fun x8 => (sld X (w32 (p3 + 4))).bind fun x9 => (g_X9_changeAt p2 x6 x7 x8 x9 z5.2).bind fun z10 => (if z5.1 = z10.1 then gjL_law_1683 X self18 p1 p2 p3 z10.2
  else some (0, z10.2))
set_option maxHeartbeats 4000000 in
theorem sjL_law_1584 {X : List Int} {ad : Nat → Nat → Nat} {Cn : Nat → Nat} {H : PH} {G G' : GS} {rr : Int} {fself18 : Int → PH → RO} {self18 : Int → GS → GO} {p1 p2 p3 b1 b2 : Int} (ih18 : ∀ (ad : Nat → Nat → Nat) (Cn : Nat → Nat) (H : PH) (G : GS) (v3 : Int) , SimA ad Cn H G → vrel ad Cn 0 b1 p1 → vrel ad Cn 100 b2 p2 → self18 v3 G = some (rr, G') → RS ad Cn (fself18 v3 H) 0 rr G') (hS : SimA ad Cn H G) (w1 : vrel ad Cn 0 b1 p1) (w2 : vrel ad Cn 100 b2 p2) (h : gjL_law_1584 X self18 p1 p2 p3 G = some (rr, G')) : RS ad Cn (jL_law_1584 X fself18 b1 b2 p3 H) 0 rr G' := by
  unfold gjL_law_1584 at h
  unfold jL_law_1584
  obtain ⟨x1, ex1, h⟩ := bnd h
  refine rb_o ex1 ?_
  obtain ⟨x2, ex2, h⟩ := bnd h
  refine rb_o ex2 ?_
  obtain ⟨x3, ex3, h⟩ := bnd h
  refine rb_o ex3 ?_
  obtain ⟨x4, ex4, h⟩ := bnd h
  refine rb_o ex4 ?_
  obtain ⟨z5, ez5, h⟩ := bnd h
  refine rb_call (ρc := 0) (s_X8_changeAt hS w1 ez5) ?_
  intro ad Cn bz5 H hS hx wz5
  dsimp only
  obtain rfl : bz5 = z5.1 := wz5
  have w1 := w1.mono hx
  have w2 := w2.mono hx
  obtain ⟨x6, ex6, h⟩ := bnd h
  refine rb_o ex6 ?_
  obtain ⟨x7, ex7, h⟩ := bnd h
  refine rb_o ex7 ?_
  obtain ⟨x8, ex8, h⟩ := bnd h
  refine rb_o ex8 ?_
  obtain ⟨x9, ex9, h⟩ := bnd h
  refine rb_o ex9 ?_
  obtain ⟨z10, ez10, h⟩ := bnd h
  refine rb_call (ρc := 0) (s_X9_changeAt hS w2 ez10) ?_
  intro ad Cn bz10 H hS hx wz10
  dsimp only
  obtain rfl : bz10 = z10.1 := wz10
  have w1 := w1.mono hx
  have w2 := w2.mono hx
  by_cases hc1632 : z5.1 = z10.1
  · have h := iteT hc1632 h
    refine rif_t hc1632 ?_
    exact sjL_law_1683 ih18 hS w1 w2 h
  · have h := iteF hc1632 h
    refine rif_f hc1632 ?_
    cases h
    exact rret hS rfl
def gjL_law_1637 (X : List Int) (self18 : Int → GS → GO) (p1 p2 p3 : Int) (G : GS) : GO :=
  (sld X (w32 (p3 + 1))).bind fun x1 => (g_X8_merge p1 x1 G).bind fun z2 => (sld X (w32 (p3 + 1))).bind fun x3 => (g_X9_merge p2 x3 z2.2).bind fun z4 => (if z2.1 = z4.1 then gjL_law_1683 X self18 p1 p2 p3 z4.2
  else some (0, z4.2))
set_option maxHeartbeats 4000000 in
theorem sjL_law_1637 {X : List Int} {ad : Nat → Nat → Nat} {Cn : Nat → Nat} {H : PH} {G G' : GS} {rr : Int} {fself18 : Int → PH → RO} {self18 : Int → GS → GO} {p1 p2 p3 b1 b2 : Int} (ih18 : ∀ (ad : Nat → Nat → Nat) (Cn : Nat → Nat) (H : PH) (G : GS) (v3 : Int) , SimA ad Cn H G → vrel ad Cn 0 b1 p1 → vrel ad Cn 100 b2 p2 → self18 v3 G = some (rr, G') → RS ad Cn (fself18 v3 H) 0 rr G') (hS : SimA ad Cn H G) (w1 : vrel ad Cn 0 b1 p1) (w2 : vrel ad Cn 100 b2 p2) (h : gjL_law_1637 X self18 p1 p2 p3 G = some (rr, G')) : RS ad Cn (jL_law_1637 X fself18 b1 b2 p3 H) 0 rr G' := by
  unfold gjL_law_1637 at h
  unfold jL_law_1637
  obtain ⟨x1, ex1, h⟩ := bnd h
  refine rb_o ex1 ?_
  obtain ⟨z2, ez2, h⟩ := bnd h
  refine rb_call (ρc := 0) (s_X8_merge hS w1 ez2) ?_
  intro ad Cn bz2 H hS hx wz2
  dsimp only
  obtain rfl : bz2 = z2.1 := wz2
  have w1 := w1.mono hx
  have w2 := w2.mono hx
  obtain ⟨x3, ex3, h⟩ := bnd h
  refine rb_o ex3 ?_
  obtain ⟨z4, ez4, h⟩ := bnd h
  refine rb_call (ρc := 0) (s_X9_merge hS w2 ez4) ?_
  intro ad Cn bz4 H hS hx wz4
  dsimp only
  obtain rfl : bz4 = z4.1 := wz4
  have w1 := w1.mono hx
  have w2 := w2.mono hx
  by_cases hc1655 : z2.1 = z4.1
  · have h := iteT hc1655 h
    refine rif_t hc1655 ?_
    exact sjL_law_1683 ih18 hS w1 w2 h
  · have h := iteF hc1655 h
    refine rif_f hc1655 ?_
    cases h
    exact rret hS rfl
def gjL_law_1660 (X : List Int) (self18 : Int → GS → GO) (p1 p2 p3 : Int) (G : GS) : GO :=
  (sld X (w32 (p3 + 1))).bind fun x1 => (g_X8_count p1 x1 G).bind fun z2 => (sld X (w32 (p3 + 1))).bind fun x3 => (g_X9_count p2 x3 z2.2).bind fun z4 => (if z2.1 = z4.1 then gjL_law_1683 X self18 p1 p2 p3 z4.2
  else some (0, z4.2))
set_option maxHeartbeats 4000000 in
theorem sjL_law_1660 {X : List Int} {ad : Nat → Nat → Nat} {Cn : Nat → Nat} {H : PH} {G G' : GS} {rr : Int} {fself18 : Int → PH → RO} {self18 : Int → GS → GO} {p1 p2 p3 b1 b2 : Int} (ih18 : ∀ (ad : Nat → Nat → Nat) (Cn : Nat → Nat) (H : PH) (G : GS) (v3 : Int) , SimA ad Cn H G → vrel ad Cn 0 b1 p1 → vrel ad Cn 100 b2 p2 → self18 v3 G = some (rr, G') → RS ad Cn (fself18 v3 H) 0 rr G') (hS : SimA ad Cn H G) (w1 : vrel ad Cn 0 b1 p1) (w2 : vrel ad Cn 100 b2 p2) (h : gjL_law_1660 X self18 p1 p2 p3 G = some (rr, G')) : RS ad Cn (jL_law_1660 X fself18 b1 b2 p3 H) 0 rr G' := by
  unfold gjL_law_1660 at h
  unfold jL_law_1660
  obtain ⟨x1, ex1, h⟩ := bnd h
  refine rb_o ex1 ?_
  obtain ⟨z2, ez2, h⟩ := bnd h
  refine rb_call (ρc := 0) (s_X8_count hS w1 ez2) ?_
  intro ad Cn bz2 H hS hx wz2
  dsimp only
  obtain rfl : bz2 = z2.1 := wz2
  have w1 := w1.mono hx
  have w2 := w2.mono hx
  obtain ⟨x3, ex3, h⟩ := bnd h
  refine rb_o ex3 ?_
  obtain ⟨z4, ez4, h⟩ := bnd h
  refine rb_call (ρc := 0) (s_X9_count hS w2 ez4) ?_
  intro ad Cn bz4 H hS hx wz4
  dsimp only
  obtain rfl : bz4 = z4.1 := wz4
  have w1 := w1.mono hx
  have w2 := w2.mono hx
  by_cases hc1678 : z2.1 = z4.1
  · have h := iteT hc1678 h
    refine rif_t hc1678 ?_
    exact sjL_law_1683 ih18 hS w1 w2 h
  · have h := iteF hc1678 h
    refine rif_f hc1678 ?_
    cases h
    exact rret hS rfl
def glL_law_18 (X : List Int) (p1 p2 : Int) (self18 : Int → GS → GO) (p3 : Int) (G : GS) : GO :=
  (if p3 > (w32 ((X.length : Int) - 7)) then some (1, G)
  else (sld X p3).bind fun x1 => (if (i_and x1 63) < 0 ∨ 38 < (i_and x1 63) then gjL_law_1683 X self18 p1 p2 p3 G
  else List.getD [gjL_law_204 X self18 p1 p2 p3 G, gjL_law_237 X self18 p1 p2 p3 G, gjL_law_270 X self18 p1 p2 p3 G, gjL_law_293 X self18 p1 p2 p3 G, gjL_law_408 X self18 p1 p2 p3 G, gjL_law_441 X self18 p1 p2 p3 G, gjL_law_464 X self18 p1 p2 p3 G, gjL_law_497 X self18 p1 p2 p3 G, gjL_law_530 X self18 p1 p2 p3 G, gjL_law_543 X self18 p1 p2 p3 G, gjL_law_626 X self18 p1 p2 p3 G, gjL_law_679 X self18 p1 p2 p3 G, gjL_law_723 X self18 p1 p2 p3 G, gjL_law_766 X self18 p1 p2 p3 G, gjL_law_839 X self18 p1 p2 p3 G, gjL_law_882 X self18 p1 p2 p3 G, gjL_law_915 X self18 p1 p2 p3 G, gjL_law_958 X self18 p1 p2 p3 G, gjL_law_991 X self18 p1 p2 p3 G, gjL_law_1004 X self18 p1 p2 p3 G, gjL_law_1037 X self18 p1 p2 p3 G, gjL_law_1080 X self18 p1 p2 p3 G, gjL_law_1113 X self18 p1 p2 p3 G, gjL_law_1157 X self18 p1 p2 p3 G, gjL_law_1180 X self18 p1 p2 p3 G, gjL_law_1213 X self18 p1 p2 p3 G, gjL_law_1236 X self18 p1 p2 p3 G, gjL_law_1249 X self18 p1 p2 p3 G, gjL_law_1282 X self18 p1 p2 p3 G, gjL_law_1336 X self18 p1 p2 p3 G, gjL_law_1385 X self18 p1 p2 p3 G, gjL_law_1398 X self18 p1 p2 p3 G, gjL_law_1431 X self18 p1 p2 p3 G, gjL_law_1444 X self18 p1 p2 p3 G, gjL_law_1498 X self18 p1 p2 p3 G, gjL_law_1551 X self18 p1 p2 p3 G, gjL_law_1584 X self18 p1 p2 p3 G, gjL_law_1637 X self18 p1 p2 p3 G, gjL_law_1660 X self18 p1 p2 p3 G] ((i_and x1 63) - 0).toNat none))
set_option maxHeartbeats 4000000 in
theorem slL_law_18 {X : List Int} {G' : GS} {rr : Int} {p1 p2 b1 b2 : Int} : ∀ (n : Nat) (ad : Nat → Nat → Nat) (Cn : Nat → Nat) (H : PH) (G : GS) (p3 : Int) , SimA ad Cn H G → vrel ad Cn 0 b1 p1 → vrel ad Cn 100 b2 p2 → lh1 (glL_law_18 X p1 p2) n p3 G = some (rr, G') → RS ad Cn (lq1 (lL_law_18 X b1 b2) n p3 H) 0 rr G' := by
  intro n
  induction n with
  | zero => intro ad Cn H G p3 hS w1 w2 h; cases h
  | succ n ih18 =>
    intro ad Cn H G p3 hS w1 w2 h
    rw [lh1_s] at h
    rw [lq1_s]
    generalize lh1 (glL_law_18 X p1 p2) n = self18 at ih18 h
    generalize lq1 (lL_law_18 X b1 b2) n = fself18 at ih18 ⊢
    unfold glL_law_18 at h
    unfold lL_law_18
    by_cases hc24 : p3 > (w32 ((X.length : Int) - 7))
    · have h := iteT hc24 h
      refine rif_t hc24 ?_
      cases h
      exact rret hS rfl
    · have h := iteF hc24 h
      refine rif_f hc24 ?_
      obtain ⟨x1, ex1, h⟩ := bnd h
      refine rb_o ex1 ?_
      by_cases hc : (i_and x1 63) < 0 ∨ 38 < (i_and x1 63)
      · have h := iteT hc h
        refine rif_t hc ?_
        exact sjL_law_1683 ih18 hS w1 w2 h
      · have h := iteF hc h
        refine rif_f hc ?_
        obtain ⟨i, hin, ha⟩ := sw_case 39 hc (by decide)
        have h := sw_at ha h
        refine rsw ha ?_
        match i, hin, h with
        | 0, hin, h =>
          have h : (gjL_law_204 X self18 p1 p2 p3 G : GO) = some (rr, G') := h
          simp only [List.getD_cons_succ, List.getD_cons_zero]
          exact sjL_law_204 ih18 hS w1 w2 h
        | 1, hin, h =>
          have h : (gjL_law_237 X self18 p1 p2 p3 G : GO) = some (rr, G') := h
          simp only [List.getD_cons_succ, List.getD_cons_zero]
          exact sjL_law_237 ih18 hS w1 w2 h
        | 2, hin, h =>
          have h : (gjL_law_270 X self18 p1 p2 p3 G : GO) = some (rr, G') := h
          simp only [List.getD_cons_succ, List.getD_cons_zero]
          exact sjL_law_270 ih18 hS w1 w2 h
        | 3, hin, h =>
          have h : (gjL_law_293 X self18 p1 p2 p3 G : GO) = some (rr, G') := h
          simp only [List.getD_cons_succ, List.getD_cons_zero]
          exact sjL_law_293 ih18 hS w1 w2 h
        | 4, hin, h =>
          have h : (gjL_law_408 X self18 p1 p2 p3 G : GO) = some (rr, G') := h
          simp only [List.getD_cons_succ, List.getD_cons_zero]
          exact sjL_law_408 ih18 hS w1 w2 h
        | 5, hin, h =>
          have h : (gjL_law_441 X self18 p1 p2 p3 G : GO) = some (rr, G') := h
          simp only [List.getD_cons_succ, List.getD_cons_zero]
          exact sjL_law_441 ih18 hS w1 w2 h
        | 6, hin, h =>
          have h : (gjL_law_464 X self18 p1 p2 p3 G : GO) = some (rr, G') := h
          simp only [List.getD_cons_succ, List.getD_cons_zero]
          exact sjL_law_464 ih18 hS w1 w2 h
        | 7, hin, h =>
          have h : (gjL_law_497 X self18 p1 p2 p3 G : GO) = some (rr, G') := h
          simp only [List.getD_cons_succ, List.getD_cons_zero]
          exact sjL_law_497 ih18 hS w1 w2 h
        | 8, hin, h =>
          have h : (gjL_law_530 X self18 p1 p2 p3 G : GO) = some (rr, G') := h
          simp only [List.getD_cons_succ, List.getD_cons_zero]
          exact sjL_law_530 ih18 hS w1 w2 h
        | 9, hin, h =>
          have h : (gjL_law_543 X self18 p1 p2 p3 G : GO) = some (rr, G') := h
          simp only [List.getD_cons_succ, List.getD_cons_zero]
          exact sjL_law_543 ih18 hS w1 w2 h
        | 10, hin, h =>
          have h : (gjL_law_626 X self18 p1 p2 p3 G : GO) = some (rr, G') := h
          simp only [List.getD_cons_succ, List.getD_cons_zero]
          exact sjL_law_626 ih18 hS w1 w2 h
        | 11, hin, h =>
          have h : (gjL_law_679 X self18 p1 p2 p3 G : GO) = some (rr, G') := h
          simp only [List.getD_cons_succ, List.getD_cons_zero]
          exact sjL_law_679 ih18 hS w1 w2 h
        | 12, hin, h =>
          have h : (gjL_law_723 X self18 p1 p2 p3 G : GO) = some (rr, G') := h
          simp only [List.getD_cons_succ, List.getD_cons_zero]
          exact sjL_law_723 ih18 hS w1 w2 h
        | 13, hin, h =>
          have h : (gjL_law_766 X self18 p1 p2 p3 G : GO) = some (rr, G') := h
          simp only [List.getD_cons_succ, List.getD_cons_zero]
          exact sjL_law_766 ih18 hS w1 w2 h
        | 14, hin, h =>
          have h : (gjL_law_839 X self18 p1 p2 p3 G : GO) = some (rr, G') := h
          simp only [List.getD_cons_succ, List.getD_cons_zero]
          exact sjL_law_839 ih18 hS w1 w2 h
        | 15, hin, h =>
          have h : (gjL_law_882 X self18 p1 p2 p3 G : GO) = some (rr, G') := h
          simp only [List.getD_cons_succ, List.getD_cons_zero]
          exact sjL_law_882 ih18 hS w1 w2 h
        | 16, hin, h =>
          have h : (gjL_law_915 X self18 p1 p2 p3 G : GO) = some (rr, G') := h
          simp only [List.getD_cons_succ, List.getD_cons_zero]
          exact sjL_law_915 ih18 hS w1 w2 h
        | 17, hin, h =>
          have h : (gjL_law_958 X self18 p1 p2 p3 G : GO) = some (rr, G') := h
          simp only [List.getD_cons_succ, List.getD_cons_zero]
          exact sjL_law_958 ih18 hS w1 w2 h
        | 18, hin, h =>
          have h : (gjL_law_991 X self18 p1 p2 p3 G : GO) = some (rr, G') := h
          simp only [List.getD_cons_succ, List.getD_cons_zero]
          exact sjL_law_991 ih18 hS w1 w2 h
        | 19, hin, h =>
          have h : (gjL_law_1004 X self18 p1 p2 p3 G : GO) = some (rr, G') := h
          simp only [List.getD_cons_succ, List.getD_cons_zero]
          exact sjL_law_1004 ih18 hS w1 w2 h
        | 20, hin, h =>
          have h : (gjL_law_1037 X self18 p1 p2 p3 G : GO) = some (rr, G') := h
          simp only [List.getD_cons_succ, List.getD_cons_zero]
          exact sjL_law_1037 ih18 hS w1 w2 h
        | 21, hin, h =>
          have h : (gjL_law_1080 X self18 p1 p2 p3 G : GO) = some (rr, G') := h
          simp only [List.getD_cons_succ, List.getD_cons_zero]
          exact sjL_law_1080 ih18 hS w1 w2 h
        | 22, hin, h =>
          have h : (gjL_law_1113 X self18 p1 p2 p3 G : GO) = some (rr, G') := h
          simp only [List.getD_cons_succ, List.getD_cons_zero]
          exact sjL_law_1113 ih18 hS w1 w2 h
        | 23, hin, h =>
          have h : (gjL_law_1157 X self18 p1 p2 p3 G : GO) = some (rr, G') := h
          simp only [List.getD_cons_succ, List.getD_cons_zero]
          exact sjL_law_1157 ih18 hS w1 w2 h
        | 24, hin, h =>
          have h : (gjL_law_1180 X self18 p1 p2 p3 G : GO) = some (rr, G') := h
          simp only [List.getD_cons_succ, List.getD_cons_zero]
          exact sjL_law_1180 ih18 hS w1 w2 h
        | 25, hin, h =>
          have h : (gjL_law_1213 X self18 p1 p2 p3 G : GO) = some (rr, G') := h
          simp only [List.getD_cons_succ, List.getD_cons_zero]
          exact sjL_law_1213 ih18 hS w1 w2 h
        | 26, hin, h =>
          have h : (gjL_law_1236 X self18 p1 p2 p3 G : GO) = some (rr, G') := h
          simp only [List.getD_cons_succ, List.getD_cons_zero]
          exact sjL_law_1236 ih18 hS w1 w2 h
        | 27, hin, h =>
          have h : (gjL_law_1249 X self18 p1 p2 p3 G : GO) = some (rr, G') := h
          simp only [List.getD_cons_succ, List.getD_cons_zero]
          exact sjL_law_1249 ih18 hS w1 w2 h
        | 28, hin, h =>
          have h : (gjL_law_1282 X self18 p1 p2 p3 G : GO) = some (rr, G') := h
          simp only [List.getD_cons_succ, List.getD_cons_zero]
          exact sjL_law_1282 ih18 hS w1 w2 h
        | 29, hin, h =>
          have h : (gjL_law_1336 X self18 p1 p2 p3 G : GO) = some (rr, G') := h
          simp only [List.getD_cons_succ, List.getD_cons_zero]
          exact sjL_law_1336 ih18 hS w1 w2 h
        | 30, hin, h =>
          have h : (gjL_law_1385 X self18 p1 p2 p3 G : GO) = some (rr, G') := h
          simp only [List.getD_cons_succ, List.getD_cons_zero]
          exact sjL_law_1385 ih18 hS w1 w2 h
        | 31, hin, h =>
          have h : (gjL_law_1398 X self18 p1 p2 p3 G : GO) = some (rr, G') := h
          simp only [List.getD_cons_succ, List.getD_cons_zero]
          exact sjL_law_1398 ih18 hS w1 w2 h
        | 32, hin, h =>
          have h : (gjL_law_1431 X self18 p1 p2 p3 G : GO) = some (rr, G') := h
          simp only [List.getD_cons_succ, List.getD_cons_zero]
          exact sjL_law_1431 ih18 hS w1 w2 h
        | 33, hin, h =>
          have h : (gjL_law_1444 X self18 p1 p2 p3 G : GO) = some (rr, G') := h
          simp only [List.getD_cons_succ, List.getD_cons_zero]
          exact sjL_law_1444 ih18 hS w1 w2 h
        | 34, hin, h =>
          have h : (gjL_law_1498 X self18 p1 p2 p3 G : GO) = some (rr, G') := h
          simp only [List.getD_cons_succ, List.getD_cons_zero]
          exact sjL_law_1498 ih18 hS w1 w2 h
        | 35, hin, h =>
          have h : (gjL_law_1551 X self18 p1 p2 p3 G : GO) = some (rr, G') := h
          simp only [List.getD_cons_succ, List.getD_cons_zero]
          exact sjL_law_1551 ih18 hS w1 w2 h
        | 36, hin, h =>
          have h : (gjL_law_1584 X self18 p1 p2 p3 G : GO) = some (rr, G') := h
          simp only [List.getD_cons_succ, List.getD_cons_zero]
          exact sjL_law_1584 ih18 hS w1 w2 h
        | 37, hin, h =>
          have h : (gjL_law_1637 X self18 p1 p2 p3 G : GO) = some (rr, G') := h
          simp only [List.getD_cons_succ, List.getD_cons_zero]
          exact sjL_law_1637 ih18 hS w1 w2 h
        | 38, hin, h =>
          have h : (gjL_law_1660 X self18 p1 p2 p3 G : GO) = some (rr, G') := h
          simp only [List.getD_cons_succ, List.getD_cons_zero]
          exact sjL_law_1660 ih18 hS w1 w2 h
        | i + 39, hin, h => exact absurd hin (by omega)
def g_L_law (X : List Int) (G : GS) : GO :=
  (gn 0 (cN 8 : Int) G).bind fun z1 => (g_X8_init z1.1 z1.2).bind fun z2 => (gn 100 (cN 9 : Int) z2.2).bind fun z3 => (g_X9_init z3.1 z3.2).bind fun z4 => lh1 (glL_law_18 X z1.1 z3.1) 6000 0 z4.2
set_option maxHeartbeats 4000000 in
theorem s_L_law {X : List Int} {ad : Nat → Nat → Nat} {Cn : Nat → Nat} {H : PH} {G G' : GS} {rr : Int} (hS : SimA ad Cn H G) (h : g_L_law X G = some (rr, G')) : RS ad Cn (f_L_law X H) 0 rr G' := by
  unfold g_L_law at h
  unfold f_L_law
  obtain ⟨z1, ez1, h⟩ := bnd h
  refine rb_newo 0 hS ez1 rfl (by decide) ?_
  intro ad Cn bz1 H hS hx wz1
  dsimp only
  obtain ⟨z2, ez2, h⟩ := bnd h
  refine rb_call (ρc := 0) (s_X8_init hS wz1 ez2) ?_
  intro ad Cn bz2 H hS hx wz2
  dsimp only
  obtain rfl : bz2 = z2.1 := wz2
  have wz1 := wz1.mono hx
  obtain ⟨z3, ez3, h⟩ := bnd h
  refine rb_newo 100 hS ez3 rfl (by decide) ?_
  intro ad Cn bz3 H hS hx wz3
  dsimp only
  have wz1 := wz1.mono hx
  obtain ⟨z4, ez4, h⟩ := bnd h
  refine rb_call (ρc := 0) (s_X9_init hS wz3 ez4) ?_
  intro ad Cn bz4 H hS hx wz4
  dsimp only
  obtain rfl : bz4 = z4.1 := wz4
  have wz1 := wz1.mono hx
  have wz3 := wz3.mono hx
  exact slL_law_18 6000 _ _ _ _ 0  hS wz1 wz3 h
/-- nothing is there -/
def G00 : GS := (fun _ _ _ => 0, fun _ _ => 0, fun _ => 0, 0, 0)
theorem sim0 : SimA (fun _ _ => 0) (fun _ => 0) [] G00 := ⟨rfl, rfl, rfl, fun r i h => absurd h (Nat.not_lt_zero i), fun r i r' i' h => absurd h (Nat.not_lt_zero i), fun r i k ρ h => absurd h (Nat.not_lt_zero i)⟩
/-- what is left to show, over states by roles -/
def RoleLaw : Prop := ∀ X : List Int, X.length ≤ 3584 → (∀ x ∈ X, -2147483648 ≤ x ∧ x ≤ 2147483647) → ∃ G, g_L_law X G00 = some (1, G)
theorem pure_of_role (h : RoleLaw) : PureLaw := by
  intro X hl hx
  obtain ⟨G, hG⟩ := h X hl hx
  obtain ⟨ad, Cn, r, H, h1, -, -, h4⟩ := s_L_law sim0 hG
  obtain rfl : r = 1 := h4
  exact ⟨H, h1⟩
