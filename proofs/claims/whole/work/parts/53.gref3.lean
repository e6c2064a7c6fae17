/-! HouseholdVaultModel.shown(I)I by roles -/
def gjX9_shown_180 (self150 : Int → Int → GS → GO) (p0 p4 s0 s1 : Int) (G : GS) : GO :=
  self150 (w32 (s0 + s1)) (w32 (p4 + 1)) G
set_option maxHeartbeats 4000000 in
theorem sjX9_shown_180 {ad : Nat → Nat → Nat} {Cn : Nat → Nat} {H : PH} {G G' : GS} {rr : Int} {fself150 : Int → Int → PH → RO} {self150 : Int → Int → GS → GO} {p0 p4 s0 s1 b0 : Int} (ih150 : ∀ (ad : Nat → Nat → Nat) (Cn : Nat → Nat) (H : PH) (G : GS) (v3 v4 : Int) , SimA ad Cn H G → vrel ad Cn 100 b0 p0 → self150 v3 v4 G = some (rr, G') → RS ad Cn (fself150 v3 v4 H) 0 rr G') (hS : SimA ad Cn H G) (w0 : vrel ad Cn 100 b0 p0) (h : gjX9_shown_180 self150 p0 p4 s0 s1 G = some (rr, G')) : RS ad Cn (jX9_shown_180 fself150 b0 p4 s0 s1 H) 0 rr G' := by
  unfold gjX9_shown_180 at h
  unfold jX9_shown_180
  exact ih150 _ _ _ _ (w32 (s0 + s1)) (w32 (p4 + 1))  hS w0  h
def glX9_shown_150 (p0 : Int) (self150 : Int → Int → GS → GO) (p3 p4 : Int) (G : GS) : GO :=
  (gl 100 G p0 37).bind fun x1 => (gl 100 G p0 38).bind fun x2 => (if p4 ≥ (w32 (x1 * x2)) then some (p3, G)
  else (gl 100 G p0 42).bind fun x3 => (gl 142 G x3 p4).bind fun x4 => (if x4 = 0 then gjX9_shown_180 self150 p0 p4 p3 0 G
  else gjX9_shown_180 self150 p0 p4 p3 1 G))
set_option maxHeartbeats 4000000 in
theorem slX9_shown_150 {G' : GS} {rr : Int} {p0 b0 : Int} : ∀ (n : Nat) (ad : Nat → Nat → Nat) (Cn : Nat → Nat) (H : PH) (G : GS) (p3 p4 : Int) , SimA ad Cn H G → vrel ad Cn 100 b0 p0 → lh2 (glX9_shown_150 p0) n p3 p4 G = some (rr, G') → RS ad Cn (lq2 (lX9_shown_150 b0) n p3 p4 H) 0 rr G' := by
  intro n
  induction n with
  | zero => intro ad Cn H G p3 p4 hS w0 h; cases h
  | succ n ih150 =>
    intro ad Cn H G p3 p4 hS w0 h
    rw [lh2_s] at h
    rw [lq2_s]
    generalize lh2 (glX9_shown_150 p0) n = self150 at ih150 h
    generalize lq2 (lX9_shown_150 b0) n = fself150 at ih150 ⊢
    unfold glX9_shown_150 at h
    unfold lX9_shown_150
    obtain ⟨x1, ex1, h⟩ := bnd h
    refine rb_ld 100 hS w0 ex1 rfl rfl ?_
    obtain ⟨x2, ex2, h⟩ := bnd h
    refine rb_ld 100 hS w0 ex2 rfl rfl ?_
    by_cases hc161 : p4 ≥ (w32 (x1 * x2))
    · have h := iteT hc161 h
      refine rif_t hc161 ?_
      cases h
      exact rret hS rfl
    · have h := iteF hc161 h
      refine rif_f hc161 ?_
      obtain ⟨x3, ex3, h⟩ := bnd h
      refine rb_ldr 100 142 hS w0 ex3 rfl rfl ?_
      intro bx3 wx3
      obtain ⟨x4, ex4, h⟩ := bnd h
      refine rb_ld 142 hS wx3 ex4 rfl rfl ?_
      by_cases hc172 : x4 = 0
      · have h := iteT hc172 h
        refine rif_t hc172 ?_
        exact sjX9_shown_180 ih150 hS w0 h
      · have h := iteF hc172 h
        refine rif_f hc172 ?_
        exact sjX9_shown_180 ih150 hS w0 h
def gjX9_shown_141 (self77 : Int → GS → GO) (p0 s0 : Int) (G : GS) : GO :=
  self77 s0 G
set_option maxHeartbeats 4000000 in
theorem sjX9_shown_141 {ad : Nat → Nat → Nat} {Cn : Nat → Nat} {H : PH} {G G' : GS} {rr : Int} {fself77 : Int → PH → RO} {self77 : Int → GS → GO} {p0 s0 b0 : Int} (ih77 : ∀ (ad : Nat → Nat → Nat) (Cn : Nat → Nat) (H : PH) (G : GS) (v2 : Int) , SimA ad Cn H G → vrel ad Cn 100 b0 p0 → self77 v2 G = some (rr, G') → RS ad Cn (fself77 v2 H) 0 rr G') (hS : SimA ad Cn H G) (w0 : vrel ad Cn 100 b0 p0) (h : gjX9_shown_141 self77 p0 s0 G = some (rr, G')) : RS ad Cn (jX9_shown_141 fself77 b0 s0 H) 0 rr G' := by
  unfold gjX9_shown_141 at h
  unfold jX9_shown_141
  exact ih77 _ _ _ _ s0  hS w0  h
def gjX9_shown_129 (self77 : Int → GS → GO) (p0 p3 : Int) (G : GS) : GO :=
  (if p3 ≥ 0 then (g_X9_firstFollowing p0 G).bind fun z1 => gjX9_shown_141 self77 p0 z1.1 z1.2
  else gjX9_shown_141 self77 p0 (-1) G)
set_option maxHeartbeats 4000000 in
theorem sjX9_shown_129 {ad : Nat → Nat → Nat} {Cn : Nat → Nat} {H : PH} {G G' : GS} {rr : Int} {fself77 : Int → PH → RO} {self77 : Int → GS → GO} {p0 p3 b0 : Int} (ih77 : ∀ (ad : Nat → Nat → Nat) (Cn : Nat → Nat) (H : PH) (G : GS) (v2 : Int) , SimA ad Cn H G → vrel ad Cn 100 b0 p0 → self77 v2 G = some (rr, G') → RS ad Cn (fself77 v2 H) 0 rr G') (hS : SimA ad Cn H G) (w0 : vrel ad Cn 100 b0 p0) (h : gjX9_shown_129 self77 p0 p3 G = some (rr, G')) : RS ad Cn (jX9_shown_129 fself77 b0 p3 H) 0 rr G' := by
  unfold gjX9_shown_129 at h
  unfold jX9_shown_129
  by_cases hc130 : p3 ≥ 0
  · have h := iteT hc130 h
    refine rif_t hc130 ?_
    obtain ⟨z1, ez1, h⟩ := bnd h
    refine rb_call (ρc := 0) (s_X9_firstFollowing hS w0 ez1) ?_
    intro ad Cn bz1 H hS hx wz1
    dsimp only
    obtain rfl : bz1 = z1.1 := wz1
    have w0 := w0.mono hx
    exact sjX9_shown_141 ih77 hS w0 h
  · have h := iteF hc130 h
    refine rif_f hc130 ?_
    exact sjX9_shown_141 ih77 hS w0 h
def gjX9_shown_117 (self77 : Int → GS → GO) (p0 s0 : Int) (G : GS) : GO :=
  (if s0 < 0 then gjX9_shown_129 self77 p0 s0 G
  else (gl 100 G p0 42).bind fun x1 => (gsz 142 G x1 s0 1).bind fun G2 => gjX9_shown_129 self77 p0 s0 G2)
set_option maxHeartbeats 4000000 in
theorem sjX9_shown_117 {ad : Nat → Nat → Nat} {Cn : Nat → Nat} {H : PH} {G G' : GS} {rr : Int} {fself77 : Int → PH → RO} {self77 : Int → GS → GO} {p0 s0 b0 : Int} (ih77 : ∀ (ad : Nat → Nat → Nat) (Cn : Nat → Nat) (H : PH) (G : GS) (v2 : Int) , SimA ad Cn H G → vrel ad Cn 100 b0 p0 → self77 v2 G = some (rr, G') → RS ad Cn (fself77 v2 H) 0 rr G') (hS : SimA ad Cn H G) (w0 : vrel ad Cn 100 b0 p0) (h : gjX9_shown_117 self77 p0 s0 G = some (rr, G')) : RS ad Cn (jX9_shown_117 fself77 b0 s0 H) 0 rr G' := by
  unfold gjX9_shown_117 at h
  unfold jX9_shown_117
  by_cases hc119 : s0 < 0
  · have h := iteT hc119 h
    refine rif_t hc119 ?_
    exact sjX9_shown_129 ih77 hS w0 h
  · have h := iteF hc119 h
    refine rif_f hc119 ?_
    obtain ⟨x1, ex1, h⟩ := bnd h
    refine rb_ldr 100 142 hS w0 ex1 rfl rfl ?_
    intro bx1 wx1
    obtain ⟨G2, eG2, h⟩ := bnd h
    refine rb_stz 142 hS wx1 rfl eG2 rfl ?_
    intro H hS
    exact sjX9_shown_129 ih77 hS w0 h
def gjX9_shown_102 (self77 : Int → GS → GO) (p0 p2 s0 : Int) (G : GS) : GO :=
  (if s0 ≥ 0 then gjX9_shown_117 self77 p0 s0 G
  else (g_X9_leastOf p0 2 p2 G).bind fun z1 => gjX9_shown_117 self77 p0 z1.1 z1.2)
set_option maxHeartbeats 4000000 in
theorem sjX9_shown_102 {ad : Nat → Nat → Nat} {Cn : Nat → Nat} {H : PH} {G G' : GS} {rr : Int} {fself77 : Int → PH → RO} {self77 : Int → GS → GO} {p0 p2 s0 b0 : Int} (ih77 : ∀ (ad : Nat → Nat → Nat) (Cn : Nat → Nat) (H : PH) (G : GS) (v2 : Int) , SimA ad Cn H G → vrel ad Cn 100 b0 p0 → self77 v2 G = some (rr, G') → RS ad Cn (fself77 v2 H) 0 rr G') (hS : SimA ad Cn H G) (w0 : vrel ad Cn 100 b0 p0) (h : gjX9_shown_102 self77 p0 p2 s0 G = some (rr, G')) : RS ad Cn (jX9_shown_102 fself77 b0 p2 s0 H) 0 rr G' := by
  unfold gjX9_shown_102 at h
  unfold jX9_shown_102
  by_cases hc104 : s0 ≥ 0
  · have h := iteT hc104 h
    refine rif_t hc104 ?_
    exact sjX9_shown_117 ih77 hS w0 h
  · have h := iteF hc104 h
    refine rif_f hc104 ?_
    obtain ⟨z1, ez1, h⟩ := bnd h
    refine rb_call (ρc := 0) (s_X9_leastOf hS w0 ez1) ?_
    intro ad Cn bz1 H hS hx wz1
    dsimp only
    obtain rfl : bz1 = z1.1 := wz1
    have w0 := w0.mono hx
    exact sjX9_shown_117 ih77 hS w0 h
def glX9_shown_77 (p0 : Int) (self77 : Int → GS → GO) (p2 : Int) (G : GS) : GO :=
  (if p2 < 0 then lh2 (glX9_shown_150 p0) 6000 0 0 G
  else (g_X9_leastOf p0 0 p2 G).bind fun z1 => (if z1.1 ≥ 0 then gjX9_shown_102 self77 p0 p2 z1.1 z1.2
  else (g_X9_leastOf p0 1 p2 z1.2).bind fun z2 => gjX9_shown_102 self77 p0 p2 z2.1 z2.2))
set_option maxHeartbeats 4000000 in
theorem slX9_shown_77 {G' : GS} {rr : Int} {p0 b0 : Int} : ∀ (n : Nat) (ad : Nat → Nat → Nat) (Cn : Nat → Nat) (H : PH) (G : GS) (p2 : Int) , SimA ad Cn H G → vrel ad Cn 100 b0 p0 → lh1 (glX9_shown_77 p0) n p2 G = some (rr, G') → RS ad Cn (lq1 (lX9_shown_77 b0) n p2 H) 0 rr G' := by
  intro n
  induction n with
  | zero => intro ad Cn H G p2 hS w0 h; cases h
  | succ n ih77 =>
    intro ad Cn H G p2 hS w0 h
    rw [lh1_s] at h
    rw [lq1_s]
    generalize lh1 (glX9_shown_77 p0) n = self77 at ih77 h
    generalize lq1 (lX9_shown_77 b0) n = fself77 at ih77 ⊢
    unfold glX9_shown_77 at h
    unfold lX9_shown_77
    by_cases hc78 : p2 < 0
    · have h := iteT hc78 h
      refine rif_t hc78 ?_
      exact slX9_shown_150 6000 _ _ _ _ 0 0  hS w0 h
    · have h := iteF hc78 h
      refine rif_f hc78 ?_
      obtain ⟨z1, ez1, h⟩ := bnd h
      refine rb_call (ρc := 0) (s_X9_leastOf hS w0 ez1) ?_
      intro ad Cn bz1 H hS hx wz1
      dsimp only
      obtain rfl : bz1 = z1.1 := wz1
      have w0 := w0.mono hx
      by_cases hc89 : z1.1 ≥ 0
      · have h := iteT hc89 h
        refine rif_t hc89 ?_
        exact sjX9_shown_102 ih77 hS w0 h
      · have h := iteF hc89 h
        refine rif_f hc89 ?_
        obtain ⟨z2, ez2, h⟩ := bnd h
        refine rb_call (ρc := 0) (s_X9_leastOf hS w0 ez2) ?_
        intro ad Cn bz2 H hS hx wz2
        dsimp only
        obtain rfl : bz2 = z2.1 := wz2
        have w0 := w0.mono hx
        exact sjX9_shown_102 ih77 hS w0 h
def gjX9_shown_65 (self23 : Int → GS → GO) (p0 p1 p2 s0 s1 s2 : Int) (G : GS) : GO :=
  (gsz 142 G s0 s1 s2).bind fun G1 => self23 (w32 (p2 + 1)) G1
set_option maxHeartbeats 4000000 in
theorem sjX9_shown_65 {ad : Nat → Nat → Nat} {Cn : Nat → Nat} {H : PH} {G G' : GS} {rr : Int} {fself23 : Int → PH → RO} {self23 : Int → GS → GO} {p0 p1 p2 s0 s1 s2 b0 bs0 : Int} (ih23 : ∀ (ad : Nat → Nat → Nat) (Cn : Nat → Nat) (H : PH) (G : GS) (v2 : Int) , SimA ad Cn H G → vrel ad Cn 100 b0 p0 → self23 v2 G = some (rr, G') → RS ad Cn (fself23 v2 H) 0 rr G') (hS : SimA ad Cn H G) (w0 : vrel ad Cn 100 b0 p0) (ws0 : vrel ad Cn 142 bs0 s0) (h : gjX9_shown_65 self23 p0 p1 p2 s0 s1 s2 G = some (rr, G')) : RS ad Cn (jX9_shown_65 fself23 b0 p1 p2 bs0 s1 s2 H) 0 rr G' := by
  unfold gjX9_shown_65 at h
  unfold jX9_shown_65
  obtain ⟨G1, eG1, h⟩ := bnd h
  refine rb_stz 142 hS ws0 rfl eG1 rfl ?_
  intro H hS
  exact ih23 _ _ _ _ (w32 (p2 + 1))  hS w0  h
def gjX9_shown_64 (self23 : Int → GS → GO) (p0 p1 p2 s0 s1 : Int) (G : GS) : GO :=
  gjX9_shown_65 self23 p0 p1 p2 s0 s1 0 G
set_option maxHeartbeats 4000000 in
theorem sjX9_shown_64 {ad : Nat → Nat → Nat} {Cn : Nat → Nat} {H : PH} {G G' : GS} {rr : Int} {fself23 : Int → PH → RO} {self23 : Int → GS → GO} {p0 p1 p2 s0 s1 b0 bs0 : Int} (ih23 : ∀ (ad : Nat → Nat → Nat) (Cn : Nat → Nat) (H : PH) (G : GS) (v2 : Int) , SimA ad Cn H G → vrel ad Cn 100 b0 p0 → self23 v2 G = some (rr, G') → RS ad Cn (fself23 v2 H) 0 rr G') (hS : SimA ad Cn H G) (w0 : vrel ad Cn 100 b0 p0) (ws0 : vrel ad Cn 142 bs0 s0) (h : gjX9_shown_64 self23 p0 p1 p2 s0 s1 G = some (rr, G')) : RS ad Cn (jX9_shown_64 fself23 b0 p1 p2 bs0 s1 H) 0 rr G' := by
  unfold gjX9_shown_64 at h
  unfold jX9_shown_64
  exact sjX9_shown_65 ih23 hS w0 ws0 h
def glX9_shown_23 (p0 p1 : Int) (self23 : Int → GS → GO) (p2 : Int) (G : GS) : GO :=
  (gl 100 G p0 37).bind fun x1 => (gl 100 G p0 38).bind fun x2 => (if p2 ≥ (w32 (x1 * x2)) then (g_X9_firstFollowing p0 G).bind fun z3 => lh1 (glX9_shown_77 p0) 6000 z3.1 z3.2
  else (gl 100 G p0 42).bind fun x4 => (gl 100 G p0 39).bind fun x5 => (gl 139 G x5 p2).bind fun x6 => (if x6 ≤ 0 then gjX9_shown_64 self23 p0 p1 p2 x4 p2 G
  else (gl 100 G p0 39).bind fun x7 => (gl 139 G x7 p2).bind fun x8 => (if x8 ≥ p1 then gjX9_shown_64 self23 p0 p1 p2 x4 p2 G
  else gjX9_shown_65 self23 p0 p1 p2 x4 p2 1 G)))
set_option maxHeartbeats 4000000 in
theorem slX9_shown_23 {G' : GS} {rr : Int} {p0 p1 b0 : Int} : ∀ (n : Nat) (ad : Nat → Nat → Nat) (Cn : Nat → Nat) (H : PH) (G : GS) (p2 : Int) , SimA ad Cn H G → vrel ad Cn 100 b0 p0 → lh1 (glX9_shown_23 p0 p1) n p2 G = some (rr, G') → RS ad Cn (lq1 (lX9_shown_23 b0 p1) n p2 H) 0 rr G' := by
  intro n
  induction n with
  | zero => intro ad Cn H G p2 hS w0 h; cases h
  | succ n ih23 =>
    intro ad Cn H G p2 hS w0 h
    rw [lh1_s] at h
    rw [lq1_s]
    generalize lh1 (glX9_shown_23 p0 p1) n = self23 at ih23 h
    generalize lq1 (lX9_shown_23 b0 p1) n = fself23 at ih23 ⊢
    unfold glX9_shown_23 at h
    unfold lX9_shown_23
    obtain ⟨x1, ex1, h⟩ := bnd h
    refine rb_ld 100 hS w0 ex1 rfl rfl ?_
    obtain ⟨x2, ex2, h⟩ := bnd h
    refine rb_ld 100 hS w0 ex2 rfl rfl ?_
    by_cases hc33 : p2 ≥ (w32 (x1 * x2))
    · have h := iteT hc33 h
      refine rif_t hc33 ?_
      obtain ⟨z3, ez3, h⟩ := bnd h
      refine rb_call (ρc := 0) (s_X9_firstFollowing hS w0 ez3) ?_
      intro ad Cn bz3 H hS hx wz3
      dsimp only
      obtain rfl : bz3 = z3.1 := wz3
      have w0 := w0.mono hx
      exact slX9_shown_77 6000 _ _ _ _ z3.1  hS w0 h
    · have h := iteF hc33 h
      refine rif_f hc33 ?_
      obtain ⟨x4, ex4, h⟩ := bnd h
      refine rb_ldr 100 142 hS w0 ex4 rfl rfl ?_
      intro bx4 wx4
      obtain ⟨x5, ex5, h⟩ := bnd h
      refine rb_ldr 100 139 hS w0 ex5 rfl rfl ?_
      intro bx5 wx5
      obtain ⟨x6, ex6, h⟩ := bnd h
      refine rb_ld 139 hS wx5 ex6 rfl rfl ?_
      by_cases hc47 : x6 ≤ 0
      · have h := iteT hc47 h
        refine rif_t hc47 ?_
        exact sjX9_shown_64 ih23 hS w0 wx4 h
      · have h := iteF hc47 h
        refine rif_f hc47 ?_
        obtain ⟨x7, ex7, h⟩ := bnd h
        refine rb_ldr 100 139 hS w0 ex7 rfl rfl ?_
        intro bx7 wx7
        obtain ⟨x8, ex8, h⟩ := bnd h
        refine rb_ld 139 hS wx7 ex8 rfl rfl ?_
        by_cases hc57 : x8 ≥ p1
        · have h := iteT hc57 h
          refine rif_t hc57 ?_
          exact sjX9_shown_64 ih23 hS w0 wx4 h
        · have h := iteF hc57 h
          refine rif_f hc57 ?_
          exact sjX9_shown_65 ih23 hS w0 wx4 h
def g_X9_shown (a0 a1 : Int) (G : GS) : GO := gvm a0 <|
  (gl 100 G a0 35).bind fun x1 => (if x1 = 0 then some ((-1), G)
  else (g_X9_in a1 1 1000 G).bind fun z2 => (if z2.1 ≠ 0 then lh1 (glX9_shown_23 a0 a1) 6000 0 z2.2
  else some ((-1), z2.2)))
set_option maxHeartbeats 4000000 in
theorem s_X9_shown {ad : Nat → Nat → Nat} {Cn : Nat → Nat} {H : PH} {G G' : GS} {rr : Int} {a0 a1 b0 : Int} (hS : SimA ad Cn H G) (w0 : vrel ad Cn 100 b0 a0) (h : g_X9_shown a0 a1 G = some (rr, G')) : RS ad Cn (f_X9_shown b0 a1 H) 0 rr G' := by
  unfold g_X9_shown at h
  unfold f_X9_shown
  obtain ⟨hv, h⟩ := gvm_spec h
  refine rb_vm 100 9 hS w0 hv rfl ?_
  obtain ⟨x1, ex1, h⟩ := bnd h
  refine rb_ld 100 hS w0 ex1 rfl rfl ?_
  by_cases hc4 : x1 = 0
  · have h := iteT hc4 h
    refine rif_t hc4 ?_
    cases h
    exact rret hS rfl
  · have h := iteF hc4 h
    refine rif_f hc4 ?_
    obtain ⟨z2, ez2, h⟩ := bnd h
    refine rb_call (ρc := 0) (s_X9_in hS ez2) ?_
    intro ad Cn bz2 H hS hx wz2
    dsimp only
    obtain rfl : bz2 = z2.1 := wz2
    have w0 := w0.mono hx
    by_cases hc16 : z2.1 ≠ 0
    · have h := iteT hc16 h
      refine rif_t hc16 ?_
      exact slX9_shown_23 6000 _ _ _ _ 0  hS w0 h
    · have h := iteF hc16 h
      refine rif_f hc16 ?_
      cases h
      exact rret hS rfl
/-! HouseholdVaultModel.follows()I by roles -/
def g_X9_follows (a0 : Int) (G : GS) : GO := gvm a0 <|
  (gl 100 G a0 35).bind fun x1 => (if x1 = 0 then some ((-1), G)
  else (g_X9_firstFollowing a0 G).bind fun z2 => some ((w32 (z2.1 + 1)), z2.2))
set_option maxHeartbeats 4000000 in
theorem s_X9_follows {ad : Nat → Nat → Nat} {Cn : Nat → Nat} {H : PH} {G G' : GS} {rr : Int} {a0 b0 : Int} (hS : SimA ad Cn H G) (w0 : vrel ad Cn 100 b0 a0) (h : g_X9_follows a0 G = some (rr, G')) : RS ad Cn (f_X9_follows b0 H) 0 rr G' := by
  unfold g_X9_follows at h
  unfold f_X9_follows
  obtain ⟨hv, h⟩ := gvm_spec h
  refine rb_vm 100 9 hS w0 hv rfl ?_
  obtain ⟨x1, ex1, h⟩ := bnd h
  refine rb_ld 100 hS w0 ex1 rfl rfl ?_
  by_cases hc4 : x1 = 0
  · have h := iteT hc4 h
    refine rif_t hc4 ?_
    cases h
    exact rret hS rfl
  · have h := iteF hc4 h
    refine rif_f hc4 ?_
    obtain ⟨z2, ez2, h⟩ := bnd h
    refine rb_call (ρc := 0) (s_X9_firstFollowing hS w0 ez2) ?_
    intro ad Cn bz2 H hS hx wz2
    dsimp only
    obtain rfl : bz2 = z2.1 := wz2
    have w0 := w0.mono hx
    cases h
    exact rret hS rfl
/-! HouseholdVaultModel.rank(II)I by roles -/
def gjX9_rank_181 (self42 : Int → GS → GO) (p0 p1 p2 p3 p6 : Int) (G : GS) : GO :=
  (gl 100 G p0 52).bind fun x1 => (gs 152 G x1 p6 p3).bind fun G2 => self42 (w32 (p3 + 1)) G2
set_option maxHeartbeats 4000000 in
theorem sjX9_rank_181 {ad : Nat → Nat → Nat} {Cn : Nat → Nat} {H : PH} {G G' : GS} {rr : Int} {fself42 : Int → PH → RO} {self42 : Int → GS → GO} {p0 p1 p2 p3 p6 b0 : Int} (ih42 : ∀ (ad : Nat → Nat → Nat) (Cn : Nat → Nat) (H : PH) (G : GS) (v3 : Int) , SimA ad Cn H G → vrel ad Cn 100 b0 p0 → self42 v3 G = some (rr, G') → RS ad Cn (fself42 v3 H) 0 rr G') (hS : SimA ad Cn H G) (w0 : vrel ad Cn 100 b0 p0) (h : gjX9_rank_181 self42 p0 p1 p2 p3 p6 G = some (rr, G')) : RS ad Cn (jX9_rank_181 fself42 b0 p1 p2 p3 p6 H) 0 rr G' := by
  unfold gjX9_rank_181 at h
  unfold jX9_rank_181
  obtain ⟨x1, ex1, h⟩ := bnd h
  refine rb_ldr 100 152 hS w0 ex1 rfl rfl ?_
  intro bx1 wx1
  obtain ⟨G2, eG2, h⟩ := bnd h
  refine rb_st 152 hS wx1 (show rrel _ _ 0 _ _ from rfl) eG2 rfl ?_
  intro H hS
  exact ih42 _ _ _ _ (w32 (p3 + 1))  hS w0  h
def glX9_rank_130 (self42 : Int → GS → GO) (p0 p1 p2 p3 : Int) (self130 : Int → GS → GO) (p6 : Int) (G : GS) : GO :=
  (if p6 ≤ 0 then gjX9_rank_181 self42 p0 p1 p2 p3 p6 G
  else (gl 100 G p0 51).bind fun x1 => (gl 100 G p0 52).bind fun x2 => (gl 152 G x2 (w32 (p6 - 1))).bind fun x3 => (gl 151 G x1 x3).bind fun x4 => (gl 100 G p0 51).bind fun x5 => (gl 151 G x5 p3).bind fun x6 => (if (lc x4 x6) ≤ 0 then gjX9_rank_181 self42 p0 p1 p2 p3 p6 G
  else (gl 100 G p0 52).bind fun x7 => (gl 100 G p0 52).bind fun x8 => (gl 152 G x8 (w32 (p6 - 1))).bind fun x9 => (gs 152 G x7 p6 x9).bind fun G10 => self130 (w32 (p6 + (-1))) G10))
set_option maxHeartbeats 4000000 in
theorem slX9_rank_130 {G' : GS} {rr : Int} {fself42 : Int → PH → RO} {self42 : Int → GS → GO} {p0 p1 p2 p3 b0 : Int} (ih42 : ∀ (ad : Nat → Nat → Nat) (Cn : Nat → Nat) (H : PH) (G : GS) (v3 : Int) , SimA ad Cn H G → vrel ad Cn 100 b0 p0 → self42 v3 G = some (rr, G') → RS ad Cn (fself42 v3 H) 0 rr G') : ∀ (n : Nat) (ad : Nat → Nat → Nat) (Cn : Nat → Nat) (H : PH) (G : GS) (p6 : Int) , SimA ad Cn H G → vrel ad Cn 100 b0 p0 → lh1 (glX9_rank_130 self42 p0 p1 p2 p3) n p6 G = some (rr, G') → RS ad Cn (lq1 (lX9_rank_130 fself42 b0 p1 p2 p3) n p6 H) 0 rr G' := by
  intro n
  induction n with
  | zero => intro ad Cn H G p6 hS w0 h; cases h
  | succ n ih130 =>
    intro ad Cn H G p6 hS w0 h
    rw [lh1_s] at h
    rw [lq1_s]
    generalize lh1 (glX9_rank_130 self42 p0 p1 p2 p3) n = self130 at ih130 h
    generalize lq1 (lX9_rank_130 fself42 b0 p1 p2 p3) n = fself130 at ih130 ⊢
    unfold glX9_rank_130 at h
    unfold lX9_rank_130
    by_cases hc132 : p6 ≤ 0
    · have h := iteT hc132 h
      refine rif_t hc132 ?_
      exact sjX9_rank_181 ih42 hS w0 h
    · have h := iteF hc132 h
      refine rif_f hc132 ?_
      obtain ⟨x1, ex1, h⟩ := bnd h
      refine rb_ldr 100 151 hS w0 ex1 rfl rfl ?_
      intro bx1 wx1
      obtain ⟨x2, ex2, h⟩ := bnd h
      refine rb_ldr 100 152 hS w0 ex2 rfl rfl ?_
      intro bx2 wx2
      obtain ⟨x3, ex3, h⟩ := bnd h
      refine rb_ld 152 hS wx2 ex3 rfl rfl ?_
      obtain ⟨x4, ex4, h⟩ := bnd h
      refine rb_ld 151 hS wx1 ex4 rfl rfl ?_
      obtain ⟨x5, ex5, h⟩ := bnd h
      refine rb_ldr 100 151 hS w0 ex5 rfl rfl ?_
      intro bx5 wx5
      obtain ⟨x6, ex6, h⟩ := bnd h
      refine rb_ld 151 hS wx5 ex6 rfl rfl ?_
      by_cases hc156 : (lc x4 x6) ≤ 0
      · have h := iteT hc156 h
        refine rif_t hc156 ?_
        exact sjX9_rank_181 ih42 hS w0 h
      · have h := iteF hc156 h
        refine rif_f hc156 ?_
        obtain ⟨x7, ex7, h⟩ := bnd h
        refine rb_ldr 100 152 hS w0 ex7 rfl rfl ?_
        intro bx7 wx7
        obtain ⟨x8, ex8, h⟩ := bnd h
        refine rb_ldr 100 152 hS w0 ex8 rfl rfl ?_
        intro bx8 wx8
        obtain ⟨x9, ex9, h⟩ := bnd h
        refine rb_ld 152 hS wx8 ex9 rfl rfl ?_
        obtain ⟨G10, eG10, h⟩ := bnd h
        refine rb_st 152 hS wx7 (show rrel _ _ 0 _ _ from rfl) eG10 rfl ?_
        intro H hS
        exact ih130 _ _ _ _ (w32 (p6 + (-1)))  hS w0  h
def gjX9_rank_126 (self42 : Int → GS → GO) (p0 p1 p2 p3 s0 s1 s2 : Int) (G : GS) : GO :=
  (gs 151 G s0 s1 s2).bind fun G1 => lh1 (glX9_rank_130 self42 p0 p1 p2 p3) 6000 p3 G1
set_option maxHeartbeats 4000000 in
theorem sjX9_rank_126 {ad : Nat → Nat → Nat} {Cn : Nat → Nat} {H : PH} {G G' : GS} {rr : Int} {fself42 : Int → PH → RO} {self42 : Int → GS → GO} {p0 p1 p2 p3 s0 s1 s2 b0 bs0 : Int} (ih42 : ∀ (ad : Nat → Nat → Nat) (Cn : Nat → Nat) (H : PH) (G : GS) (v3 : Int) , SimA ad Cn H G → vrel ad Cn 100 b0 p0 → self42 v3 G = some (rr, G') → RS ad Cn (fself42 v3 H) 0 rr G') (hS : SimA ad Cn H G) (w0 : vrel ad Cn 100 b0 p0) (ws0 : vrel ad Cn 151 bs0 s0) (h : gjX9_rank_126 self42 p0 p1 p2 p3 s0 s1 s2 G = some (rr, G')) : RS ad Cn (jX9_rank_126 fself42 b0 p1 p2 p3 bs0 s1 s2 H) 0 rr G' := by
  unfold gjX9_rank_126 at h
  unfold jX9_rank_126
  obtain ⟨G1, eG1, h⟩ := bnd h
  refine rb_st 151 hS ws0 (show rrel _ _ 0 _ _ from rfl) eG1 rfl ?_
  intro H hS
  exact slX9_rank_130 ih42 6000 _ _ _ _ p3  hS w0 h
def gjX9_rank_76 (self42 : Int → GS → GO) (p0 p1 p2 p3 p4 s0 : Int) (G : GS) : GO :=
  (gl 100 G p0 51).bind fun x1 => (if s0 = 0 then (gl 100 G p0 1).bind fun x2 => (gl 101 G x2 p1).bind fun x3 => (if x3 ≠ 0 then (gl 100 G p0 43).bind fun x4 => (gl 143 G x4 p4).bind fun x5 => gjX9_rank_126 self42 p0 p1 p2 p3 x1 p3 x5 G
  else (gl 100 G p0 43).bind fun x6 => (gl 143 G x6 p4).bind fun x7 => (g_X9_codeNumber p0 p1 x7 G).bind fun z8 => gjX9_rank_126 self42 p0 p1 p2 p3 x1 p3 z8.1 z8.2)
  else gjX9_rank_126 self42 p0 p1 p2 p3 x1 p3 9223372036854775807 G)
set_option maxHeartbeats 4000000 in
theorem sjX9_rank_76 {ad : Nat → Nat → Nat} {Cn : Nat → Nat} {H : PH} {G G' : GS} {rr : Int} {fself42 : Int → PH → RO} {self42 : Int → GS → GO} {p0 p1 p2 p3 p4 s0 b0 : Int} (ih42 : ∀ (ad : Nat → Nat → Nat) (Cn : Nat → Nat) (H : PH) (G : GS) (v3 : Int) , SimA ad Cn H G → vrel ad Cn 100 b0 p0 → self42 v3 G = some (rr, G') → RS ad Cn (fself42 v3 H) 0 rr G') (hS : SimA ad Cn H G) (w0 : vrel ad Cn 100 b0 p0) (h : gjX9_rank_76 self42 p0 p1 p2 p3 p4 s0 G = some (rr, G')) : RS ad Cn (jX9_rank_76 fself42 b0 p1 p2 p3 p4 s0 H) 0 rr G' := by
  unfold gjX9_rank_76 at h
  unfold jX9_rank_76
  obtain ⟨x1, ex1, h⟩ := bnd h
  refine rb_ldr 100 151 hS w0 ex1 rfl rfl ?_
  intro bx1 wx1
  by_cases hc85 : s0 = 0
  · have h := iteT hc85 h
    refine rif_t hc85 ?_
    obtain ⟨x2, ex2, h⟩ := bnd h
    refine rb_ldr 100 101 hS w0 ex2 rfl rfl ?_
    intro bx2 wx2
    obtain ⟨x3, ex3, h⟩ := bnd h
    refine rb_ld 101 hS wx2 ex3 rfl rfl ?_
    by_cases hc100 : x3 ≠ 0
    · have h := iteT hc100 h
      refine rif_t hc100 ?_
      obtain ⟨x4, ex4, h⟩ := bnd h
      refine rb_ldr 100 143 hS w0 ex4 rfl rfl ?_
      intro bx4 wx4
      obtain ⟨x5, ex5, h⟩ := bnd h
      refine rb_ld 143 hS wx4 ex5 rfl rfl ?_
      exact sjX9_rank_126 ih42 hS w0 wx1 h
    · have h := iteF hc100 h
      refine rif_f hc100 ?_
      obtain ⟨x6, ex6, h⟩ := bnd h
      refine rb_ldr 100 143 hS w0 ex6 rfl rfl ?_
      intro bx6 wx6
      obtain ⟨x7, ex7, h⟩ := bnd h
      refine rb_ld 143 hS wx6 ex7 rfl rfl ?_
      obtain ⟨z8, ez8, h⟩ := bnd h
      refine rb_call (ρc := 0) (s_X9_codeNumber hS w0 ez8) ?_
      intro ad Cn bz8 H hS hx wz8
      dsimp only
      obtain rfl : bz8 = z8.1 := wz8
      have w0 := w0.mono hx
      have wx1 := wx1.mono hx
      exact sjX9_rank_126 ih42 hS w0 wx1 h
  · have h := iteF hc85 h
    refine rif_f hc85 ?_
    exact sjX9_rank_126 ih42 hS w0 wx1 h
def glX9_rank_42 (p0 p1 p2 : Int) (self42 : Int → GS → GO) (p3 : Int) (G : GS) : GO :=
  (gl 100 G p0 14).bind fun x1 => (if p3 ≥ x1 then (gl 100 G p0 52).bind fun x2 => (gl 152 G x2 p2).bind fun x3 => some (x3, G)
  else (g_X9_workOut p0 p3 G).bind fun z4 => (gl 100 z4.2 p0 44).bind fun x5 => (gl 144 z4.2 x5 (w32 (6 * p1))).bind fun x6 => (if x6 ≤ 0 then gjX9_rank_76 self42 p0 p1 p2 p3 (w32 (6 * p1)) 0 z4.2
  else gjX9_rank_76 self42 p0 p1 p2 p3 (w32 (6 * p1)) 1 z4.2))
set_option maxHeartbeats 4000000 in
theorem slX9_rank_42 {G' : GS} {rr : Int} {p0 p1 p2 b0 : Int} : ∀ (n : Nat) (ad : Nat → Nat → Nat) (Cn : Nat → Nat) (H : PH) (G : GS) (p3 : Int) , SimA ad Cn H G → vrel ad Cn 100 b0 p0 → lh1 (glX9_rank_42 p0 p1 p2) n p3 G = some (rr, G') → RS ad Cn (lq1 (lX9_rank_42 b0 p1 p2) n p3 H) 0 rr G' := by
  intro n
  induction n with
  | zero => intro ad Cn H G p3 hS w0 h; cases h
  | succ n ih42 =>
    intro ad Cn H G p3 hS w0 h
    rw [lh1_s] at h
    rw [lq1_s]
    generalize lh1 (glX9_rank_42 p0 p1 p2) n = self42 at ih42 h
    generalize lq1 (lX9_rank_42 b0 p1 p2) n = fself42 at ih42 ⊢
    unfold glX9_rank_42 at h
    unfold lX9_rank_42
    obtain ⟨x1, ex1, h⟩ := bnd h
    refine rb_ld 100 hS w0 ex1 rfl rfl ?_
    by_cases hc47 : p3 ≥ x1
    · have h := iteT hc47 h
      refine rif_t hc47 ?_
      obtain ⟨x2, ex2, h⟩ := bnd h
      refine rb_ldr 100 152 hS w0 ex2 rfl rfl ?_
      intro bx2 wx2
      obtain ⟨x3, ex3, h⟩ := bnd h
      refine rb_ld 152 hS wx2 ex3 rfl rfl ?_
      cases h
      exact rret hS rfl
    · have h := iteF hc47 h
      refine rif_f hc47 ?_
      obtain ⟨z4, ez4, h⟩ := bnd h
      refine rb_call (ρc := 0) (s_X9_workOut hS w0 ez4) ?_
      intro ad Cn bz4 H hS hx wz4
      dsimp only
      obtain rfl : bz4 = z4.1 := wz4
      have w0 := w0.mono hx
      obtain ⟨x5, ex5, h⟩ := bnd h
      refine rb_ldr 100 144 hS w0 ex5 rfl rfl ?_
      intro bx5 wx5
      obtain ⟨x6, ex6, h⟩ := bnd h
      refine rb_ld 144 hS wx5 ex6 rfl rfl ?_
      by_cases hc68 : x6 ≤ 0
      · have h := iteT hc68 h
        refine rif_t hc68 ?_
        exact sjX9_rank_76 ih42 hS w0 h
      · have h := iteF hc68 h
        refine rif_f hc68 ?_
        exact sjX9_rank_76 ih42 hS w0 h
def g_X9_rank (a0 a1 a2 : Int) (G : GS) : GO := gvm a0 <|
  (g_X9_isQuestion a0 a1 G).bind fun z1 => (if z1.1 = 0 then some ((-1), z1.2)
  else (g_X9_isHousehold a0 a2 z1.2).bind fun z2 => (if z2.1 ≠ 0 then (gl 100 z2.2 a0 2).bind fun x3 => (gl 102 z2.2 x3 a1).bind fun x4 => (if x4 ≥ 0 then some ((-2), z2.2)
  else (gl 100 z2.2 a0 1).bind fun x5 => (gl 101 z2.2 x5 a1).bind fun x6 => (if x6 ≠ 1 then lh1 (glX9_rank_42 a0 a1 a2) 6000 0 z2.2
  else some ((-2), z2.2)))
  else some ((-1), z2.2)))
set_option maxHeartbeats 4000000 in
theorem s_X9_rank {ad : Nat → Nat → Nat} {Cn : Nat → Nat} {H : PH} {G G' : GS} {rr : Int} {a0 a1 a2 b0 : Int} (hS : SimA ad Cn H G) (w0 : vrel ad Cn 100 b0 a0) (h : g_X9_rank a0 a1 a2 G = some (rr, G')) : RS ad Cn (f_X9_rank b0 a1 a2 H) 0 rr G' := by
  unfold g_X9_rank at h
  unfold f_X9_rank
  obtain ⟨hv, h⟩ := gvm_spec h
  refine rb_vm 100 9 hS w0 hv rfl ?_
  obtain ⟨z1, ez1, h⟩ := bnd h
  refine rb_call (ρc := 0) (s_X9_isQuestion hS w0 ez1) ?_
  intro ad Cn bz1 H hS hx wz1
  dsimp only
  obtain rfl : bz1 = z1.1 := wz1
  have w0 := w0.mono hx
  by_cases hc5 : z1.1 = 0
  · have h := iteT hc5 h
    refine rif_t hc5 ?_
    cases h
    exact rret hS rfl
  · have h := iteF hc5 h
    refine rif_f hc5 ?_
    obtain ⟨z2, ez2, h⟩ := bnd h
    refine rb_call (ρc := 0) (s_X9_isHousehold hS w0 ez2) ?_
    intro ad Cn bz2 H hS hx wz2
    dsimp only
    obtain rfl : bz2 = z2.1 := wz2
    have w0 := w0.mono hx
    by_cases hc13 : z2.1 ≠ 0
    · have h := iteT hc13 h
      refine rif_t hc13 ?_
      obtain ⟨x3, ex3, h⟩ := bnd h
      refine rb_ldr 100 102 hS w0 ex3 rfl rfl ?_
      intro bx3 wx3
      obtain ⟨x4, ex4, h⟩ := bnd h
      refine rb_ld 102 hS wx3 ex4 rfl rfl ?_
      by_cases hc24 : x4 ≥ 0
      · have h := iteT hc24 h
        refine rif_t hc24 ?_
        cases h
        exact rret hS rfl
      · have h := iteF hc24 h
        refine rif_f hc24 ?_
        obtain ⟨x5, ex5, h⟩ := bnd h
        refine rb_ldr 100 101 hS w0 ex5 rfl rfl ?_
        intro bx5 wx5
        obtain ⟨x6, ex6, h⟩ := bnd h
        refine rb_ld 101 hS wx5 ex6 rfl rfl ?_
        by_cases hc34 : x6 ≠ 1
        · have h := iteT hc34 h
          refine rif_t hc34 ?_
          exact slX9_rank_42 6000 _ _ _ _ 0  hS w0 h
        · have h := iteF hc34 h
          refine rif_f hc34 ?_
          cases h
          exact rret hS rfl
    · have h := iteF hc13 h
      refine rif_f hc13 ?_
      cases h
      exact rret hS rfl
/-! HouseholdVaultModel.part(IIII)J by roles -/
def gjX9_part_197 (self89 : Int → Int → GS → GO) (p0 p1 p2 p3 p4 p5 p6 : Int) (G : GS) : GO :=
  self89 p5 (w32 (p6 + 1)) G
set_option maxHeartbeats 4000000 in
theorem sjX9_part_197 {ad : Nat → Nat → Nat} {Cn : Nat → Nat} {H : PH} {G G' : GS} {rr : Int} {fself89 : Int → Int → PH → RO} {self89 : Int → Int → GS → GO} {p0 p1 p2 p3 p4 p5 p6 b0 : Int} (ih89 : ∀ (ad : Nat → Nat → Nat) (Cn : Nat → Nat) (H : PH) (G : GS) (v5 v6 : Int) , SimA ad Cn H G → vrel ad Cn 100 b0 p0 → self89 v5 v6 G = some (rr, G') → RS ad Cn (fself89 v5 v6 H) 0 rr G') (hS : SimA ad Cn H G) (w0 : vrel ad Cn 100 b0 p0) (h : gjX9_part_197 self89 p0 p1 p2 p3 p4 p5 p6 G = some (rr, G')) : RS ad Cn (jX9_part_197 fself89 b0 p1 p2 p3 p4 p5 p6 H) 0 rr G' := by
  unfold gjX9_part_197 at h
  unfold jX9_part_197
  exact ih89 _ _ _ _ p5 (w32 (p6 + 1))  hS w0  h
def gjX9_part_185 (self89 : Int → Int → GS → GO) (p0 p1 p2 p3 p4 p5 p6 p7 p9 : Int) (G : GS) : GO :=
  (gl 100 G p0 51).bind fun x1 => (gs 151 G x1 p9 p7).bind fun G2 => gjX9_part_197 self89 p0 p1 p2 p3 p4 (w32 (p5 + 1)) p6 G2
set_option maxHeartbeats 4000000 in
theorem sjX9_part_185 {ad : Nat → Nat → Nat} {Cn : Nat → Nat} {H : PH} {G G' : GS} {rr : Int} {fself89 : Int → Int → PH → RO} {self89 : Int → Int → GS → GO} {p0 p1 p2 p3 p4 p5 p6 p7 p9 b0 : Int} (ih89 : ∀ (ad : Nat → Nat → Nat) (Cn : Nat → Nat) (H : PH) (G : GS) (v5 v6 : Int) , SimA ad Cn H G → vrel ad Cn 100 b0 p0 → self89 v5 v6 G = some (rr, G') → RS ad Cn (fself89 v5 v6 H) 0 rr G') (hS : SimA ad Cn H G) (w0 : vrel ad Cn 100 b0 p0) (h : gjX9_part_185 self89 p0 p1 p2 p3 p4 p5 p6 p7 p9 G = some (rr, G')) : RS ad Cn (jX9_part_185 fself89 b0 p1 p2 p3 p4 p5 p6 p7 p9 H) 0 rr G' := by
  unfold gjX9_part_185 at h
  unfold jX9_part_185
  obtain ⟨x1, ex1, h⟩ := bnd h
  refine rb_ldr 100 151 hS w0 ex1 rfl rfl ?_
  intro bx1 wx1
  obtain ⟨G2, eG2, h⟩ := bnd h
  refine rb_st 151 hS wx1 (show rrel _ _ 0 _ _ from rfl) eG2 rfl ?_
  intro H hS
  exact sjX9_part_197 ih89 hS w0 h
def glX9_part_143 (self89 : Int → Int → GS → GO) (p0 p1 p2 p3 p4 p5 p6 p7 : Int) (self143 : Int → GS → GO) (p9 : Int) (G : GS) : GO :=
  (if p9 ≤ 0 then gjX9_part_185 self89 p0 p1 p2 p3 p4 p5 p6 p7 p9 G
  else (gl 100 G p0 51).bind fun x1 => (gl 151 G x1 (w32 (p9 - 1))).bind fun x2 => (if (lc x2 p7) ≤ 0 then gjX9_part_185 self89 p0 p1 p2 p3 p4 p5 p6 p7 p9 G
  else (gl 100 G p0 51).bind fun x3 => (gl 100 G p0 51).bind fun x4 => (gl 151 G x4 (w32 (p9 - 1))).bind fun x5 => (gs 151 G x3 p9 x5).bind fun G6 => self143 (w32 (p9 + (-1))) G6))
set_option maxHeartbeats 4000000 in
theorem slX9_part_143 {G' : GS} {rr : Int} {fself89 : Int → Int → PH → RO} {self89 : Int → Int → GS → GO} {p0 p1 p2 p3 p4 p5 p6 p7 b0 : Int} (ih89 : ∀ (ad : Nat → Nat → Nat) (Cn : Nat → Nat) (H : PH) (G : GS) (v5 v6 : Int) , SimA ad Cn H G → vrel ad Cn 100 b0 p0 → self89 v5 v6 G = some (rr, G') → RS ad Cn (fself89 v5 v6 H) 0 rr G') : ∀ (n : Nat) (ad : Nat → Nat → Nat) (Cn : Nat → Nat) (H : PH) (G : GS) (p9 : Int) , SimA ad Cn H G → vrel ad Cn 100 b0 p0 → lh1 (glX9_part_143 self89 p0 p1 p2 p3 p4 p5 p6 p7) n p9 G = some (rr, G') → RS ad Cn (lq1 (lX9_part_143 fself89 b0 p1 p2 p3 p4 p5 p6 p7) n p9 H) 0 rr G' := by
  intro n
  induction n with
  | zero => intro ad Cn H G p9 hS w0 h; cases h
  | succ n ih143 =>
    intro ad Cn H G p9 hS w0 h
    rw [lh1_s] at h
    rw [lq1_s]
    generalize lh1 (glX9_part_143 self89 p0 p1 p2 p3 p4 p5 p6 p7) n = self143 at ih143 h
    generalize lq1 (lX9_part_143 fself89 b0 p1 p2 p3 p4 p5 p6 p7) n = fself143 at ih143 ⊢
    unfold glX9_part_143 at h
    unfold lX9_part_143
    by_cases hc145 : p9 ≤ 0
    · have h := iteT hc145 h
      refine rif_t hc145 ?_
      exact sjX9_part_185 ih89 hS w0 h
    · have h := iteF hc145 h
      refine rif_f hc145 ?_
      obtain ⟨x1, ex1, h⟩ := bnd h
      refine rb_ldr 100 151 hS w0 ex1 rfl rfl ?_
      intro bx1 wx1
      obtain ⟨x2, ex2, h⟩ := bnd h
      refine rb_ld 151 hS wx1 ex2 rfl rfl ?_
      by_cases hc160 : (lc x2 p7) ≤ 0
      · have h := iteT hc160 h
        refine rif_t hc160 ?_
        exact sjX9_part_185 ih89 hS w0 h
      · have h := iteF hc160 h
        refine rif_f hc160 ?_
        obtain ⟨x3, ex3, h⟩ := bnd h
        refine rb_ldr 100 151 hS w0 ex3 rfl rfl ?_
        intro bx3 wx3
        obtain ⟨x4, ex4, h⟩ := bnd h
        refine rb_ldr 100 151 hS w0 ex4 rfl rfl ?_
        intro bx4 wx4
        obtain ⟨x5, ex5, h⟩ := bnd h
        refine rb_ld 151 hS wx4 ex5 rfl rfl ?_
        obtain ⟨G6, eG6, h⟩ := bnd h
        refine rb_st 151 hS wx3 (show rrel _ _ 0 _ _ from rfl) eG6 rfl ?_
        intro H hS
        exact ih143 _ _ _ _ (w32 (p9 + (-1)))  hS w0  h
def glX9_part_89 (p0 p1 p2 p3 p4 : Int) (self89 : Int → Int → GS → GO) (p5 p6 : Int) (G : GS) : GO :=
  (gl 100 G p0 14).bind fun x1 => (if p6 ≥ x1 then (if p5 ≠ 0 then (gl 100 G p0 51).bind fun x2 => (if p4 = 0 then none else (gl 151 G x2 (w32 (Int.tdiv (w32 ((w32 (p5 - 1)) * p3)) p4))).bind fun x3 => some (x3, G))
  else some (0, G))
  else (g_X9_workOut p0 p6 G).bind fun z4 => (gl 100 z4.2 p0 45).bind fun x5 => (gl 145 z4.2 x5 (w32 (6 * p2))).bind fun x6 => (if x6 = 0 then gjX9_part_197 self89 p0 p1 p2 p3 p4 p5 p6 z4.2
  else (gl 100 z4.2 p0 44).bind fun x7 => (gl 144 z4.2 x7 (w32 (6 * p1))).bind fun x8 => (if x8 ≠ 0 then gjX9_part_197 self89 p0 p1 p2 p3 p4 p5 p6 z4.2
  else (gl 100 z4.2 p0 43).bind fun x9 => (gl 143 z4.2 x9 (w32 (6 * p1))).bind fun x10 => lh1 (glX9_part_143 self89 p0 p1 p2 p3 p4 p5 p6 x10) 6000 p5 z4.2)))
set_option maxHeartbeats 4000000 in
theorem slX9_part_89 {G' : GS} {rr : Int} {p0 p1 p2 p3 p4 b0 : Int} : ∀ (n : Nat) (ad : Nat → Nat → Nat) (Cn : Nat → Nat) (H : PH) (G : GS) (p5 p6 : Int) , SimA ad Cn H G → vrel ad Cn 100 b0 p0 → lh2 (glX9_part_89 p0 p1 p2 p3 p4) n p5 p6 G = some (rr, G') → RS ad Cn (lq2 (lX9_part_89 b0 p1 p2 p3 p4) n p5 p6 H) 0 rr G' := by
  intro n
  induction n with
  | zero => intro ad Cn H G p5 p6 hS w0 h; cases h
  | succ n ih89 =>
    intro ad Cn H G p5 p6 hS w0 h
    rw [lh2_s] at h
    rw [lq2_s]
    generalize lh2 (glX9_part_89 p0 p1 p2 p3 p4) n = self89 at ih89 h
    generalize lq2 (lX9_part_89 b0 p1 p2 p3 p4) n = fself89 at ih89 ⊢
    unfold glX9_part_89 at h
    unfold lX9_part_89
    obtain ⟨x1, ex1, h⟩ := bnd h
    refine rb_ld 100 hS w0 ex1 rfl rfl ?_
    by_cases hc95 : p6 ≥ x1
    · have h := iteT hc95 h
      refine rif_t hc95 ?_
      by_cases hc205 : p5 ≠ 0
      · have h := iteT hc205 h
        refine rif_t hc205 ?_
        obtain ⟨x2, ex2, h⟩ := bnd h
        refine rb_ldr 100 151 hS w0 ex2 rfl rfl ?_
        intro bx2 wx2
        by_cases hz224 : p4 = 0
        · rw [if_pos hz224] at h; cases h
        have h := iteF hz224 h
        refine rif_f hz224 ?_
        obtain ⟨x3, ex3, h⟩ := bnd h
        refine rb_ld 151 hS wx2 ex3 rfl rfl ?_
        cases h
        exact rret hS rfl
      · have h := iteF hc205 h
        refine rif_f hc205 ?_
        cases h
        exact rret hS rfl
    · have h := iteF hc95 h
      refine rif_f hc95 ?_
      obtain ⟨z4, ez4, h⟩ := bnd h
      refine rb_call (ρc := 0) (s_X9_workOut hS w0 ez4) ?_
      intro ad Cn bz4 H hS hx wz4
      dsimp only
      obtain rfl : bz4 = z4.1 := wz4
      have w0 := w0.mono hx
      obtain ⟨x5, ex5, h⟩ := bnd h
      refine rb_ldr 100 145 hS w0 ex5 rfl rfl ?_
      intro bx5 wx5
      obtain ⟨x6, ex6, h⟩ := bnd h
      refine rb_ld 145 hS wx5 ex6 rfl rfl ?_
      by_cases hc113 : x6 = 0
      · have h := iteT hc113 h
        refine rif_t hc113 ?_
        exact sjX9_part_197 ih89 hS w0 h
      · have h := iteF hc113 h
        refine rif_f hc113 ?_
        obtain ⟨x7, ex7, h⟩ := bnd h
        refine rb_ldr 100 144 hS w0 ex7 rfl rfl ?_
        intro bx7 wx7
        obtain ⟨x8, ex8, h⟩ := bnd h
        refine rb_ld 144 hS wx7 ex8 rfl rfl ?_
        by_cases hc125 : x8 ≠ 0
        · have h := iteT hc125 h
          refine rif_t hc125 ?_
          exact sjX9_part_197 ih89 hS w0 h
        · have h := iteF hc125 h
          refine rif_f hc125 ?_
          obtain ⟨x9, ex9, h⟩ := bnd h
          refine rb_ldr 100 143 hS w0 ex9 rfl rfl ?_
          intro bx9 wx9
          obtain ⟨x10, ex10, h⟩ := bnd h
          refine rb_ld 143 hS wx9 ex10 rfl rfl ?_
          exact slX9_part_143 ih89 6000 _ _ _ _ p5  hS w0 h
def g_X9_part (a0 a1 a2 a3 a4 : Int) (G : GS) : GO := gvm a0 <|
  (g_X9_isQuestion a0 a1 G).bind fun z1 => (if z1.1 = 0 then some (0, z1.2)
  else (g_X9_isCondition a0 a2 z1.2).bind fun z2 => (if z2.1 = 0 then some (0, z2.2)
  else (g_X9_in a4 1 1000 z2.2).bind fun z3 => (if z3.1 = 0 then some (0, z3.2)
  else (g_X9_in a3 0 a4 z3.2).bind fun z4 => (if z4.1 ≠ 0 then (gl 100 z4.2 a0 1).bind fun x5 => (gl 101 z4.2 x5 a1).bind fun x6 => (if x6 < 2 then some (0, z4.2)
  else (gl 100 z4.2 a0 1).bind fun x7 => (gl 101 z4.2 x7 a1).bind fun x8 => (if x8 > 4 then some (0, z4.2)
  else (gl 100 z4.2 a0 2).bind fun x9 => (gl 102 z4.2 x9 a1).bind fun x10 => (if x10 ≥ 0 then some (0, z4.2)
  else (gl 100 z4.2 a0 25).bind fun x11 => (gl 125 z4.2 x11 a2).bind fun x12 => (if x12 < 0 then lh2 (glX9_part_89 a0 a1 a2 a3 a4) 6000 0 0 z4.2
  else some (0, z4.2)))))
  else some (0, z4.2)))))
set_option maxHeartbeats 4000000 in
theorem s_X9_part {ad : Nat → Nat → Nat} {Cn : Nat → Nat} {H : PH} {G G' : GS} {rr : Int} {a0 a1 a2 a3 a4 b0 : Int} (hS : SimA ad Cn H G) (w0 : vrel ad Cn 100 b0 a0) (h : g_X9_part a0 a1 a2 a3 a4 G = some (rr, G')) : RS ad Cn (f_X9_part b0 a1 a2 a3 a4 H) 0 rr G' := by
  unfold g_X9_part at h
  unfold f_X9_part
  obtain ⟨hv, h⟩ := gvm_spec h
  refine rb_vm 100 9 hS w0 hv rfl ?_
  obtain ⟨z1, ez1, h⟩ := bnd h
  refine rb_call (ρc := 0) (s_X9_isQuestion hS w0 ez1) ?_
  intro ad Cn bz1 H hS hx wz1
  dsimp only
  obtain rfl : bz1 = z1.1 := wz1
  have w0 := w0.mono hx
  by_cases hc5 : z1.1 = 0
  · have h := iteT hc5 h
    refine rif_t hc5 ?_
    cases h
    exact rret hS rfl
  · have h := iteF hc5 h
    refine rif_f hc5 ?_
    obtain ⟨z2, ez2, h⟩ := bnd h
    refine rb_call (ρc := 0) (s_X9_isCondition hS w0 ez2) ?_
    intro ad Cn bz2 H hS hx wz2
    dsimp only
    obtain rfl : bz2 = z2.1 := wz2
    have w0 := w0.mono hx
    by_cases hc13 : z2.1 = 0
    · have h := iteT hc13 h
      refine rif_t hc13 ?_
      cases h
      exact rret hS rfl
    · have h := iteF hc13 h
      refine rif_f hc13 ?_
      obtain ⟨z3, ez3, h⟩ := bnd h
      refine rb_call (ρc := 0) (s_X9_in hS ez3) ?_
      intro ad Cn bz3 H hS hx wz3
      dsimp only
      obtain rfl : bz3 = z3.1 := wz3
      have w0 := w0.mono hx
      by_cases hc26 : z3.1 = 0
      · have h := iteT hc26 h
        refine rif_t hc26 ?_
        cases h
        exact rret hS rfl
      · have h := iteF hc26 h
        refine rif_f hc26 ?_
        obtain ⟨z4, ez4, h⟩ := bnd h
        refine rb_call (ρc := 0) (s_X9_in hS ez4) ?_
        intro ad Cn bz4 H hS hx wz4
        dsimp only
        obtain rfl : bz4 = z4.1 := wz4
        have w0 := w0.mono hx
        by_cases hc38 : z4.1 ≠ 0
        · have h := iteT hc38 h
          refine rif_t hc38 ?_
          obtain ⟨x5, ex5, h⟩ := bnd h
          refine rb_ldr 100 101 hS w0 ex5 rfl rfl ?_
          intro bx5 wx5
          obtain ⟨x6, ex6, h⟩ := bnd h
          refine rb_ld 101 hS wx5 ex6 rfl rfl ?_
          by_cases hc50 : x6 < 2
          · have h := iteT hc50 h
            refine rif_t hc50 ?_
            cases h
            exact rret hS rfl
          · have h := iteF hc50 h
            refine rif_f hc50 ?_
            obtain ⟨x7, ex7, h⟩ := bnd h
            refine rb_ldr 100 101 hS w0 ex7 rfl rfl ?_
            intro bx7 wx7
            obtain ⟨x8, ex8, h⟩ := bnd h
            refine rb_ld 101 hS wx7 ex8 rfl rfl ?_
            by_cases hc60 : x8 > 4
            · have h := iteT hc60 h
              refine rif_t hc60 ?_
              cases h
              exact rret hS rfl
            · have h := iteF hc60 h
              refine rif_f hc60 ?_
              obtain ⟨x9, ex9, h⟩ := bnd h
              refine rb_ldr 100 102 hS w0 ex9 rfl rfl ?_
              intro bx9 wx9
              obtain ⟨x10, ex10, h⟩ := bnd h
              refine rb_ld 102 hS wx9 ex10 rfl rfl ?_
              by_cases hc69 : x10 ≥ 0
              · have h := iteT hc69 h
                refine rif_t hc69 ?_
                cases h
                exact rret hS rfl
              · have h := iteF hc69 h
                refine rif_f hc69 ?_
                obtain ⟨x11, ex11, h⟩ := bnd h
                refine rb_ldr 100 125 hS w0 ex11 rfl rfl ?_
                intro bx11 wx11
                obtain ⟨x12, ex12, h⟩ := bnd h
                refine rb_ld 125 hS wx11 ex12 rfl rfl ?_
                by_cases hc78 : x12 < 0
                · have h := iteT hc78 h
                  refine rif_t hc78 ?_
                  exact slX9_part_89 6000 _ _ _ _ 0 0  hS w0 h
                · have h := iteF hc78 h
                  refine rif_f hc78 ?_
                  cases h
                  exact rret hS rfl
        · have h := iteF hc38 h
          refine rif_f hc38 ?_
          cases h
          exact rret hS rfl
/-! HouseholdVaultModel.mark(IZ)I by roles -/
def gjX9_mark_45 (p0 p1 p2 s0 : Int) (G : GS) : GO :=
  (gl 100 G p0 7).bind fun x1 => (gsz 107 G x1 p1 p2).bind fun G2 => some (s0, G2)
set_option maxHeartbeats 4000000 in
theorem sjX9_mark_45 {ad : Nat → Nat → Nat} {Cn : Nat → Nat} {H : PH} {G G' : GS} {rr : Int} {p0 p1 p2 s0 b0 : Int} (hS : SimA ad Cn H G) (w0 : vrel ad Cn 100 b0 p0) (h : gjX9_mark_45 p0 p1 p2 s0 G = some (rr, G')) : RS ad Cn (jX9_mark_45 b0 p1 p2 s0 H) 0 rr G' := by
  unfold gjX9_mark_45 at h
  unfold jX9_mark_45
  obtain ⟨x1, ex1, h⟩ := bnd h
  refine rb_ldr 100 107 hS w0 ex1 rfl rfl ?_
  intro bx1 wx1
  obtain ⟨G2, eG2, h⟩ := bnd h
  refine rb_stz 107 hS wx1 rfl eG2 rfl ?_
  intro H hS
  cases h
  exact rret hS rfl
def g_X9_mark (a0 a1 a2 : Int) (G : GS) : GO := gvm a0 <|
  (g_X9_isQuestion a0 a1 G).bind fun z1 => (if z1.1 ≠ 0 then (gl 100 z1.2 a0 2).bind fun x2 => (gl 102 z1.2 x2 a1).bind fun x3 => (if x3 ≥ 0 then some ((-2), z1.2)
  else (gl 100 z1.2 a0 3).bind fun x4 => (gl 103 z1.2 x4 a1).bind fun x5 => (if x5 ≤ 0 then (gl 100 z1.2 a0 7).bind fun x6 => (gl 107 z1.2 x6 a1).bind fun x7 => (if x7 = 0 then gjX9_mark_45 a0 a1 a2 0 z1.2
  else gjX9_mark_45 a0 a1 a2 1 z1.2)
  else some ((-2), z1.2)))
  else some ((-1), z1.2))
set_option maxHeartbeats 4000000 in
theorem s_X9_mark {ad : Nat → Nat → Nat} {Cn : Nat → Nat} {H : PH} {G G' : GS} {rr : Int} {a0 a1 a2 b0 : Int} (hS : SimA ad Cn H G) (w0 : vrel ad Cn 100 b0 a0) (h : g_X9_mark a0 a1 a2 G = some (rr, G')) : RS ad Cn (f_X9_mark b0 a1 a2 H) 0 rr G' := by
  unfold g_X9_mark at h
  unfold f_X9_mark
  obtain ⟨hv, h⟩ := gvm_spec h
  refine rb_vm 100 9 hS w0 hv rfl ?_
  obtain ⟨z1, ez1, h⟩ := bnd h
  refine rb_call (ρc := 0) (s_X9_isQuestion hS w0 ez1) ?_
  intro ad Cn bz1 H hS hx wz1
  dsimp only
  obtain rfl : bz1 = z1.1 := wz1
  have w0 := w0.mono hx
  by_cases hc5 : z1.1 ≠ 0
  · have h := iteT hc5 h
    refine rif_t hc5 ?_
    obtain ⟨x2, ex2, h⟩ := bnd h
    refine rb_ldr 100 102 hS w0 ex2 rfl rfl ?_
    intro bx2 wx2
    obtain ⟨x3, ex3, h⟩ := bnd h
    refine rb_ld 102 hS wx2 ex3 rfl rfl ?_
    by_cases hc16 : x3 ≥ 0
    · have h := iteT hc16 h
      refine rif_t hc16 ?_
      cases h
      exact rret hS rfl
    · have h := iteF hc16 h
      refine rif_f hc16 ?_
      obtain ⟨x4, ex4, h⟩ := bnd h
      refine rb_ldr 100 103 hS w0 ex4 rfl rfl ?_
      intro bx4 wx4
      obtain ⟨x5, ex5, h⟩ := bnd h
      refine rb_ld 103 hS wx4 ex5 rfl rfl ?_
      by_cases hc25 : x5 ≤ 0
      · have h := iteT hc25 h
        refine rif_t hc25 ?_
        obtain ⟨x6, ex6, h⟩ := bnd h
        refine rb_ldr 100 107 hS w0 ex6 rfl rfl ?_
        intro bx6 wx6
        obtain ⟨x7, ex7, h⟩ := bnd h
        refine rb_ld 107 hS wx6 ex7 rfl rfl ?_
        by_cases hc37 : x7 = 0
        · have h := iteT hc37 h
          refine rif_t hc37 ?_
          exact sjX9_mark_45 hS w0 h
        · have h := iteF hc37 h
          refine rif_f hc37 ?_
          exact sjX9_mark_45 hS w0 h
      · have h := iteF hc25 h
        refine rif_f hc25 ?_
        cases h
        exact rret hS rfl
  · have h := iteF hc5 h
    refine rif_f hc5 ?_
    cases h
    exact rret hS rfl
/-! HouseholdVaultModel.areLike(IIII)Z by roles -/
def gjX9_areLike_63 (G : GS) : GO :=
  some (1, G)
set_option maxHeartbeats 4000000 in
theorem sjX9_areLike_63 {ad : Nat → Nat → Nat} {Cn : Nat → Nat} {H : PH} {G G' : GS} {rr : Int} (hS : SimA ad Cn H G)  (h : gjX9_areLike_63  G = some (rr, G')) : RS ad Cn (jX9_areLike_63  H) 0 rr G' := by
  unfold gjX9_areLike_63 at h
  unfold jX9_areLike_63
  cases h
  exact rret hS rfl
def g_X9_areLike (a0 a1 a2 a3 a4 : Int) (G : GS) : GO := gvm a0 <|
  (g_X9_place a1 a3 a4 G).bind fun z1 => (g_X9_place a2 a3 a4 z1.2).bind fun z2 => (gl 100 z2.2 a0 16).bind fun x3 => (gl 116 z2.2 x3 z1.1).bind fun x4 => (gl 100 z2.2 a0 16).bind fun x5 => (gl 116 z2.2 x5 z2.1).bind fun x6 => (if x4 ≠ x6 then some (0, z2.2)
  else (gl 100 z2.2 a0 16).bind fun x7 => (gl 116 z2.2 x7 z1.1).bind fun x8 => (if x8 > 0 then gjX9_areLike_63  z2.2
  else (gl 100 z2.2 a0 15).bind fun x9 => (gl 115 z2.2 x9 z1.1).bind fun x10 => (gl 100 z2.2 a0 15).bind fun x11 => (gl 115 z2.2 x11 z2.1).bind fun x12 => (if (lc x10 x12) ≠ 0 then some (0, z2.2)
  else gjX9_areLike_63  z2.2)))
set_option maxHeartbeats 4000000 in
theorem s_X9_areLike {ad : Nat → Nat → Nat} {Cn : Nat → Nat} {H : PH} {G G' : GS} {rr : Int} {a0 a1 a2 a3 a4 b0 : Int} (hS : SimA ad Cn H G) (w0 : vrel ad Cn 100 b0 a0) (h : g_X9_areLike a0 a1 a2 a3 a4 G = some (rr, G')) : RS ad Cn (f_X9_areLike b0 a1 a2 a3 a4 H) 0 rr G' := by
  unfold g_X9_areLike at h
  unfold f_X9_areLike
  obtain ⟨hv, h⟩ := gvm_spec h
  refine rb_vm 100 9 hS w0 hv rfl ?_
  obtain ⟨z1, ez1, h⟩ := bnd h
  refine rb_call (ρc := 0) (s_X9_place hS ez1) ?_
  intro ad Cn bz1 H hS hx wz1
  dsimp only
  obtain rfl : bz1 = z1.1 := wz1
  have w0 := w0.mono hx
  obtain ⟨z2, ez2, h⟩ := bnd h
  refine rb_call (ρc := 0) (s_X9_place hS ez2) ?_
  intro ad Cn bz2 H hS hx wz2
  dsimp only
  obtain rfl : bz2 = z2.1 := wz2
  have w0 := w0.mono hx
  obtain ⟨x3, ex3, h⟩ := bnd h
  refine rb_ldr 100 116 hS w0 ex3 rfl rfl ?_
  intro bx3 wx3
  obtain ⟨x4, ex4, h⟩ := bnd h
  refine rb_ld 116 hS wx3 ex4 rfl rfl ?_
  obtain ⟨x5, ex5, h⟩ := bnd h
  refine rb_ldr 100 116 hS w0 ex5 rfl rfl ?_
  intro bx5 wx5
  obtain ⟨x6, ex6, h⟩ := bnd h
  refine rb_ld 116 hS wx5 ex6 rfl rfl ?_
  by_cases hc32 : x4 ≠ x6
  · have h := iteT hc32 h
    refine rif_t hc32 ?_
    cases h
    exact rret hS rfl
  · have h := iteF hc32 h
    refine rif_f hc32 ?_
    obtain ⟨x7, ex7, h⟩ := bnd h
    refine rb_ldr 100 116 hS w0 ex7 rfl rfl ?_
    intro bx7 wx7
    obtain ⟨x8, ex8, h⟩ := bnd h
    refine rb_ld 116 hS wx7 ex8 rfl rfl ?_
    by_cases hc42 : x8 > 0
    · have h := iteT hc42 h
      refine rif_t hc42 ?_
      exact sjX9_areLike_63 hS h
    · have h := iteF hc42 h
      refine rif_f hc42 ?_
      obtain ⟨x9, ex9, h⟩ := bnd h
      refine rb_ldr 100 115 hS w0 ex9 rfl rfl ?_
      intro bx9 wx9
      obtain ⟨x10, ex10, h⟩ := bnd h
      refine rb_ld 115 hS wx9 ex10 rfl rfl ?_
      obtain ⟨x11, ex11, h⟩ := bnd h
      refine rb_ldr 100 115 hS w0 ex11 rfl rfl ?_
      intro bx11 wx11
      obtain ⟨x12, ex12, h⟩ := bnd h
      refine rb_ld 115 hS wx11 ex12 rfl rfl ?_
      by_cases hc60 : (lc x10 x12) ≠ 0
      · have h := iteT hc60 h
        refine rif_t hc60 ?_
        cases h
        exact rret hS rfl
      · have h := iteF hc60 h
        refine rif_f hc60 ?_
        exact sjX9_areLike_63 hS h
/-! HouseholdVaultModel.areDouble(II)Z by roles -/
def gjX9_areDouble_152 (p3 p4 : Int) (G : GS) : GO :=
  (if p3 = 0 then some (0, G)
  else (if p4 = 0 then some (0, G)
  else some (1, G)))
set_option maxHeartbeats 4000000 in
theorem sjX9_areDouble_152 {ad : Nat → Nat → Nat} {Cn : Nat → Nat} {H : PH} {G G' : GS} {rr : Int} {p3 p4 : Int} (hS : SimA ad Cn H G)  (h : gjX9_areDouble_152 p3 p4 G = some (rr, G')) : RS ad Cn (jX9_areDouble_152 p3 p4 H) 0 rr G' := by
  unfold gjX9_areDouble_152 at h
  unfold jX9_areDouble_152
  by_cases hc153 : p3 = 0
  · have h := iteT hc153 h
    refine rif_t hc153 ?_
    cases h
    exact rret hS rfl
  · have h := iteF hc153 h
    refine rif_f hc153 ?_
    by_cases hc158 : p4 = 0
    · have h := iteT hc158 h
      refine rif_t hc158 ?_
      cases h
      exact rret hS rfl
    · have h := iteF hc158 h
      refine rif_f hc158 ?_
      cases h
      exact rret hS rfl
def gjX9_areDouble_146 (self54 : Int → Int → GS → GO) (p0 p1 p2 p3 p4 p5 : Int) (G : GS) : GO :=
  self54 p4 (w32 (p5 + 1)) G
set_option maxHeartbeats 4000000 in
theorem sjX9_areDouble_146 {ad : Nat → Nat → Nat} {Cn : Nat → Nat} {H : PH} {G G' : GS} {rr : Int} {fself54 : Int → Int → PH → RO} {self54 : Int → Int → GS → GO} {p0 p1 p2 p3 p4 p5 b0 : Int} (ih54 : ∀ (ad : Nat → Nat → Nat) (Cn : Nat → Nat) (H : PH) (G : GS) (v4 v5 : Int) , SimA ad Cn H G → vrel ad Cn 100 b0 p0 → self54 v4 v5 G = some (rr, G') → RS ad Cn (fself54 v4 v5 H) 0 rr G') (hS : SimA ad Cn H G) (w0 : vrel ad Cn 100 b0 p0) (h : gjX9_areDouble_146 self54 p0 p1 p2 p3 p4 p5 G = some (rr, G')) : RS ad Cn (jX9_areDouble_146 fself54 b0 p1 p2 p3 p4 p5 H) 0 rr G' := by
  unfold gjX9_areDouble_146 at h
  unfold jX9_areDouble_146
  exact ih54 _ _ _ _ p4 (w32 (p5 + 1))  hS w0  h
def glX9_areDouble_106 (self54 : Int → Int → GS → GO) (p0 p1 p2 p3 p5 : Int) (self106 : Int → Int → GS → GO) (p4 p6 : Int) (G : GS) : GO :=
  (gl 100 G p0 2).bind fun x1 => (gl 102 G x1 p5).bind fun x2 => (g_X9_persons p0 p1 x2 G).bind fun z3 => (if p6 > z3.1 then gjX9_areDouble_146 self54 p0 p1 p2 p3 p4 p5 z3.2
  else (if p4 = 0 then gjX9_areDouble_146 self54 p0 p1 p2 p3 p4 p5 z3.2
  else (g_X9_areLike p0 p1 p2 p5 p6 z3.2).bind fun z4 => self106 z4.1 (w32 (p6 + 1)) z4.2))
set_option maxHeartbeats 4000000 in
theorem slX9_areDouble_106 {G' : GS} {rr : Int} {fself54 : Int → Int → PH → RO} {self54 : Int → Int → GS → GO} {p0 p1 p2 p3 p5 b0 : Int} (ih54 : ∀ (ad : Nat → Nat → Nat) (Cn : Nat → Nat) (H : PH) (G : GS) (v4 v5 : Int) , SimA ad Cn H G → vrel ad Cn 100 b0 p0 → self54 v4 v5 G = some (rr, G') → RS ad Cn (fself54 v4 v5 H) 0 rr G') : ∀ (n : Nat) (ad : Nat → Nat → Nat) (Cn : Nat → Nat) (H : PH) (G : GS) (p4 p6 : Int) , SimA ad Cn H G → vrel ad Cn 100 b0 p0 → lh2 (glX9_areDouble_106 self54 p0 p1 p2 p3 p5) n p4 p6 G = some (rr, G') → RS ad Cn (lq2 (lX9_areDouble_106 fself54 b0 p1 p2 p3 p5) n p4 p6 H) 0 rr G' := by
  intro n
  induction n with
  | zero => intro ad Cn H G p4 p6 hS w0 h; cases h
  | succ n ih106 =>
    intro ad Cn H G p4 p6 hS w0 h
    rw [lh2_s] at h
    rw [lq2_s]
    generalize lh2 (glX9_areDouble_106 self54 p0 p1 p2 p3 p5) n = self106 at ih106 h
    generalize lq2 (lX9_areDouble_106 fself54 b0 p1 p2 p3 p5) n = fself106 at ih106 ⊢
    unfold glX9_areDouble_106 at h
    unfold lX9_areDouble_106
    obtain ⟨x1, ex1, h⟩ := bnd h
    refine rb_ldr 100 102 hS w0 ex1 rfl rfl ?_
    intro bx1 wx1
    obtain ⟨x2, ex2, h⟩ := bnd h
    refine rb_ld 102 hS wx1 ex2 rfl rfl ?_
    obtain ⟨z3, ez3, h⟩ := bnd h
    refine rb_call (ρc := 0) (s_X9_persons hS w0 ez3) ?_
    intro ad Cn bz3 H hS hx wz3
    dsimp only
    obtain rfl : bz3 = z3.1 := wz3
    have w0 := w0.mono hx
    by_cases hc120 : p6 > z3.1
    · have h := iteT hc120 h
      refine rif_t hc120 ?_
      exact sjX9_areDouble_146 ih54 hS w0 h
    · have h := iteF hc120 h
      refine rif_f hc120 ?_
      by_cases hc125 : p4 = 0
      · have h := iteT hc125 h
        refine rif_t hc125 ?_
        exact sjX9_areDouble_146 ih54 hS w0 h
      · have h := iteF hc125 h
        refine rif_f hc125 ?_
        obtain ⟨z4, ez4, h⟩ := bnd h
        refine rb_call (ρc := 0) (s_X9_areLike hS w0 ez4) ?_
        intro ad Cn bz4 H hS hx wz4
        dsimp only
        obtain rfl : bz4 = z4.1 := wz4
        have w0 := w0.mono hx
        exact ih106 _ _ _ _ z4.1 (w32 (p6 + 1))  hS w0  h
def glX9_areDouble_54 (p0 p1 p2 p3 : Int) (self54 : Int → Int → GS → GO) (p4 p5 : Int) (G : GS) : GO :=
  (gl 100 G p0 0).bind fun x1 => (if p5 ≥ x1 then gjX9_areDouble_152 p3 p4 G
  else (if p4 = 0 then gjX9_areDouble_152 p3 p4 G
  else (gl 100 G p0 2).bind fun x2 => (gl 102 G x2 p5).bind fun x3 => (if x3 < 0 then gjX9_areDouble_146 self54 p0 p1 p2 p3 p4 p5 G
  else (gl 100 G p0 3).bind fun x4 => (gl 103 G x4 p5).bind fun x5 => (if x5 ≠ 0 then gjX9_areDouble_146 self54 p0 p1 p2 p3 p4 p5 G
  else (gl 100 G p0 7).bind fun x6 => (gl 100 G p0 2).bind fun x7 => (gl 102 G x7 p5).bind fun x8 => (gl 107 G x6 x8).bind fun x9 => (if x9 = 0 then gjX9_areDouble_146 self54 p0 p1 p2 p3 p4 p5 G
  else lh2 (glX9_areDouble_106 self54 p0 p1 p2 p3 p5) 6000 p4 1 G)))))
set_option maxHeartbeats 4000000 in
theorem slX9_areDouble_54 {G' : GS} {rr : Int} {p0 p1 p2 p3 b0 : Int} : ∀ (n : Nat) (ad : Nat → Nat → Nat) (Cn : Nat → Nat) (H : PH) (G : GS) (p4 p5 : Int) , SimA ad Cn H G → vrel ad Cn 100 b0 p0 → lh2 (glX9_areDouble_54 p0 p1 p2 p3) n p4 p5 G = some (rr, G') → RS ad Cn (lq2 (lX9_areDouble_54 b0 p1 p2 p3) n p4 p5 H) 0 rr G' := by
  intro n
  induction n with
  | zero => intro ad Cn H G p4 p5 hS w0 h; cases h
  | succ n ih54 =>
    intro ad Cn H G p4 p5 hS w0 h
    rw [lh2_s] at h
    rw [lq2_s]
    generalize lh2 (glX9_areDouble_54 p0 p1 p2 p3) n = self54 at ih54 h
    generalize lq2 (lX9_areDouble_54 b0 p1 p2 p3) n = fself54 at ih54 ⊢
    unfold glX9_areDouble_54 at h
    unfold lX9_areDouble_54
    obtain ⟨x1, ex1, h⟩ := bnd h
    refine rb_ld 100 hS w0 ex1 rfl rfl ?_
    by_cases hc60 : p5 ≥ x1
    · have h := iteT hc60 h
      refine rif_t hc60 ?_
      exact sjX9_areDouble_152 hS h
    · have h := iteF hc60 h
      refine rif_f hc60 ?_
      by_cases hc65 : p4 = 0
      · have h := iteT hc65 h
        refine rif_t hc65 ?_
        exact sjX9_areDouble_152 hS h
      · have h := iteF hc65 h
        refine rif_f hc65 ?_
        obtain ⟨x2, ex2, h⟩ := bnd h
        refine rb_ldr 100 102 hS w0 ex2 rfl rfl ?_
        intro bx2 wx2
        obtain ⟨x3, ex3, h⟩ := bnd h
        refine rb_ld 102 hS wx2 ex3 rfl rfl ?_
        by_cases hc75 : x3 < 0
        · have h := iteT hc75 h
          refine rif_t hc75 ?_
          exact sjX9_areDouble_146 ih54 hS w0 h
        · have h := iteF hc75 h
          refine rif_f hc75 ?_
          obtain ⟨x4, ex4, h⟩ := bnd h
          refine rb_ldr 100 103 hS w0 ex4 rfl rfl ?_
          intro bx4 wx4
          obtain ⟨x5, ex5, h⟩ := bnd h
          refine rb_ld 103 hS wx4 ex5 rfl rfl ?_
          by_cases hc85 : x5 ≠ 0
          · have h := iteT hc85 h
            refine rif_t hc85 ?_
            exact sjX9_areDouble_146 ih54 hS w0 h
          · have h := iteF hc85 h
            refine rif_f hc85 ?_
            obtain ⟨x6, ex6, h⟩ := bnd h
            refine rb_ldr 100 107 hS w0 ex6 rfl rfl ?_
            intro bx6 wx6
            obtain ⟨x7, ex7, h⟩ := bnd h
            refine rb_ldr 100 102 hS w0 ex7 rfl rfl ?_
            intro bx7 wx7
            obtain ⟨x8, ex8, h⟩ := bnd h
            refine rb_ld 102 hS wx7 ex8 rfl rfl ?_
            obtain ⟨x9, ex9, h⟩ := bnd h
            refine rb_ld 107 hS wx6 ex9 rfl rfl ?_
            by_cases hc100 : x9 = 0
            · have h := iteT hc100 h
              refine rif_t hc100 ?_
              exact sjX9_areDouble_146 ih54 hS w0 h
            · have h := iteF hc100 h
              refine rif_f hc100 ?_
              exact slX9_areDouble_106 ih54 6000 _ _ _ _ p4 1  hS w0 h
def gjX9_areDouble_51 (p0 p1 p2 p3 p4 : Int) (G : GS) : GO :=
  lh2 (glX9_areDouble_54 p0 p1 p2 p3) 6000 p4 0 G
set_option maxHeartbeats 4000000 in
theorem sjX9_areDouble_51 {ad : Nat → Nat → Nat} {Cn : Nat → Nat} {H : PH} {G G' : GS} {rr : Int} {p0 p1 p2 p3 p4 b0 : Int} (hS : SimA ad Cn H G) (w0 : vrel ad Cn 100 b0 p0) (h : gjX9_areDouble_51 p0 p1 p2 p3 p4 G = some (rr, G')) : RS ad Cn (jX9_areDouble_51 b0 p1 p2 p3 p4 H) 0 rr G' := by
  unfold gjX9_areDouble_51 at h
  unfold jX9_areDouble_51
  exact slX9_areDouble_54 6000 _ _ _ _ p4 0  hS w0 h
def gjX9_areDouble_45 (self8 : Int → Int → Int → GS → GO) (p0 p1 p2 p3 p4 p5 : Int) (G : GS) : GO :=
  self8 p3 p4 (w32 (p5 + 1)) G
set_option maxHeartbeats 4000000 in
theorem sjX9_areDouble_45 {ad : Nat → Nat → Nat} {Cn : Nat → Nat} {H : PH} {G G' : GS} {rr : Int} {fself8 : Int → Int → Int → PH → RO} {self8 : Int → Int → Int → GS → GO} {p0 p1 p2 p3 p4 p5 b0 : Int} (ih8 : ∀ (ad : Nat → Nat → Nat) (Cn : Nat → Nat) (H : PH) (G : GS) (v3 v4 v5 : Int) , SimA ad Cn H G → vrel ad Cn 100 b0 p0 → self8 v3 v4 v5 G = some (rr, G') → RS ad Cn (fself8 v3 v4 v5 H) 0 rr G') (hS : SimA ad Cn H G) (w0 : vrel ad Cn 100 b0 p0) (h : gjX9_areDouble_45 self8 p0 p1 p2 p3 p4 p5 G = some (rr, G')) : RS ad Cn (jX9_areDouble_45 fself8 b0 p1 p2 p3 p4 p5 H) 0 rr G' := by
  unfold gjX9_areDouble_45 at h
  unfold jX9_areDouble_45
  exact ih8 _ _ _ _ p3 p4 (w32 (p5 + 1))  hS w0  h
def glX9_areDouble_8 (p0 p1 p2 : Int) (self8 : Int → Int → Int → GS → GO) (p3 p4 p5 : Int) (G : GS) : GO :=
  (gl 100 G p0 0).bind fun x1 => (if p5 ≥ x1 then gjX9_areDouble_51 p0 p1 p2 p3 p4 G
  else (if p4 = 0 then gjX9_areDouble_51 p0 p1 p2 p3 p4 G
  else (gl 100 G p0 7).bind fun x2 => (gl 107 G x2 p5).bind fun x3 => (if x3 = 0 then gjX9_areDouble_45 self8 p0 p1 p2 p3 p4 p5 G
  else (g_X9_areLike p0 p1 p2 p5 0 G).bind fun z4 => gjX9_areDouble_45 self8 p0 p1 p2 1 z4.1 p5 z4.2)))
set_option maxHeartbeats 4000000 in
theorem slX9_areDouble_8 {G' : GS} {rr : Int} {p0 p1 p2 b0 : Int} : ∀ (n : Nat) (ad : Nat → Nat → Nat) (Cn : Nat → Nat) (H : PH) (G : GS) (p3 p4 p5 : Int) , SimA ad Cn H G → vrel ad Cn 100 b0 p0 → lh3 (glX9_areDouble_8 p0 p1 p2) n p3 p4 p5 G = some (rr, G') → RS ad Cn (lq3 (lX9_areDouble_8 b0 p1 p2) n p3 p4 p5 H) 0 rr G' := by
  intro n
  induction n with
  | zero => intro ad Cn H G p3 p4 p5 hS w0 h; cases h
  | succ n ih8 =>
    intro ad Cn H G p3 p4 p5 hS w0 h
    rw [lh3_s] at h
    rw [lq3_s]
    generalize lh3 (glX9_areDouble_8 p0 p1 p2) n = self8 at ih8 h
    generalize lq3 (lX9_areDouble_8 b0 p1 p2) n = fself8 at ih8 ⊢
    unfold glX9_areDouble_8 at h
    unfold lX9_areDouble_8
    obtain ⟨x1, ex1, h⟩ := bnd h
    refine rb_ld 100 hS w0 ex1 rfl rfl ?_
    by_cases hc14 : p5 ≥ x1
    · have h := iteT hc14 h
      refine rif_t hc14 ?_
      exact sjX9_areDouble_51 hS w0 h
    · have h := iteF hc14 h
      refine rif_f hc14 ?_
      by_cases hc19 : p4 = 0
      · have h := iteT hc19 h
        refine rif_t hc19 ?_
        exact sjX9_areDouble_51 hS w0 h
      · have h := iteF hc19 h
        refine rif_f hc19 ?_
        obtain ⟨x2, ex2, h⟩ := bnd h
        refine rb_ldr 100 107 hS w0 ex2 rfl rfl ?_
        intro bx2 wx2
        obtain ⟨x3, ex3, h⟩ := bnd h
        refine rb_ld 107 hS wx2 ex3 rfl rfl ?_
        by_cases hc29 : x3 = 0
        · have h := iteT hc29 h
          refine rif_t hc29 ?_
          exact sjX9_areDouble_45 ih8 hS w0 h
        · have h := iteF hc29 h
          refine rif_f hc29 ?_
          obtain ⟨z4, ez4, h⟩ := bnd h
          refine rb_call (ρc := 0) (s_X9_areLike hS w0 ez4) ?_
          intro ad Cn bz4 H hS hx wz4
          dsimp only
          obtain rfl : bz4 = z4.1 := wz4
          have w0 := w0.mono hx
          exact sjX9_areDouble_45 ih8 hS w0 h
def g_X9_areDouble (a0 a1 a2 : Int) (G : GS) : GO := gvm a0 <|
  lh3 (glX9_areDouble_8 a0 a1 a2) 6000 0 1 0 G
set_option maxHeartbeats 4000000 in
theorem s_X9_areDouble {ad : Nat → Nat → Nat} {Cn : Nat → Nat} {H : PH} {G G' : GS} {rr : Int} {a0 a1 a2 b0 : Int} (hS : SimA ad Cn H G) (w0 : vrel ad Cn 100 b0 a0) (h : g_X9_areDouble a0 a1 a2 G = some (rr, G')) : RS ad Cn (f_X9_areDouble b0 a1 a2 H) 0 rr G' := by
  unfold g_X9_areDouble at h
  unfold f_X9_areDouble
  obtain ⟨hv, h⟩ := gvm_spec h
  refine rb_vm 100 9 hS w0 hv rfl ?_
  exact slX9_areDouble_8 6000 _ _ _ _ 0 1 0  hS w0 h
/-! HouseholdVaultModel.countDoubles(I)I by roles -/
def gjX9_countDoubles_55 (self4 : Int → Int → GS → GO) (self17 : Int → Int → GS → GO) (p0 p1 p2 p3 p4 : Int) (G : GS) : GO :=
  self17 p2 (w32 (p4 + 1)) G
set_option maxHeartbeats 4000000 in
theorem sjX9_countDoubles_55 {ad : Nat → Nat → Nat} {Cn : Nat → Nat} {H : PH} {G G' : GS} {rr : Int} {fself4 : Int → Int → PH → RO} {self4 : Int → Int → GS → GO} {fself17 : Int → Int → PH → RO} {self17 : Int → Int → GS → GO} {p0 p1 p2 p3 p4 b0 : Int} (ih4 : ∀ (ad : Nat → Nat → Nat) (Cn : Nat → Nat) (H : PH) (G : GS) (v2 v3 : Int) , SimA ad Cn H G → vrel ad Cn 100 b0 p0 → self4 v2 v3 G = some (rr, G') → RS ad Cn (fself4 v2 v3 H) 0 rr G') (ih17 : ∀ (ad : Nat → Nat → Nat) (Cn : Nat → Nat) (H : PH) (G : GS) (v2 v4 : Int) , SimA ad Cn H G → vrel ad Cn 100 b0 p0 → self17 v2 v4 G = some (rr, G') → RS ad Cn (fself17 v2 v4 H) 0 rr G') (hS : SimA ad Cn H G) (w0 : vrel ad Cn 100 b0 p0) (h : gjX9_countDoubles_55 self4 self17 p0 p1 p2 p3 p4 G = some (rr, G')) : RS ad Cn (jX9_countDoubles_55 fself4 fself17 b0 p1 p2 p3 p4 H) 0 rr G' := by
  unfold gjX9_countDoubles_55 at h
  unfold jX9_countDoubles_55
  exact ih17 _ _ _ _ p2 (w32 (p4 + 1))  hS w0  h
def gjX9_countDoubles_52 (self4 : Int → Int → GS → GO) (self17 : Int → Int → GS → GO) (p0 p1 p2 p3 p4 : Int) (G : GS) : GO :=
  gjX9_countDoubles_55 self4 self17 p0 p1 (w32 (p2 + 1)) p3 p4 G
set_option maxHeartbeats 4000000 in
theorem sjX9_countDoubles_52 {ad : Nat → Nat → Nat} {Cn : Nat → Nat} {H : PH} {G G' : GS} {rr : Int} {fself4 : Int → Int → PH → RO} {self4 : Int → Int → GS → GO} {fself17 : Int → Int → PH → RO} {self17 : Int → Int → GS → GO} {p0 p1 p2 p3 p4 b0 : Int} (ih4 : ∀ (ad : Nat → Nat → Nat) (Cn : Nat → Nat) (H : PH) (G : GS) (v2 v3 : Int) , SimA ad Cn H G → vrel ad Cn 100 b0 p0 → self4 v2 v3 G = some (rr, G') → RS ad Cn (fself4 v2 v3 H) 0 rr G') (ih17 : ∀ (ad : Nat → Nat → Nat) (Cn : Nat → Nat) (H : PH) (G : GS) (v2 v4 : Int) , SimA ad Cn H G → vrel ad Cn 100 b0 p0 → self17 v2 v4 G = some (rr, G') → RS ad Cn (fself17 v2 v4 H) 0 rr G') (hS : SimA ad Cn H G) (w0 : vrel ad Cn 100 b0 p0) (h : gjX9_countDoubles_52 self4 self17 p0 p1 p2 p3 p4 G = some (rr, G')) : RS ad Cn (jX9_countDoubles_52 fself4 fself17 b0 p1 p2 p3 p4 H) 0 rr G' := by
  unfold gjX9_countDoubles_52 at h
  unfold jX9_countDoubles_52
  exact sjX9_countDoubles_55 ih4 ih17 hS w0 h
def glX9_countDoubles_17 (self4 : Int → Int → GS → GO) (p0 p1 p3 : Int) (self17 : Int → Int → GS → GO) (p2 p4 : Int) (G : GS) : GO :=
  (gl 100 G p0 14).bind fun x1 => (if p4 ≥ x1 then self4 p2 (w32 (p3 + 1)) G
  else (g_X9_areDouble p0 p3 p4 G).bind fun z2 => (if z2.1 = 0 then gjX9_countDoubles_55 self4 self17 p0 p1 p2 p3 p4 z2.2
  else (if p2 ≠ p1 then gjX9_countDoubles_52 self4 self17 p0 p1 p2 p3 p4 z2.2
  else (gs 100 z2.2 p0 46 p3).bind fun G3 => (gs 100 G3 p0 47 p4).bind fun G4 => gjX9_countDoubles_52 self4 self17 p0 p1 p2 p3 p4 G4)))
set_option maxHeartbeats 4000000 in
theorem slX9_countDoubles_17 {G' : GS} {rr : Int} {fself4 : Int → Int → PH → RO} {self4 : Int → Int → GS → GO} {p0 p1 p3 b0 : Int} (ih4 : ∀ (ad : Nat → Nat → Nat) (Cn : Nat → Nat) (H : PH) (G : GS) (v2 v3 : Int) , SimA ad Cn H G → vrel ad Cn 100 b0 p0 → self4 v2 v3 G = some (rr, G') → RS ad Cn (fself4 v2 v3 H) 0 rr G') : ∀ (n : Nat) (ad : Nat → Nat → Nat) (Cn : Nat → Nat) (H : PH) (G : GS) (p2 p4 : Int) , SimA ad Cn H G → vrel ad Cn 100 b0 p0 → lh2 (glX9_countDoubles_17 self4 p0 p1 p3) n p2 p4 G = some (rr, G') → RS ad Cn (lq2 (lX9_countDoubles_17 fself4 b0 p1 p3) n p2 p4 H) 0 rr G' := by
  intro n
  induction n with
  | zero => intro ad Cn H G p2 p4 hS w0 h; cases h
  | succ n ih17 =>
    intro ad Cn H G p2 p4 hS w0 h
    rw [lh2_s] at h
    rw [lq2_s]
    generalize lh2 (glX9_countDoubles_17 self4 p0 p1 p3) n = self17 at ih17 h
    generalize lq2 (lX9_countDoubles_17 fself4 b0 p1 p3) n = fself17 at ih17 ⊢
    unfold glX9_countDoubles_17 at h
    unfold lX9_countDoubles_17
    obtain ⟨x1, ex1, h⟩ := bnd h
    refine rb_ld 100 hS w0 ex1 rfl rfl ?_
    by_cases hc23 : p4 ≥ x1
    · have h := iteT hc23 h
      refine rif_t hc23 ?_
      exact ih4 _ _ _ _ p2 (w32 (p3 + 1))  hS w0  h
    · have h := iteF hc23 h
      refine rif_f hc23 ?_
      obtain ⟨z2, ez2, h⟩ := bnd h
      refine rb_call (ρc := 0) (s_X9_areDouble hS w0 ez2) ?_
      intro ad Cn bz2 H hS hx wz2
      dsimp only
      obtain rfl : bz2 = z2.1 := wz2
      have w0 := w0.mono hx
      by_cases hc33 : z2.1 = 0
      · have h := iteT hc33 h
        refine rif_t hc33 ?_
        exact sjX9_countDoubles_55 ih4 ih17 hS w0 h
      · have h := iteF hc33 h
        refine rif_f hc33 ?_
        by_cases hc38 : p2 ≠ p1
        · have h := iteT hc38 h
          refine rif_t hc38 ?_
          exact sjX9_countDoubles_52 ih4 ih17 hS w0 h
        · have h := iteF hc38 h
          refine rif_f hc38 ?_
          obtain ⟨G3, eG3, h⟩ := bnd h
          refine rb_st 100 hS w0 (show rrel _ _ 0 _ _ from rfl) eG3 rfl ?_
          intro H hS
          obtain ⟨G4, eG4, h⟩ := bnd h
          refine rb_st 100 hS w0 (show rrel _ _ 0 _ _ from rfl) eG4 rfl ?_
          intro H hS
          exact sjX9_countDoubles_52 ih4 ih17 hS w0 h
def glX9_countDoubles_4 (p0 p1 : Int) (self4 : Int → Int → GS → GO) (p2 p3 : Int) (G : GS) : GO :=
  (gl 100 G p0 14).bind fun x1 => (if p3 ≥ x1 then some (p2, G)
  else lh2 (glX9_countDoubles_17 self4 p0 p1 p3) 6000 p2 (w32 (p3 + 1)) G)
set_option maxHeartbeats 4000000 in
theorem slX9_countDoubles_4 {G' : GS} {rr : Int} {p0 p1 b0 : Int} : ∀ (n : Nat) (ad : Nat → Nat → Nat) (Cn : Nat → Nat) (H : PH) (G : GS) (p2 p3 : Int) , SimA ad Cn H G → vrel ad Cn 100 b0 p0 → lh2 (glX9_countDoubles_4 p0 p1) n p2 p3 G = some (rr, G') → RS ad Cn (lq2 (lX9_countDoubles_4 b0 p1) n p2 p3 H) 0 rr G' := by
  intro n
  induction n with
  | zero => intro ad Cn H G p2 p3 hS w0 h; cases h
  | succ n ih4 =>
    intro ad Cn H G p2 p3 hS w0 h
    rw [lh2_s] at h
    rw [lq2_s]
    generalize lh2 (glX9_countDoubles_4 p0 p1) n = self4 at ih4 h
    generalize lq2 (lX9_countDoubles_4 b0 p1) n = fself4 at ih4 ⊢
    unfold glX9_countDoubles_4 at h
    unfold lX9_countDoubles_4
    obtain ⟨x1, ex1, h⟩ := bnd h
    refine rb_ld 100 hS w0 ex1 rfl rfl ?_
    by_cases hc9 : p3 ≥ x1
    · have h := iteT hc9 h
      refine rif_t hc9 ?_
      cases h
      exact rret hS rfl
    · have h := iteF hc9 h
      refine rif_f hc9 ?_
      exact slX9_countDoubles_17 ih4 6000 _ _ _ _ p2 (w32 (p3 + 1))  hS w0 h
def g_X9_countDoubles (a0 a1 : Int) (G : GS) : GO := gvm a0 <|
  lh2 (glX9_countDoubles_4 a0 a1) 6000 0 0 G
set_option maxHeartbeats 4000000 in
theorem s_X9_countDoubles {ad : Nat → Nat → Nat} {Cn : Nat → Nat} {H : PH} {G G' : GS} {rr : Int} {a0 a1 b0 : Int} (hS : SimA ad Cn H G) (w0 : vrel ad Cn 100 b0 a0) (h : g_X9_countDoubles a0 a1 G = some (rr, G')) : RS ad Cn (f_X9_countDoubles b0 a1 H) 0 rr G' := by
  unfold g_X9_countDoubles at h
  unfold f_X9_countDoubles
  obtain ⟨hv, h⟩ := gvm_spec h
  refine rb_vm 100 9 hS w0 hv rfl ?_
  exact slX9_countDoubles_4 6000 _ _ _ _ 0 0  hS w0 h
/-! HouseholdVaultModel.doubles()I by roles -/
def g_X9_doubles (a0 : Int) (G : GS) : GO := gvm a0 <|
  (g_X9_countDoubles a0 (-1) G).bind fun z1 => some (z1.1, z1.2)
set_option maxHeartbeats 4000000 in
theorem s_X9_doubles {ad : Nat → Nat → Nat} {Cn : Nat → Nat} {H : PH} {G G' : GS} {rr : Int} {a0 b0 : Int} (hS : SimA ad Cn H G) (w0 : vrel ad Cn 100 b0 a0) (h : g_X9_doubles a0 G = some (rr, G')) : RS ad Cn (f_X9_doubles b0 H) 0 rr G' := by
  unfold g_X9_doubles at h
  unfold f_X9_doubles
  obtain ⟨hv, h⟩ := gvm_spec h
  refine rb_vm 100 9 hS w0 hv rfl ?_
  obtain ⟨z1, ez1, h⟩ := bnd h
  refine rb_call (ρc := 0) (s_X9_countDoubles hS w0 ez1) ?_
  intro ad Cn bz1 H hS hx wz1
  dsimp only
  obtain rfl : bz1 = z1.1 := wz1
  have w0 := w0.mono hx
  cases h
  exact rret hS rfl
/-! HouseholdVaultModel.doubleAt(II)I by roles -/
def gjX9_doubleAt_23 (G : GS) : GO :=
  some ((-1), G)
set_option maxHeartbeats 4000000 in
theorem sjX9_doubleAt_23 {ad : Nat → Nat → Nat} {Cn : Nat → Nat} {H : PH} {G G' : GS} {rr : Int} (hS : SimA ad Cn H G)  (h : gjX9_doubleAt_23  G = some (rr, G')) : RS ad Cn (jX9_doubleAt_23  H) 0 rr G' := by
  unfold gjX9_doubleAt_23 at h
  unfold jX9_doubleAt_23
  cases h
  exact rret hS rfl
def g_X9_doubleAt (a0 a1 a2 : Int) (G : GS) : GO := gvm a0 <|
  (g_X9_in a2 0 1 G).bind fun z1 => (if z1.1 = 0 then gjX9_doubleAt_23  z1.2
  else (if a1 < 0 then gjX9_doubleAt_23  z1.2
  else (g_X9_countDoubles a0 a1 z1.2).bind fun z2 => (if a1 < z2.1 then (if a2 ≠ 0 then (gl 100 z2.2 a0 47).bind fun x3 => some (x3, z2.2)
  else (gl 100 z2.2 a0 46).bind fun x4 => some (x4, z2.2))
  else gjX9_doubleAt_23  z2.2)))
set_option maxHeartbeats 4000000 in
theorem s_X9_doubleAt {ad : Nat → Nat → Nat} {Cn : Nat → Nat} {H : PH} {G G' : GS} {rr : Int} {a0 a1 a2 b0 : Int} (hS : SimA ad Cn H G) (w0 : vrel ad Cn 100 b0 a0) (h : g_X9_doubleAt a0 a1 a2 G = some (rr, G')) : RS ad Cn (f_X9_doubleAt b0 a1 a2 H) 0 rr G' := by
  unfold g_X9_doubleAt at h
  unfold f_X9_doubleAt
  obtain ⟨hv, h⟩ := gvm_spec h
  refine rb_vm 100 9 hS w0 hv rfl ?_
  obtain ⟨z1, ez1, h⟩ := bnd h
  refine rb_call (ρc := 0) (s_X9_in hS ez1) ?_
  intro ad Cn bz1 H hS hx wz1
  dsimp only
  obtain rfl : bz1 = z1.1 := wz1
  have w0 := w0.mono hx
  by_cases hc7 : z1.1 = 0
  · have h := iteT hc7 h
    refine rif_t hc7 ?_
    exact sjX9_doubleAt_23 hS h
  · have h := iteF hc7 h
    refine rif_f hc7 ?_
    by_cases hc11 : a1 < 0
    · have h := iteT hc11 h
      refine rif_t hc11 ?_
      exact sjX9_doubleAt_23 hS h
    · have h := iteF hc11 h
      refine rif_f hc11 ?_
      obtain ⟨z2, ez2, h⟩ := bnd h
      refine rb_call (ρc := 0) (s_X9_countDoubles hS w0 ez2) ?_
      intro ad Cn bz2 H hS hx wz2
      dsimp only
      obtain rfl : bz2 = z2.1 := wz2
      have w0 := w0.mono hx
      by_cases hc20 : a1 < z2.1
      · have h := iteT hc20 h
        refine rif_t hc20 ?_
        by_cases hc28 : a2 ≠ 0
        · have h := iteT hc28 h
          refine rif_t hc28 ?_
          obtain ⟨x3, ex3, h⟩ := bnd h
          refine rb_ld 100 hS w0 ex3 rfl rfl ?_
          cases h
          exact rret hS rfl
        · have h := iteF hc28 h
          refine rif_f hc28 ?_
          obtain ⟨x4, ex4, h⟩ := bnd h
          refine rb_ld 100 hS w0 ex4 rfl rfl ?_
          cases h
          exact rret hS rfl
      · have h := iteF hc20 h
        refine rif_f hc20 ?_
        exact sjX9_doubleAt_23 hS h
/-! HouseholdVaultModel.freeze()I by roles -/
def glX9_freeze_14 (p0 : Int) (self14 : Int → GS → GO) (p1 : Int) (G : GS) : GO :=
  (if p1 ≥ 5760 then (gl 100 G p0 31).bind fun x1 => (gl 100 G p0 30).bind fun x2 => (gl 100 G p0 14).bind fun x3 => (gs 131 G x1 x2 x3).bind fun G4 => (gl 100 G4 p0 32).bind fun x5 => (gl 100 G4 p0 30).bind fun x6 => (gl 100 G4 p0 0).bind fun x7 => (gs 132 G4 x5 x6 x7).bind fun G8 => (gl 100 G8 p0 30).bind fun x9 => (gs 100 G8 p0 30 (w32 (x9 + 1))).bind fun G10 => (gl 100 G10 p0 30).bind fun x11 => some ((w32 (x11 - 1)), G10)
  else (gl 100 G p0 33).bind fun x12 => (gl 100 G p0 30).bind fun x13 => (gl 100 G p0 15).bind fun x14 => (gl 115 G x14 p1).bind fun x15 => (gs 133 G x12 (w32 ((w32 (5760 * x13)) + p1)) x15).bind fun G16 => (gl 100 G16 p0 34).bind fun x17 => (gl 100 G16 p0 30).bind fun x18 => (gl 100 G16 p0 16).bind fun x19 => (gl 116 G16 x19 p1).bind fun x20 => (gs 134 G16 x17 (w32 ((w32 (5760 * x18)) + p1)) x20).bind fun G21 => self14 (w32 (p1 + 1)) G21)
set_option maxHeartbeats 4000000 in
theorem slX9_freeze_14 {G' : GS} {rr : Int} {p0 b0 : Int} : ∀ (n : Nat) (ad : Nat → Nat → Nat) (Cn : Nat → Nat) (H : PH) (G : GS) (p1 : Int) , SimA ad Cn H G → vrel ad Cn 100 b0 p0 → lh1 (glX9_freeze_14 p0) n p1 G = some (rr, G') → RS ad Cn (lq1 (lX9_freeze_14 b0) n p1 H) 0 rr G' := by
  intro n
  induction n with
  | zero => intro ad Cn H G p1 hS w0 h; cases h
  | succ n ih14 =>
    intro ad Cn H G p1 hS w0 h
    rw [lh1_s] at h
    rw [lq1_s]
    generalize lh1 (glX9_freeze_14 p0) n = self14 at ih14 h
    generalize lq1 (lX9_freeze_14 b0) n = fself14 at ih14 ⊢
    unfold glX9_freeze_14 at h
    unfold lX9_freeze_14
    by_cases hc18 : p1 ≥ 5760
    · have h := iteT hc18 h
      refine rif_t hc18 ?_
      obtain ⟨x1, ex1, h⟩ := bnd h
      refine rb_ldr 100 131 hS w0 ex1 rfl rfl ?_
      intro bx1 wx1
      obtain ⟨x2, ex2, h⟩ := bnd h
      refine rb_ld 100 hS w0 ex2 rfl rfl ?_
      obtain ⟨x3, ex3, h⟩ := bnd h
      refine rb_ld 100 hS w0 ex3 rfl rfl ?_
      obtain ⟨G4, eG4, h⟩ := bnd h
      refine rb_st 131 hS wx1 (show rrel _ _ 0 _ _ from rfl) eG4 rfl ?_
      intro H hS
      obtain ⟨x5, ex5, h⟩ := bnd h
      refine rb_ldr 100 132 hS w0 ex5 rfl rfl ?_
      intro bx5 wx5
      obtain ⟨x6, ex6, h⟩ := bnd h
      refine rb_ld 100 hS w0 ex6 rfl rfl ?_
      obtain ⟨x7, ex7, h⟩ := bnd h
      refine rb_ld 100 hS w0 ex7 rfl rfl ?_
      obtain ⟨G8, eG8, h⟩ := bnd h
      refine rb_st 132 hS wx5 (show rrel _ _ 0 _ _ from rfl) eG8 rfl ?_
      intro H hS
      obtain ⟨x9, ex9, h⟩ := bnd h
      refine rb_ld 100 hS w0 ex9 rfl rfl ?_
      obtain ⟨G10, eG10, h⟩ := bnd h
      refine rb_st 100 hS w0 (show rrel _ _ 0 _ _ from rfl) eG10 rfl ?_
      intro H hS
      obtain ⟨x11, ex11, h⟩ := bnd h
      refine rb_ld 100 hS w0 ex11 rfl rfl ?_
      cases h
      exact rret hS rfl
    · have h := iteF hc18 h
      refine rif_f hc18 ?_
      obtain ⟨x12, ex12, h⟩ := bnd h
      refine rb_ldr 100 133 hS w0 ex12 rfl rfl ?_
      intro bx12 wx12
      obtain ⟨x13, ex13, h⟩ := bnd h
      refine rb_ld 100 hS w0 ex13 rfl rfl ?_
      obtain ⟨x14, ex14, h⟩ := bnd h
      refine rb_ldr 100 115 hS w0 ex14 rfl rfl ?_
      intro bx14 wx14
      obtain ⟨x15, ex15, h⟩ := bnd h
      refine rb_ld 115 hS wx14 ex15 rfl rfl ?_
      obtain ⟨G16, eG16, h⟩ := bnd h
      refine rb_st 133 hS wx12 (show rrel _ _ 0 _ _ from rfl) eG16 rfl ?_
      intro H hS
      obtain ⟨x17, ex17, h⟩ := bnd h
      refine rb_ldr 100 134 hS w0 ex17 rfl rfl ?_
      intro bx17 wx17
      obtain ⟨x18, ex18, h⟩ := bnd h
      refine rb_ld 100 hS w0 ex18 rfl rfl ?_
      obtain ⟨x19, ex19, h⟩ := bnd h
      refine rb_ldr 100 116 hS w0 ex19 rfl rfl ?_
      intro bx19 wx19
      obtain ⟨x20, ex20, h⟩ := bnd h
      refine rb_ld 116 hS wx19 ex20 rfl rfl ?_
      obtain ⟨G21, eG21, h⟩ := bnd h
      refine rb_st 134 hS wx17 (show rrel _ _ 0 _ _ from rfl) eG21 rfl ?_
      intro H hS
      exact ih14 _ _ _ _ (w32 (p1 + 1))  hS w0  h
def g_X9_freeze (a0 : Int) (G : GS) : GO := gvm a0 <|
  (gl 100 G a0 30).bind fun x1 => (if x1 ≠ 6 then lh1 (glX9_freeze_14 a0) 6000 0 G
  else some ((-4), G))
set_option maxHeartbeats 4000000 in
theorem s_X9_freeze {ad : Nat → Nat → Nat} {Cn : Nat → Nat} {H : PH} {G G' : GS} {rr : Int} {a0 b0 : Int} (hS : SimA ad Cn H G) (w0 : vrel ad Cn 100 b0 a0) (h : g_X9_freeze a0 G = some (rr, G')) : RS ad Cn (f_X9_freeze b0 H) 0 rr G' := by
  unfold g_X9_freeze at h
  unfold f_X9_freeze
  obtain ⟨hv, h⟩ := gvm_spec h
  refine rb_vm 100 9 hS w0 hv rfl ?_
  obtain ⟨x1, ex1, h⟩ := bnd h
  refine rb_ld 100 hS w0 ex1 rfl rfl ?_
  by_cases hc6 : x1 ≠ 6
  · have h := iteT hc6 h
    refine rif_t hc6 ?_
    exact slX9_freeze_14 6000 _ _ _ _ 0  hS w0 h
  · have h := iteF hc6 h
    refine rif_f hc6 ?_
    cases h
    exact rret hS rfl
/-! HouseholdVaultModel.isEdition(I)Z by roles -/
def g_X9_isEdition (a0 a1 : Int) (G : GS) : GO := gvm a0 <|
  (gl 100 G a0 30).bind fun x1 => (g_X9_in a1 0 (w32 (x1 - 1)) G).bind fun z2 => gzr z2.1 z2.2
set_option maxHeartbeats 4000000 in
theorem s_X9_isEdition {ad : Nat → Nat → Nat} {Cn : Nat → Nat} {H : PH} {G G' : GS} {rr : Int} {a0 a1 b0 : Int} (hS : SimA ad Cn H G) (w0 : vrel ad Cn 100 b0 a0) (h : g_X9_isEdition a0 a1 G = some (rr, G')) : RS ad Cn (f_X9_isEdition b0 a1 H) 0 rr G' := by
  unfold g_X9_isEdition at h
  unfold f_X9_isEdition
  obtain ⟨hv, h⟩ := gvm_spec h
  refine rb_vm 100 9 hS w0 hv rfl ?_
  obtain ⟨x1, ex1, h⟩ := bnd h
  refine rb_ld 100 hS w0 ex1 rfl rfl ?_
  obtain ⟨z2, ez2, h⟩ := bnd h
  refine rb_call (ρc := 0) (s_X9_in hS ez2) ?_
  intro ad Cn bz2 H hS hx wz2
  dsimp only
  obtain rfl : bz2 = z2.1 := wz2
  have w0 := w0.mono hx
  obtain ⟨hz, h⟩ := gzr_spec h
  cases h
  exact rb_zr hz (rret hS rfl)
/-! HouseholdVaultModel.personsThen(III)I by roles -/
def g_X9_personsThen (a0 a1 a2 a3 : Int) (G : GS) : GO := gvm a0 <|
  (gl 100 G a0 33).bind fun x1 => (g_X9_place a2 a3 0 G).bind fun z2 => (gl 133 z2.2 x1 (w32 ((w32 (5760 * a1)) + z2.1))).bind fun x3 => some ((w32 x3), z2.2)
set_option maxHeartbeats 4000000 in
theorem s_X9_personsThen {ad : Nat → Nat → Nat} {Cn : Nat → Nat} {H : PH} {G G' : GS} {rr : Int} {a0 a1 a2 a3 b0 : Int} (hS : SimA ad Cn H G) (w0 : vrel ad Cn 100 b0 a0) (h : g_X9_personsThen a0 a1 a2 a3 G = some (rr, G')) : RS ad Cn (f_X9_personsThen b0 a1 a2 a3 H) 0 rr G' := by
  unfold g_X9_personsThen at h
  unfold f_X9_personsThen
  obtain ⟨hv, h⟩ := gvm_spec h
  refine rb_vm 100 9 hS w0 hv rfl ?_
  obtain ⟨x1, ex1, h⟩ := bnd h
  refine rb_ldr 100 133 hS w0 ex1 rfl rfl ?_
  intro bx1 wx1
  obtain ⟨z2, ez2, h⟩ := bnd h
  refine rb_call (ρc := 0) (s_X9_place hS ez2) ?_
  intro ad Cn bz2 H hS hx wz2
  dsimp only
  obtain rfl : bz2 = z2.1 := wz2
  have w0 := w0.mono hx
  have wx1 := wx1.mono hx
  obtain ⟨x3, ex3, h⟩ := bnd h
  refine rb_ld 133 hS wx1 ex3 rfl rfl ?_
  cases h
  exact rret hS rfl
/-! HouseholdVaultModel.isFrozen(IIII)Z by roles -/
def g_X9_isFrozen (a0 a1 a2 a3 a4 : Int) (G : GS) : GO := gvm a0 <|
  (g_X9_isEdition a0 a1 G).bind fun z1 => (if z1.1 = 0 then some (0, z1.2)
  else (gl 100 z1.2 a0 31).bind fun x2 => (gl 131 z1.2 x2 a1).bind fun x3 => (g_X9_in a2 0 (w32 (x3 - 1)) z1.2).bind fun z4 => (if z4.1 = 0 then some (0, z4.2)
  else (gl 100 z4.2 a0 32).bind fun x5 => (gl 132 z4.2 x5 a1).bind fun x6 => (g_X9_in a3 0 (w32 (x6 - 1)) z4.2).bind fun z7 => (if z7.1 = 0 then some (0, z7.2)
  else (gl 100 z7.2 a0 3).bind fun x8 => (gl 103 z7.2 x8 a3).bind fun x9 => (if x9 ≤ 0 then (gl 100 z7.2 a0 2).bind fun x10 => (gl 102 z7.2 x10 a3).bind fun x11 => (if x11 ≥ 0 then (gl 100 z7.2 a0 2).bind fun x12 => (gl 102 z7.2 x12 a3).bind fun x13 => (g_X9_personsThen a0 a1 a2 x13 z7.2).bind fun z14 => (g_X9_in a4 0 (w32 (z14.1 - 1)) z14.2).bind fun z15 => gzr z15.1 z15.2
  else (if a4 ≠ (-1) then some (0, z7.2)
  else some (1, z7.2)))
  else some (0, z7.2)))))
set_option maxHeartbeats 4000000 in
theorem s_X9_isFrozen {ad : Nat → Nat → Nat} {Cn : Nat → Nat} {H : PH} {G G' : GS} {rr : Int} {a0 a1 a2 a3 a4 b0 : Int} (hS : SimA ad Cn H G) (w0 : vrel ad Cn 100 b0 a0) (h : g_X9_isFrozen a0 a1 a2 a3 a4 G = some (rr, G')) : RS ad Cn (f_X9_isFrozen b0 a1 a2 a3 a4 H) 0 rr G' := by
  unfold g_X9_isFrozen at h
  unfold f_X9_isFrozen
  obtain ⟨hv, h⟩ := gvm_spec h
  refine rb_vm 100 9 hS w0 hv rfl ?_
  obtain ⟨z1, ez1, h⟩ := bnd h
  refine rb_call (ρc := 0) (s_X9_isEdition hS w0 ez1) ?_
  intro ad Cn bz1 H hS hx wz1
  dsimp only
  obtain rfl : bz1 = z1.1 := wz1
  have w0 := w0.mono hx
  by_cases hc5 : z1.1 = 0
  · have h := iteT hc5 h
    refine rif_t hc5 ?_
    cases h
    exact rret hS rfl
  · have h := iteF hc5 h
    refine rif_f hc5 ?_
    obtain ⟨x2, ex2, h⟩ := bnd h
    refine rb_ldr 100 131 hS w0 ex2 rfl rfl ?_
    intro bx2 wx2
    obtain ⟨x3, ex3, h⟩ := bnd h
    refine rb_ld 131 hS wx2 ex3 rfl rfl ?_
    obtain ⟨z4, ez4, h⟩ := bnd h
    refine rb_call (ρc := 0) (s_X9_in hS ez4) ?_
    intro ad Cn bz4 H hS hx wz4
    dsimp only
    obtain rfl : bz4 = z4.1 := wz4
    have w0 := w0.mono hx
    by_cases hc23 : z4.1 = 0
    · have h := iteT hc23 h
      refine rif_t hc23 ?_
      cases h
      exact rret hS rfl
    · have h := iteF hc23 h
      refine rif_f hc23 ?_
      obtain ⟨x5, ex5, h⟩ := bnd h
      refine rb_ldr 100 132 hS w0 ex5 rfl rfl ?_
      intro bx5 wx5
      obtain ⟨x6, ex6, h⟩ := bnd h
      refine rb_ld 132 hS wx5 ex6 rfl rfl ?_
      obtain ⟨z7, ez7, h⟩ := bnd h
      refine rb_call (ρc := 0) (s_X9_in hS ez7) ?_
      intro ad Cn bz7 H hS hx wz7
      dsimp only
      obtain rfl : bz7 = z7.1 := wz7
      have w0 := w0.mono hx
      by_cases hc41 : z7.1 = 0
      · have h := iteT hc41 h
        refine rif_t hc41 ?_
        cases h
        exact rret hS rfl
      · have h := iteF hc41 h
        refine rif_f hc41 ?_
        obtain ⟨x8, ex8, h⟩ := bnd h
        refine rb_ldr 100 103 hS w0 ex8 rfl rfl ?_
        intro bx8 wx8
        obtain ⟨x9, ex9, h⟩ := bnd h
        refine rb_ld 103 hS wx8 ex9 rfl rfl ?_
        by_cases hc50 : x9 ≤ 0
        · have h := iteT hc50 h
          refine rif_t hc50 ?_
          obtain ⟨x10, ex10, h⟩ := bnd h
          refine rb_ldr 100 102 hS w0 ex10 rfl rfl ?_
          intro bx10 wx10
          obtain ⟨x11, ex11, h⟩ := bnd h
          refine rb_ld 102 hS wx10 ex11 rfl rfl ?_
          by_cases hc61 : x11 ≥ 0
          · have h := iteT hc61 h
            refine rif_t hc61 ?_
            obtain ⟨x12, ex12, h⟩ := bnd h
            refine rb_ldr 100 102 hS w0 ex12 rfl rfl ?_
            intro bx12 wx12
            obtain ⟨x13, ex13, h⟩ := bnd h
            refine rb_ld 102 hS wx12 ex13 rfl rfl ?_
            obtain ⟨z14, ez14, h⟩ := bnd h
            refine rb_call (ρc := 0) (s_X9_personsThen hS w0 ez14) ?_
            intro ad Cn bz14 H hS hx wz14
            dsimp only
            obtain rfl : bz14 = z14.1 := wz14
            have w0 := w0.mono hx
            obtain ⟨z15, ez15, h⟩ := bnd h
            refine rb_call (ρc := 0) (s_X9_in hS ez15) ?_
            intro ad Cn bz15 H hS hx wz15
            dsimp only
            obtain rfl : bz15 = z15.1 := wz15
            have w0 := w0.mono hx
            obtain ⟨hz, h⟩ := gzr_spec h
            cases h
            exact rb_zr hz (rret hS rfl)
          · have h := iteF hc61 h
            refine rif_f hc61 ?_
            by_cases hc67 : a4 ≠ (-1)
            · have h := iteT hc67 h
              refine rif_t hc67 ?_
              cases h
              exact rret hS rfl
            · have h := iteF hc67 h
              refine rif_f hc67 ?_
              cases h
              exact rret hS rfl
        · have h := iteF hc50 h
          refine rif_f hc50 ?_
          cases h
          exact rret hS rfl
/-! HouseholdVaultModel.frozen(IIII)J by roles -/
def g_X9_frozen (a0 a1 a2 a3 a4 : Int) (G : GS) : GO := gvm a0 <|
  (g_X9_isFrozen a0 a1 a2 a3 a4 G).bind fun z1 => (if z1.1 ≠ 0 then (g_X9_place a2 a3 (w32 (a4 + 1)) z1.2).bind fun z2 => (gl 100 z2.2 a0 34).bind fun x3 => (gl 134 z2.2 x3 (w32 ((w32 (5760 * a1)) + z2.1))).bind fun x4 => (if x4 ≤ 0 then (gl 100 z2.2 a0 33).bind fun x5 => (gl 133 z2.2 x5 (w32 ((w32 (5760 * a1)) + z2.1))).bind fun x6 => some (x6, z2.2)
  else some (0, z2.2))
  else some (0, z1.2))
set_option maxHeartbeats 4000000 in
theorem s_X9_frozen {ad : Nat → Nat → Nat} {Cn : Nat → Nat} {H : PH} {G G' : GS} {rr : Int} {a0 a1 a2 a3 a4 b0 : Int} (hS : SimA ad Cn H G) (w0 : vrel ad Cn 100 b0 a0) (h : g_X9_frozen a0 a1 a2 a3 a4 G = some (rr, G')) : RS ad Cn (f_X9_frozen b0 a1 a2 a3 a4 H) 0 rr G' := by
  unfold g_X9_frozen at h
  unfold f_X9_frozen
  obtain ⟨hv, h⟩ := gvm_spec h
  refine rb_vm 100 9 hS w0 hv rfl ?_
  obtain ⟨z1, ez1, h⟩ := bnd h
  refine rb_call (ρc := 0) (s_X9_isFrozen hS w0 ez1) ?_
  intro ad Cn bz1 H hS hx wz1
  dsimp only
  obtain rfl : bz1 = z1.1 := wz1
  have w0 := w0.mono hx
  by_cases hc9 : z1.1 ≠ 0
  · have h := iteT hc9 h
    refine rif_t hc9 ?_
    obtain ⟨z2, ez2, h⟩ := bnd h
    refine rb_call (ρc := 0) (s_X9_place hS ez2) ?_
    intro ad Cn bz2 H hS hx wz2
    dsimp only
    obtain rfl : bz2 = z2.1 := wz2
    have w0 := w0.mono hx
    obtain ⟨x3, ex3, h⟩ := bnd h
    refine rb_ldr 100 134 hS w0 ex3 rfl rfl ?_
    intro bx3 wx3
    obtain ⟨x4, ex4, h⟩ := bnd h
    refine rb_ld 134 hS wx3 ex4 rfl rfl ?_
    by_cases hc38 : x4 ≤ 0
    · have h := iteT hc38 h
      refine rif_t hc38 ?_
      obtain ⟨x5, ex5, h⟩ := bnd h
      refine rb_ldr 100 133 hS w0 ex5 rfl rfl ?_
      intro bx5 wx5
      obtain ⟨x6, ex6, h⟩ := bnd h
      refine rb_ld 133 hS wx5 ex6 rfl rfl ?_
      cases h
      exact rret hS rfl
    · have h := iteF hc38 h
      refine rif_f hc38 ?_
      cases h
      exact rret hS rfl
  · have h := iteF hc9 h
    refine rif_f hc9 ?_
    cases h
    exact rret hS rfl
/-! HouseholdVaultModel.frozenReason(IIII)I by roles -/
def g_X9_frozenReason (a0 a1 a2 a3 a4 : Int) (G : GS) : GO := gvm a0 <|
  (g_X9_isFrozen a0 a1 a2 a3 a4 G).bind fun z1 => (if z1.1 = 0 then some ((-1), z1.2)
  else (gl 100 z1.2 a0 34).bind fun x2 => (g_X9_place a2 a3 (w32 (a4 + 1)) z1.2).bind fun z3 => (gl 134 z3.2 x2 (w32 ((w32 (5760 * a1)) + z3.1))).bind fun x4 => some (x4, z3.2))
set_option maxHeartbeats 4000000 in
theorem s_X9_frozenReason {ad : Nat → Nat → Nat} {Cn : Nat → Nat} {H : PH} {G G' : GS} {rr : Int} {a0 a1 a2 a3 a4 b0 : Int} (hS : SimA ad Cn H G) (w0 : vrel ad Cn 100 b0 a0) (h : g_X9_frozenReason a0 a1 a2 a3 a4 G = some (rr, G')) : RS ad Cn (f_X9_frozenReason b0 a1 a2 a3 a4 H) 0 rr G' := by
  unfold g_X9_frozenReason at h
  unfold f_X9_frozenReason
  obtain ⟨hv, h⟩ := gvm_spec h
  refine rb_vm 100 9 hS w0 hv rfl ?_
  obtain ⟨z1, ez1, h⟩ := bnd h
  refine rb_call (ρc := 0) (s_X9_isFrozen hS w0 ez1) ?_
  intro ad Cn bz1 H hS hx wz1
  dsimp only
  obtain rfl : bz1 = z1.1 := wz1
  have w0 := w0.mono hx
  by_cases hc9 : z1.1 = 0
  · have h := iteT hc9 h
    refine rif_t hc9 ?_
    cases h
    exact rret hS rfl
  · have h := iteF hc9 h
    refine rif_f hc9 ?_
    obtain ⟨x2, ex2, h⟩ := bnd h
    refine rb_ldr 100 134 hS w0 ex2 rfl rfl ?_
    intro bx2 wx2
    obtain ⟨z3, ez3, h⟩ := bnd h
    refine rb_call (ρc := 0) (s_X9_place hS ez3) ?_
    intro ad Cn bz3 H hS hx wz3
    dsimp only
    obtain rfl : bz3 = z3.1 := wz3
    have w0 := w0.mono hx
    have wx2 := wx2.mono hx
    obtain ⟨x4, ex4, h⟩ := bnd h
    refine rb_ld 134 hS wx2 ex4 rfl rfl ?_
    cases h
    exact rret hS rfl
/-! HouseholdVaultModel.isChanged(IIIII)Z by roles -/
def gjX9_isChanged_128 (G : GS) : GO :=
  some (1, G)
set_option maxHeartbeats 4000000 in
theorem sjX9_isChanged_128 {ad : Nat → Nat → Nat} {Cn : Nat → Nat} {H : PH} {G G' : GS} {rr : Int} (hS : SimA ad Cn H G)  (h : gjX9_isChanged_128  G = some (rr, G')) : RS ad Cn (jX9_isChanged_128  H) 0 rr G' := by
  unfold gjX9_isChanged_128 at h
  unfold jX9_isChanged_128
  cases h
  exact rret hS rfl
def gjX9_isChanged_51 (p0 p1 p2 p3 p4 p5 : Int) (G : GS) : GO :=
  (g_X9_place p3 p4 p5 G).bind fun z1 => (g_X9_place p3 p4 p5 z1.2).bind fun z2 => (gl 100 z2.2 p0 34).bind fun x3 => (gl 134 z2.2 x3 (w32 ((w32 (5760 * p1)) + z1.1))).bind fun x4 => (gl 100 z2.2 p0 34).bind fun x5 => (gl 134 z2.2 x5 (w32 ((w32 (5760 * p2)) + z2.1))).bind fun x6 => (if x4 ≠ x6 then gjX9_isChanged_128  z2.2
  else (gl 100 z2.2 p0 34).bind fun x7 => (gl 134 z2.2 x7 (w32 ((w32 (5760 * p1)) + z1.1))).bind fun x8 => (if x8 ≠ 0 then some (0, z2.2)
  else (gl 100 z2.2 p0 33).bind fun x9 => (gl 133 z2.2 x9 (w32 ((w32 (5760 * p1)) + z1.1))).bind fun x10 => (gl 100 z2.2 p0 33).bind fun x11 => (gl 133 z2.2 x11 (w32 ((w32 (5760 * p2)) + z2.1))).bind fun x12 => (if (lc x10 x12) = 0 then some (0, z2.2)
  else gjX9_isChanged_128  z2.2)))
set_option maxHeartbeats 4000000 in
theorem sjX9_isChanged_51 {ad : Nat → Nat → Nat} {Cn : Nat → Nat} {H : PH} {G G' : GS} {rr : Int} {p0 p1 p2 p3 p4 p5 b0 : Int} (hS : SimA ad Cn H G) (w0 : vrel ad Cn 100 b0 p0) (h : gjX9_isChanged_51 p0 p1 p2 p3 p4 p5 G = some (rr, G')) : RS ad Cn (jX9_isChanged_51 b0 p1 p2 p3 p4 p5 H) 0 rr G' := by
  unfold gjX9_isChanged_51 at h
  unfold jX9_isChanged_51
  obtain ⟨z1, ez1, h⟩ := bnd h
  refine rb_call (ρc := 0) (s_X9_place hS ez1) ?_
  intro ad Cn bz1 H hS hx wz1
  dsimp only
  obtain rfl : bz1 = z1.1 := wz1
  have w0 := w0.mono hx
  obtain ⟨z2, ez2, h⟩ := bnd h
  refine rb_call (ρc := 0) (s_X9_place hS ez2) ?_
  intro ad Cn bz2 H hS hx wz2
  dsimp only
  obtain rfl : bz2 = z2.1 := wz2
  have w0 := w0.mono hx
  obtain ⟨x3, ex3, h⟩ := bnd h
  refine rb_ldr 100 134 hS w0 ex3 rfl rfl ?_
  intro bx3 wx3
  obtain ⟨x4, ex4, h⟩ := bnd h
  refine rb_ld 134 hS wx3 ex4 rfl rfl ?_
  obtain ⟨x5, ex5, h⟩ := bnd h
  refine rb_ldr 100 134 hS w0 ex5 rfl rfl ?_
  intro bx5 wx5
  obtain ⟨x6, ex6, h⟩ := bnd h
  refine rb_ld 134 hS wx5 ex6 rfl rfl ?_
  by_cases hc97 : x4 ≠ x6
  · have h := iteT hc97 h
    refine rif_t hc97 ?_
    exact sjX9_isChanged_128 hS h
  · have h := iteF hc97 h
    refine rif_f hc97 ?_
    obtain ⟨x7, ex7, h⟩ := bnd h
    refine rb_ldr 100 134 hS w0 ex7 rfl rfl ?_
    intro bx7 wx7
    obtain ⟨x8, ex8, h⟩ := bnd h
    refine rb_ld 134 hS wx7 ex8 rfl rfl ?_
    by_cases hc107 : x8 ≠ 0
    · have h := iteT hc107 h
      refine rif_t hc107 ?_
      cases h
      exact rret hS rfl
    · have h := iteF hc107 h
      refine rif_f hc107 ?_
      obtain ⟨x9, ex9, h⟩ := bnd h
      refine rb_ldr 100 133 hS w0 ex9 rfl rfl ?_
      intro bx9 wx9
      obtain ⟨x10, ex10, h⟩ := bnd h
      refine rb_ld 133 hS wx9 ex10 rfl rfl ?_
      obtain ⟨x11, ex11, h⟩ := bnd h
      refine rb_ldr 100 133 hS w0 ex11 rfl rfl ?_
      intro bx11 wx11
      obtain ⟨x12, ex12, h⟩ := bnd h
      refine rb_ld 133 hS wx11 ex12 rfl rfl ?_
      by_cases hc125 : (lc x10 x12) = 0
      · have h := iteT hc125 h
        refine rif_t hc125 ?_
        cases h
        exact rret hS rfl
      · have h := iteF hc125 h
        refine rif_f hc125 ?_
        exact sjX9_isChanged_128 hS h
def g_X9_isChanged (a0 a1 a2 a3 a4 a5 : Int) (G : GS) : GO := gvm a0 <|
  (if a5 ≤ 0 then gjX9_isChanged_51 a0 a1 a2 a3 a4 a5 G
  else (gl 100 G a0 2).bind fun x1 => (gl 102 G x1 a4).bind fun x2 => (g_X9_personsThen a0 a1 a3 x2 G).bind fun z3 => (gl 100 z3.2 a0 2).bind fun x4 => (gl 102 z3.2 x4 a4).bind fun x5 => (g_X9_personsThen a0 a2 a3 x5 z3.2).bind fun z6 => (if a5 > z3.1 then some (1, z6.2)
  else (if a5 ≤ z6.1 then gjX9_isChanged_51 a0 a1 a2 a3 a4 a5 z6.2
  else some (1, z6.2))))
set_option maxHeartbeats 4000000 in
theorem s_X9_isChanged {ad : Nat → Nat → Nat} {Cn : Nat → Nat} {H : PH} {G G' : GS} {rr : Int} {a0 a1 a2 a3 a4 a5 b0 : Int} (hS : SimA ad Cn H G) (w0 : vrel ad Cn 100 b0 a0) (h : g_X9_isChanged a0 a1 a2 a3 a4 a5 G = some (rr, G')) : RS ad Cn (f_X9_isChanged b0 a1 a2 a3 a4 a5 H) 0 rr G' := by
  unfold g_X9_isChanged at h
  unfold f_X9_isChanged
  obtain ⟨hv, h⟩ := gvm_spec h
  refine rb_vm 100 9 hS w0 hv rfl ?_
  by_cases hc2 : a5 ≤ 0
  · have h := iteT hc2 h
    refine rif_t hc2 ?_
    exact sjX9_isChanged_51 hS w0 h
  · have h := iteF hc2 h
    refine rif_f hc2 ?_
    obtain ⟨x1, ex1, h⟩ := bnd h
    refine rb_ldr 100 102 hS w0 ex1 rfl rfl ?_
    intro bx1 wx1
    obtain ⟨x2, ex2, h⟩ := bnd h
    refine rb_ld 102 hS wx1 ex2 rfl rfl ?_
    obtain ⟨z3, ez3, h⟩ := bnd h
    refine rb_call (ρc := 0) (s_X9_personsThen hS w0 ez3) ?_
    intro ad Cn bz3 H hS hx wz3
    dsimp only
    obtain rfl : bz3 = z3.1 := wz3
    have w0 := w0.mono hx
    obtain ⟨x4, ex4, h⟩ := bnd h
    refine rb_ldr 100 102 hS w0 ex4 rfl rfl ?_
    intro bx4 wx4
    obtain ⟨x5, ex5, h⟩ := bnd h
    refine rb_ld 102 hS wx4 ex5 rfl rfl ?_
    obtain ⟨z6, ez6, h⟩ := bnd h
    refine rb_call (ρc := 0) (s_X9_personsThen hS w0 ez6) ?_
    intro ad Cn bz6 H hS hx wz6
    dsimp only
    obtain rfl : bz6 = z6.1 := wz6
    have w0 := w0.mono hx
    by_cases hc39 : a5 > z3.1
    · have h := iteT hc39 h
      refine rif_t hc39 ?_
      cases h
      exact rret hS rfl
    · have h := iteF hc39 h
      refine rif_f hc39 ?_
      by_cases hc46 : a5 ≤ z6.1
      · have h := iteT hc46 h
        refine rif_t hc46 ?_
        exact sjX9_isChanged_51 hS w0 h
      · have h := iteF hc46 h
        refine rif_f hc46 ?_
        cases h
        exact rret hS rfl
/-! HouseholdVaultModel.countChanges(III)I by roles -/
def gjX9_countChanges_247 (self70 : Int → Int → GS → GO) (self80 : Int → Int → GS → GO) (p0 p1 p2 p3 p4 p5 p6 p7 p8 : Int) (G : GS) : GO :=
  self80 p4 (w32 (p8 + 1)) G
set_option maxHeartbeats 4000000 in
theorem sjX9_countChanges_247 {ad : Nat → Nat → Nat} {Cn : Nat → Nat} {H : PH} {G G' : GS} {rr : Int} {fself70 : Int → Int → PH → RO} {self70 : Int → Int → GS → GO} {fself80 : Int → Int → PH → RO} {self80 : Int → Int → GS → GO} {p0 p1 p2 p3 p4 p5 p6 p7 p8 b0 : Int} (ih70 : ∀ (ad : Nat → Nat → Nat) (Cn : Nat → Nat) (H : PH) (G : GS) (v4 v7 : Int) , SimA ad Cn H G → vrel ad Cn 100 b0 p0 → self70 v4 v7 G = some (rr, G') → RS ad Cn (fself70 v4 v7 H) 0 rr G') (ih80 : ∀ (ad : Nat → Nat → Nat) (Cn : Nat → Nat) (H : PH) (G : GS) (v4 v8 : Int) , SimA ad Cn H G → vrel ad Cn 100 b0 p0 → self80 v4 v8 G = some (rr, G') → RS ad Cn (fself80 v4 v8 H) 0 rr G') (hS : SimA ad Cn H G) (w0 : vrel ad Cn 100 b0 p0) (h : gjX9_countChanges_247 self70 self80 p0 p1 p2 p3 p4 p5 p6 p7 p8 G = some (rr, G')) : RS ad Cn (jX9_countChanges_247 fself70 fself80 b0 p1 p2 p3 p4 p5 p6 p7 p8 H) 0 rr G' := by
  unfold gjX9_countChanges_247 at h
  unfold jX9_countChanges_247
  exact ih80 _ _ _ _ p4 (w32 (p8 + 1))  hS w0  h
def gjX9_countChanges_241 (self70 : Int → Int → GS → GO) (self80 : Int → Int → GS → GO) (self180 : Int → Int → GS → GO) (p0 p1 p2 p3 p4 p5 p6 p7 p8 p11 p12 : Int) (G : GS) : GO :=
  self180 p4 (w32 (p12 + 1)) G
set_option maxHeartbeats 4000000 in
theorem sjX9_countChanges_241 {ad : Nat → Nat → Nat} {Cn : Nat → Nat} {H : PH} {G G' : GS} {rr : Int} {fself70 : Int → Int → PH → RO} {self70 : Int → Int → GS → GO} {fself80 : Int → Int → PH → RO} {self80 : Int → Int → GS → GO} {fself180 : Int → Int → PH → RO} {self180 : Int → Int → GS → GO} {p0 p1 p2 p3 p4 p5 p6 p7 p8 p11 p12 b0 : Int} (ih70 : ∀ (ad : Nat → Nat → Nat) (Cn : Nat → Nat) (H : PH) (G : GS) (v4 v7 : Int) , SimA ad Cn H G → vrel ad Cn 100 b0 p0 → self70 v4 v7 G = some (rr, G') → RS ad Cn (fself70 v4 v7 H) 0 rr G') (ih80 : ∀ (ad : Nat → Nat → Nat) (Cn : Nat → Nat) (H : PH) (G : GS) (v4 v8 : Int) , SimA ad Cn H G → vrel ad Cn 100 b0 p0 → self80 v4 v8 G = some (rr, G') → RS ad Cn (fself80 v4 v8 H) 0 rr G') (ih180 : ∀ (ad : Nat → Nat → Nat) (Cn : Nat → Nat) (H : PH) (G : GS) (v4 v12 : Int) , SimA ad Cn H G → vrel ad Cn 100 b0 p0 → self180 v4 v12 G = some (rr, G') → RS ad Cn (fself180 v4 v12 H) 0 rr G') (hS : SimA ad Cn H G) (w0 : vrel ad Cn 100 b0 p0) (h : gjX9_countChanges_241 self70 self80 self180 p0 p1 p2 p3 p4 p5 p6 p7 p8 p11 p12 G = some (rr, G')) : RS ad Cn (jX9_countChanges_241 fself70 fself80 fself180 b0 p1 p2 p3 p4 p5 p6 p7 p8 p11 p12 H) 0 rr G' := by
  unfold gjX9_countChanges_241 at h
  unfold jX9_countChanges_241
  exact ih180 _ _ _ _ p4 (w32 (p12 + 1))  hS w0  h
def gjX9_countChanges_238 (self70 : Int → Int → GS → GO) (self80 : Int → Int → GS → GO) (self180 : Int → Int → GS → GO) (p0 p1 p2 p3 p4 p5 p6 p7 p8 p11 p12 : Int) (G : GS) : GO :=
  gjX9_countChanges_241 self70 self80 self180 p0 p1 p2 p3 (w32 (p4 + 1)) p5 p6 p7 p8 p11 p12 G
set_option maxHeartbeats 4000000 in
theorem sjX9_countChanges_238 {ad : Nat → Nat → Nat} {Cn : Nat → Nat} {H : PH} {G G' : GS} {rr : Int} {fself70 : Int → Int → PH → RO} {self70 : Int → Int → GS → GO} {fself80 : Int → Int → PH → RO} {self80 : Int → Int → GS → GO} {fself180 : Int → Int → PH → RO} {self180 : Int → Int → GS → GO} {p0 p1 p2 p3 p4 p5 p6 p7 p8 p11 p12 b0 : Int} (ih70 : ∀ (ad : Nat → Nat → Nat) (Cn : Nat → Nat) (H : PH) (G : GS) (v4 v7 : Int) , SimA ad Cn H G → vrel ad Cn 100 b0 p0 → self70 v4 v7 G = some (rr, G') → RS ad Cn (fself70 v4 v7 H) 0 rr G') (ih80 : ∀ (ad : Nat → Nat → Nat) (Cn : Nat → Nat) (H : PH) (G : GS) (v4 v8 : Int) , SimA ad Cn H G → vrel ad Cn 100 b0 p0 → self80 v4 v8 G = some (rr, G') → RS ad Cn (fself80 v4 v8 H) 0 rr G') (ih180 : ∀ (ad : Nat → Nat → Nat) (Cn : Nat → Nat) (H : PH) (G : GS) (v4 v12 : Int) , SimA ad Cn H G → vrel ad Cn 100 b0 p0 → self180 v4 v12 G = some (rr, G') → RS ad Cn (fself180 v4 v12 H) 0 rr G') (hS : SimA ad Cn H G) (w0 : vrel ad Cn 100 b0 p0) (h : gjX9_countChanges_238 self70 self80 self180 p0 p1 p2 p3 p4 p5 p6 p7 p8 p11 p12 G = some (rr, G')) : RS ad Cn (jX9_countChanges_238 fself70 fself80 fself180 b0 p1 p2 p3 p4 p5 p6 p7 p8 p11 p12 H) 0 rr G' := by
  unfold gjX9_countChanges_238 at h
  unfold jX9_countChanges_238
  exact sjX9_countChanges_241 ih70 ih80 ih180 hS w0 h
def glX9_countChanges_180 (self70 : Int → Int → GS → GO) (self80 : Int → Int → GS → GO) (p0 p1 p2 p3 p5 p6 p7 p8 p11 : Int) (self180 : Int → Int → GS → GO) (p4 p12 : Int) (G : GS) : GO :=
  (if p12 > p11 then gjX9_countChanges_247 self70 self80 p0 p1 p2 p3 p4 p5 p6 p7 p8 G
  else (gl 100 G p0 3).bind fun x1 => (gl 103 G x1 p8).bind fun x2 => (if x2 ≠ 0 then gjX9_countChanges_247 self70 self80 p0 p1 p2 p3 p4 p5 p6 p7 p8 G
  else (g_X9_isChanged p0 p1 p2 p7 p8 p12 G).bind fun z3 => (if z3.1 = 0 then gjX9_countChanges_241 self70 self80 self180 p0 p1 p2 p3 p4 p5 p6 p7 p8 p11 p12 z3.2
  else (if p4 ≠ p3 then gjX9_countChanges_238 self70 self80 self180 p0 p1 p2 p3 p4 p5 p6 p7 p8 p11 p12 z3.2
  else (gs 100 z3.2 p0 46 p7).bind fun G4 => (gs 100 G4 p0 47 p8).bind fun G5 => (gs 100 G5 p0 48 (w32 (p12 - 1))).bind fun G6 => gjX9_countChanges_238 self70 self80 self180 p0 p1 p2 p3 p4 p5 p6 p7 p8 p11 p12 G6))))
set_option maxHeartbeats 4000000 in
theorem slX9_countChanges_180 {G' : GS} {rr : Int} {fself70 : Int → Int → PH → RO} {self70 : Int → Int → GS → GO} {fself80 : Int → Int → PH → RO} {self80 : Int → Int → GS → GO} {p0 p1 p2 p3 p5 p6 p7 p8 p11 b0 : Int} (ih70 : ∀ (ad : Nat → Nat → Nat) (Cn : Nat → Nat) (H : PH) (G : GS) (v4 v7 : Int) , SimA ad Cn H G → vrel ad Cn 100 b0 p0 → self70 v4 v7 G = some (rr, G') → RS ad Cn (fself70 v4 v7 H) 0 rr G') (ih80 : ∀ (ad : Nat → Nat → Nat) (Cn : Nat → Nat) (H : PH) (G : GS) (v4 v8 : Int) , SimA ad Cn H G → vrel ad Cn 100 b0 p0 → self80 v4 v8 G = some (rr, G') → RS ad Cn (fself80 v4 v8 H) 0 rr G') : ∀ (n : Nat) (ad : Nat → Nat → Nat) (Cn : Nat → Nat) (H : PH) (G : GS) (p4 p12 : Int) , SimA ad Cn H G → vrel ad Cn 100 b0 p0 → lh2 (glX9_countChanges_180 self70 self80 p0 p1 p2 p3 p5 p6 p7 p8 p11) n p4 p12 G = some (rr, G') → RS ad Cn (lq2 (lX9_countChanges_180 fself70 fself80 b0 p1 p2 p3 p5 p6 p7 p8 p11) n p4 p12 H) 0 rr G' := by
  intro n
  induction n with
  | zero => intro ad Cn H G p4 p12 hS w0 h; cases h
  | succ n ih180 =>
    intro ad Cn H G p4 p12 hS w0 h
    rw [lh2_s] at h
    rw [lq2_s]
    generalize lh2 (glX9_countChanges_180 self70 self80 p0 p1 p2 p3 p5 p6 p7 p8 p11) n = self180 at ih180 h
    generalize lq2 (lX9_countChanges_180 fself70 fself80 b0 p1 p2 p3 p5 p6 p7 p8 p11) n = fself180 at ih180 ⊢
    unfold glX9_countChanges_180 at h
    unfold lX9_countChanges_180
    by_cases hc184 : p12 > p11
    · have h := iteT hc184 h
      refine rif_t hc184 ?_
      exact sjX9_countChanges_247 ih70 ih80 hS w0 h
    · have h := iteF hc184 h
      refine rif_f hc184 ?_
      obtain ⟨x1, ex1, h⟩ := bnd h
      refine rb_ldr 100 103 hS w0 ex1 rfl rfl ?_
      intro bx1 wx1
      obtain ⟨x2, ex2, h⟩ := bnd h
      refine rb_ld 103 hS wx1 ex2 rfl rfl ?_
      by_cases hc194 : x2 ≠ 0
      · have h := iteT hc194 h
        refine rif_t hc194 ?_
        exact sjX9_countChanges_247 ih70 ih80 hS w0 h
      · have h := iteF hc194 h
        refine rif_f hc194 ?_
        obtain ⟨z3, ez3, h⟩ := bnd h
        refine rb_call (ρc := 0) (s_X9_isChanged hS w0 ez3) ?_
        intro ad Cn bz3 H hS hx wz3
        dsimp only
        obtain rfl : bz3 = z3.1 := wz3
        have w0 := w0.mono hx
        by_cases hc209 : z3.1 = 0
        · have h := iteT hc209 h
          refine rif_t hc209 ?_
          exact sjX9_countChanges_241 ih70 ih80 ih180 hS w0 h
        · have h := iteF hc209 h
          refine rif_f hc209 ?_
          by_cases hc215 : p4 ≠ p3
          · have h := iteT hc215 h
            refine rif_t hc215 ?_
            exact sjX9_countChanges_238 ih70 ih80 ih180 hS w0 h
          · have h := iteF hc215 h
            refine rif_f hc215 ?_
            obtain ⟨G4, eG4, h⟩ := bnd h
            refine rb_st 100 hS w0 (show rrel _ _ 0 _ _ from rfl) eG4 rfl ?_
            intro H hS
            obtain ⟨G5, eG5, h⟩ := bnd h
            refine rb_st 100 hS w0 (show rrel _ _ 0 _ _ from rfl) eG5 rfl ?_
            intro H hS
            obtain ⟨G6, eG6, h⟩ := bnd h
            refine rb_st 100 hS w0 (show rrel _ _ 0 _ _ from rfl) eG6 rfl ?_
            intro H hS
            exact sjX9_countChanges_238 ih70 ih80 ih180 hS w0 h
def gjX9_countChanges_178 (self70 : Int → Int → GS → GO) (self80 : Int → Int → GS → GO) (p0 p1 p2 p3 p4 p5 p6 p7 p8 p11 s0 : Int) (G : GS) : GO :=
  lh2 (glX9_countChanges_180 self70 self80 p0 p1 p2 p3 p5 p6 p7 p8 p11) 6000 p4 s0 G
set_option maxHeartbeats 4000000 in
theorem sjX9_countChanges_178 {ad : Nat → Nat → Nat} {Cn : Nat → Nat} {H : PH} {G G' : GS} {rr : Int} {fself70 : Int → Int → PH → RO} {self70 : Int → Int → GS → GO} {fself80 : Int → Int → PH → RO} {self80 : Int → Int → GS → GO} {p0 p1 p2 p3 p4 p5 p6 p7 p8 p11 s0 b0 : Int} (ih70 : ∀ (ad : Nat → Nat → Nat) (Cn : Nat → Nat) (H : PH) (G : GS) (v4 v7 : Int) , SimA ad Cn H G → vrel ad Cn 100 b0 p0 → self70 v4 v7 G = some (rr, G') → RS ad Cn (fself70 v4 v7 H) 0 rr G') (ih80 : ∀ (ad : Nat → Nat → Nat) (Cn : Nat → Nat) (H : PH) (G : GS) (v4 v8 : Int) , SimA ad Cn H G → vrel ad Cn 100 b0 p0 → self80 v4 v8 G = some (rr, G') → RS ad Cn (fself80 v4 v8 H) 0 rr G') (hS : SimA ad Cn H G) (w0 : vrel ad Cn 100 b0 p0) (h : gjX9_countChanges_178 self70 self80 p0 p1 p2 p3 p4 p5 p6 p7 p8 p11 s0 G = some (rr, G')) : RS ad Cn (jX9_countChanges_178 fself70 fself80 b0 p1 p2 p3 p4 p5 p6 p7 p8 p11 s0 H) 0 rr G' := by
  unfold gjX9_countChanges_178 at h
  unfold jX9_countChanges_178
  exact slX9_countChanges_180 ih70 ih80 6000 _ _ _ _ p4 s0  hS w0 h
def gjX9_countChanges_161 (self70 : Int → Int → GS → GO) (self80 : Int → Int → GS → GO) (p0 p1 p2 p3 p4 p5 p6 p7 p8 s0 : Int) (G : GS) : GO :=
  (gl 100 G p0 2).bind fun x1 => (gl 102 G x1 p8).bind fun x2 => (if x2 ≥ 0 then gjX9_countChanges_178 self70 self80 p0 p1 p2 p3 p4 p5 p6 p7 p8 s0 1 G
  else gjX9_countChanges_178 self70 self80 p0 p1 p2 p3 p4 p5 p6 p7 p8 s0 0 G)
set_option maxHeartbeats 4000000 in
theorem sjX9_countChanges_161 {ad : Nat → Nat → Nat} {Cn : Nat → Nat} {H : PH} {G G' : GS} {rr : Int} {fself70 : Int → Int → PH → RO} {self70 : Int → Int → GS → GO} {fself80 : Int → Int → PH → RO} {self80 : Int → Int → GS → GO} {p0 p1 p2 p3 p4 p5 p6 p7 p8 s0 b0 : Int} (ih70 : ∀ (ad : Nat → Nat → Nat) (Cn : Nat → Nat) (H : PH) (G : GS) (v4 v7 : Int) , SimA ad Cn H G → vrel ad Cn 100 b0 p0 → self70 v4 v7 G = some (rr, G') → RS ad Cn (fself70 v4 v7 H) 0 rr G') (ih80 : ∀ (ad : Nat → Nat → Nat) (Cn : Nat → Nat) (H : PH) (G : GS) (v4 v8 : Int) , SimA ad Cn H G → vrel ad Cn 100 b0 p0 → self80 v4 v8 G = some (rr, G') → RS ad Cn (fself80 v4 v8 H) 0 rr G') (hS : SimA ad Cn H G) (w0 : vrel ad Cn 100 b0 p0) (h : gjX9_countChanges_161 self70 self80 p0 p1 p2 p3 p4 p5 p6 p7 p8 s0 G = some (rr, G')) : RS ad Cn (jX9_countChanges_161 fself70 fself80 b0 p1 p2 p3 p4 p5 p6 p7 p8 s0 H) 0 rr G' := by
  unfold gjX9_countChanges_161 at h
  unfold jX9_countChanges_161
  obtain ⟨x1, ex1, h⟩ := bnd h
  refine rb_ldr 100 102 hS w0 ex1 rfl rfl ?_
  intro bx1 wx1
  obtain ⟨x2, ex2, h⟩ := bnd h
  refine rb_ld 102 hS wx1 ex2 rfl rfl ?_
  by_cases hc170 : x2 ≥ 0
  · have h := iteT hc170 h
    refine rif_t hc170 ?_
    exact sjX9_countChanges_178 ih70 ih80 hS w0 h
  · have h := iteF hc170 h
    refine rif_f hc170 ?_
    exact sjX9_countChanges_178 ih70 ih80 hS w0 h
def gjX9_countChanges_145 (self70 : Int → Int → GS → GO) (self80 : Int → Int → GS → GO) (p0 p1 p2 p3 p4 p5 p6 p7 p8 p9 s0 : Int) (G : GS) : GO :=
  (if p9 ≤ s0 then gjX9_countChanges_161 self70 self80 p0 p1 p2 p3 p4 p5 p6 p7 p8 s0 G
  else gjX9_countChanges_161 self70 self80 p0 p1 p2 p3 p4 p5 p6 p7 p8 p9 G)
set_option maxHeartbeats 4000000 in
theorem sjX9_countChanges_145 {ad : Nat → Nat → Nat} {Cn : Nat → Nat} {H : PH} {G G' : GS} {rr : Int} {fself70 : Int → Int → PH → RO} {self70 : Int → Int → GS → GO} {fself80 : Int → Int → PH → RO} {self80 : Int → Int → GS → GO} {p0 p1 p2 p3 p4 p5 p6 p7 p8 p9 s0 b0 : Int} (ih70 : ∀ (ad : Nat → Nat → Nat) (Cn : Nat → Nat) (H : PH) (G : GS) (v4 v7 : Int) , SimA ad Cn H G → vrel ad Cn 100 b0 p0 → self70 v4 v7 G = some (rr, G') → RS ad Cn (fself70 v4 v7 H) 0 rr G') (ih80 : ∀ (ad : Nat → Nat → Nat) (Cn : Nat → Nat) (H : PH) (G : GS) (v4 v8 : Int) , SimA ad Cn H G → vrel ad Cn 100 b0 p0 → self80 v4 v8 G = some (rr, G') → RS ad Cn (fself80 v4 v8 H) 0 rr G') (hS : SimA ad Cn H G) (w0 : vrel ad Cn 100 b0 p0) (h : gjX9_countChanges_145 self70 self80 p0 p1 p2 p3 p4 p5 p6 p7 p8 p9 s0 G = some (rr, G')) : RS ad Cn (jX9_countChanges_145 fself70 fself80 b0 p1 p2 p3 p4 p5 p6 p7 p8 p9 s0 H) 0 rr G' := by
  unfold gjX9_countChanges_145 at h
  unfold jX9_countChanges_145
  by_cases hc151 : p9 ≤ s0
  · have h := iteT hc151 h
    refine rif_t hc151 ?_
    exact sjX9_countChanges_161 ih70 ih80 hS w0 h
  · have h := iteF hc151 h
    refine rif_f hc151 ?_
    exact sjX9_countChanges_161 ih70 ih80 hS w0 h
def gjX9_countChanges_115 (self70 : Int → Int → GS → GO) (self80 : Int → Int → GS → GO) (p0 p1 p2 p3 p4 p5 p6 p7 p8 s0 : Int) (G : GS) : GO :=
  (gl 100 G p0 2).bind fun x1 => (gl 102 G x1 p8).bind fun x2 => (if x2 ≥ 0 then (gl 100 G p0 2).bind fun x3 => (gl 102 G x3 p8).bind fun x4 => (g_X9_personsThen p0 p2 p7 x4 G).bind fun z5 => gjX9_countChanges_145 self70 self80 p0 p1 p2 p3 p4 p5 p6 p7 p8 s0 z5.1 z5.2
  else gjX9_countChanges_145 self70 self80 p0 p1 p2 p3 p4 p5 p6 p7 p8 s0 0 G)
set_option maxHeartbeats 4000000 in
theorem sjX9_countChanges_115 {ad : Nat → Nat → Nat} {Cn : Nat → Nat} {H : PH} {G G' : GS} {rr : Int} {fself70 : Int → Int → PH → RO} {self70 : Int → Int → GS → GO} {fself80 : Int → Int → PH → RO} {self80 : Int → Int → GS → GO} {p0 p1 p2 p3 p4 p5 p6 p7 p8 s0 b0 : Int} (ih70 : ∀ (ad : Nat → Nat → Nat) (Cn : Nat → Nat) (H : PH) (G : GS) (v4 v7 : Int) , SimA ad Cn H G → vrel ad Cn 100 b0 p0 → self70 v4 v7 G = some (rr, G') → RS ad Cn (fself70 v4 v7 H) 0 rr G') (ih80 : ∀ (ad : Nat → Nat → Nat) (Cn : Nat → Nat) (H : PH) (G : GS) (v4 v8 : Int) , SimA ad Cn H G → vrel ad Cn 100 b0 p0 → self80 v4 v8 G = some (rr, G') → RS ad Cn (fself80 v4 v8 H) 0 rr G') (hS : SimA ad Cn H G) (w0 : vrel ad Cn 100 b0 p0) (h : gjX9_countChanges_115 self70 self80 p0 p1 p2 p3 p4 p5 p6 p7 p8 s0 G = some (rr, G')) : RS ad Cn (jX9_countChanges_115 fself70 fself80 b0 p1 p2 p3 p4 p5 p6 p7 p8 s0 H) 0 rr G' := by
  unfold gjX9_countChanges_115 at h
  unfold jX9_countChanges_115
  obtain ⟨x1, ex1, h⟩ := bnd h
  refine rb_ldr 100 102 hS w0 ex1 rfl rfl ?_
  intro bx1 wx1
  obtain ⟨x2, ex2, h⟩ := bnd h
  refine rb_ld 102 hS wx1 ex2 rfl rfl ?_
  by_cases hc124 : x2 ≥ 0
  · have h := iteT hc124 h
    refine rif_t hc124 ?_
    obtain ⟨x3, ex3, h⟩ := bnd h
    refine rb_ldr 100 102 hS w0 ex3 rfl rfl ?_
    intro bx3 wx3
    obtain ⟨x4, ex4, h⟩ := bnd h
    refine rb_ld 102 hS wx3 ex4 rfl rfl ?_
    obtain ⟨z5, ez5, h⟩ := bnd h
    refine rb_call (ρc := 0) (s_X9_personsThen hS w0 ez5) ?_
    intro ad Cn bz5 H hS hx wz5
    dsimp only
    obtain rfl : bz5 = z5.1 := wz5
    have w0 := w0.mono hx
    exact sjX9_countChanges_145 ih70 ih80 hS w0 h
  · have h := iteF hc124 h
    refine rif_f hc124 ?_
    exact sjX9_countChanges_145 ih70 ih80 hS w0 h
def glX9_countChanges_80 (self70 : Int → Int → GS → GO) (p0 p1 p2 p3 p5 p6 p7 : Int) (self80 : Int → Int → GS → GO) (p4 p8 : Int) (G : GS) : GO :=
  (if p8 ≥ p6 then self70 p4 (w32 (p7 + 1)) G
  else (gl 100 G p0 2).bind fun x1 => (gl 102 G x1 p8).bind fun x2 => (if x2 ≥ 0 then (gl 100 G p0 2).bind fun x3 => (gl 102 G x3 p8).bind fun x4 => (g_X9_personsThen p0 p1 p7 x4 G).bind fun z5 => gjX9_countChanges_115 self70 self80 p0 p1 p2 p3 p4 p5 p6 p7 p8 z5.1 z5.2
  else gjX9_countChanges_115 self70 self80 p0 p1 p2 p3 p4 p5 p6 p7 p8 0 G))
set_option maxHeartbeats 4000000 in
theorem slX9_countChanges_80 {G' : GS} {rr : Int} {fself70 : Int → Int → PH → RO} {self70 : Int → Int → GS → GO} {p0 p1 p2 p3 p5 p6 p7 b0 : Int} (ih70 : ∀ (ad : Nat → Nat → Nat) (Cn : Nat → Nat) (H : PH) (G : GS) (v4 v7 : Int) , SimA ad Cn H G → vrel ad Cn 100 b0 p0 → self70 v4 v7 G = some (rr, G') → RS ad Cn (fself70 v4 v7 H) 0 rr G') : ∀ (n : Nat) (ad : Nat → Nat → Nat) (Cn : Nat → Nat) (H : PH) (G : GS) (p4 p8 : Int) , SimA ad Cn H G → vrel ad Cn 100 b0 p0 → lh2 (glX9_countChanges_80 self70 p0 p1 p2 p3 p5 p6 p7) n p4 p8 G = some (rr, G') → RS ad Cn (lq2 (lX9_countChanges_80 fself70 b0 p1 p2 p3 p5 p6 p7) n p4 p8 H) 0 rr G' := by
  intro n
  induction n with
  | zero => intro ad Cn H G p4 p8 hS w0 h; cases h
  | succ n ih80 =>
    intro ad Cn H G p4 p8 hS w0 h
    rw [lh2_s] at h
    rw [lq2_s]
    generalize lh2 (glX9_countChanges_80 self70 p0 p1 p2 p3 p5 p6 p7) n = self80 at ih80 h
    generalize lq2 (lX9_countChanges_80 fself70 b0 p1 p2 p3 p5 p6 p7) n = fself80 at ih80 ⊢
    unfold glX9_countChanges_80 at h
    unfold lX9_countChanges_80
    by_cases hc84 : p8 ≥ p6
    · have h := iteT hc84 h
      refine rif_t hc84 ?_
      exact ih70 _ _ _ _ p4 (w32 (p7 + 1))  hS w0  h
    · have h := iteF hc84 h
      refine rif_f hc84 ?_
      obtain ⟨x1, ex1, h⟩ := bnd h
      refine rb_ldr 100 102 hS w0 ex1 rfl rfl ?_
      intro bx1 wx1
      obtain ⟨x2, ex2, h⟩ := bnd h
      refine rb_ld 102 hS wx1 ex2 rfl rfl ?_
      by_cases hc94 : x2 ≥ 0
      · have h := iteT hc94 h
        refine rif_t hc94 ?_
        obtain ⟨x3, ex3, h⟩ := bnd h
        refine rb_ldr 100 102 hS w0 ex3 rfl rfl ?_
        intro bx3 wx3
        obtain ⟨x4, ex4, h⟩ := bnd h
        refine rb_ld 102 hS wx3 ex4 rfl rfl ?_
        obtain ⟨z5, ez5, h⟩ := bnd h
        refine rb_call (ρc := 0) (s_X9_personsThen hS w0 ez5) ?_
        intro ad Cn bz5 H hS hx wz5
        dsimp only
        obtain rfl : bz5 = z5.1 := wz5
        have w0 := w0.mono hx
        exact sjX9_countChanges_115 ih70 ih80 hS w0 h
      · have h := iteF hc94 h
        refine rif_f hc94 ?_
        exact sjX9_countChanges_115 ih70 ih80 hS w0 h
def glX9_countChanges_70 (p0 p1 p2 p3 p5 p6 : Int) (self70 : Int → Int → GS → GO) (p4 p7 : Int) (G : GS) : GO :=
  (if p7 ≥ p5 then some (p4, G)
  else lh2 (glX9_countChanges_80 self70 p0 p1 p2 p3 p5 p6 p7) 6000 p4 0 G)
set_option maxHeartbeats 4000000 in
theorem slX9_countChanges_70 {G' : GS} {rr : Int} {p0 p1 p2 p3 p5 p6 b0 : Int} : ∀ (n : Nat) (ad : Nat → Nat → Nat) (Cn : Nat → Nat) (H : PH) (G : GS) (p4 p7 : Int) , SimA ad Cn H G → vrel ad Cn 100 b0 p0 → lh2 (glX9_countChanges_70 p0 p1 p2 p3 p5 p6) n p4 p7 G = some (rr, G') → RS ad Cn (lq2 (lX9_countChanges_70 b0 p1 p2 p3 p5 p6) n p4 p7 H) 0 rr G' := by
  intro n
  induction n with
  | zero => intro ad Cn H G p4 p7 hS w0 h; cases h
  | succ n ih70 =>
    intro ad Cn H G p4 p7 hS w0 h
    rw [lh2_s] at h
    rw [lq2_s]
    generalize lh2 (glX9_countChanges_70 p0 p1 p2 p3 p5 p6) n = self70 at ih70 h
    generalize lq2 (lX9_countChanges_70 b0 p1 p2 p3 p5 p6) n = fself70 at ih70 ⊢
    unfold glX9_countChanges_70 at h
    unfold lX9_countChanges_70
    by_cases hc74 : p7 ≥ p5
    · have h := iteT hc74 h
      refine rif_t hc74 ?_
      cases h
      exact rret hS rfl
    · have h := iteF hc74 h
      refine rif_f hc74 ?_
      exact slX9_countChanges_80 ih70 6000 _ _ _ _ p4 0  hS w0 h
def gjX9_countChanges_65 (p0 p1 p2 p3 p4 p5 s0 : Int) (G : GS) : GO :=
  lh2 (glX9_countChanges_70 p0 p1 p2 p3 p5 s0) 6000 p4 0 G
set_option maxHeartbeats 4000000 in
theorem sjX9_countChanges_65 {ad : Nat → Nat → Nat} {Cn : Nat → Nat} {H : PH} {G G' : GS} {rr : Int} {p0 p1 p2 p3 p4 p5 s0 b0 : Int} (hS : SimA ad Cn H G) (w0 : vrel ad Cn 100 b0 p0) (h : gjX9_countChanges_65 p0 p1 p2 p3 p4 p5 s0 G = some (rr, G')) : RS ad Cn (jX9_countChanges_65 b0 p1 p2 p3 p4 p5 s0 H) 0 rr G' := by
  unfold gjX9_countChanges_65 at h
  unfold jX9_countChanges_65
  exact slX9_countChanges_70 6000 _ _ _ _ p4 0  hS w0 h
def gjX9_countChanges_33 (p0 p1 p2 p3 p4 s0 : Int) (G : GS) : GO :=
  (gl 100 G p0 32).bind fun x1 => (gl 132 G x1 p1).bind fun x2 => (gl 100 G p0 32).bind fun x3 => (gl 132 G x3 p2).bind fun x4 => (if x2 ≥ x4 then (gl 100 G p0 32).bind fun x5 => (gl 132 G x5 p2).bind fun x6 => gjX9_countChanges_65 p0 p1 p2 p3 p4 s0 x6 G
  else (gl 100 G p0 32).bind fun x7 => (gl 132 G x7 p1).bind fun x8 => gjX9_countChanges_65 p0 p1 p2 p3 p4 s0 x8 G)
set_option maxHeartbeats 4000000 in
theorem sjX9_countChanges_33 {ad : Nat → Nat → Nat} {Cn : Nat → Nat} {H : PH} {G G' : GS} {rr : Int} {p0 p1 p2 p3 p4 s0 b0 : Int} (hS : SimA ad Cn H G) (w0 : vrel ad Cn 100 b0 p0) (h : gjX9_countChanges_33 p0 p1 p2 p3 p4 s0 G = some (rr, G')) : RS ad Cn (jX9_countChanges_33 b0 p1 p2 p3 p4 s0 H) 0 rr G' := by
  unfold gjX9_countChanges_33 at h
  unfold jX9_countChanges_33
  obtain ⟨x1, ex1, h⟩ := bnd h
  refine rb_ldr 100 132 hS w0 ex1 rfl rfl ?_
  intro bx1 wx1
  obtain ⟨x2, ex2, h⟩ := bnd h
  refine rb_ld 132 hS wx1 ex2 rfl rfl ?_
  obtain ⟨x3, ex3, h⟩ := bnd h
  refine rb_ldr 100 132 hS w0 ex3 rfl rfl ?_
  intro bx3 wx3
  obtain ⟨x4, ex4, h⟩ := bnd h
  refine rb_ld 132 hS wx3 ex4 rfl rfl ?_
  by_cases hc47 : x2 ≥ x4
  · have h := iteT hc47 h
    refine rif_t hc47 ?_
    obtain ⟨x5, ex5, h⟩ := bnd h
    refine rb_ldr 100 132 hS w0 ex5 rfl rfl ?_
    intro bx5 wx5
    obtain ⟨x6, ex6, h⟩ := bnd h
    refine rb_ld 132 hS wx5 ex6 rfl rfl ?_
    exact sjX9_countChanges_65 hS w0 h
  · have h := iteF hc47 h
    refine rif_f hc47 ?_
    obtain ⟨x7, ex7, h⟩ := bnd h
    refine rb_ldr 100 132 hS w0 ex7 rfl rfl ?_
    intro bx7 wx7
    obtain ⟨x8, ex8, h⟩ := bnd h
    refine rb_ld 132 hS wx7 ex8 rfl rfl ?_
    exact sjX9_countChanges_65 hS w0 h
def g_X9_countChanges (a0 a1 a2 a3 : Int) (G : GS) : GO := gvm a0 <|
  (gl 100 G a0 31).bind fun x1 => (gl 131 G x1 a1).bind fun x2 => (gl 100 G a0 31).bind fun x3 => (gl 131 G x3 a2).bind fun x4 => (if x2 ≥ x4 then (gl 100 G a0 31).bind fun x5 => (gl 131 G x5 a2).bind fun x6 => gjX9_countChanges_33 a0 a1 a2 a3 0 x6 G
  else (gl 100 G a0 31).bind fun x7 => (gl 131 G x7 a1).bind fun x8 => gjX9_countChanges_33 a0 a1 a2 a3 0 x8 G)
set_option maxHeartbeats 4000000 in
theorem s_X9_countChanges {ad : Nat → Nat → Nat} {Cn : Nat → Nat} {H : PH} {G G' : GS} {rr : Int} {a0 a1 a2 a3 b0 : Int} (hS : SimA ad Cn H G) (w0 : vrel ad Cn 100 b0 a0) (h : g_X9_countChanges a0 a1 a2 a3 G = some (rr, G')) : RS ad Cn (f_X9_countChanges b0 a1 a2 a3 H) 0 rr G' := by
  unfold g_X9_countChanges at h
  unfold f_X9_countChanges
  obtain ⟨hv, h⟩ := gvm_spec h
  refine rb_vm 100 9 hS w0 hv rfl ?_
  obtain ⟨x1, ex1, h⟩ := bnd h
  refine rb_ldr 100 131 hS w0 ex1 rfl rfl ?_
  intro bx1 wx1
  obtain ⟨x2, ex2, h⟩ := bnd h
  refine rb_ld 131 hS wx1 ex2 rfl rfl ?_
  obtain ⟨x3, ex3, h⟩ := bnd h
  refine rb_ldr 100 131 hS w0 ex3 rfl rfl ?_
  intro bx3 wx3
  obtain ⟨x4, ex4, h⟩ := bnd h
  refine rb_ld 131 hS wx3 ex4 rfl rfl ?_
  by_cases hc15 : x2 ≥ x4
  · have h := iteT hc15 h
    refine rif_t hc15 ?_
    obtain ⟨x5, ex5, h⟩ := bnd h
    refine rb_ldr 100 131 hS w0 ex5 rfl rfl ?_
    intro bx5 wx5
    obtain ⟨x6, ex6, h⟩ := bnd h
    refine rb_ld 131 hS wx5 ex6 rfl rfl ?_
    exact sjX9_countChanges_33 hS w0 h
  · have h := iteF hc15 h
    refine rif_f hc15 ?_
    obtain ⟨x7, ex7, h⟩ := bnd h
    refine rb_ldr 100 131 hS w0 ex7 rfl rfl ?_
    intro bx7 wx7
    obtain ⟨x8, ex8, h⟩ := bnd h
    refine rb_ld 131 hS wx7 ex8 rfl rfl ?_
    exact sjX9_countChanges_33 hS w0 h
