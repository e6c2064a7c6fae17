/-! HouseholdVaultModel.<init>()V by roles -/
def g_X9_init (a0 : Int) (G : GS) : GO := gvm a0 <|
  (gn 101 24 G).bind fun z1 => (gs 100 z1.2 a0 1 z1.1).bind fun G2 => (gn 102 24 G2).bind fun z3 => (gs 100 z3.2 a0 2 z3.1).bind fun G4 => (gn 103 24 G4).bind fun z5 => (gs 100 z5.2 a0 3 z5.1).bind fun G6 => (gn 104 24 G6).bind fun z7 => (gs 100 z7.2 a0 4 z7.1).bind fun G8 => (gn 105 24 G8).bind fun z9 => (gs 100 z9.2 a0 5 z9.1).bind fun G10 => (gn 106 24 G10).bind fun z11 => (gs 100 z11.2 a0 6 z11.1).bind fun G12 => (gn 107 24 G12).bind fun z13 => (gs 100 z13.2 a0 7 z13.1).bind fun G14 => (gn 108 192 G14).bind fun z15 => (gs 100 z15.2 a0 8 z15.1).bind fun G16 => (gn 109 24 G16).bind fun z17 => (gs 100 z17.2 a0 9 z17.1).bind fun G18 => (gn 110 192 G18).bind fun z19 => (gs 100 z19.2 a0 10 z19.1).bind fun G20 => (gn 111 192 G20).bind fun z21 => (gs 100 z21.2 a0 11 z21.1).bind fun G22 => (gn 112 192 G22).bind fun z23 => (gs 100 z23.2 a0 12 z23.1).bind fun G24 => (gn 113 24 G24).bind fun z25 => (gs 100 z25.2 a0 13 z25.1).bind fun G26 => (gn 115 5760 G26).bind fun z27 => (gs 100 z27.2 a0 15 z27.1).bind fun G28 => (gn 116 5760 G28).bind fun z29 => (gs 100 z29.2 a0 16 z29.1).bind fun G30 => (gn 117 40 G30).bind fun z31 => (gs 100 z31.2 a0 17 z31.1).bind fun G32 => (gn 119 60 G32).bind fun z33 => (gs 100 z33.2 a0 19 z33.1).bind fun G34 => (gn 120 60 G34).bind fun z35 => (gs 100 z35.2 a0 20 z35.1).bind fun G36 => (gn 121 60 G36).bind fun z37 => (gs 100 z37.2 a0 21 z37.1).bind fun G38 => (gn 122 60 G38).bind fun z39 => (gs 100 z39.2 a0 22 z39.1).bind fun G40 => (gn 123 60 G40).bind fun z41 => (gs 100 z41.2 a0 23 z41.1).bind fun G42 => (gn 124 60 G42).bind fun z43 => (gs 100 z43.2 a0 24 z43.1).bind fun G44 => (gn 125 60 G44).bind fun z45 => (gs 100 z45.2 a0 25 z45.1).bind fun G46 => (gn 126 60 G46).bind fun z47 => (gs 100 z47.2 a0 26 z47.1).bind fun G48 => (gn 127 60 G48).bind fun z49 => (gs 100 z49.2 a0 27 z49.1).bind fun G50 => (gn 128 84 G50).bind fun z51 => (gs 100 z51.2 a0 28 z51.1).bind fun G52 => (gn 131 6 G52).bind fun z53 => (gs 100 z53.2 a0 31 z53.1).bind fun G54 => (gn 132 6 G54).bind fun z55 => (gs 100 z55.2 a0 32 z55.1).bind fun G56 => (gn 133 34560 G56).bind fun z57 => (gs 100 z57.2 a0 33 z57.1).bind fun G58 => (gn 134 34560 G58).bind fun z59 => (gs 100 z59.2 a0 34 z59.1).bind fun G60 => (gn 139 81 G60).bind fun z61 => (gs 100 z61.2 a0 39 z61.1).bind fun G62 => (gn 140 81 G62).bind fun z63 => (gs 100 z63.2 a0 40 z63.1).bind fun G64 => (gn 141 81 G64).bind fun z65 => (gs 100 z65.2 a0 41 z65.1).bind fun G66 => (gn 142 81 G66).bind fun z67 => (gs 100 z67.2 a0 42 z67.1).bind fun G68 => (gn 143 144 G68).bind fun z69 => (gs 100 z69.2 a0 43 z69.1).bind fun G70 => (gn 144 144 G70).bind fun z71 => (gs 100 z71.2 a0 44 z71.1).bind fun G72 => (gn 145 360 G72).bind fun z73 => (gs 100 z73.2 a0 45 z73.1).bind fun G74 => (gn 149 81 G74).bind fun z75 => (gs 100 z75.2 a0 49 z75.1).bind fun G76 => (gn 150 18 G76).bind fun z77 => (gs 100 z77.2 a0 50 z77.1).bind fun G78 => (gn 151 40 G78).bind fun z79 => (gs 100 z79.2 a0 51 z79.1).bind fun G80 => (gn 152 40 G80).bind fun z81 => (gs 100 z81.2 a0 52 z81.1).bind fun G82 => some (0, G82)
set_option maxHeartbeats 4000000 in
theorem s_X9_init {ad : Nat → Nat → Nat} {Cn : Nat → Nat} {H : PH} {G G' : GS} {rr : Int} {a0 b0 : Int} (hS : SimA ad Cn H G) (w0 : vrel ad Cn 100 b0 a0) (h : g_X9_init a0 G = some (rr, G')) : RS ad Cn (f_X9_init b0 H) 0 rr G' := by
  unfold g_X9_init at h
  unfold f_X9_init
  obtain ⟨hv, h⟩ := gvm_spec h
  refine rb_vm 100 9 hS w0 hv rfl ?_
  obtain ⟨z1, ez1, h⟩ := bnd h
  refine rb_newa 101 hS ez1 rfl (fun _ => rfl) ?_
  intro ad Cn bz1 H hS hx wz1
  dsimp only
  have w0 := w0.mono hx
  obtain ⟨G2, eG2, h⟩ := bnd h
  refine rb_st 100 (k := 1) hS w0 (show rrel _ _ 102 _ _ from wz1) eG2 rfl ?_
  intro H hS
  obtain ⟨z3, ez3, h⟩ := bnd h
  refine rb_newa 102 hS ez3 rfl (fun _ => rfl) ?_
  intro ad Cn bz3 H hS hx wz3
  dsimp only
  have w0 := w0.mono hx
  obtain ⟨G4, eG4, h⟩ := bnd h
  refine rb_st 100 (k := 2) hS w0 (show rrel _ _ 103 _ _ from wz3) eG4 rfl ?_
  intro H hS
  obtain ⟨z5, ez5, h⟩ := bnd h
  refine rb_newa 103 hS ez5 rfl (fun _ => rfl) ?_
  intro ad Cn bz5 H hS hx wz5
  dsimp only
  have w0 := w0.mono hx
  obtain ⟨G6, eG6, h⟩ := bnd h
  refine rb_st 100 (k := 3) hS w0 (show rrel _ _ 104 _ _ from wz5) eG6 rfl ?_
  intro H hS
  obtain ⟨z7, ez7, h⟩ := bnd h
  refine rb_newa 104 hS ez7 rfl (fun _ => rfl) ?_
  intro ad Cn bz7 H hS hx wz7
  dsimp only
  have w0 := w0.mono hx
  obtain ⟨G8, eG8, h⟩ := bnd h
  refine rb_st 100 (k := 4) hS w0 (show rrel _ _ 105 _ _ from wz7) eG8 rfl ?_
  intro H hS
  obtain ⟨z9, ez9, h⟩ := bnd h
  refine rb_newa 105 hS ez9 rfl (fun _ => rfl) ?_
  intro ad Cn bz9 H hS hx wz9
  dsimp only
  have w0 := w0.mono hx
  obtain ⟨G10, eG10, h⟩ := bnd h
  refine rb_st 100 (k := 5) hS w0 (show rrel _ _ 106 _ _ from wz9) eG10 rfl ?_
  intro H hS
  obtain ⟨z11, ez11, h⟩ := bnd h
  refine rb_newa 106 hS ez11 rfl (fun _ => rfl) ?_
  intro ad Cn bz11 H hS hx wz11
  dsimp only
  have w0 := w0.mono hx
  obtain ⟨G12, eG12, h⟩ := bnd h
  refine rb_st 100 (k := 6) hS w0 (show rrel _ _ 107 _ _ from wz11) eG12 rfl ?_
  intro H hS
  obtain ⟨z13, ez13, h⟩ := bnd h
  refine rb_newa 107 hS ez13 rfl (fun _ => rfl) ?_
  intro ad Cn bz13 H hS hx wz13
  dsimp only
  have w0 := w0.mono hx
  obtain ⟨G14, eG14, h⟩ := bnd h
  refine rb_st 100 (k := 7) hS w0 (show rrel _ _ 108 _ _ from wz13) eG14 rfl ?_
  intro H hS
  obtain ⟨z15, ez15, h⟩ := bnd h
  refine rb_newa 108 hS ez15 rfl (fun _ => rfl) ?_
  intro ad Cn bz15 H hS hx wz15
  dsimp only
  have w0 := w0.mono hx
  obtain ⟨G16, eG16, h⟩ := bnd h
  refine rb_st 100 (k := 8) hS w0 (show rrel _ _ 109 _ _ from wz15) eG16 rfl ?_
  intro H hS
  obtain ⟨z17, ez17, h⟩ := bnd h
  refine rb_newa 109 hS ez17 rfl (fun _ => rfl) ?_
  intro ad Cn bz17 H hS hx wz17
  dsimp only
  have w0 := w0.mono hx
  obtain ⟨G18, eG18, h⟩ := bnd h
  refine rb_st 100 (k := 9) hS w0 (show rrel _ _ 110 _ _ from wz17) eG18 rfl ?_
  intro H hS
  obtain ⟨z19, ez19, h⟩ := bnd h
  refine rb_newa 110 hS ez19 rfl (fun _ => rfl) ?_
  intro ad Cn bz19 H hS hx wz19
  dsimp only
  have w0 := w0.mono hx
  obtain ⟨G20, eG20, h⟩ := bnd h
  refine rb_st 100 (k := 10) hS w0 (show rrel _ _ 111 _ _ from wz19) eG20 rfl ?_
  intro H hS
  obtain ⟨z21, ez21, h⟩ := bnd h
  refine rb_newa 111 hS ez21 rfl (fun _ => rfl) ?_
  intro ad Cn bz21 H hS hx wz21
  dsimp only
  have w0 := w0.mono hx
  obtain ⟨G22, eG22, h⟩ := bnd h
  refine rb_st 100 (k := 11) hS w0 (show rrel _ _ 112 _ _ from wz21) eG22 rfl ?_
  intro H hS
  obtain ⟨z23, ez23, h⟩ := bnd h
  refine rb_newa 112 hS ez23 rfl (fun _ => rfl) ?_
  intro ad Cn bz23 H hS hx wz23
  dsimp only
  have w0 := w0.mono hx
  obtain ⟨G24, eG24, h⟩ := bnd h
  refine rb_st 100 (k := 12) hS w0 (show rrel _ _ 113 _ _ from wz23) eG24 rfl ?_
  intro H hS
  obtain ⟨z25, ez25, h⟩ := bnd h
  refine rb_newa 113 hS ez25 rfl (fun _ => rfl) ?_
  intro ad Cn bz25 H hS hx wz25
  dsimp only
  have w0 := w0.mono hx
  obtain ⟨G26, eG26, h⟩ := bnd h
  refine rb_st 100 (k := 13) hS w0 (show rrel _ _ 114 _ _ from wz25) eG26 rfl ?_
  intro H hS
  obtain ⟨z27, ez27, h⟩ := bnd h
  refine rb_newa 115 hS ez27 rfl (fun _ => rfl) ?_
  intro ad Cn bz27 H hS hx wz27
  dsimp only
  have w0 := w0.mono hx
  obtain ⟨G28, eG28, h⟩ := bnd h
  refine rb_st 100 (k := 15) hS w0 (show rrel _ _ 116 _ _ from wz27) eG28 rfl ?_
  intro H hS
  obtain ⟨z29, ez29, h⟩ := bnd h
  refine rb_newa 116 hS ez29 rfl (fun _ => rfl) ?_
  intro ad Cn bz29 H hS hx wz29
  dsimp only
  have w0 := w0.mono hx
  obtain ⟨G30, eG30, h⟩ := bnd h
  refine rb_st 100 (k := 16) hS w0 (show rrel _ _ 117 _ _ from wz29) eG30 rfl ?_
  intro H hS
  obtain ⟨z31, ez31, h⟩ := bnd h
  refine rb_newa 117 hS ez31 rfl (fun _ => rfl) ?_
  intro ad Cn bz31 H hS hx wz31
  dsimp only
  have w0 := w0.mono hx
  obtain ⟨G32, eG32, h⟩ := bnd h
  refine rb_st 100 (k := 17) hS w0 (show rrel _ _ 118 _ _ from wz31) eG32 rfl ?_
  intro H hS
  obtain ⟨z33, ez33, h⟩ := bnd h
  refine rb_newa 119 hS ez33 rfl (fun _ => rfl) ?_
  intro ad Cn bz33 H hS hx wz33
  dsimp only
  have w0 := w0.mono hx
  obtain ⟨G34, eG34, h⟩ := bnd h
  refine rb_st 100 (k := 19) hS w0 (show rrel _ _ 120 _ _ from wz33) eG34 rfl ?_
  intro H hS
  obtain ⟨z35, ez35, h⟩ := bnd h
  refine rb_newa 120 hS ez35 rfl (fun _ => rfl) ?_
  intro ad Cn bz35 H hS hx wz35
  dsimp only
  have w0 := w0.mono hx
  obtain ⟨G36, eG36, h⟩ := bnd h
  refine rb_st 100 (k := 20) hS w0 (show rrel _ _ 121 _ _ from wz35) eG36 rfl ?_
  intro H hS
  obtain ⟨z37, ez37, h⟩ := bnd h
  refine rb_newa 121 hS ez37 rfl (fun _ => rfl) ?_
  intro ad Cn bz37 H hS hx wz37
  dsimp only
  have w0 := w0.mono hx
  obtain ⟨G38, eG38, h⟩ := bnd h
  refine rb_st 100 (k := 21) hS w0 (show rrel _ _ 122 _ _ from wz37) eG38 rfl ?_
  intro H hS
  obtain ⟨z39, ez39, h⟩ := bnd h
  refine rb_newa 122 hS ez39 rfl (fun _ => rfl) ?_
  intro ad Cn bz39 H hS hx wz39
  dsimp only
  have w0 := w0.mono hx
  obtain ⟨G40, eG40, h⟩ := bnd h
  refine rb_st 100 (k := 22) hS w0 (show rrel _ _ 123 _ _ from wz39) eG40 rfl ?_
  intro H hS
  obtain ⟨z41, ez41, h⟩ := bnd h
  refine rb_newa 123 hS ez41 rfl (fun _ => rfl) ?_
  intro ad Cn bz41 H hS hx wz41
  dsimp only
  have w0 := w0.mono hx
  obtain ⟨G42, eG42, h⟩ := bnd h
  refine rb_st 100 (k := 23) hS w0 (show rrel _ _ 124 _ _ from wz41) eG42 rfl ?_
  intro H hS
  obtain ⟨z43, ez43, h⟩ := bnd h
  refine rb_newa 124 hS ez43 rfl (fun _ => rfl) ?_
  intro ad Cn bz43 H hS hx wz43
  dsimp only
  have w0 := w0.mono hx
  obtain ⟨G44, eG44, h⟩ := bnd h
  refine rb_st 100 (k := 24) hS w0 (show rrel _ _ 125 _ _ from wz43) eG44 rfl ?_
  intro H hS
  obtain ⟨z45, ez45, h⟩ := bnd h
  refine rb_newa 125 hS ez45 rfl (fun _ => rfl) ?_
  intro ad Cn bz45 H hS hx wz45
  dsimp only
  have w0 := w0.mono hx
  obtain ⟨G46, eG46, h⟩ := bnd h
  refine rb_st 100 (k := 25) hS w0 (show rrel _ _ 126 _ _ from wz45) eG46 rfl ?_
  intro H hS
  obtain ⟨z47, ez47, h⟩ := bnd h
  refine rb_newa 126 hS ez47 rfl (fun _ => rfl) ?_
  intro ad Cn bz47 H hS hx wz47
  dsimp only
  have w0 := w0.mono hx
  obtain ⟨G48, eG48, h⟩ := bnd h
  refine rb_st 100 (k := 26) hS w0 (show rrel _ _ 127 _ _ from wz47) eG48 rfl ?_
  intro H hS
  obtain ⟨z49, ez49, h⟩ := bnd h
  refine rb_newa 127 hS ez49 rfl (fun _ => rfl) ?_
  intro ad Cn bz49 H hS hx wz49
  dsimp only
  have w0 := w0.mono hx
  obtain ⟨G50, eG50, h⟩ := bnd h
  refine rb_st 100 (k := 27) hS w0 (show rrel _ _ 128 _ _ from wz49) eG50 rfl ?_
  intro H hS
  obtain ⟨z51, ez51, h⟩ := bnd h
  refine rb_newa 128 hS ez51 rfl (fun _ => rfl) ?_
  intro ad Cn bz51 H hS hx wz51
  dsimp only
  have w0 := w0.mono hx
  obtain ⟨G52, eG52, h⟩ := bnd h
  refine rb_st 100 (k := 28) hS w0 (show rrel _ _ 129 _ _ from wz51) eG52 rfl ?_
  intro H hS
  obtain ⟨z53, ez53, h⟩ := bnd h
  refine rb_newa 131 hS ez53 rfl (fun _ => rfl) ?_
  intro ad Cn bz53 H hS hx wz53
  dsimp only
  have w0 := w0.mono hx
  obtain ⟨G54, eG54, h⟩ := bnd h
  refine rb_st 100 (k := 31) hS w0 (show rrel _ _ 132 _ _ from wz53) eG54 rfl ?_
  intro H hS
  obtain ⟨z55, ez55, h⟩ := bnd h
  refine rb_newa 132 hS ez55 rfl (fun _ => rfl) ?_
  intro ad Cn bz55 H hS hx wz55
  dsimp only
  have w0 := w0.mono hx
  obtain ⟨G56, eG56, h⟩ := bnd h
  refine rb_st 100 (k := 32) hS w0 (show rrel _ _ 133 _ _ from wz55) eG56 rfl ?_
  intro H hS
  obtain ⟨z57, ez57, h⟩ := bnd h
  refine rb_newa 133 hS ez57 rfl (fun _ => rfl) ?_
  intro ad Cn bz57 H hS hx wz57
  dsimp only
  have w0 := w0.mono hx
  obtain ⟨G58, eG58, h⟩ := bnd h
  refine rb_st 100 (k := 33) hS w0 (show rrel _ _ 134 _ _ from wz57) eG58 rfl ?_
  intro H hS
  obtain ⟨z59, ez59, h⟩ := bnd h
  refine rb_newa 134 hS ez59 rfl (fun _ => rfl) ?_
  intro ad Cn bz59 H hS hx wz59
  dsimp only
  have w0 := w0.mono hx
  obtain ⟨G60, eG60, h⟩ := bnd h
  refine rb_st 100 (k := 34) hS w0 (show rrel _ _ 135 _ _ from wz59) eG60 rfl ?_
  intro H hS
  obtain ⟨z61, ez61, h⟩ := bnd h
  refine rb_newa 139 hS ez61 rfl (fun _ => rfl) ?_
  intro ad Cn bz61 H hS hx wz61
  dsimp only
  have w0 := w0.mono hx
  obtain ⟨G62, eG62, h⟩ := bnd h
  refine rb_st 100 (k := 39) hS w0 (show rrel _ _ 140 _ _ from wz61) eG62 rfl ?_
  intro H hS
  obtain ⟨z63, ez63, h⟩ := bnd h
  refine rb_newa 140 hS ez63 rfl (fun _ => rfl) ?_
  intro ad Cn bz63 H hS hx wz63
  dsimp only
  have w0 := w0.mono hx
  obtain ⟨G64, eG64, h⟩ := bnd h
  refine rb_st 100 (k := 40) hS w0 (show rrel _ _ 141 _ _ from wz63) eG64 rfl ?_
  intro H hS
  obtain ⟨z65, ez65, h⟩ := bnd h
  refine rb_newa 141 hS ez65 rfl (fun _ => rfl) ?_
  intro ad Cn bz65 H hS hx wz65
  dsimp only
  have w0 := w0.mono hx
  obtain ⟨G66, eG66, h⟩ := bnd h
  refine rb_st 100 (k := 41) hS w0 (show rrel _ _ 142 _ _ from wz65) eG66 rfl ?_
  intro H hS
  obtain ⟨z67, ez67, h⟩ := bnd h
  refine rb_newa 142 hS ez67 rfl (fun _ => rfl) ?_
  intro ad Cn bz67 H hS hx wz67
  dsimp only
  have w0 := w0.mono hx
  obtain ⟨G68, eG68, h⟩ := bnd h
  refine rb_st 100 (k := 42) hS w0 (show rrel _ _ 143 _ _ from wz67) eG68 rfl ?_
  intro H hS
  obtain ⟨z69, ez69, h⟩ := bnd h
  refine rb_newa 143 hS ez69 rfl (fun _ => rfl) ?_
  intro ad Cn bz69 H hS hx wz69
  dsimp only
  have w0 := w0.mono hx
  obtain ⟨G70, eG70, h⟩ := bnd h
  refine rb_st 100 (k := 43) hS w0 (show rrel _ _ 144 _ _ from wz69) eG70 rfl ?_
  intro H hS
  obtain ⟨z71, ez71, h⟩ := bnd h
  refine rb_newa 144 hS ez71 rfl (fun _ => rfl) ?_
  intro ad Cn bz71 H hS hx wz71
  dsimp only
  have w0 := w0.mono hx
  obtain ⟨G72, eG72, h⟩ := bnd h
  refine rb_st 100 (k := 44) hS w0 (show rrel _ _ 145 _ _ from wz71) eG72 rfl ?_
  intro H hS
  obtain ⟨z73, ez73, h⟩ := bnd h
  refine rb_newa 145 hS ez73 rfl (fun _ => rfl) ?_
  intro ad Cn bz73 H hS hx wz73
  dsimp only
  have w0 := w0.mono hx
  obtain ⟨G74, eG74, h⟩ := bnd h
  refine rb_st 100 (k := 45) hS w0 (show rrel _ _ 146 _ _ from wz73) eG74 rfl ?_
  intro H hS
  obtain ⟨z75, ez75, h⟩ := bnd h
  refine rb_newa 149 hS ez75 rfl (fun _ => rfl) ?_
  intro ad Cn bz75 H hS hx wz75
  dsimp only
  have w0 := w0.mono hx
  obtain ⟨G76, eG76, h⟩ := bnd h
  refine rb_st 100 (k := 49) hS w0 (show rrel _ _ 150 _ _ from wz75) eG76 rfl ?_
  intro H hS
  obtain ⟨z77, ez77, h⟩ := bnd h
  refine rb_newa 150 hS ez77 rfl (fun _ => rfl) ?_
  intro ad Cn bz77 H hS hx wz77
  dsimp only
  have w0 := w0.mono hx
  obtain ⟨G78, eG78, h⟩ := bnd h
  refine rb_st 100 (k := 50) hS w0 (show rrel _ _ 151 _ _ from wz77) eG78 rfl ?_
  intro H hS
  obtain ⟨z79, ez79, h⟩ := bnd h
  refine rb_newa 151 hS ez79 rfl (fun _ => rfl) ?_
  intro ad Cn bz79 H hS hx wz79
  dsimp only
  have w0 := w0.mono hx
  obtain ⟨G80, eG80, h⟩ := bnd h
  refine rb_st 100 (k := 51) hS w0 (show rrel _ _ 152 _ _ from wz79) eG80 rfl ?_
  intro H hS
  obtain ⟨z81, ez81, h⟩ := bnd h
  refine rb_newa 152 hS ez81 rfl (fun _ => rfl) ?_
  intro ad Cn bz81 H hS hx wz81
  dsimp only
  have w0 := w0.mono hx
  obtain ⟨G82, eG82, h⟩ := bnd h
  refine rb_st 100 (k := 52) hS w0 (show rrel _ _ 153 _ _ from wz81) eG82 rfl ?_
  intro H hS
  cases h
  exact rret hS rfl
/-! HouseholdVaultModel.in(JJJ)Z by roles -/
def g_X9_in (a0 a1 a2 : Int) (G : GS) : GO :=
  (if (lc a0 a1) < 0 then some (0, G)
  else (if (lc a0 a2) > 0 then some (0, G)
  else some (1, G)))
set_option maxHeartbeats 4000000 in
theorem s_X9_in {ad : Nat → Nat → Nat} {Cn : Nat → Nat} {H : PH} {G G' : GS} {rr : Int} {a0 a1 a2 : Int} (hS : SimA ad Cn H G)  (h : g_X9_in a0 a1 a2 G = some (rr, G')) : RS ad Cn (f_X9_in a0 a1 a2 H) 0 rr G' := by
  unfold g_X9_in at h
  unfold f_X9_in
  by_cases hc3 : (lc a0 a1) < 0
  · have h := iteT hc3 h
    refine rif_t hc3 ?_
    cases h
    exact rret hS rfl
  · have h := iteF hc3 h
    refine rif_f hc3 ?_
    by_cases hc10 : (lc a0 a2) > 0
    · have h := iteT hc10 h
      refine rif_t hc10 ?_
      cases h
      exact rret hS rfl
    · have h := iteF hc10 h
      refine rif_f hc10 ?_
      cases h
      exact rret hS rfl
/-! HouseholdVaultModel.isQuestion(I)Z by roles -/
def g_X9_isQuestion (a0 a1 : Int) (G : GS) : GO := gvm a0 <|
  (gl 100 G a0 0).bind fun x1 => (g_X9_in a1 0 (w32 (x1 - 1)) G).bind fun z2 => gzr z2.1 z2.2
set_option maxHeartbeats 4000000 in
theorem s_X9_isQuestion {ad : Nat → Nat → Nat} {Cn : Nat → Nat} {H : PH} {G G' : GS} {rr : Int} {a0 a1 b0 : Int} (hS : SimA ad Cn H G) (w0 : vrel ad Cn 100 b0 a0) (h : g_X9_isQuestion a0 a1 G = some (rr, G')) : RS ad Cn (f_X9_isQuestion b0 a1 H) 0 rr G' := by
  unfold g_X9_isQuestion at h
  unfold f_X9_isQuestion
  obtain ⟨hv, h⟩ := gvm_spec h
  refine rb_vm 100 9 hS w0 hv rfl ?_
  obtain ⟨x1, ex1, h⟩ := bnd h
  refine rb_ld 100 hS w0 ex1 rfl rfl ?_
  obtain ⟨z2, ez2, h⟩ := bnd h
  refine rb_call (ρc := 0) (s_X9_in hS ez2) ?_
  intro ad Cn bz2 H hS hx wz2
  dsimp only
  obtain rfl : bz2 = z2.1 := wz2
  have w0 := w0.mono hx
  obtain ⟨hz, h⟩ := gzr_spec h
  cases h
  exact rb_zr hz (rret hS rfl)
/-! HouseholdVaultModel.isHousehold(I)Z by roles -/
def g_X9_isHousehold (a0 a1 : Int) (G : GS) : GO := gvm a0 <|
  (gl 100 G a0 14).bind fun x1 => (g_X9_in a1 0 (w32 (x1 - 1)) G).bind fun z2 => gzr z2.1 z2.2
set_option maxHeartbeats 4000000 in
theorem s_X9_isHousehold {ad : Nat → Nat → Nat} {Cn : Nat → Nat} {H : PH} {G G' : GS} {rr : Int} {a0 a1 b0 : Int} (hS : SimA ad Cn H G) (w0 : vrel ad Cn 100 b0 a0) (h : g_X9_isHousehold a0 a1 G = some (rr, G')) : RS ad Cn (f_X9_isHousehold b0 a1 H) 0 rr G' := by
  unfold g_X9_isHousehold at h
  unfold f_X9_isHousehold
  obtain ⟨hv, h⟩ := gvm_spec h
  refine rb_vm 100 9 hS w0 hv rfl ?_
  obtain ⟨x1, ex1, h⟩ := bnd h
  refine rb_ld 100 hS w0 ex1 rfl rfl ?_
  obtain ⟨z2, ez2, h⟩ := bnd h
  refine rb_call (ρc := 0) (s_X9_in hS ez2) ?_
  intro ad Cn bz2 H hS hx wz2
  dsimp only
  obtain rfl : bz2 = z2.1 := wz2
  have w0 := w0.mono hx
  obtain ⟨hz, h⟩ := gzr_spec h
  cases h
  exact rb_zr hz (rret hS rfl)
/-! HouseholdVaultModel.isCondition(I)Z by roles -/
def g_X9_isCondition (a0 a1 : Int) (G : GS) : GO := gvm a0 <|
  (gl 100 G a0 18).bind fun x1 => (g_X9_in a1 0 (w32 (x1 - 1)) G).bind fun z2 => gzr z2.1 z2.2
set_option maxHeartbeats 4000000 in
theorem s_X9_isCondition {ad : Nat → Nat → Nat} {Cn : Nat → Nat} {H : PH} {G G' : GS} {rr : Int} {a0 a1 b0 : Int} (hS : SimA ad Cn H G) (w0 : vrel ad Cn 100 b0 a0) (h : g_X9_isCondition a0 a1 G = some (rr, G')) : RS ad Cn (f_X9_isCondition b0 a1 H) 0 rr G' := by
  unfold g_X9_isCondition at h
  unfold f_X9_isCondition
  obtain ⟨hv, h⟩ := gvm_spec h
  refine rb_vm 100 9 hS w0 hv rfl ?_
  obtain ⟨x1, ex1, h⟩ := bnd h
  refine rb_ld 100 hS w0 ex1 rfl rfl ?_
  obtain ⟨z2, ez2, h⟩ := bnd h
  refine rb_call (ρc := 0) (s_X9_in hS ez2) ?_
  intro ad Cn bz2 H hS hx wz2
  dsimp only
  obtain rfl : bz2 = z2.1 := wz2
  have w0 := w0.mono hx
  obtain ⟨hz, h⟩ := gzr_spec h
  cases h
  exact rb_zr hz (rret hS rfl)
/-! HouseholdVaultModel.place(III)I by roles -/
def g_X9_place (a0 a1 a2 : Int) (G : GS) : GO :=
  some ((w32 ((w32 ((w32 ((w32 (24 * a0)) + a1)) * 6)) + a2)), G)
set_option maxHeartbeats 4000000 in
theorem s_X9_place {ad : Nat → Nat → Nat} {Cn : Nat → Nat} {H : PH} {G G' : GS} {rr : Int} {a0 a1 a2 : Int} (hS : SimA ad Cn H G)  (h : g_X9_place a0 a1 a2 G = some (rr, G')) : RS ad Cn (f_X9_place a0 a1 a2 H) 0 rr G' := by
  unfold g_X9_place at h
  unfold f_X9_place
  cases h
  exact rret hS rfl
/-! HouseholdVaultModel.blank(II)V by roles -/
def gjX9_blank_45 (self2 : Int → GS → GO) (p0 p1 p2 p3 s0 s1 s2 : Int) (G : GS) : GO :=
  (gs 116 G s0 s1 s2).bind fun G1 => self2 (w32 (p3 + 1)) G1
set_option maxHeartbeats 4000000 in
theorem sjX9_blank_45 {ad : Nat → Nat → Nat} {Cn : Nat → Nat} {H : PH} {G G' : GS} {rr : Int} {fself2 : Int → PH → RO} {self2 : Int → GS → GO} {p0 p1 p2 p3 s0 s1 s2 b0 bs0 : Int} (ih2 : ∀ (ad : Nat → Nat → Nat) (Cn : Nat → Nat) (H : PH) (G : GS) (v3 : Int) , SimA ad Cn H G → vrel ad Cn 100 b0 p0 → self2 v3 G = some (rr, G') → RS ad Cn (fself2 v3 H) 0 rr G') (hS : SimA ad Cn H G) (w0 : vrel ad Cn 100 b0 p0) (ws0 : vrel ad Cn 116 bs0 s0) (h : gjX9_blank_45 self2 p0 p1 p2 p3 s0 s1 s2 G = some (rr, G')) : RS ad Cn (jX9_blank_45 fself2 b0 p1 p2 p3 bs0 s1 s2 H) 0 rr G' := by
  unfold gjX9_blank_45 at h
  unfold jX9_blank_45
  obtain ⟨G1, eG1, h⟩ := bnd h
  refine rb_st 116 hS ws0 (show rrel _ _ 0 _ _ from rfl) eG1 rfl ?_
  intro H hS
  exact ih2 _ _ _ _ (w32 (p3 + 1))  hS w0  h
def glX9_blank_2 (p0 p1 p2 : Int) (self2 : Int → GS → GO) (p3 : Int) (G : GS) : GO :=
  (if p3 ≥ 6 then some (0, G)
  else (gl 100 G p0 15).bind fun x1 => (g_X9_place p1 p2 p3 G).bind fun z2 => (gs 115 z2.2 x1 z2.1 0).bind fun G3 => (gl 100 G3 p0 16).bind fun x4 => (g_X9_place p1 p2 p3 G3).bind fun z5 => (gl 100 z5.2 p0 1).bind fun x6 => (gl 101 z5.2 x6 p2).bind fun x7 => (if x7 ≠ 5 then gjX9_blank_45 self2 p0 p1 p2 p3 x4 z5.1 1 z5.2
  else gjX9_blank_45 self2 p0 p1 p2 p3 x4 z5.1 0 z5.2))
set_option maxHeartbeats 4000000 in
theorem slX9_blank_2 {G' : GS} {rr : Int} {p0 p1 p2 b0 : Int} : ∀ (n : Nat) (ad : Nat → Nat → Nat) (Cn : Nat → Nat) (H : PH) (G : GS) (p3 : Int) , SimA ad Cn H G → vrel ad Cn 100 b0 p0 → lh1 (glX9_blank_2 p0 p1 p2) n p3 G = some (rr, G') → RS ad Cn (lq1 (lX9_blank_2 b0 p1 p2) n p3 H) 0 rr G' := by
  intro n
  induction n with
  | zero => intro ad Cn H G p3 hS w0 h; cases h
  | succ n ih2 =>
    intro ad Cn H G p3 hS w0 h
    rw [lh1_s] at h
    rw [lq1_s]
    generalize lh1 (glX9_blank_2 p0 p1 p2) n = self2 at ih2 h
    generalize lq1 (lX9_blank_2 b0 p1 p2) n = fself2 at ih2 ⊢
    unfold glX9_blank_2 at h
    unfold lX9_blank_2
    by_cases hc5 : p3 ≥ 6
    · have h := iteT hc5 h
      refine rif_t hc5 ?_
      cases h
      exact rret hS rfl
    · have h := iteF hc5 h
      refine rif_f hc5 ?_
      obtain ⟨x1, ex1, h⟩ := bnd h
      refine rb_ldr 100 115 hS w0 ex1 rfl rfl ?_
      intro bx1 wx1
      obtain ⟨z2, ez2, h⟩ := bnd h
      refine rb_call (ρc := 0) (s_X9_place hS ez2) ?_
      intro ad Cn bz2 H hS hx wz2
      dsimp only
      obtain rfl : bz2 = z2.1 := wz2
      have w0 := w0.mono hx
      have wx1 := wx1.mono hx
      obtain ⟨G3, eG3, h⟩ := bnd h
      refine rb_st 115 hS wx1 (show rrel _ _ 0 _ _ from rfl) eG3 rfl ?_
      intro H hS
      obtain ⟨x4, ex4, h⟩ := bnd h
      refine rb_ldr 100 116 hS w0 ex4 rfl rfl ?_
      intro bx4 wx4
      obtain ⟨z5, ez5, h⟩ := bnd h
      refine rb_call (ρc := 0) (s_X9_place hS ez5) ?_
      intro ad Cn bz5 H hS hx wz5
      dsimp only
      obtain rfl : bz5 = z5.1 := wz5
      have w0 := w0.mono hx
      have wx4 := wx4.mono hx
      obtain ⟨x6, ex6, h⟩ := bnd h
      refine rb_ldr 100 101 hS w0 ex6 rfl rfl ?_
      intro bx6 wx6
      obtain ⟨x7, ex7, h⟩ := bnd h
      refine rb_ld 101 hS wx6 ex7 rfl rfl ?_
      by_cases hc37 : x7 ≠ 5
      · have h := iteT hc37 h
        refine rif_t hc37 ?_
        exact sjX9_blank_45 ih2 hS w0 wx4 h
      · have h := iteF hc37 h
        refine rif_f hc37 ?_
        exact sjX9_blank_45 ih2 hS w0 wx4 h
def g_X9_blank (a0 a1 a2 : Int) (G : GS) : GO := gvm a0 <|
  lh1 (glX9_blank_2 a0 a1 a2) 6000 0 G
set_option maxHeartbeats 4000000 in
theorem s_X9_blank {ad : Nat → Nat → Nat} {Cn : Nat → Nat} {H : PH} {G G' : GS} {rr : Int} {a0 a1 a2 b0 : Int} (hS : SimA ad Cn H G) (w0 : vrel ad Cn 100 b0 a0) (h : g_X9_blank a0 a1 a2 G = some (rr, G')) : RS ad Cn (f_X9_blank b0 a1 a2 H) 0 rr G' := by
  unfold g_X9_blank at h
  unfold f_X9_blank
  obtain ⟨hv, h⟩ := gvm_spec h
  refine rb_vm 100 9 hS w0 hv rfl ?_
  exact slX9_blank_2 6000 _ _ _ _ 0  hS w0 h
/-! HouseholdVaultModel.add(III)I by roles -/
def glX9_add_51 (p0 p3 p4 : Int) (self51 : Int → GS → GO) (p5 : Int) (G : GS) : GO :=
  (gl 100 G p0 14).bind fun x1 => (if p5 ≥ x1 then (if p3 ≤ 0 then some (p4, G)
  else (gl 100 G p0 28).bind fun x2 => (gl 100 G p0 29).bind fun x3 => (gs 128 G x2 x3 p4).bind fun G4 => (gl 100 G4 p0 29).bind fun x5 => (gs 100 G4 p0 29 (w32 (x5 + 1))).bind fun G6 => some (p4, G6))
  else (g_X9_blank p0 p5 p4 G).bind fun z7 => self51 (w32 (p5 + 1)) z7.2)
set_option maxHeartbeats 4000000 in
theorem slX9_add_51 {G' : GS} {rr : Int} {p0 p3 p4 b0 : Int} : ∀ (n : Nat) (ad : Nat → Nat → Nat) (Cn : Nat → Nat) (H : PH) (G : GS) (p5 : Int) , SimA ad Cn H G → vrel ad Cn 100 b0 p0 → lh1 (glX9_add_51 p0 p3 p4) n p5 G = some (rr, G') → RS ad Cn (lq1 (lX9_add_51 b0 p3 p4) n p5 H) 0 rr G' := by
  intro n
  induction n with
  | zero => intro ad Cn H G p5 hS w0 h; cases h
  | succ n ih51 =>
    intro ad Cn H G p5 hS w0 h
    rw [lh1_s] at h
    rw [lq1_s]
    generalize lh1 (glX9_add_51 p0 p3 p4) n = self51 at ih51 h
    generalize lq1 (lX9_add_51 b0 p3 p4) n = fself51 at ih51 ⊢
    unfold glX9_add_51 at h
    unfold lX9_add_51
    obtain ⟨x1, ex1, h⟩ := bnd h
    refine rb_ld 100 hS w0 ex1 rfl rfl ?_
    by_cases hc57 : p5 ≥ x1
    · have h := iteT hc57 h
      refine rif_t hc57 ?_
      by_cases hc75 : p3 ≤ 0
      · have h := iteT hc75 h
        refine rif_t hc75 ?_
        cases h
        exact rret hS rfl
      · have h := iteF hc75 h
        refine rif_f hc75 ?_
        obtain ⟨x2, ex2, h⟩ := bnd h
        refine rb_ldr 100 128 hS w0 ex2 rfl rfl ?_
        intro bx2 wx2
        obtain ⟨x3, ex3, h⟩ := bnd h
        refine rb_ld 100 hS w0 ex3 rfl rfl ?_
        obtain ⟨G4, eG4, h⟩ := bnd h
        refine rb_st 128 hS wx2 (show rrel _ _ 0 _ _ from rfl) eG4 rfl ?_
        intro H hS
        obtain ⟨x5, ex5, h⟩ := bnd h
        refine rb_ld 100 hS w0 ex5 rfl rfl ?_
        obtain ⟨G6, eG6, h⟩ := bnd h
        refine rb_st 100 hS w0 (show rrel _ _ 0 _ _ from rfl) eG6 rfl ?_
        intro H hS
        cases h
        exact rret hS rfl
    · have h := iteF hc57 h
      refine rif_f hc57 ?_
      obtain ⟨z7, ez7, h⟩ := bnd h
      refine rb_call (ρc := 0) (s_X9_blank hS w0 ez7) ?_
      intro ad Cn bz7 H hS hx wz7
      dsimp only
      obtain rfl : bz7 = z7.1 := wz7
      have w0 := w0.mono hx
      exact ih51 _ _ _ _ (w32 (p5 + 1))  hS w0  h
def g_X9_add (a0 a1 a2 a3 : Int) (G : GS) : GO := gvm a0 <|
  (gl 100 G a0 0).bind fun x1 => (gl 100 G a0 1).bind fun x2 => (gs 101 G x2 x1 a1).bind fun G3 => (gl 100 G3 a0 2).bind fun x4 => (gs 102 G3 x4 x1 a2).bind fun G5 => (gl 100 G5 a0 3).bind fun x6 => (gs 103 G5 x6 x1 a3).bind fun G7 => (gl 100 G7 a0 6).bind fun x8 => (gs 106 G7 x8 x1 (-1)).bind fun G9 => (gl 100 G9 a0 0).bind fun x10 => (gs 100 G9 a0 0 (w32 (x10 + 1))).bind fun G11 => lh1 (glX9_add_51 a0 a3 x1) 6000 0 G11
set_option maxHeartbeats 4000000 in
theorem s_X9_add {ad : Nat → Nat → Nat} {Cn : Nat → Nat} {H : PH} {G G' : GS} {rr : Int} {a0 a1 a2 a3 b0 : Int} (hS : SimA ad Cn H G) (w0 : vrel ad Cn 100 b0 a0) (h : g_X9_add a0 a1 a2 a3 G = some (rr, G')) : RS ad Cn (f_X9_add b0 a1 a2 a3 H) 0 rr G' := by
  unfold g_X9_add at h
  unfold f_X9_add
  obtain ⟨hv, h⟩ := gvm_spec h
  refine rb_vm 100 9 hS w0 hv rfl ?_
  obtain ⟨x1, ex1, h⟩ := bnd h
  refine rb_ld 100 hS w0 ex1 rfl rfl ?_
  obtain ⟨x2, ex2, h⟩ := bnd h
  refine rb_ldr 100 101 hS w0 ex2 rfl rfl ?_
  intro bx2 wx2
  obtain ⟨G3, eG3, h⟩ := bnd h
  refine rb_st 101 hS wx2 (show rrel _ _ 0 _ _ from rfl) eG3 rfl ?_
  intro H hS
  obtain ⟨x4, ex4, h⟩ := bnd h
  refine rb_ldr 100 102 hS w0 ex4 rfl rfl ?_
  intro bx4 wx4
  obtain ⟨G5, eG5, h⟩ := bnd h
  refine rb_st 102 hS wx4 (show rrel _ _ 0 _ _ from rfl) eG5 rfl ?_
  intro H hS
  obtain ⟨x6, ex6, h⟩ := bnd h
  refine rb_ldr 100 103 hS w0 ex6 rfl rfl ?_
  intro bx6 wx6
  obtain ⟨G7, eG7, h⟩ := bnd h
  refine rb_st 103 hS wx6 (show rrel _ _ 0 _ _ from rfl) eG7 rfl ?_
  intro H hS
  obtain ⟨x8, ex8, h⟩ := bnd h
  refine rb_ldr 100 106 hS w0 ex8 rfl rfl ?_
  intro bx8 wx8
  obtain ⟨G9, eG9, h⟩ := bnd h
  refine rb_st 106 hS wx8 (show rrel _ _ 0 _ _ from rfl) eG9 rfl ?_
  intro H hS
  obtain ⟨x10, ex10, h⟩ := bnd h
  refine rb_ld 100 hS w0 ex10 rfl rfl ?_
  obtain ⟨G11, eG11, h⟩ := bnd h
  refine rb_st 100 hS w0 (show rrel _ _ 0 _ _ from rfl) eG11 rfl ?_
  intro H hS
  exact slX9_add_51 6000 _ _ _ _ 0  hS w0 h
/-! HouseholdVaultModel.question(II)I by roles -/
def gjX9_question_49 (p0 p1 p2 : Int) (G : GS) : GO :=
  (gl 100 G p0 0).bind fun x1 => (if x1 ≠ 24 then (g_X9_add p0 p1 p2 0 G).bind fun z2 => some (z2.1, z2.2)
  else some ((-4), G))
set_option maxHeartbeats 4000000 in
theorem sjX9_question_49 {ad : Nat → Nat → Nat} {Cn : Nat → Nat} {H : PH} {G G' : GS} {rr : Int} {p0 p1 p2 b0 : Int} (hS : SimA ad Cn H G) (w0 : vrel ad Cn 100 b0 p0) (h : gjX9_question_49 p0 p1 p2 G = some (rr, G')) : RS ad Cn (jX9_question_49 b0 p1 p2 H) 0 rr G' := by
  unfold gjX9_question_49 at h
  unfold jX9_question_49
  obtain ⟨x1, ex1, h⟩ := bnd h
  refine rb_ld 100 hS w0 ex1 rfl rfl ?_
  by_cases hc55 : x1 ≠ 24
  · have h := iteT hc55 h
    refine rif_t hc55 ?_
    obtain ⟨z2, ez2, h⟩ := bnd h
    refine rb_call (ρc := 0) (s_X9_add hS w0 ez2) ?_
    intro ad Cn bz2 H hS hx wz2
    dsimp only
    obtain rfl : bz2 = z2.1 := wz2
    have w0 := w0.mono hx
    cases h
    exact rret hS rfl
  · have h := iteF hc55 h
    refine rif_f hc55 ?_
    cases h
    exact rret hS rfl
def gjX9_question_27 (p0 p1 p2 : Int) (G : GS) : GO :=
  (if p2 < 0 then gjX9_question_49 p0 p1 p2 G
  else (gl 100 G p0 1).bind fun x1 => (gl 101 G x1 p2).bind fun x2 => (if x2 ≠ 5 then some ((-2), G)
  else (if p1 ≠ 5 then gjX9_question_49 p0 p1 p2 G
  else some ((-2), G))))
set_option maxHeartbeats 4000000 in
theorem sjX9_question_27 {ad : Nat → Nat → Nat} {Cn : Nat → Nat} {H : PH} {G G' : GS} {rr : Int} {p0 p1 p2 b0 : Int} (hS : SimA ad Cn H G) (w0 : vrel ad Cn 100 b0 p0) (h : gjX9_question_27 p0 p1 p2 G = some (rr, G')) : RS ad Cn (jX9_question_27 b0 p1 p2 H) 0 rr G' := by
  unfold gjX9_question_27 at h
  unfold jX9_question_27
  by_cases hc28 : p2 < 0
  · have h := iteT hc28 h
    refine rif_t hc28 ?_
    exact sjX9_question_49 hS w0 h
  · have h := iteF hc28 h
    refine rif_f hc28 ?_
    obtain ⟨x1, ex1, h⟩ := bnd h
    refine rb_ldr 100 101 hS w0 ex1 rfl rfl ?_
    intro bx1 wx1
    obtain ⟨x2, ex2, h⟩ := bnd h
    refine rb_ld 101 hS wx1 ex2 rfl rfl ?_
    by_cases hc38 : x2 ≠ 5
    · have h := iteT hc38 h
      refine rif_t hc38 ?_
      cases h
      exact rret hS rfl
    · have h := iteF hc38 h
      refine rif_f hc38 ?_
      by_cases hc43 : p1 ≠ 5
      · have h := iteT hc43 h
        refine rif_t hc43 ?_
        exact sjX9_question_49 hS w0 h
      · have h := iteF hc43 h
        refine rif_f hc43 ?_
        cases h
        exact rret hS rfl
def g_X9_question (a0 a1 a2 : Int) (G : GS) : GO := gvm a0 <|
  (g_X9_in a1 0 5 G).bind fun z1 => (if z1.1 = 0 then some ((-1), z1.2)
  else (if a2 = (-1) then gjX9_question_27 a0 a1 a2 z1.2
  else (g_X9_isQuestion a0 a2 z1.2).bind fun z2 => (if z2.1 ≠ 0 then gjX9_question_27 a0 a1 a2 z2.2
  else some ((-1), z2.2))))
set_option maxHeartbeats 4000000 in
theorem s_X9_question {ad : Nat → Nat → Nat} {Cn : Nat → Nat} {H : PH} {G G' : GS} {rr : Int} {a0 a1 a2 b0 : Int} (hS : SimA ad Cn H G) (w0 : vrel ad Cn 100 b0 a0) (h : g_X9_question a0 a1 a2 G = some (rr, G')) : RS ad Cn (f_X9_question b0 a1 a2 H) 0 rr G' := by
  unfold g_X9_question at h
  unfold f_X9_question
  obtain ⟨hv, h⟩ := gvm_spec h
  refine rb_vm 100 9 hS w0 hv rfl ?_
  obtain ⟨z1, ez1, h⟩ := bnd h
  refine rb_call (ρc := 0) (s_X9_in hS ez1) ?_
  intro ad Cn bz1 H hS hx wz1
  dsimp only
  obtain rfl : bz1 = z1.1 := wz1
  have w0 := w0.mono hx
  by_cases hc9 : z1.1 = 0
  · have h := iteT hc9 h
    refine rif_t hc9 ?_
    cases h
    exact rret hS rfl
  · have h := iteF hc9 h
    refine rif_f hc9 ?_
    by_cases hc14 : a2 = (-1)
    · have h := iteT hc14 h
      refine rif_t hc14 ?_
      exact sjX9_question_27 hS w0 h
    · have h := iteF hc14 h
      refine rif_f hc14 ?_
      obtain ⟨z2, ez2, h⟩ := bnd h
      refine rb_call (ρc := 0) (s_X9_isQuestion hS w0 ez2) ?_
      intro ad Cn bz2 H hS hx wz2
      dsimp only
      obtain rfl : bz2 = z2.1 := wz2
      have w0 := w0.mono hx
      by_cases hc22 : z2.1 ≠ 0
      · have h := iteT hc22 h
        refine rif_t hc22 ?_
        exact sjX9_question_27 hS w0 h
      · have h := iteF hc22 h
        refine rif_f hc22 ?_
        cases h
        exact rret hS rfl
/-! HouseholdVaultModel.codeNumber(IJ)I by roles -/
def gjX9_codeNumber_42 (self6 : Int → Int → GS → GO) (p0 p1 p2 p5 s0 : Int) (G : GS) : GO :=
  self6 s0 (w32 (p5 + 1)) G
set_option maxHeartbeats 4000000 in
theorem sjX9_codeNumber_42 {ad : Nat → Nat → Nat} {Cn : Nat → Nat} {H : PH} {G G' : GS} {rr : Int} {fself6 : Int → Int → PH → RO} {self6 : Int → Int → GS → GO} {p0 p1 p2 p5 s0 b0 : Int} (ih6 : ∀ (ad : Nat → Nat → Nat) (Cn : Nat → Nat) (H : PH) (G : GS) (v4 v5 : Int) , SimA ad Cn H G → vrel ad Cn 100 b0 p0 → self6 v4 v5 G = some (rr, G') → RS ad Cn (fself6 v4 v5 H) 0 rr G') (hS : SimA ad Cn H G) (w0 : vrel ad Cn 100 b0 p0) (h : gjX9_codeNumber_42 self6 p0 p1 p2 p5 s0 G = some (rr, G')) : RS ad Cn (jX9_codeNumber_42 fself6 b0 p1 p2 p5 s0 H) 0 rr G' := by
  unfold gjX9_codeNumber_42 at h
  unfold jX9_codeNumber_42
  exact ih6 _ _ _ _ s0 (w32 (p5 + 1))  hS w0  h
def glX9_codeNumber_6 (p0 p1 p2 : Int) (self6 : Int → Int → GS → GO) (p4 p5 : Int) (G : GS) : GO :=
  (gl 100 G p0 9).bind fun x1 => (gl 109 G x1 p1).bind fun x2 => (if p5 ≥ x2 then some (p4, G)
  else (gl 100 G p0 8).bind fun x3 => (gl 108 G x3 (w32 ((w32 (8 * p1)) + p5))).bind fun x4 => (if (lc x4 p2) ≠ 0 then gjX9_codeNumber_42 self6 p0 p1 p2 p5 p4 G
  else gjX9_codeNumber_42 self6 p0 p1 p2 p5 p5 G))
set_option maxHeartbeats 4000000 in
theorem slX9_codeNumber_6 {G' : GS} {rr : Int} {p0 p1 p2 b0 : Int} : ∀ (n : Nat) (ad : Nat → Nat → Nat) (Cn : Nat → Nat) (H : PH) (G : GS) (p4 p5 : Int) , SimA ad Cn H G → vrel ad Cn 100 b0 p0 → lh2 (glX9_codeNumber_6 p0 p1 p2) n p4 p5 G = some (rr, G') → RS ad Cn (lq2 (lX9_codeNumber_6 b0 p1 p2) n p4 p5 H) 0 rr G' := by
  intro n
  induction n with
  | zero => intro ad Cn H G p4 p5 hS w0 h; cases h
  | succ n ih6 =>
    intro ad Cn H G p4 p5 hS w0 h
    rw [lh2_s] at h
    rw [lq2_s]
    generalize lh2 (glX9_codeNumber_6 p0 p1 p2) n = self6 at ih6 h
    generalize lq2 (lX9_codeNumber_6 b0 p1 p2) n = fself6 at ih6 ⊢
    unfold glX9_codeNumber_6 at h
    unfold lX9_codeNumber_6
    obtain ⟨x1, ex1, h⟩ := bnd h
    refine rb_ldr 100 109 hS w0 ex1 rfl rfl ?_
    intro bx1 wx1
    obtain ⟨x2, ex2, h⟩ := bnd h
    refine rb_ld 109 hS wx1 ex2 rfl rfl ?_
    by_cases hc14 : p5 ≥ x2
    · have h := iteT hc14 h
      refine rif_t hc14 ?_
      cases h
      exact rret hS rfl
    · have h := iteF hc14 h
      refine rif_f hc14 ?_
      obtain ⟨x3, ex3, h⟩ := bnd h
      refine rb_ldr 100 108 hS w0 ex3 rfl rfl ?_
      intro bx3 wx3
      obtain ⟨x4, ex4, h⟩ := bnd h
      refine rb_ld 108 hS wx3 ex4 rfl rfl ?_
      by_cases hc32 : (lc x4 p2) ≠ 0
      · have h := iteT hc32 h
        refine rif_t hc32 ?_
        exact sjX9_codeNumber_42 ih6 hS w0 h
      · have h := iteF hc32 h
        refine rif_f hc32 ?_
        exact sjX9_codeNumber_42 ih6 hS w0 h
def g_X9_codeNumber (a0 a1 a2 : Int) (G : GS) : GO := gvm a0 <|
  lh2 (glX9_codeNumber_6 a0 a1 a2) 6000 (-1) 0 G
set_option maxHeartbeats 4000000 in
theorem s_X9_codeNumber {ad : Nat → Nat → Nat} {Cn : Nat → Nat} {H : PH} {G G' : GS} {rr : Int} {a0 a1 a2 b0 : Int} (hS : SimA ad Cn H G) (w0 : vrel ad Cn 100 b0 a0) (h : g_X9_codeNumber a0 a1 a2 G = some (rr, G')) : RS ad Cn (f_X9_codeNumber b0 a1 a2 H) 0 rr G' := by
  unfold g_X9_codeNumber at h
  unfold f_X9_codeNumber
  obtain ⟨hv, h⟩ := gvm_spec h
  refine rb_vm 100 9 hS w0 hv rfl ?_
  exact slX9_codeNumber_6 6000 _ _ _ _ (-1) 0  hS w0 h
/-! HouseholdVaultModel.code(II)I by roles -/
def g_X9_code (a0 a1 a2 : Int) (G : GS) : GO := gvm a0 <|
  (g_X9_isQuestion a0 a1 G).bind fun z1 => (if z1.1 = 0 then some ((-1), z1.2)
  else (g_X9_in a2 (-128) 127 z1.2).bind fun z2 => (if z2.1 ≠ 0 then (gl 100 z2.2 a0 1).bind fun x3 => (gl 101 z2.2 x3 a1).bind fun x4 => (if x4 > 1 then some ((-2), z2.2)
  else (gl 100 z2.2 a0 3).bind fun x5 => (gl 103 z2.2 x5 a1).bind fun x6 => (if x6 ≤ 0 then (g_X9_codeNumber a0 a1 a2 z2.2).bind fun z7 => (if z7.1 < 0 then (gl 100 z7.2 a0 9).bind fun x8 => (gl 109 z7.2 x8 a1).bind fun x9 => (if x9 ≠ 8 then (gl 100 z7.2 a0 8).bind fun x10 => (gl 100 z7.2 a0 9).bind fun x11 => (gl 109 z7.2 x11 a1).bind fun x12 => (gs 108 z7.2 x10 (w32 ((w32 (8 * a1)) + x12)) a2).bind fun G13 => (gl 100 G13 a0 9).bind fun x14 => (gl 109 G13 x14 a1).bind fun x15 => (gs 109 G13 x14 a1 (w32 (x15 + 1))).bind fun G16 => (gl 100 G16 a0 9).bind fun x17 => (gl 109 G16 x17 a1).bind fun x18 => some (x18, G16)
  else some ((-4), z7.2))
  else some ((-3), z7.2))
  else some ((-2), z2.2)))
  else some ((-1), z2.2)))
set_option maxHeartbeats 4000000 in
theorem s_X9_code {ad : Nat → Nat → Nat} {Cn : Nat → Nat} {H : PH} {G G' : GS} {rr : Int} {a0 a1 a2 b0 : Int} (hS : SimA ad Cn H G) (w0 : vrel ad Cn 100 b0 a0) (h : g_X9_code a0 a1 a2 G = some (rr, G')) : RS ad Cn (f_X9_code b0 a1 a2 H) 0 rr G' := by
  unfold g_X9_code at h
  unfold f_X9_code
  obtain ⟨hv, h⟩ := gvm_spec h
  refine rb_vm 100 9 hS w0 hv rfl ?_
  obtain ⟨z1, ez1, h⟩ := bnd h
  refine rb_call (ρc := 0) (s_X9_isQuestion hS w0 ez1) ?_
  intro ad Cn bz1 H hS hx wz1
  dsimp only
  obtain rfl : bz1 = z1.1 := wz1
  have w0 := w0.mono hx
  by_cases hc5 : z1.1 = 0
  · have h := iteT hc5 h
    refine rif_t hc5 ?_
    cases h
    exact rret hS rfl
  · have h := iteF hc5 h
    refine rif_f hc5 ?_
    obtain ⟨z2, ez2, h⟩ := bnd h
    refine rb_call (ρc := 0) (s_X9_in hS ez2) ?_
    intro ad Cn bz2 H hS hx wz2
    dsimp only
    obtain rfl : bz2 = z2.1 := wz2
    have w0 := w0.mono hx
    by_cases hc19 : z2.1 ≠ 0
    · have h := iteT hc19 h
      refine rif_t hc19 ?_
      obtain ⟨x3, ex3, h⟩ := bnd h
      refine rb_ldr 100 101 hS w0 ex3 rfl rfl ?_
      intro bx3 wx3
      obtain ⟨x4, ex4, h⟩ := bnd h
      refine rb_ld 101 hS wx3 ex4 rfl rfl ?_
      by_cases hc31 : x4 > 1
      · have h := iteT hc31 h
        refine rif_t hc31 ?_
        cases h
        exact rret hS rfl
      · have h := iteF hc31 h
        refine rif_f hc31 ?_
        obtain ⟨x5, ex5, h⟩ := bnd h
        refine rb_ldr 100 103 hS w0 ex5 rfl rfl ?_
        intro bx5 wx5
        obtain ⟨x6, ex6, h⟩ := bnd h
        refine rb_ld 103 hS wx5 ex6 rfl rfl ?_
        by_cases hc40 : x6 ≤ 0
        · have h := iteT hc40 h
          refine rif_t hc40 ?_
          obtain ⟨z7, ez7, h⟩ := bnd h
          refine rb_call (ρc := 0) (s_X9_codeNumber hS w0 ez7) ?_
          intro ad Cn bz7 H hS hx wz7
          dsimp only
          obtain rfl : bz7 = z7.1 := wz7
          have w0 := w0.mono hx
          by_cases hc53 : z7.1 < 0
          · have h := iteT hc53 h
            refine rif_t hc53 ?_
            obtain ⟨x8, ex8, h⟩ := bnd h
            refine rb_ldr 100 109 hS w0 ex8 rfl rfl ?_
            intro bx8 wx8
            obtain ⟨x9, ex9, h⟩ := bnd h
            refine rb_ld 109 hS wx8 ex9 rfl rfl ?_
            by_cases hc67 : x9 ≠ 8
            · have h := iteT hc67 h
              refine rif_t hc67 ?_
              obtain ⟨x10, ex10, h⟩ := bnd h
              refine rb_ldr 100 108 hS w0 ex10 rfl rfl ?_
              intro bx10 wx10
              obtain ⟨x11, ex11, h⟩ := bnd h
              refine rb_ldr 100 109 hS w0 ex11 rfl rfl ?_
              intro bx11 wx11
              obtain ⟨x12, ex12, h⟩ := bnd h
              refine rb_ld 109 hS wx11 ex12 rfl rfl ?_
              obtain ⟨G13, eG13, h⟩ := bnd h
              refine rb_st 108 hS wx10 (show rrel _ _ 0 _ _ from rfl) eG13 rfl ?_
              intro H hS
              obtain ⟨x14, ex14, h⟩ := bnd h
              refine rb_ldr 100 109 hS w0 ex14 rfl rfl ?_
              intro bx14 wx14
              obtain ⟨x15, ex15, h⟩ := bnd h
              refine rb_ld 109 hS wx14 ex15 rfl rfl ?_
              obtain ⟨G16, eG16, h⟩ := bnd h
              refine rb_st 109 hS wx14 (show rrel _ _ 0 _ _ from rfl) eG16 rfl ?_
              intro H hS
              obtain ⟨x17, ex17, h⟩ := bnd h
              refine rb_ldr 100 109 hS w0 ex17 rfl rfl ?_
              intro bx17 wx17
              obtain ⟨x18, ex18, h⟩ := bnd h
              refine rb_ld 109 hS wx17 ex18 rfl rfl ?_
              cases h
              exact rret hS rfl
            · have h := iteF hc67 h
              refine rif_f hc67 ?_
              cases h
              exact rret hS rfl
          · have h := iteF hc53 h
            refine rif_f hc53 ?_
            cases h
            exact rret hS rfl
        · have h := iteF hc40 h
          refine rif_f hc40 ?_
          cases h
          exact rret hS rfl
    · have h := iteF hc19 h
      refine rif_f hc19 ?_
      cases h
      exact rret hS rfl
/-! HouseholdVaultModel.map(I)I by roles -/
def g_X9_map (a0 a1 : Int) (G : GS) : GO := gvm a0 <|
  (g_X9_isQuestion a0 a1 G).bind fun z1 => (if z1.1 ≠ 0 then (gl 100 z1.2 a0 1).bind fun x2 => (gl 101 z1.2 x2 a1).bind fun x3 => (if x3 = 1 then some ((-2), z1.2)
  else (gl 100 z1.2 a0 1).bind fun x4 => (gl 101 z1.2 x4 a1).bind fun x5 => (if x5 ≠ 5 then (gl 100 z1.2 a0 0).bind fun x6 => (if x6 ≠ 24 then (gl 100 z1.2 a0 2).bind fun x7 => (gl 102 z1.2 x7 a1).bind fun x8 => (g_X9_add a0 0 x8 1 z1.2).bind fun z9 => (gl 100 z9.2 a0 4).bind fun x10 => (gs 104 z9.2 x10 z9.1 a1).bind fun G11 => some (z9.1, G11)
  else some ((-4), z1.2))
  else some ((-2), z1.2)))
  else some ((-1), z1.2))
set_option maxHeartbeats 4000000 in
theorem s_X9_map {ad : Nat → Nat → Nat} {Cn : Nat → Nat} {H : PH} {G G' : GS} {rr : Int} {a0 a1 b0 : Int} (hS : SimA ad Cn H G) (w0 : vrel ad Cn 100 b0 a0) (h : g_X9_map a0 a1 G = some (rr, G')) : RS ad Cn (f_X9_map b0 a1 H) 0 rr G' := by
  unfold g_X9_map at h
  unfold f_X9_map
  obtain ⟨hv, h⟩ := gvm_spec h
  refine rb_vm 100 9 hS w0 hv rfl ?_
  obtain ⟨z1, ez1, h⟩ := bnd h
  refine rb_call (ρc := 0) (s_X9_isQuestion hS w0 ez1) ?_
  intro ad Cn bz1 H hS hx wz1
  dsimp only
  obtain rfl : bz1 = z1.1 := wz1
  have w0 := w0.mono hx
  by_cases hc5 : z1.1 ≠ 0
  · have h := iteT hc5 h
    refine rif_t hc5 ?_
    obtain ⟨x2, ex2, h⟩ := bnd h
    refine rb_ldr 100 101 hS w0 ex2 rfl rfl ?_
    intro bx2 wx2
    obtain ⟨x3, ex3, h⟩ := bnd h
    refine rb_ld 101 hS wx2 ex3 rfl rfl ?_
    by_cases hc17 : x3 = 1
    · have h := iteT hc17 h
      refine rif_t hc17 ?_
      cases h
      exact rret hS rfl
    · have h := iteF hc17 h
      refine rif_f hc17 ?_
      obtain ⟨x4, ex4, h⟩ := bnd h
      refine rb_ldr 100 101 hS w0 ex4 rfl rfl ?_
      intro bx4 wx4
      obtain ⟨x5, ex5, h⟩ := bnd h
      refine rb_ld 101 hS wx4 ex5 rfl rfl ?_
      by_cases hc27 : x5 ≠ 5
      · have h := iteT hc27 h
        refine rif_t hc27 ?_
        obtain ⟨x6, ex6, h⟩ := bnd h
        refine rb_ld 100 hS w0 ex6 rfl rfl ?_
        by_cases hc39 : x6 ≠ 24
        · have h := iteT hc39 h
          refine rif_t hc39 ?_
          obtain ⟨x7, ex7, h⟩ := bnd h
          refine rb_ldr 100 102 hS w0 ex7 rfl rfl ?_
          intro bx7 wx7
          obtain ⟨x8, ex8, h⟩ := bnd h
          refine rb_ld 102 hS wx7 ex8 rfl rfl ?_
          obtain ⟨z9, ez9, h⟩ := bnd h
          refine rb_call (ρc := 0) (s_X9_add hS w0 ez9) ?_
          intro ad Cn bz9 H hS hx wz9
          dsimp only
          obtain rfl : bz9 = z9.1 := wz9
          have w0 := w0.mono hx
          obtain ⟨x10, ex10, h⟩ := bnd h
          refine rb_ldr 100 104 hS w0 ex10 rfl rfl ?_
          intro bx10 wx10
          obtain ⟨G11, eG11, h⟩ := bnd h
          refine rb_st 104 hS wx10 (show rrel _ _ 0 _ _ from rfl) eG11 rfl ?_
          intro H hS
          cases h
          exact rret hS rfl
        · have h := iteF hc39 h
          refine rif_f hc39 ?_
          cases h
          exact rret hS rfl
      · have h := iteF hc27 h
        refine rif_f hc27 ?_
        cases h
        exact rret hS rfl
  · have h := iteF hc5 h
    refine rif_f hc5 ?_
    cases h
    exact rret hS rfl
/-! HouseholdVaultModel.row(IJJI)I by roles -/
def gjX9_row_147 (p0 p1 : Int) (G : GS) : GO :=
  (gl 100 G p0 13).bind fun x1 => (gl 113 G x1 p1).bind fun x2 => some (x2, G)
set_option maxHeartbeats 4000000 in
theorem sjX9_row_147 {ad : Nat → Nat → Nat} {Cn : Nat → Nat} {H : PH} {G G' : GS} {rr : Int} {p0 p1 b0 : Int} (hS : SimA ad Cn H G) (w0 : vrel ad Cn 100 b0 p0) (h : gjX9_row_147 p0 p1 G = some (rr, G')) : RS ad Cn (jX9_row_147 b0 p1 H) 0 rr G' := by
  unfold gjX9_row_147 at h
  unfold jX9_row_147
  obtain ⟨x1, ex1, h⟩ := bnd h
  refine rb_ldr 100 113 hS w0 ex1 rfl rfl ?_
  intro bx1 wx1
  obtain ⟨x2, ex2, h⟩ := bnd h
  refine rb_ld 113 hS wx1 ex2 rfl rfl ?_
  cases h
  exact rret hS rfl
def g_X9_row (a0 a1 a2 a3 a4 : Int) (G : GS) : GO := gvm a0 <|
  (g_X9_isQuestion a0 a1 G).bind fun z1 => (if z1.1 = 0 then some ((-1), z1.2)
  else (if (lc a2 a3) > 0 then some ((-1), z1.2)
  else (g_X9_in a4 (-128) 127 z1.2).bind fun z2 => (if z2.1 ≠ 0 then (gl 100 z2.2 a0 3).bind fun x3 => (gl 103 z2.2 x3 a1).bind fun x4 => (if x4 = 1 then (gl 100 z2.2 a0 13).bind fun x5 => (gl 113 z2.2 x5 a1).bind fun x6 => (if x6 ≠ 8 then (gl 100 z2.2 a0 13).bind fun x7 => (gl 113 z2.2 x7 a1).bind fun x8 => (gl 100 z2.2 a0 10).bind fun x9 => (gs 110 z2.2 x9 (w32 ((w32 (8 * a1)) + x8)) a2).bind fun G10 => (gl 100 G10 a0 11).bind fun x11 => (gs 111 G10 x11 (w32 ((w32 (8 * a1)) + x8)) a3).bind fun G12 => (gl 100 G12 a0 12).bind fun x13 => (gs 112 G12 x13 (w32 ((w32 (8 * a1)) + x8)) a4).bind fun G14 => (gl 100 G14 a0 13).bind fun x15 => (gl 113 G14 x15 a1).bind fun x16 => (gs 113 G14 x15 a1 (w32 (x16 + 1))).bind fun G17 => (g_X9_codeNumber a0 a1 a4 G17).bind fun z18 => (if z18.1 ≥ 0 then gjX9_row_147 a0 a1 z18.2
  else (gl 100 z18.2 a0 8).bind fun x19 => (gl 100 z18.2 a0 9).bind fun x20 => (gl 109 z18.2 x20 a1).bind fun x21 => (gs 108 z18.2 x19 (w32 ((w32 (8 * a1)) + x21)) a4).bind fun G22 => (gl 100 G22 a0 9).bind fun x23 => (gl 109 G22 x23 a1).bind fun x24 => (gs 109 G22 x23 a1 (w32 (x24 + 1))).bind fun G25 => gjX9_row_147 a0 a1 G25)
  else some ((-4), z2.2))
  else some ((-2), z2.2))
  else some ((-1), z2.2))))
set_option maxHeartbeats 4000000 in
theorem s_X9_row {ad : Nat → Nat → Nat} {Cn : Nat → Nat} {H : PH} {G G' : GS} {rr : Int} {a0 a1 a2 a3 a4 b0 : Int} (hS : SimA ad Cn H G) (w0 : vrel ad Cn 100 b0 a0) (h : g_X9_row a0 a1 a2 a3 a4 G = some (rr, G')) : RS ad Cn (f_X9_row b0 a1 a2 a3 a4 H) 0 rr G' := by
  unfold g_X9_row at h
  unfold f_X9_row
  obtain ⟨hv, h⟩ := gvm_spec h
  refine rb_vm 100 9 hS w0 hv rfl ?_
  obtain ⟨z1, ez1, h⟩ := bnd h
  refine rb_call (ρc := 0) (s_X9_isQuestion hS w0 ez1) ?_
  intro ad Cn bz1 H hS hx wz1
  dsimp only
  obtain rfl : bz1 = z1.1 := wz1
  have w0 := w0.mono hx
  by_cases hc5 : z1.1 = 0
  · have h := iteT hc5 h
    refine rif_t hc5 ?_
    cases h
    exact rret hS rfl
  · have h := iteF hc5 h
    refine rif_f hc5 ?_
    by_cases hc12 : (lc a2 a3) > 0
    · have h := iteT hc12 h
      refine rif_t hc12 ?_
      cases h
      exact rret hS rfl
    · have h := iteF hc12 h
      refine rif_f hc12 ?_
      obtain ⟨z2, ez2, h⟩ := bnd h
      refine rb_call (ρc := 0) (s_X9_in hS ez2) ?_
      intro ad Cn bz2 H hS hx wz2
      dsimp only
      obtain rfl : bz2 = z2.1 := wz2
      have w0 := w0.mono hx
      by_cases hc27 : z2.1 ≠ 0
      · have h := iteT hc27 h
        refine rif_t hc27 ?_
        obtain ⟨x3, ex3, h⟩ := bnd h
        refine rb_ldr 100 103 hS w0 ex3 rfl rfl ?_
        intro bx3 wx3
        obtain ⟨x4, ex4, h⟩ := bnd h
        refine rb_ld 103 hS wx3 ex4 rfl rfl ?_
        by_cases hc39 : x4 = 1
        · have h := iteT hc39 h
          refine rif_t hc39 ?_
          obtain ⟨x5, ex5, h⟩ := bnd h
          refine rb_ldr 100 113 hS w0 ex5 rfl rfl ?_
          intro bx5 wx5
          obtain ⟨x6, ex6, h⟩ := bnd h
          refine rb_ld 113 hS wx5 ex6 rfl rfl ?_
          by_cases hc53 : x6 ≠ 8
          · have h := iteT hc53 h
            refine rif_t hc53 ?_
            obtain ⟨x7, ex7, h⟩ := bnd h
            refine rb_ldr 100 113 hS w0 ex7 rfl rfl ?_
            intro bx7 wx7
            obtain ⟨x8, ex8, h⟩ := bnd h
            refine rb_ld 113 hS wx7 ex8 rfl rfl ?_
            obtain ⟨x9, ex9, h⟩ := bnd h
            refine rb_ldr 100 110 hS w0 ex9 rfl rfl ?_
            intro bx9 wx9
            obtain ⟨G10, eG10, h⟩ := bnd h
            refine rb_st 110 hS wx9 (show rrel _ _ 0 _ _ from rfl) eG10 rfl ?_
            intro H hS
            obtain ⟨x11, ex11, h⟩ := bnd h
            refine rb_ldr 100 111 hS w0 ex11 rfl rfl ?_
            intro bx11 wx11
            obtain ⟨G12, eG12, h⟩ := bnd h
            refine rb_st 111 hS wx11 (show rrel _ _ 0 _ _ from rfl) eG12 rfl ?_
            intro H hS
            obtain ⟨x13, ex13, h⟩ := bnd h
            refine rb_ldr 100 112 hS w0 ex13 rfl rfl ?_
            intro bx13 wx13
            obtain ⟨G14, eG14, h⟩ := bnd h
            refine rb_st 112 hS wx13 (show rrel _ _ 0 _ _ from rfl) eG14 rfl ?_
            intro H hS
            obtain ⟨x15, ex15, h⟩ := bnd h
            refine rb_ldr 100 113 hS w0 ex15 rfl rfl ?_
            intro bx15 wx15
            obtain ⟨x16, ex16, h⟩ := bnd h
            refine rb_ld 113 hS wx15 ex16 rfl rfl ?_
            obtain ⟨G17, eG17, h⟩ := bnd h
            refine rb_st 113 hS wx15 (show rrel _ _ 0 _ _ from rfl) eG17 rfl ?_
            intro H hS
            obtain ⟨z18, ez18, h⟩ := bnd h
            refine rb_call (ρc := 0) (s_X9_codeNumber hS w0 ez18) ?_
            intro ad Cn bz18 H hS hx wz18
            dsimp only
            obtain rfl : bz18 = z18.1 := wz18
            have w0 := w0.mono hx
            by_cases hc116 : z18.1 ≥ 0
            · have h := iteT hc116 h
              refine rif_t hc116 ?_
              exact sjX9_row_147 hS w0 h
            · have h := iteF hc116 h
              refine rif_f hc116 ?_
              obtain ⟨x19, ex19, h⟩ := bnd h
              refine rb_ldr 100 108 hS w0 ex19 rfl rfl ?_
              intro bx19 wx19
              obtain ⟨x20, ex20, h⟩ := bnd h
              refine rb_ldr 100 109 hS w0 ex20 rfl rfl ?_
              intro bx20 wx20
              obtain ⟨x21, ex21, h⟩ := bnd h
              refine rb_ld 109 hS wx20 ex21 rfl rfl ?_
              obtain ⟨G22, eG22, h⟩ := bnd h
              refine rb_st 108 hS wx19 (show rrel _ _ 0 _ _ from rfl) eG22 rfl ?_
              intro H hS
              obtain ⟨x23, ex23, h⟩ := bnd h
              refine rb_ldr 100 109 hS w0 ex23 rfl rfl ?_
              intro bx23 wx23
              obtain ⟨x24, ex24, h⟩ := bnd h
              refine rb_ld 109 hS wx23 ex24 rfl rfl ?_
              obtain ⟨G25, eG25, h⟩ := bnd h
              refine rb_st 109 hS wx23 (show rrel _ _ 0 _ _ from rfl) eG25 rfl ?_
              intro H hS
              exact sjX9_row_147 hS w0 h
          · have h := iteF hc53 h
            refine rif_f hc53 ?_
            cases h
            exact rret hS rfl
        · have h := iteF hc39 h
          refine rif_f hc39 ?_
          cases h
          exact rret hS rfl
      · have h := iteF hc27 h
        refine rif_f hc27 ?_
        cases h
        exact rret hS rfl
/-! HouseholdVaultModel.howMany(II)I by roles -/
def g_X9_howMany (a0 a1 a2 : Int) (G : GS) : GO := gvm a0 <|
  (g_X9_isQuestion a0 a1 G).bind fun z1 => (if z1.1 = 0 then some ((-1), z1.2)
  else (g_X9_isCondition a0 a2 z1.2).bind fun z2 => (if z2.1 ≠ 0 then (gl 100 z2.2 a0 1).bind fun x3 => (gl 101 z2.2 x3 a1).bind fun x4 => (if x4 ≠ 5 then some ((-2), z2.2)
  else (gl 100 z2.2 a0 25).bind fun x5 => (gl 125 z2.2 x5 a2).bind fun x6 => (if x6 = a1 then (gl 100 z2.2 a0 0).bind fun x7 => (if x7 ≠ 24 then (g_X9_add a0 2 (-1) 2 z2.2).bind fun z8 => (gl 100 z8.2 a0 4).bind fun x9 => (gs 104 z8.2 x9 z8.1 a1).bind fun G10 => (gl 100 G10 a0 5).bind fun x11 => (gs 105 G10 x11 z8.1 a2).bind fun G12 => some (z8.1, G12)
  else some ((-4), z2.2))
  else some ((-2), z2.2)))
  else some ((-1), z2.2)))
set_option maxHeartbeats 4000000 in
theorem s_X9_howMany {ad : Nat → Nat → Nat} {Cn : Nat → Nat} {H : PH} {G G' : GS} {rr : Int} {a0 a1 a2 b0 : Int} (hS : SimA ad Cn H G) (w0 : vrel ad Cn 100 b0 a0) (h : g_X9_howMany a0 a1 a2 G = some (rr, G')) : RS ad Cn (f_X9_howMany b0 a1 a2 H) 0 rr G' := by
  unfold g_X9_howMany at h
  unfold f_X9_howMany
  obtain ⟨hv, h⟩ := gvm_spec h
  refine rb_vm 100 9 hS w0 hv rfl ?_
  obtain ⟨z1, ez1, h⟩ := bnd h
  refine rb_call (ρc := 0) (s_X9_isQuestion hS w0 ez1) ?_
  intro ad Cn bz1 H hS hx wz1
  dsimp only
  obtain rfl : bz1 = z1.1 := wz1
  have w0 := w0.mono hx
  by_cases hc5 : z1.1 = 0
  · have h := iteT hc5 h
    refine rif_t hc5 ?_
    cases h
    exact rret hS rfl
  · have h := iteF hc5 h
    refine rif_f hc5 ?_
    obtain ⟨z2, ez2, h⟩ := bnd h
    refine rb_call (ρc := 0) (s_X9_isCondition hS w0 ez2) ?_
    intro ad Cn bz2 H hS hx wz2
    dsimp only
    obtain rfl : bz2 = z2.1 := wz2
    have w0 := w0.mono hx
    by_cases hc13 : z2.1 ≠ 0
    · have h := iteT hc13 h
      refine rif_t hc13 ?_
      obtain ⟨x3, ex3, h⟩ := bnd h
      refine rb_ldr 100 101 hS w0 ex3 rfl rfl ?_
      intro bx3 wx3
      obtain ⟨x4, ex4, h⟩ := bnd h
      refine rb_ld 101 hS wx3 ex4 rfl rfl ?_
      by_cases hc25 : x4 ≠ 5
      · have h := iteT hc25 h
        refine rif_t hc25 ?_
        cases h
        exact rret hS rfl
      · have h := iteF hc25 h
        refine rif_f hc25 ?_
        obtain ⟨x5, ex5, h⟩ := bnd h
        refine rb_ldr 100 125 hS w0 ex5 rfl rfl ?_
        intro bx5 wx5
        obtain ⟨x6, ex6, h⟩ := bnd h
        refine rb_ld 125 hS wx5 ex6 rfl rfl ?_
        by_cases hc35 : x6 = a1
        · have h := iteT hc35 h
          refine rif_t hc35 ?_
          obtain ⟨x7, ex7, h⟩ := bnd h
          refine rb_ld 100 hS w0 ex7 rfl rfl ?_
          by_cases hc47 : x7 ≠ 24
          · have h := iteT hc47 h
            refine rif_t hc47 ?_
            obtain ⟨z8, ez8, h⟩ := bnd h
            refine rb_call (ρc := 0) (s_X9_add hS w0 ez8) ?_
            intro ad Cn bz8 H hS hx wz8
            dsimp only
            obtain rfl : bz8 = z8.1 := wz8
            have w0 := w0.mono hx
            obtain ⟨x9, ex9, h⟩ := bnd h
            refine rb_ldr 100 104 hS w0 ex9 rfl rfl ?_
            intro bx9 wx9
            obtain ⟨G10, eG10, h⟩ := bnd h
            refine rb_st 104 hS wx9 (show rrel _ _ 0 _ _ from rfl) eG10 rfl ?_
            intro H hS
            obtain ⟨x11, ex11, h⟩ := bnd h
            refine rb_ldr 100 105 hS w0 ex11 rfl rfl ?_
            intro bx11 wx11
            obtain ⟨G12, eG12, h⟩ := bnd h
            refine rb_st 105 hS wx11 (show rrel _ _ 0 _ _ from rfl) eG12 rfl ?_
            intro H hS
            cases h
            exact rret hS rfl
          · have h := iteF hc47 h
            refine rif_f hc47 ?_
            cases h
            exact rret hS rfl
        · have h := iteF hc35 h
          refine rif_f hc35 ?_
          cases h
          exact rret hS rfl
    · have h := iteF hc13 h
      refine rif_f hc13 ?_
      cases h
      exact rret hS rfl
/-! HouseholdVaultModel.sum(I)I by roles -/
def gjX9_sum_30 (p0 p1 : Int) (G : GS) : GO :=
  (gl 100 G p0 2).bind fun x1 => (gl 102 G x1 p1).bind fun x2 => (if x2 ≥ 0 then (gl 100 G p0 0).bind fun x3 => (if x3 ≠ 24 then (gl 100 G p0 1).bind fun x4 => (gl 101 G x4 p1).bind fun x5 => (g_X9_add p0 x5 (-1) 3 G).bind fun z6 => (gl 100 z6.2 p0 4).bind fun x7 => (gs 104 z6.2 x7 z6.1 p1).bind fun G8 => some (z6.1, G8)
  else some ((-4), G))
  else some ((-2), G))
set_option maxHeartbeats 4000000 in
theorem sjX9_sum_30 {ad : Nat → Nat → Nat} {Cn : Nat → Nat} {H : PH} {G G' : GS} {rr : Int} {p0 p1 b0 : Int} (hS : SimA ad Cn H G) (w0 : vrel ad Cn 100 b0 p0) (h : gjX9_sum_30 p0 p1 G = some (rr, G')) : RS ad Cn (jX9_sum_30 b0 p1 H) 0 rr G' := by
  unfold gjX9_sum_30 at h
  unfold jX9_sum_30
  obtain ⟨x1, ex1, h⟩ := bnd h
  refine rb_ldr 100 102 hS w0 ex1 rfl rfl ?_
  intro bx1 wx1
  obtain ⟨x2, ex2, h⟩ := bnd h
  refine rb_ld 102 hS wx1 ex2 rfl rfl ?_
  by_cases hc36 : x2 ≥ 0
  · have h := iteT hc36 h
    refine rif_t hc36 ?_
    obtain ⟨x3, ex3, h⟩ := bnd h
    refine rb_ld 100 hS w0 ex3 rfl rfl ?_
    by_cases hc48 : x3 ≠ 24
    · have h := iteT hc48 h
      refine rif_t hc48 ?_
      obtain ⟨x4, ex4, h⟩ := bnd h
      refine rb_ldr 100 101 hS w0 ex4 rfl rfl ?_
      intro bx4 wx4
      obtain ⟨x5, ex5, h⟩ := bnd h
      refine rb_ld 101 hS wx4 ex5 rfl rfl ?_
      obtain ⟨z6, ez6, h⟩ := bnd h
      refine rb_call (ρc := 0) (s_X9_add hS w0 ez6) ?_
      intro ad Cn bz6 H hS hx wz6
      dsimp only
      obtain rfl : bz6 = z6.1 := wz6
      have w0 := w0.mono hx
      obtain ⟨x7, ex7, h⟩ := bnd h
      refine rb_ldr 100 104 hS w0 ex7 rfl rfl ?_
      intro bx7 wx7
      obtain ⟨G8, eG8, h⟩ := bnd h
      refine rb_st 104 hS wx7 (show rrel _ _ 0 _ _ from rfl) eG8 rfl ?_
      intro H hS
      cases h
      exact rret hS rfl
    · have h := iteF hc48 h
      refine rif_f hc48 ?_
      cases h
      exact rret hS rfl
  · have h := iteF hc36 h
    refine rif_f hc36 ?_
    cases h
    exact rret hS rfl
def g_X9_sum (a0 a1 : Int) (G : GS) : GO := gvm a0 <|
  (g_X9_isQuestion a0 a1 G).bind fun z1 => (if z1.1 ≠ 0 then (gl 100 z1.2 a0 1).bind fun x2 => (gl 101 z1.2 x2 a1).bind fun x3 => (if x3 = 2 then gjX9_sum_30 a0 a1 z1.2
  else (gl 100 z1.2 a0 1).bind fun x4 => (gl 101 z1.2 x4 a1).bind fun x5 => (if x5 ≠ 3 then some ((-2), z1.2)
  else gjX9_sum_30 a0 a1 z1.2))
  else some ((-1), z1.2))
set_option maxHeartbeats 4000000 in
theorem s_X9_sum {ad : Nat → Nat → Nat} {Cn : Nat → Nat} {H : PH} {G G' : GS} {rr : Int} {a0 a1 b0 : Int} (hS : SimA ad Cn H G) (w0 : vrel ad Cn 100 b0 a0) (h : g_X9_sum a0 a1 G = some (rr, G')) : RS ad Cn (f_X9_sum b0 a1 H) 0 rr G' := by
  unfold g_X9_sum at h
  unfold f_X9_sum
  obtain ⟨hv, h⟩ := gvm_spec h
  refine rb_vm 100 9 hS w0 hv rfl ?_
  obtain ⟨z1, ez1, h⟩ := bnd h
  refine rb_call (ρc := 0) (s_X9_isQuestion hS w0 ez1) ?_
  intro ad Cn bz1 H hS hx wz1
  dsimp only
  obtain rfl : bz1 = z1.1 := wz1
  have w0 := w0.mono hx
  by_cases hc5 : z1.1 ≠ 0
  · have h := iteT hc5 h
    refine rif_t hc5 ?_
    obtain ⟨x2, ex2, h⟩ := bnd h
    refine rb_ldr 100 101 hS w0 ex2 rfl rfl ?_
    intro bx2 wx2
    obtain ⟨x3, ex3, h⟩ := bnd h
    refine rb_ld 101 hS wx2 ex3 rfl rfl ?_
    by_cases hc17 : x3 = 2
    · have h := iteT hc17 h
      refine rif_t hc17 ?_
      exact sjX9_sum_30 hS w0 h
    · have h := iteF hc17 h
      refine rif_f hc17 ?_
      obtain ⟨x4, ex4, h⟩ := bnd h
      refine rb_ldr 100 101 hS w0 ex4 rfl rfl ?_
      intro bx4 wx4
      obtain ⟨x5, ex5, h⟩ := bnd h
      refine rb_ld 101 hS wx4 ex5 rfl rfl ?_
      by_cases hc27 : x5 ≠ 3
      · have h := iteT hc27 h
        refine rif_t hc27 ?_
        cases h
        exact rret hS rfl
      · have h := iteF hc27 h
        refine rif_f hc27 ?_
        exact sjX9_sum_30 hS w0 h
  · have h := iteF hc5 h
    refine rif_f hc5 ?_
    cases h
    exact rret hS rfl
/-! HouseholdVaultModel.of(II)I by roles -/
def g_X9_of (a0 a1 a2 : Int) (G : GS) : GO := gvm a0 <|
  (g_X9_isQuestion a0 a1 G).bind fun z1 => (if z1.1 ≠ 0 then (if a2 < 0 ∨ 5 < a2 then some ((-1), z1.2)
  else List.getD [(gl 100 z1.2 a0 1).bind fun x2 => (gl 101 z1.2 x2 a1).bind fun x3 => some (x3, z1.2), (gl 100 z1.2 a0 2).bind fun x4 => (gl 102 z1.2 x4 a1).bind fun x5 => some (x5, z1.2), (gl 100 z1.2 a0 9).bind fun x6 => (gl 109 z1.2 x6 a1).bind fun x7 => some (x7, z1.2), (gl 100 z1.2 a0 3).bind fun x8 => (gl 103 z1.2 x8 a1).bind fun x9 => some (x9, z1.2), (gl 100 z1.2 a0 6).bind fun x10 => (gl 106 z1.2 x10 a1).bind fun x11 => some (x11, z1.2), (gl 100 z1.2 a0 7).bind fun x12 => (gl 107 z1.2 x12 a1).bind fun x13 => (if x13 = 0 then some (0, z1.2)
  else some (1, z1.2))] (a2 - 0).toNat none)
  else some ((-1), z1.2))
set_option maxHeartbeats 4000000 in
theorem s_X9_of {ad : Nat → Nat → Nat} {Cn : Nat → Nat} {H : PH} {G G' : GS} {rr : Int} {a0 a1 a2 b0 : Int} (hS : SimA ad Cn H G) (w0 : vrel ad Cn 100 b0 a0) (h : g_X9_of a0 a1 a2 G = some (rr, G')) : RS ad Cn (f_X9_of b0 a1 a2 H) 0 rr G' := by
  unfold g_X9_of at h
  unfold f_X9_of
  obtain ⟨hv, h⟩ := gvm_spec h
  refine rb_vm 100 9 hS w0 hv rfl ?_
  obtain ⟨z1, ez1, h⟩ := bnd h
  refine rb_call (ρc := 0) (s_X9_isQuestion hS w0 ez1) ?_
  intro ad Cn bz1 H hS hx wz1
  dsimp only
  obtain rfl : bz1 = z1.1 := wz1
  have w0 := w0.mono hx
  by_cases hc5 : z1.1 ≠ 0
  · have h := iteT hc5 h
    refine rif_t hc5 ?_
    by_cases hc : a2 < 0 ∨ 5 < a2
    · have h := iteT hc h
      refine rif_t hc ?_
      cases h
      exact rret hS rfl
    · have h := iteF hc h
      refine rif_f hc ?_
      obtain ⟨i, hin, ha⟩ := sw_case 6 hc (by decide)
      have h := sw_at ha h
      refine rsw ha ?_
      match i, hin, h with
      | 0, hin, h =>
        have h : ((gl 100 z1.2 a0 1).bind fun x2 => (gl 101 z1.2 x2 a1).bind fun x3 => some (x3, z1.2) : GO) = some (rr, G') := h
        simp only [List.getD_cons_succ, List.getD_cons_zero]
        obtain ⟨x2, ex2, h⟩ := bnd h
        refine rb_ldr 100 101 hS w0 ex2 rfl rfl ?_
        intro bx2 wx2
        obtain ⟨x3, ex3, h⟩ := bnd h
        refine rb_ld 101 hS wx2 ex3 rfl rfl ?_
        cases h
        exact rret hS rfl
      | 1, hin, h =>
        have h : ((gl 100 z1.2 a0 2).bind fun x4 => (gl 102 z1.2 x4 a1).bind fun x5 => some (x5, z1.2) : GO) = some (rr, G') := h
        simp only [List.getD_cons_succ, List.getD_cons_zero]
        obtain ⟨x4, ex4, h⟩ := bnd h
        refine rb_ldr 100 102 hS w0 ex4 rfl rfl ?_
        intro bx4 wx4
        obtain ⟨x5, ex5, h⟩ := bnd h
        refine rb_ld 102 hS wx4 ex5 rfl rfl ?_
        cases h
        exact rret hS rfl
      | 2, hin, h =>
        have h : ((gl 100 z1.2 a0 9).bind fun x6 => (gl 109 z1.2 x6 a1).bind fun x7 => some (x7, z1.2) : GO) = some (rr, G') := h
        simp only [List.getD_cons_succ, List.getD_cons_zero]
        obtain ⟨x6, ex6, h⟩ := bnd h
        refine rb_ldr 100 109 hS w0 ex6 rfl rfl ?_
        intro bx6 wx6
        obtain ⟨x7, ex7, h⟩ := bnd h
        refine rb_ld 109 hS wx6 ex7 rfl rfl ?_
        cases h
        exact rret hS rfl
      | 3, hin, h =>
        have h : ((gl 100 z1.2 a0 3).bind fun x8 => (gl 103 z1.2 x8 a1).bind fun x9 => some (x9, z1.2) : GO) = some (rr, G') := h
        simp only [List.getD_cons_succ, List.getD_cons_zero]
        obtain ⟨x8, ex8, h⟩ := bnd h
        refine rb_ldr 100 103 hS w0 ex8 rfl rfl ?_
        intro bx8 wx8
        obtain ⟨x9, ex9, h⟩ := bnd h
        refine rb_ld 103 hS wx8 ex9 rfl rfl ?_
        cases h
        exact rret hS rfl
      | 4, hin, h =>
        have h : ((gl 100 z1.2 a0 6).bind fun x10 => (gl 106 z1.2 x10 a1).bind fun x11 => some (x11, z1.2) : GO) = some (rr, G') := h
        simp only [List.getD_cons_succ, List.getD_cons_zero]
        obtain ⟨x10, ex10, h⟩ := bnd h
        refine rb_ldr 100 106 hS w0 ex10 rfl rfl ?_
        intro bx10 wx10
        obtain ⟨x11, ex11, h⟩ := bnd h
        refine rb_ld 106 hS wx10 ex11 rfl rfl ?_
        cases h
        exact rret hS rfl
      | 5, hin, h =>
        have h : ((gl 100 z1.2 a0 7).bind fun x12 => (gl 107 z1.2 x12 a1).bind fun x13 => (if x13 = 0 then some (0, z1.2)
  else some (1, z1.2)) : GO) = some (rr, G') := h
        simp only [List.getD_cons_succ, List.getD_cons_zero]
        obtain ⟨x12, ex12, h⟩ := bnd h
        refine rb_ldr 100 107 hS w0 ex12 rfl rfl ?_
        intro bx12 wx12
        obtain ⟨x13, ex13, h⟩ := bnd h
        refine rb_ld 107 hS wx12 ex13 rfl rfl ?_
        by_cases hc89 : x13 = 0
        · have h := iteT hc89 h
          refine rif_t hc89 ?_
          cases h
          exact rret hS rfl
        · have h := iteF hc89 h
          refine rif_f hc89 ?_
          cases h
          exact rret hS rfl
      | i + 6, hin, h => exact absurd hin (by omega)
  · have h := iteF hc5 h
    refine rif_f hc5 ?_
    cases h
    exact rret hS rfl
/-! HouseholdVaultModel.codeAt(II)I by roles -/
def g_X9_codeAt (a0 a1 a2 : Int) (G : GS) : GO := gvm a0 <|
  (g_X9_isQuestion a0 a1 G).bind fun z1 => (if z1.1 = 0 then some (1000, z1.2)
  else (gl 100 z1.2 a0 9).bind fun x2 => (gl 109 z1.2 x2 a1).bind fun x3 => (g_X9_in a2 0 (w32 (x3 - 1)) z1.2).bind fun z4 => (if z4.1 = 0 then some (1000, z4.2)
  else (gl 100 z4.2 a0 8).bind fun x5 => (gl 108 z4.2 x5 (w32 ((w32 (8 * a1)) + a2))).bind fun x6 => some (x6, z4.2)))
set_option maxHeartbeats 4000000 in
theorem s_X9_codeAt {ad : Nat → Nat → Nat} {Cn : Nat → Nat} {H : PH} {G G' : GS} {rr : Int} {a0 a1 a2 b0 : Int} (hS : SimA ad Cn H G) (w0 : vrel ad Cn 100 b0 a0) (h : g_X9_codeAt a0 a1 a2 G = some (rr, G')) : RS ad Cn (f_X9_codeAt b0 a1 a2 H) 0 rr G' := by
  unfold g_X9_codeAt at h
  unfold f_X9_codeAt
  obtain ⟨hv, h⟩ := gvm_spec h
  refine rb_vm 100 9 hS w0 hv rfl ?_
  obtain ⟨z1, ez1, h⟩ := bnd h
  refine rb_call (ρc := 0) (s_X9_isQuestion hS w0 ez1) ?_
  intro ad Cn bz1 H hS hx wz1
  dsimp only
  obtain rfl : bz1 = z1.1 := wz1
  have w0 := w0.mono hx
  by_cases hc5 : z1.1 = 0
  · have h := iteT hc5 h
    refine rif_t hc5 ?_
    cases h
    exact rret hS rfl
  · have h := iteF hc5 h
    refine rif_f hc5 ?_
    obtain ⟨x2, ex2, h⟩ := bnd h
    refine rb_ldr 100 109 hS w0 ex2 rfl rfl ?_
    intro bx2 wx2
    obtain ⟨x3, ex3, h⟩ := bnd h
    refine rb_ld 109 hS wx2 ex3 rfl rfl ?_
    obtain ⟨z4, ez4, h⟩ := bnd h
    refine rb_call (ρc := 0) (s_X9_in hS ez4) ?_
    intro ad Cn bz4 H hS hx wz4
    dsimp only
    obtain rfl : bz4 = z4.1 := wz4
    have w0 := w0.mono hx
    by_cases hc23 : z4.1 = 0
    · have h := iteT hc23 h
      refine rif_t hc23 ?_
      cases h
      exact rret hS rfl
    · have h := iteF hc23 h
      refine rif_f hc23 ?_
      obtain ⟨x5, ex5, h⟩ := bnd h
      refine rb_ldr 100 108 hS w0 ex5 rfl rfl ?_
      intro bx5 wx5
      obtain ⟨x6, ex6, h⟩ := bnd h
      refine rb_ld 108 hS wx5 ex6 rfl rfl ?_
      cases h
      exact rret hS rfl
/-! HouseholdVaultModel.household()I by roles -/
def glX9_household_36 (p0 : Int) (self36 : Int → GS → GO) (p1 : Int) (G : GS) : GO :=
  (gl 100 G p0 0).bind fun x1 => (if p1 ≥ x1 then (gl 100 G p0 14).bind fun x2 => some ((w32 (x2 - 1)), G)
  else (gl 100 G p0 14).bind fun x3 => (g_X9_blank p0 (w32 (x3 - 1)) p1 G).bind fun z4 => self36 (w32 (p1 + 1)) z4.2)
set_option maxHeartbeats 4000000 in
theorem slX9_household_36 {G' : GS} {rr : Int} {p0 b0 : Int} : ∀ (n : Nat) (ad : Nat → Nat → Nat) (Cn : Nat → Nat) (H : PH) (G : GS) (p1 : Int) , SimA ad Cn H G → vrel ad Cn 100 b0 p0 → lh1 (glX9_household_36 p0) n p1 G = some (rr, G') → RS ad Cn (lq1 (lX9_household_36 b0) n p1 H) 0 rr G' := by
  intro n
  induction n with
  | zero => intro ad Cn H G p1 hS w0 h; cases h
  | succ n ih36 =>
    intro ad Cn H G p1 hS w0 h
    rw [lh1_s] at h
    rw [lq1_s]
    generalize lh1 (glX9_household_36 p0) n = self36 at ih36 h
    generalize lq1 (lX9_household_36 b0) n = fself36 at ih36 ⊢
    unfold glX9_household_36 at h
    unfold lX9_household_36
    obtain ⟨x1, ex1, h⟩ := bnd h
    refine rb_ld 100 hS w0 ex1 rfl rfl ?_
    by_cases hc41 : p1 ≥ x1
    · have h := iteT hc41 h
      refine rif_t hc41 ?_
      obtain ⟨x2, ex2, h⟩ := bnd h
      refine rb_ld 100 hS w0 ex2 rfl rfl ?_
      cases h
      exact rret hS rfl
    · have h := iteF hc41 h
      refine rif_f hc41 ?_
      obtain ⟨x3, ex3, h⟩ := bnd h
      refine rb_ld 100 hS w0 ex3 rfl rfl ?_
      obtain ⟨z4, ez4, h⟩ := bnd h
      refine rb_call (ρc := 0) (s_X9_blank hS w0 ez4) ?_
      intro ad Cn bz4 H hS hx wz4
      dsimp only
      obtain rfl : bz4 = z4.1 := wz4
      have w0 := w0.mono hx
      exact ih36 _ _ _ _ (w32 (p1 + 1))  hS w0  h
def g_X9_household (a0 : Int) (G : GS) : GO := gvm a0 <|
  (gl 100 G a0 14).bind fun x1 => (if x1 ≠ 40 then (gl 100 G a0 17).bind fun x2 => (gl 100 G a0 14).bind fun x3 => (gs 117 G x2 x3 2520).bind fun G4 => (gl 100 G4 a0 14).bind fun x5 => (gs 100 G4 a0 14 (w32 (x5 + 1))).bind fun G6 => lh1 (glX9_household_36 a0) 6000 0 G6
  else some ((-4), G))
set_option maxHeartbeats 4000000 in
theorem s_X9_household {ad : Nat → Nat → Nat} {Cn : Nat → Nat} {H : PH} {G G' : GS} {rr : Int} {a0 b0 : Int} (hS : SimA ad Cn H G) (w0 : vrel ad Cn 100 b0 a0) (h : g_X9_household a0 G = some (rr, G')) : RS ad Cn (f_X9_household b0 H) 0 rr G' := by
  unfold g_X9_household at h
  unfold f_X9_household
  obtain ⟨hv, h⟩ := gvm_spec h
  refine rb_vm 100 9 hS w0 hv rfl ?_
  obtain ⟨x1, ex1, h⟩ := bnd h
  refine rb_ld 100 hS w0 ex1 rfl rfl ?_
  by_cases hc6 : x1 ≠ 40
  · have h := iteT hc6 h
    refine rif_t hc6 ?_
    obtain ⟨x2, ex2, h⟩ := bnd h
    refine rb_ldr 100 117 hS w0 ex2 rfl rfl ?_
    intro bx2 wx2
    obtain ⟨x3, ex3, h⟩ := bnd h
    refine rb_ld 100 hS w0 ex3 rfl rfl ?_
    obtain ⟨G4, eG4, h⟩ := bnd h
    refine rb_st 117 hS wx2 (show rrel _ _ 0 _ _ from rfl) eG4 rfl ?_
    intro H hS
    obtain ⟨x5, ex5, h⟩ := bnd h
    refine rb_ld 100 hS w0 ex5 rfl rfl ?_
    obtain ⟨G6, eG6, h⟩ := bnd h
    refine rb_st 100 hS w0 (show rrel _ _ 0 _ _ from rfl) eG6 rfl ?_
    intro H hS
    exact slX9_household_36 6000 _ _ _ _ 0  hS w0 h
  · have h := iteF hc6 h
    refine rif_f hc6 ?_
    cases h
    exact rret hS rfl
/-! HouseholdVaultModel.persons(II)I by roles -/
def g_X9_persons (a0 a1 a2 : Int) (G : GS) : GO := gvm a0 <|
  (gl 100 G a0 15).bind fun x1 => (g_X9_place a1 a2 0 G).bind fun z2 => (gl 115 z2.2 x1 z2.1).bind fun x3 => some ((w32 x3), z2.2)
set_option maxHeartbeats 4000000 in
theorem s_X9_persons {ad : Nat → Nat → Nat} {Cn : Nat → Nat} {H : PH} {G G' : GS} {rr : Int} {a0 a1 a2 b0 : Int} (hS : SimA ad Cn H G) (w0 : vrel ad Cn 100 b0 a0) (h : g_X9_persons a0 a1 a2 G = some (rr, G')) : RS ad Cn (f_X9_persons b0 a1 a2 H) 0 rr G' := by
  unfold g_X9_persons at h
  unfold f_X9_persons
  obtain ⟨hv, h⟩ := gvm_spec h
  refine rb_vm 100 9 hS w0 hv rfl ?_
  obtain ⟨x1, ex1, h⟩ := bnd h
  refine rb_ldr 100 115 hS w0 ex1 rfl rfl ?_
  intro bx1 wx1
  obtain ⟨z2, ez2, h⟩ := bnd h
  refine rb_call (ρc := 0) (s_X9_place hS ez2) ?_
  intro ad Cn bz2 H hS hx wz2
  dsimp only
  obtain rfl : bz2 = z2.1 := wz2
  have w0 := w0.mono hx
  have wx1 := wx1.mono hx
  obtain ⟨x3, ex3, h⟩ := bnd h
  refine rb_ld 115 hS wx1 ex3 rfl rfl ?_
  cases h
  exact rret hS rfl
/-! HouseholdVaultModel.isPlace(III)Z by roles -/
def g_X9_isPlace (a0 a1 a2 a3 : Int) (G : GS) : GO := gvm a0 <|
  (g_X9_isHousehold a0 a1 G).bind fun z1 => (if z1.1 = 0 then some (0, z1.2)
  else (g_X9_isQuestion a0 a2 z1.2).bind fun z2 => (if z2.1 ≠ 0 then (gl 100 z2.2 a0 2).bind fun x3 => (gl 102 z2.2 x3 a2).bind fun x4 => (if x4 ≥ 0 then (gl 100 z2.2 a0 2).bind fun x5 => (gl 102 z2.2 x5 a2).bind fun x6 => (g_X9_persons a0 a1 x6 z2.2).bind fun z7 => (g_X9_in a3 0 (w32 (z7.1 - 1)) z7.2).bind fun z8 => gzr z8.1 z8.2
  else (if a3 ≠ (-1) then some (0, z2.2)
  else some (1, z2.2)))
  else some (0, z2.2)))
set_option maxHeartbeats 4000000 in
theorem s_X9_isPlace {ad : Nat → Nat → Nat} {Cn : Nat → Nat} {H : PH} {G G' : GS} {rr : Int} {a0 a1 a2 a3 b0 : Int} (hS : SimA ad Cn H G) (w0 : vrel ad Cn 100 b0 a0) (h : g_X9_isPlace a0 a1 a2 a3 G = some (rr, G')) : RS ad Cn (f_X9_isPlace b0 a1 a2 a3 H) 0 rr G' := by
  unfold g_X9_isPlace at h
  unfold f_X9_isPlace
  obtain ⟨hv, h⟩ := gvm_spec h
  refine rb_vm 100 9 hS w0 hv rfl ?_
  obtain ⟨z1, ez1, h⟩ := bnd h
  refine rb_call (ρc := 0) (s_X9_isHousehold hS w0 ez1) ?_
  intro ad Cn bz1 H hS hx wz1
  dsimp only
  obtain rfl : bz1 = z1.1 := wz1
  have w0 := w0.mono hx
  by_cases hc5 : z1.1 = 0
  · have h := iteT hc5 h
    refine rif_t hc5 ?_
    cases h
    exact rret hS rfl
  · have h := iteF hc5 h
    refine rif_f hc5 ?_
    obtain ⟨z2, ez2, h⟩ := bnd h
    refine rb_call (ρc := 0) (s_X9_isQuestion hS w0 ez2) ?_
    intro ad Cn bz2 H hS hx wz2
    dsimp only
    obtain rfl : bz2 = z2.1 := wz2
    have w0 := w0.mono hx
    by_cases hc13 : z2.1 ≠ 0
    · have h := iteT hc13 h
      refine rif_t hc13 ?_
      obtain ⟨x3, ex3, h⟩ := bnd h
      refine rb_ldr 100 102 hS w0 ex3 rfl rfl ?_
      intro bx3 wx3
      obtain ⟨x4, ex4, h⟩ := bnd h
      refine rb_ld 102 hS wx3 ex4 rfl rfl ?_
      by_cases hc24 : x4 ≥ 0
      · have h := iteT hc24 h
        refine rif_t hc24 ?_
        obtain ⟨x5, ex5, h⟩ := bnd h
        refine rb_ldr 100 102 hS w0 ex5 rfl rfl ?_
        intro bx5 wx5
        obtain ⟨x6, ex6, h⟩ := bnd h
        refine rb_ld 102 hS wx5 ex6 rfl rfl ?_
        obtain ⟨z7, ez7, h⟩ := bnd h
        refine rb_call (ρc := 0) (s_X9_persons hS w0 ez7) ?_
        intro ad Cn bz7 H hS hx wz7
        dsimp only
        obtain rfl : bz7 = z7.1 := wz7
        have w0 := w0.mono hx
        obtain ⟨z8, ez8, h⟩ := bnd h
        refine rb_call (ρc := 0) (s_X9_in hS ez8) ?_
        intro ad Cn bz8 H hS hx wz8
        dsimp only
        obtain rfl : bz8 = z8.1 := wz8
        have w0 := w0.mono hx
        obtain ⟨hz, h⟩ := gzr_spec h
        cases h
        exact rb_zr hz (rret hS rfl)
      · have h := iteF hc24 h
        refine rif_f hc24 ?_
        by_cases hc29 : a3 ≠ (-1)
        · have h := iteT hc29 h
          refine rif_t hc29 ?_
          cases h
          exact rret hS rfl
        · have h := iteF hc29 h
          refine rif_f hc29 ?_
          cases h
          exact rret hS rfl
    · have h := iteF hc13 h
      refine rif_f hc13 ?_
      cases h
      exact rret hS rfl
/-! HouseholdVaultModel.isValue(IJ)Z by roles -/
def g_X9_isValue (a0 a1 a2 : Int) (G : GS) : GO := gvm a0 <|
  (gl 100 G a0 1).bind fun x1 => (gl 101 G x1 a1).bind fun x2 => (if x2 < 0 ∨ 4 < x2 then (g_X9_in a2 0 5 G).bind fun z3 => gzr z3.1 z3.2
  else List.getD [(g_X9_codeNumber a0 a1 a2 G).bind fun z4 => (if z4.1 < 0 then some (0, z4.2)
  else some (1, z4.2)), (gl 100 G a0 9).bind fun x5 => (gl 109 G x5 a1).bind fun x6 => (g_X9_in a2 0 (w64 ((l_shl 1 x6) - 1)) G).bind fun z7 => gzr z7.1 z7.2, (if (lc a2 (w32 a2)) ≠ 0 then some (0, G)
  else some (1, G)), (g_X9_in a2 (-1000000000000000) 1000000000000000 G).bind fun z8 => gzr z8.1 z8.2, (g_X9_in a2 (-30000) 30000 G).bind fun z9 => gzr z9.1 z9.2] (x2 - 0).toNat none)
set_option maxHeartbeats 4000000 in
theorem s_X9_isValue {ad : Nat → Nat → Nat} {Cn : Nat → Nat} {H : PH} {G G' : GS} {rr : Int} {a0 a1 a2 b0 : Int} (hS : SimA ad Cn H G) (w0 : vrel ad Cn 100 b0 a0) (h : g_X9_isValue a0 a1 a2 G = some (rr, G')) : RS ad Cn (f_X9_isValue b0 a1 a2 H) 0 rr G' := by
  unfold g_X9_isValue at h
  unfold f_X9_isValue
  obtain ⟨hv, h⟩ := gvm_spec h
  refine rb_vm 100 9 hS w0 hv rfl ?_
  obtain ⟨x1, ex1, h⟩ := bnd h
  refine rb_ldr 100 101 hS w0 ex1 rfl rfl ?_
  intro bx1 wx1
  obtain ⟨x2, ex2, h⟩ := bnd h
  refine rb_ld 101 hS wx1 ex2 rfl rfl ?_
  by_cases hc : x2 < 0 ∨ 4 < x2
  · have h := iteT hc h
    refine rif_t hc ?_
    obtain ⟨z3, ez3, h⟩ := bnd h
    refine rb_call (ρc := 0) (s_X9_in hS ez3) ?_
    intro ad Cn bz3 H hS hx wz3
    dsimp only
    obtain rfl : bz3 = z3.1 := wz3
    have w0 := w0.mono hx
    obtain ⟨hz, h⟩ := gzr_spec h
    cases h
    exact rb_zr hz (rret hS rfl)
  · have h := iteF hc h
    refine rif_f hc ?_
    obtain ⟨i, hin, ha⟩ := sw_case 5 hc (by decide)
    have h := sw_at ha h
    refine rsw ha ?_
    match i, hin, h with
    | 0, hin, h =>
      have h : ((g_X9_codeNumber a0 a1 a2 G).bind fun z4 => (if z4.1 < 0 then some (0, z4.2)
  else some (1, z4.2)) : GO) = some (rr, G') := h
      simp only [List.getD_cons_succ, List.getD_cons_zero]
      obtain ⟨z4, ez4, h⟩ := bnd h
      refine rb_call (ρc := 0) (s_X9_codeNumber hS w0 ez4) ?_
      intro ad Cn bz4 H hS hx wz4
      dsimp only
      obtain rfl : bz4 = z4.1 := wz4
      have w0 := w0.mono hx
      by_cases hc46 : z4.1 < 0
      · have h := iteT hc46 h
        refine rif_t hc46 ?_
        cases h
        exact rret hS rfl
      · have h := iteF hc46 h
        refine rif_f hc46 ?_
        cases h
        exact rret hS rfl
    | 1, hin, h =>
      have h : ((gl 100 G a0 9).bind fun x5 => (gl 109 G x5 a1).bind fun x6 => (g_X9_in a2 0 (w64 ((l_shl 1 x6) - 1)) G).bind fun z7 => gzr z7.1 z7.2 : GO) = some (rr, G') := h
      simp only [List.getD_cons_succ, List.getD_cons_zero]
      obtain ⟨x5, ex5, h⟩ := bnd h
      refine rb_ldr 100 109 hS w0 ex5 rfl rfl ?_
      intro bx5 wx5
      obtain ⟨x6, ex6, h⟩ := bnd h
      refine rb_ld 109 hS wx5 ex6 rfl rfl ?_
      obtain ⟨z7, ez7, h⟩ := bnd h
      refine rb_call (ρc := 0) (s_X9_in hS ez7) ?_
      intro ad Cn bz7 H hS hx wz7
      dsimp only
      obtain rfl : bz7 = z7.1 := wz7
      have w0 := w0.mono hx
      obtain ⟨hz, h⟩ := gzr_spec h
      cases h
      exact rb_zr hz (rret hS rfl)
    | 2, hin, h =>
      have h : ((if (lc a2 (w32 a2)) ≠ 0 then some (0, G)
  else some (1, G)) : GO) = some (rr, G') := h
      simp only [List.getD_cons_succ, List.getD_cons_zero]
      by_cases hc76 : (lc a2 (w32 a2)) ≠ 0
      · have h := iteT hc76 h
        refine rif_t hc76 ?_
        cases h
        exact rret hS rfl
      · have h := iteF hc76 h
        refine rif_f hc76 ?_
        cases h
        exact rret hS rfl
    | 3, hin, h =>
      have h : ((g_X9_in a2 (-1000000000000000) 1000000000000000 G).bind fun z8 => gzr z8.1 z8.2 : GO) = some (rr, G') := h
      simp only [List.getD_cons_succ, List.getD_cons_zero]
      obtain ⟨z8, ez8, h⟩ := bnd h
      refine rb_call (ρc := 0) (s_X9_in hS ez8) ?_
      intro ad Cn bz8 H hS hx wz8
      dsimp only
      obtain rfl : bz8 = z8.1 := wz8
      have w0 := w0.mono hx
      obtain ⟨hz, h⟩ := gzr_spec h
      cases h
      exact rb_zr hz (rret hS rfl)
    | 4, hin, h =>
      have h : ((g_X9_in a2 (-30000) 30000 G).bind fun z9 => gzr z9.1 z9.2 : GO) = some (rr, G') := h
      simp only [List.getD_cons_succ, List.getD_cons_zero]
      obtain ⟨z9, ez9, h⟩ := bnd h
      refine rb_call (ρc := 0) (s_X9_in hS ez9) ?_
      intro ad Cn bz9 H hS hx wz9
      dsimp only
      obtain rfl : bz9 = z9.1 := wz9
      have w0 := w0.mono hx
      obtain ⟨hz, h⟩ := gzr_spec h
      cases h
      exact rb_zr hz (rret hS rfl)
    | i + 5, hin, h => exact absurd hin (by omega)
/-! HouseholdVaultModel.people(III)V by roles -/
def gjX9_people_91 (self11 : Int → GS → GO) (p0 p1 p2 p3 p4 p5 : Int) (G : GS) : GO :=
  self11 (w32 (p5 + 1)) G
set_option maxHeartbeats 4000000 in
theorem sjX9_people_91 {ad : Nat → Nat → Nat} {Cn : Nat → Nat} {H : PH} {G G' : GS} {rr : Int} {fself11 : Int → PH → RO} {self11 : Int → GS → GO} {p0 p1 p2 p3 p4 p5 b0 : Int} (ih11 : ∀ (ad : Nat → Nat → Nat) (Cn : Nat → Nat) (H : PH) (G : GS) (v5 : Int) , SimA ad Cn H G → vrel ad Cn 100 b0 p0 → self11 v5 G = some (rr, G') → RS ad Cn (fself11 v5 H) 0 rr G') (hS : SimA ad Cn H G) (w0 : vrel ad Cn 100 b0 p0) (h : gjX9_people_91 self11 p0 p1 p2 p3 p4 p5 G = some (rr, G')) : RS ad Cn (jX9_people_91 fself11 b0 p1 p2 p3 p4 p5 H) 0 rr G' := by
  unfold gjX9_people_91 at h
  unfold jX9_people_91
  exact ih11 _ _ _ _ (w32 (p5 + 1))  hS w0  h
def gjX9_people_85 (self11 : Int → GS → GO) (self23 : Int → GS → GO) (p0 p1 p2 p3 p4 p5 p6 : Int) (G : GS) : GO :=
  self23 (w32 (p6 + 1)) G
set_option maxHeartbeats 4000000 in
theorem sjX9_people_85 {ad : Nat → Nat → Nat} {Cn : Nat → Nat} {H : PH} {G G' : GS} {rr : Int} {fself11 : Int → PH → RO} {self11 : Int → GS → GO} {fself23 : Int → PH → RO} {self23 : Int → GS → GO} {p0 p1 p2 p3 p4 p5 p6 b0 : Int} (ih11 : ∀ (ad : Nat → Nat → Nat) (Cn : Nat → Nat) (H : PH) (G : GS) (v5 : Int) , SimA ad Cn H G → vrel ad Cn 100 b0 p0 → self11 v5 G = some (rr, G') → RS ad Cn (fself11 v5 H) 0 rr G') (ih23 : ∀ (ad : Nat → Nat → Nat) (Cn : Nat → Nat) (H : PH) (G : GS) (v6 : Int) , SimA ad Cn H G → vrel ad Cn 100 b0 p0 → self23 v6 G = some (rr, G') → RS ad Cn (fself23 v6 H) 0 rr G') (hS : SimA ad Cn H G) (w0 : vrel ad Cn 100 b0 p0) (h : gjX9_people_85 self11 self23 p0 p1 p2 p3 p4 p5 p6 G = some (rr, G')) : RS ad Cn (jX9_people_85 fself11 fself23 b0 p1 p2 p3 p4 p5 p6 H) 0 rr G' := by
  unfold gjX9_people_85 at h
  unfold jX9_people_85
  exact ih23 _ _ _ _ (w32 (p6 + 1))  hS w0  h
def gjX9_people_53 (self11 : Int → GS → GO) (self23 : Int → GS → GO) (p0 p1 p2 p3 p4 p5 p6 : Int) (G : GS) : GO :=
  (gl 100 G p0 15).bind fun x1 => (g_X9_place p1 p5 (w32 (p6 + 1)) G).bind fun z2 => (gs 115 z2.2 x1 z2.1 0).bind fun G3 => (gl 100 G3 p0 16).bind fun x4 => (g_X9_place p1 p5 (w32 (p6 + 1)) G3).bind fun z5 => (gs 116 z5.2 x4 z5.1 1).bind fun G6 => gjX9_people_85 self11 self23 p0 p1 p2 p3 p4 p5 p6 G6
set_option maxHeartbeats 4000000 in
theorem sjX9_people_53 {ad : Nat → Nat → Nat} {Cn : Nat → Nat} {H : PH} {G G' : GS} {rr : Int} {fself11 : Int → PH → RO} {self11 : Int → GS → GO} {fself23 : Int → PH → RO} {self23 : Int → GS → GO} {p0 p1 p2 p3 p4 p5 p6 b0 : Int} (ih11 : ∀ (ad : Nat → Nat → Nat) (Cn : Nat → Nat) (H : PH) (G : GS) (v5 : Int) , SimA ad Cn H G → vrel ad Cn 100 b0 p0 → self11 v5 G = some (rr, G') → RS ad Cn (fself11 v5 H) 0 rr G') (ih23 : ∀ (ad : Nat → Nat → Nat) (Cn : Nat → Nat) (H : PH) (G : GS) (v6 : Int) , SimA ad Cn H G → vrel ad Cn 100 b0 p0 → self23 v6 G = some (rr, G') → RS ad Cn (fself23 v6 H) 0 rr G') (hS : SimA ad Cn H G) (w0 : vrel ad Cn 100 b0 p0) (h : gjX9_people_53 self11 self23 p0 p1 p2 p3 p4 p5 p6 G = some (rr, G')) : RS ad Cn (jX9_people_53 fself11 fself23 b0 p1 p2 p3 p4 p5 p6 H) 0 rr G' := by
  unfold gjX9_people_53 at h
  unfold jX9_people_53
  obtain ⟨x1, ex1, h⟩ := bnd h
  refine rb_ldr 100 115 hS w0 ex1 rfl rfl ?_
  intro bx1 wx1
  obtain ⟨z2, ez2, h⟩ := bnd h
  refine rb_call (ρc := 0) (s_X9_place hS ez2) ?_
  intro ad Cn bz2 H hS hx wz2
  dsimp only
  obtain rfl : bz2 = z2.1 := wz2
  have w0 := w0.mono hx
  have wx1 := wx1.mono hx
  obtain ⟨G3, eG3, h⟩ := bnd h
  refine rb_st 115 hS wx1 (show rrel _ _ 0 _ _ from rfl) eG3 rfl ?_
  intro H hS
  obtain ⟨x4, ex4, h⟩ := bnd h
  refine rb_ldr 100 116 hS w0 ex4 rfl rfl ?_
  intro bx4 wx4
  obtain ⟨z5, ez5, h⟩ := bnd h
  refine rb_call (ρc := 0) (s_X9_place hS ez5) ?_
  intro ad Cn bz5 H hS hx wz5
  dsimp only
  obtain rfl : bz5 = z5.1 := wz5
  have w0 := w0.mono hx
  have wx4 := wx4.mono hx
  obtain ⟨G6, eG6, h⟩ := bnd h
  refine rb_st 116 hS wx4 (show rrel _ _ 0 _ _ from rfl) eG6 rfl ?_
  intro H hS
  exact sjX9_people_85 ih11 ih23 hS w0 h
def glX9_people_23 (self11 : Int → GS → GO) (p0 p1 p2 p3 p4 p5 : Int) (self23 : Int → GS → GO) (p6 : Int) (G : GS) : GO :=
  (if p6 ≥ 5 then gjX9_people_91 self11 p0 p1 p2 p3 p4 p5 G
  else (gl 100 G p0 2).bind fun x1 => (gl 102 G x1 p5).bind fun x2 => (if x2 ≠ p2 then gjX9_people_91 self11 p0 p1 p2 p3 p4 p5 G
  else (if p6 ≥ p4 then gjX9_people_53 self11 self23 p0 p1 p2 p3 p4 p5 p6 G
  else (if p6 < p3 then gjX9_people_85 self11 self23 p0 p1 p2 p3 p4 p5 p6 G
  else gjX9_people_53 self11 self23 p0 p1 p2 p3 p4 p5 p6 G))))
set_option maxHeartbeats 4000000 in
theorem slX9_people_23 {G' : GS} {rr : Int} {fself11 : Int → PH → RO} {self11 : Int → GS → GO} {p0 p1 p2 p3 p4 p5 b0 : Int} (ih11 : ∀ (ad : Nat → Nat → Nat) (Cn : Nat → Nat) (H : PH) (G : GS) (v5 : Int) , SimA ad Cn H G → vrel ad Cn 100 b0 p0 → self11 v5 G = some (rr, G') → RS ad Cn (fself11 v5 H) 0 rr G') : ∀ (n : Nat) (ad : Nat → Nat → Nat) (Cn : Nat → Nat) (H : PH) (G : GS) (p6 : Int) , SimA ad Cn H G → vrel ad Cn 100 b0 p0 → lh1 (glX9_people_23 self11 p0 p1 p2 p3 p4 p5) n p6 G = some (rr, G') → RS ad Cn (lq1 (lX9_people_23 fself11 b0 p1 p2 p3 p4 p5) n p6 H) 0 rr G' := by
  intro n
  induction n with
  | zero => intro ad Cn H G p6 hS w0 h; cases h
  | succ n ih23 =>
    intro ad Cn H G p6 hS w0 h
    rw [lh1_s] at h
    rw [lq1_s]
    generalize lh1 (glX9_people_23 self11 p0 p1 p2 p3 p4 p5) n = self23 at ih23 h
    generalize lq1 (lX9_people_23 fself11 b0 p1 p2 p3 p4 p5) n = fself23 at ih23 ⊢
    unfold glX9_people_23 at h
    unfold lX9_people_23
    by_cases hc26 : p6 ≥ 5
    · have h := iteT hc26 h
      refine rif_t hc26 ?_
      exact sjX9_people_91 ih11 hS w0 h
    · have h := iteF hc26 h
      refine rif_f hc26 ?_
      obtain ⟨x1, ex1, h⟩ := bnd h
      refine rb_ldr 100 102 hS w0 ex1 rfl rfl ?_
      intro bx1 wx1
      obtain ⟨x2, ex2, h⟩ := bnd h
      refine rb_ld 102 hS wx1 ex2 rfl rfl ?_
      by_cases hc37 : x2 ≠ p2
      · have h := iteT hc37 h
        refine rif_t hc37 ?_
        exact sjX9_people_91 ih11 hS w0 h
      · have h := iteF hc37 h
        refine rif_f hc37 ?_
        by_cases hc44 : p6 ≥ p4
        · have h := iteT hc44 h
          refine rif_t hc44 ?_
          exact sjX9_people_53 ih11 ih23 hS w0 h
        · have h := iteF hc44 h
          refine rif_f hc44 ?_
          by_cases hc50 : p6 < p3
          · have h := iteT hc50 h
            refine rif_t hc50 ?_
            exact sjX9_people_85 ih11 ih23 hS w0 h
          · have h := iteF hc50 h
            refine rif_f hc50 ?_
            exact sjX9_people_53 ih11 ih23 hS w0 h
def glX9_people_11 (p0 p1 p2 p3 p4 : Int) (self11 : Int → GS → GO) (p5 : Int) (G : GS) : GO :=
  (gl 100 G p0 0).bind fun x1 => (if p5 ≥ x1 then some (0, G)
  else lh1 (glX9_people_23 self11 p0 p1 p2 p3 p4 p5) 6000 0 G)
set_option maxHeartbeats 4000000 in
theorem slX9_people_11 {G' : GS} {rr : Int} {p0 p1 p2 p3 p4 b0 : Int} : ∀ (n : Nat) (ad : Nat → Nat → Nat) (Cn : Nat → Nat) (H : PH) (G : GS) (p5 : Int) , SimA ad Cn H G → vrel ad Cn 100 b0 p0 → lh1 (glX9_people_11 p0 p1 p2 p3 p4) n p5 G = some (rr, G') → RS ad Cn (lq1 (lX9_people_11 b0 p1 p2 p3 p4) n p5 H) 0 rr G' := by
  intro n
  induction n with
  | zero => intro ad Cn H G p5 hS w0 h; cases h
  | succ n ih11 =>
    intro ad Cn H G p5 hS w0 h
    rw [lh1_s] at h
    rw [lq1_s]
    generalize lh1 (glX9_people_11 p0 p1 p2 p3 p4) n = self11 at ih11 h
    generalize lq1 (lX9_people_11 b0 p1 p2 p3 p4) n = fself11 at ih11 ⊢
    unfold glX9_people_11 at h
    unfold lX9_people_11
    obtain ⟨x1, ex1, h⟩ := bnd h
    refine rb_ld 100 hS w0 ex1 rfl rfl ?_
    by_cases hc17 : p5 ≥ x1
    · have h := iteT hc17 h
      refine rif_t hc17 ?_
      cases h
      exact rret hS rfl
    · have h := iteF hc17 h
      refine rif_f hc17 ?_
      exact slX9_people_23 ih11 6000 _ _ _ _ 0  hS w0 h
def g_X9_people (a0 a1 a2 a3 : Int) (G : GS) : GO := gvm a0 <|
  (g_X9_persons a0 a1 a2 G).bind fun z1 => lh1 (glX9_people_11 a0 a1 a2 a3 z1.1) 6000 0 z1.2
set_option maxHeartbeats 4000000 in
theorem s_X9_people {ad : Nat → Nat → Nat} {Cn : Nat → Nat} {H : PH} {G G' : GS} {rr : Int} {a0 a1 a2 a3 b0 : Int} (hS : SimA ad Cn H G) (w0 : vrel ad Cn 100 b0 a0) (h : g_X9_people a0 a1 a2 a3 G = some (rr, G')) : RS ad Cn (f_X9_people b0 a1 a2 a3 H) 0 rr G' := by
  unfold g_X9_people at h
  unfold f_X9_people
  obtain ⟨hv, h⟩ := gvm_spec h
  refine rb_vm 100 9 hS w0 hv rfl ?_
  obtain ⟨z1, ez1, h⟩ := bnd h
  refine rb_call (ρc := 0) (s_X9_persons hS w0 ez1) ?_
  intro ad Cn bz1 H hS hx wz1
  dsimp only
  obtain rfl : bz1 = z1.1 := wz1
  have w0 := w0.mono hx
  exact slX9_people_11 6000 _ _ _ _ 0  hS w0 h
/-! HouseholdVaultModel.answer(IIIJ)I by roles -/
def gjX9_answer_55 (p0 p1 p2 p3 p4 : Int) (G : GS) : GO :=
  (gl 100 G p0 15).bind fun x1 => (g_X9_place p1 p2 (w32 (p3 + 1)) G).bind fun z2 => (gs 115 z2.2 x1 z2.1 p4).bind fun G3 => (gl 100 G3 p0 16).bind fun x4 => (g_X9_place p1 p2 (w32 (p3 + 1)) G3).bind fun z5 => (gs 116 z5.2 x4 z5.1 0).bind fun G6 => some (1, G6)
set_option maxHeartbeats 4000000 in
theorem sjX9_answer_55 {ad : Nat → Nat → Nat} {Cn : Nat → Nat} {H : PH} {G G' : GS} {rr : Int} {p0 p1 p2 p3 p4 b0 : Int} (hS : SimA ad Cn H G) (w0 : vrel ad Cn 100 b0 p0) (h : gjX9_answer_55 p0 p1 p2 p3 p4 G = some (rr, G')) : RS ad Cn (jX9_answer_55 b0 p1 p2 p3 p4 H) 0 rr G' := by
  unfold gjX9_answer_55 at h
  unfold jX9_answer_55
  obtain ⟨x1, ex1, h⟩ := bnd h
  refine rb_ldr 100 115 hS w0 ex1 rfl rfl ?_
  intro bx1 wx1
  obtain ⟨z2, ez2, h⟩ := bnd h
  refine rb_call (ρc := 0) (s_X9_place hS ez2) ?_
  intro ad Cn bz2 H hS hx wz2
  dsimp only
  obtain rfl : bz2 = z2.1 := wz2
  have w0 := w0.mono hx
  have wx1 := wx1.mono hx
  obtain ⟨G3, eG3, h⟩ := bnd h
  refine rb_st 115 hS wx1 (show rrel _ _ 0 _ _ from rfl) eG3 rfl ?_
  intro H hS
  obtain ⟨x4, ex4, h⟩ := bnd h
  refine rb_ldr 100 116 hS w0 ex4 rfl rfl ?_
  intro bx4 wx4
  obtain ⟨z5, ez5, h⟩ := bnd h
  refine rb_call (ρc := 0) (s_X9_place hS ez5) ?_
  intro ad Cn bz5 H hS hx wz5
  dsimp only
  obtain rfl : bz5 = z5.1 := wz5
  have w0 := w0.mono hx
  have wx4 := wx4.mono hx
  obtain ⟨G6, eG6, h⟩ := bnd h
  refine rb_st 116 hS wx4 (show rrel _ _ 0 _ _ from rfl) eG6 rfl ?_
  intro H hS
  cases h
  exact rret hS rfl
def g_X9_answer (a0 a1 a2 a3 a4 : Int) (G : GS) : GO := gvm a0 <|
  (g_X9_isPlace a0 a1 a2 a3 G).bind fun z1 => (if z1.1 ≠ 0 then (gl 100 z1.2 a0 3).bind fun x2 => (gl 103 z1.2 x2 a2).bind fun x3 => (if x3 ≤ 0 then (g_X9_isValue a0 a2 a4 z1.2).bind fun z4 => (if z4.1 ≠ 0 then (gl 100 z4.2 a0 1).bind fun x5 => (gl 101 z4.2 x5 a2).bind fun x6 => (if x6 ≠ 5 then gjX9_answer_55 a0 a1 a2 a3 a4 z4.2
  else (g_X9_people a0 a1 a2 (w32 a4) z4.2).bind fun z7 => gjX9_answer_55 a0 a1 a2 a3 a4 z7.2)
  else some ((-1), z4.2))
  else some ((-2), z1.2))
  else some ((-1), z1.2))
set_option maxHeartbeats 4000000 in
theorem s_X9_answer {ad : Nat → Nat → Nat} {Cn : Nat → Nat} {H : PH} {G G' : GS} {rr : Int} {a0 a1 a2 a3 a4 b0 : Int} (hS : SimA ad Cn H G) (w0 : vrel ad Cn 100 b0 a0) (h : g_X9_answer a0 a1 a2 a3 a4 G = some (rr, G')) : RS ad Cn (f_X9_answer b0 a1 a2 a3 a4 H) 0 rr G' := by
  unfold g_X9_answer at h
  unfold f_X9_answer
  obtain ⟨hv, h⟩ := gvm_spec h
  refine rb_vm 100 9 hS w0 hv rfl ?_
  obtain ⟨z1, ez1, h⟩ := bnd h
  refine rb_call (ρc := 0) (s_X9_isPlace hS w0 ez1) ?_
  intro ad Cn bz1 H hS hx wz1
  dsimp only
  obtain rfl : bz1 = z1.1 := wz1
  have w0 := w0.mono hx
  by_cases hc7 : z1.1 ≠ 0
  · have h := iteT hc7 h
    refine rif_t hc7 ?_
    obtain ⟨x2, ex2, h⟩ := bnd h
    refine rb_ldr 100 103 hS w0 ex2 rfl rfl ?_
    intro bx2 wx2
    obtain ⟨x3, ex3, h⟩ := bnd h
    refine rb_ld 103 hS wx2 ex3 rfl rfl ?_
    by_cases hc18 : x3 ≤ 0
    · have h := iteT hc18 h
      refine rif_t hc18 ?_
      obtain ⟨z4, ez4, h⟩ := bnd h
      refine rb_call (ρc := 0) (s_X9_isValue hS w0 ez4) ?_
      intro ad Cn bz4 H hS hx wz4
      dsimp only
      obtain rfl : bz4 = z4.1 := wz4
      have w0 := w0.mono hx
      by_cases hc31 : z4.1 ≠ 0
      · have h := iteT hc31 h
        refine rif_t hc31 ?_
        obtain ⟨x5, ex5, h⟩ := bnd h
        refine rb_ldr 100 101 hS w0 ex5 rfl rfl ?_
        intro bx5 wx5
        obtain ⟨x6, ex6, h⟩ := bnd h
        refine rb_ld 101 hS wx5 ex6 rfl rfl ?_
        by_cases hc43 : x6 ≠ 5
        · have h := iteT hc43 h
          refine rif_t hc43 ?_
          exact sjX9_answer_55 hS w0 h
        · have h := iteF hc43 h
          refine rif_f hc43 ?_
          obtain ⟨z7, ez7, h⟩ := bnd h
          refine rb_call (ρc := 0) (s_X9_people hS w0 ez7) ?_
          intro ad Cn bz7 H hS hx wz7
          dsimp only
          obtain rfl : bz7 = z7.1 := wz7
          have w0 := w0.mono hx
          exact sjX9_answer_55 hS w0 h
      · have h := iteF hc31 h
        refine rif_f hc31 ?_
        cases h
        exact rret hS rfl
    · have h := iteF hc18 h
      refine rif_f hc18 ?_
      cases h
      exact rret hS rfl
  · have h := iteF hc7 h
    refine rif_f hc7 ?_
    cases h
    exact rret hS rfl
