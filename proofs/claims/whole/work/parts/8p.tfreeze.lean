section Freeze
variable {V : GV} {R : GR} {Q : Int → GS → Prop}
theorem SHl_nr {r n : Nat} (hS : SHl R) (h1 : sl r = 0) (h2 : ml r = n) : SHl (nr R r n) := by
  refine ⟨fun r' hr => ?_, fun r' hr i hi => ?_⟩
  · have : r' ≠ r := fun z => by subst z; exact hr h1
    rw [nr_C this, nr_N (Or.inl this)]; exact hS.1 r' hr
  · by_cases e : r' = r
    · subst e
      rw [nr_Ce] at hi
      by_cases e' : i = rC R r'
      · subst e'; rw [nr_Ne, h2]
      · rw [nr_N (Or.inr e')]; exact hS.2 r' hr i (by omega)
    · rw [nr_C e] at hi
      rw [nr_N (Or.inl e)]; exact hS.2 r' hr i hi
theorem RE_of {R' : GR} (h : RM R R' (rC R 30)) (b20 : rC R 20 ≤ 24) (b30 : rC R 30 ≤ 40) : RE R (nr R' 50 2) := by
  obtain ⟨⟨c51, c31, c32, c33⟩, c2, l51, lh, ln, rk, rz⟩ := h
  have c50 := c2 50 (by omega)
  refine ⟨⟨?_, ?_, ?_, ?_, ?_⟩, fun r h => ?_, ⟨?_, ?_⟩, fun h hh => ?_, fun r j h => ?_, ?_, ?_⟩
  · rw [nr_Ce, c50]
  · rw [nr_C (by decide)]; exact c51
  · rw [nr_C (by decide)]; exact c31
  · rw [nr_C (by decide)]; exact c32
  · rw [nr_C (by decide)]; exact c33
  · rw [nr_C (by omega)]; exact c2 r (by omega)
  · have := nr_Ne (R := R') (r := 50) (n := 2)
    rw [c50] at this; exact this
  · rw [nr_N (Or.inl (by decide))]; exact l51
  · rw [nr_N (Or.inl (by decide)), nr_N (Or.inl (by decide)), nr_N (Or.inl (by decide))]; exact lh h hh
  · rw [nr_N (by rw [c50]; omega)]; exact ln r j (by omega)
  · rw [nr_K, rk]; omega
  · rw [nr_Z, rz]
    have : rC R 30 * (2 + 10 * rC R 20) ≤ 40 * 242 := Nat.mul_le_mul (by omega) (by omega)
    omega
set_option maxHeartbeats 4000000 in
theorem T_freeze (hI : INV IT V R) : Wp (g_X8_freeze 0 (V, R)) (fun r G => Wp (g_X9_freeze 0 G) (PO r)) := by
  have hS := hI.SH
  have hF := hI.RF
  have hL := hI.IL
  obtain ⟨b20, b30, b40, b50⟩ := hI.IN.1
  obtain ⟨n1, n2, n3, n4, n5, n6, n7, n8⟩ := hI.IN.2.1
  have room := hI.room
  obtain ⟨_, _, _, _, s34, s32, s33, s51⟩ := hS.2.2
  unfold g_X8_freeze
  refine w_gv (by omega) ?_
  ((first | ((with_reducible refine w_s hS ?_ ?_ ?_ (fun x hx => ?_)); (focus decide); (focus (first | decide | omega)); (focus (first | decide | (simp only [sl]; omega)))) | ((with_reducible refine w_m hS ?_ ?_ ?_ ?_ ?_ (fun x hx => ?_)); (focus decide); (focus (first | decide | omega)); (focus omega); (focus (first | decide | omega)); (focus (first | decide | (simp only [ml]; omega)))) | (with_reducible refine w_k (by simp (disch := omega) only [w32_id]; exact rfl) ?_; ((with_reducible refine w_s hS ?_ ?_ ?_ (fun x hx => ?_)); (focus decide); (focus (first | decide | omega)); (focus (first | decide | (simp only [sl]; omega))))) | (with_reducible refine w_k (by simp (disch := omega) only [w32_id]; exact rfl) ?_; ((with_reducible refine w_m hS ?_ ?_ ?_ ?_ ?_ (fun x hx => ?_)); (focus decide); (focus (first | decide | omega)); (focus omega); (focus (first | decide | omega)); (focus (first | decide | (simp only [ml]; omega)))))); (try simp (disch := omega) only [Int.reduceToNat, tn_c, tn8, tn8i, tn5, tn5z, tn6, tn6z, tn1, u3_ne, u3_eq, u3_ni, u3_nk, n8] at hx); subst hx)
  refine w_ite (fun e6 => ?_) (fun e6 => w_ret ?_)
  rotate_left
  · unfold g_X9_freeze
    refine w_gv (by omega) ?_
    ((first | ((with_reducible refine w_s hS ?_ ?_ ?_ (fun x hx => ?_)); (focus decide); (focus (first | decide | omega)); (focus (first | decide | (simp only [sl]; omega)))) | ((with_reducible refine w_m hS ?_ ?_ ?_ ?_ ?_ (fun x hx => ?_)); (focus decide); (focus (first | decide | omega)); (focus omega); (focus (first | decide | omega)); (focus (first | decide | (simp only [ml]; omega)))) | (with_reducible refine w_k (by simp (disch := omega) only [w32_id]; exact rfl) ?_; ((with_reducible refine w_s hS ?_ ?_ ?_ (fun x hx => ?_)); (focus decide); (focus (first | decide | omega)); (focus (first | decide | (simp only [sl]; omega))))) | (with_reducible refine w_k (by simp (disch := omega) only [w32_id]; exact rfl) ?_; ((with_reducible refine w_m hS ?_ ?_ ?_ ?_ ?_ (fun x hx => ?_)); (focus decide); (focus (first | decide | omega)); (focus omega); (focus (first | decide | omega)); (focus (first | decide | (simp only [ml]; omega)))))); (try simp (disch := omega) only [Int.reduceToNat, tn_c, tn8, tn8i, tn5, tn5z, tn6, tn6z, tn1, u3_ne, u3_eq, u3_ni, u3_nk, n7] at hx); subst hx)
    exact w_ite (fun z => absurd (show (rC R 50 : Int) = 6 by omega) z) (fun _ => w_ret ⟨rfl, hI⟩)
  have e6 : rC R 50 < 6 := by omega
  ((first | ((with_reducible refine w_s hS ?_ ?_ ?_ (fun x hx => ?_)); (focus decide); (focus (first | decide | omega)); (focus (first | decide | (simp only [sl]; omega)))) | ((with_reducible refine w_m hS ?_ ?_ ?_ ?_ ?_ (fun x hx => ?_)); (focus decide); (focus (first | decide | omega)); (focus omega); (focus (first | decide | omega)); (focus (first | decide | (simp only [ml]; omega)))) | (with_reducible refine w_k (by simp (disch := omega) only [w32_id]; exact rfl) ?_; ((with_reducible refine w_s hS ?_ ?_ ?_ (fun x hx => ?_)); (focus decide); (focus (first | decide | omega)); (focus (first | decide | (simp only [sl]; omega))))) | (with_reducible refine w_k (by simp (disch := omega) only [w32_id]; exact rfl) ?_; ((with_reducible refine w_m hS ?_ ?_ ?_ ?_ ?_ (fun x hx => ?_)); (focus decide); (focus (first | decide | omega)); (focus omega); (focus (first | decide | omega)); (focus (first | decide | (simp only [ml]; omega)))))); (try simp (disch := omega) only [Int.reduceToNat, tn_c, tn8, tn8i, tn5, tn5z, tn6, tn6z, tn1, u3_ne, u3_eq, u3_ni, u3_nk, n4] at hx); subst hx)
  refine w_gn (n := rC R 30) (by omega) (by omega) (by omega) ?_
  rw [s51]
  have hm0 : RM R (nr R 51 (rC R 30)) 0 := by
    refine ⟨⟨?_, ?_, ?_, ?_⟩, fun r h => ?_, ?_, fun h hh => absurd hh (by omega), fun r j h => ?_, ?_, ?_⟩
    · rw [nr_Ce, s51]
    · rw [nr_C (by decide)]; rfl
    · rw [nr_C (by decide), s32]; rfl
    · rw [nr_C (by decide), s33]; rfl
    · exact nr_C (by omega)
    · have := nr_Ne (R := R) (r := 51) (n := rC R 30)
      rw [s51] at this; exact this
    · exact nr_N (by rw [s51]; omega)
    · rw [nr_K]
    · rw [nr_Z]; omega
  refine w_for (rC R 30) (fun i G => ∃ W Ri, G = (W, Ri) ∧ RM R Ri i ∧ (∀ r j k, ¬ (((r = 31 ∨ r = 32 ∨ r = 33) ∧ rC R 31 ≤ j) ∨ (r = 51 ∧ j = rC R 50)) → W r j k = V r j k) ∧ ∀ h, h < i → W 51 (rC R 50) h = ((rC R 31 + h : Nat) : Int) ∧ W 31 (rC R 31 + h) 0 = ((rC R 31 + h : Nat) : Int) ∧ W 31 (rC R 31 + h) 1 = ((rC R 31 + h : Nat) : Int) ∧ ∀ k, k < 5 * rC R 20 → W 32 (rC R 31 + h) k = V 32 (V 30 h 0).toNat k ∧ W 33 (rC R 31 + h) k = V 33 (V 30 h 0).toNat k) ?_ (i := 0) (by omega) (by omega) ⟨_, _, rfl, hm0, fun r j k h => nv_o (by
      by_cases e : r = 51
      · exact Or.inr (fun z => h (Or.inr ⟨e, z⟩))
      · exact Or.inl e), fun h hh => absurd hh (by omega)⟩
  rintro i G hi ⟨W, Ri, rfl, hm, fr, hv⟩ self ih
  have hl := SHl_RM hS hm
  have wo : ∀ r j k, r ≠ 31 → r ≠ 32 → r ≠ 33 → r ≠ 51 → W r j k = V r j k := by
    intro r j k h1 h2 h3 h4
    refine fr r j k ?_
    rintro (⟨y, _⟩ | ⟨y, _⟩)
    · rcases y with y | y | y
      · exact h1 y
      · exact h2 y
      · exact h3 y
    · exact h4 y
  obtain ⟨⟨c51, c31, c32, c33⟩, c2, l51, lh, ln, rk, rz⟩ := id hm
  have zb : rZ Ri ≤ rZ R + 40 + 40 * 242 := by
    have : i * (2 + 10 * rC R 20) ≤ 40 * 242 := Nat.mul_le_mul (by omega) (by omega)
    omega
  have w0 : ∀ k, W 0 0 k = V 0 0 k := fun k => wo 0 0 k (by decide) (by decide) (by decide) (by decide)
  have w1 : ∀ k, W 1 0 k = V 1 0 k := fun k => wo 1 0 k (by decide) (by decide) (by decide) (by decide)
  unfold glX8_freeze_22
  refine w_sq (k := 2) hl (by decide) (by decide) ?_
  rw [w0, n4]
  refine w_ite (fun hx => ?_) (fun hx => ?_)
  · have ei : i = rC R 30 := by omega
    subst ei
    have c50 := c2 50 (by omega)
    refine w_sq (k := 3) hl (by decide) (by decide) ?_
    rw [w0, f_0_3 hF]
    refine w_sq (k := 4) hl (by decide) (by decide) ?_
    rw [w0, n8]
    refine w_gn (n := 2) (by omega) (by omega) (by omega) ?_
    rw [c50]
    have hRE := RE_of hm b20 b30
    have hS5 := SH_RE hS hRE
    have hl5 := SHl_nr (r := 50) (n := 2) hl rfl rfl
    refine w_sq (k := 0) hl5 (by decide) (by decide) ?_
    rw [nv_o (Or.inl (by decide)), w0, f_0_0 hF]
    refine w_sq (k := 1) hl5 (by decide) (by decide) ?_
    rw [nv_o (Or.inl (by decide)), w1, n2]
    have k50 : rC R 50 < rC (nr Ri 50 2) 50 := by rw [nr_Ce, c50]; omega
    have l50 : rN (nr Ri 50 2) 50 (rC R 50) = 2 := hRE.2.2.1.1
    refine w_bind ?_
    unfold g_X1_init
    refine w_gv (by omega) ?_
    refine w_gs' (k := 0) k50 (by rw [l50]; decide) ?_
    refine w_gs' (k := 1) k50 (by rw [l50]; decide) ?_
    refine w_ret ?_
    have hS := hS5
    refine w_gsa (by omega) ?_
    refine w_ss hS (by decide) (by omega) (by simp only [sl]; omega) ?_
    rw [tn_c]
    refine w_s hS (by decide) (by omega) (by decide) (fun y hy => ?_)
    simp only [Int.reduceToNat] at hy
    rw [u3_ne (by decide), u3_ne (by decide), u3_ne (by decide), nv_o (Or.inl (by decide)), w0, n8] at hy
    subst hy
    rw [w32_id (by omega) (by omega)]
    refine w_ss hS (by decide) (by omega) (by decide) ?_
    refine w_s hS (by decide) (by omega) (by decide) (fun y hy => ?_)
    simp only [Int.reduceToNat] at hy
    rw [u3_eq] at hy
    subst hy
    rw [w32_id (by omega) (by omega), show (rC R 50 : Int) + 1 - 1 = (rC R 50 : Int) by omega]
    simp only [Int.reduceToNat]
    refine w_ret ?_
    -- what the class left
    have z50 : ∀ r j k, ¬ ((r = 50 ∧ j = rC R 50) ∨ (r = 6 ∧ k = rC R 50) ∨ (r = 0 ∧ k = 4)) → u3 (u3 (u3 (u3 (nv W 50 (rC R 50)) 50 (rC R 50) 0 (rC R 50 : Int)) 50 (rC R 50) 1 (rC R 20 : Int)) 6 0 (rC R 50) (rC R 50 : Int)) 0 0 4 ((rC R 50 : Int) + 1) r j k = W r j k := by
      intro r j k h
      have m1 : ¬ (r = 0 ∧ j = 0 ∧ k = 4) := fun z => h (Or.inr (Or.inr ⟨z.1, z.2.2⟩))
      have m2 : ¬ (r = 6 ∧ j = 0 ∧ k = rC R 50) := fun z => h (Or.inr (Or.inl ⟨z.1, z.2.2⟩))
      have m3 : ¬ (r = 50 ∧ j = rC R 50 ∧ k = 1) := fun z => h (Or.inl ⟨z.1, z.2.1⟩)
      have m4 : ¬ (r = 50 ∧ j = rC R 50 ∧ k = 0) := fun z => h (Or.inl ⟨z.1, z.2.1⟩)
      have m5 : ¬ (r = 50 ∧ j = rC R 50) := fun z => h (Or.inl z)
      exact ((((if_neg m1).trans (if_neg m2)).trans (if_neg m3)).trans (if_neg m4)).trans (if_neg m5)
    have y50 : u3 (u3 (u3 (u3 (nv W 50 (rC R 50)) 50 (rC R 50) 0 (rC R 50 : Int)) 50 (rC R 50) 1 (rC R 20 : Int)) 6 0 (rC R 50) (rC R 50 : Int)) 0 0 4 ((rC R 50 : Int) + 1) 50 (rC R 50) 0 = (rC R 50 : Int) ∧ u3 (u3 (u3 (u3 (nv W 50 (rC R 50)) 50 (rC R 50) 0 (rC R 50 : Int)) 50 (rC R 50) 1 (rC R 20 : Int)) 6 0 (rC R 50) (rC R 50 : Int)) 0 0 4 ((rC R 50 : Int) + 1) 50 (rC R 50) 1 = (rC R 20 : Int) := by
      refine ⟨?_, ?_⟩ <;> simp (disch := decide) only [u3_ne, u3_nk, u3_eq]
    have y6 : u3 (u3 (u3 (u3 (nv W 50 (rC R 50)) 50 (rC R 50) 0 (rC R 50 : Int)) 50 (rC R 50) 1 (rC R 20 : Int)) 6 0 (rC R 50) (rC R 50 : Int)) 0 0 4 ((rC R 50 : Int) + 1) 6 0 (rC R 50) = (rC R 50 : Int) := by rw [u3_ne (by decide), u3_eq]
    have y04 : u3 (u3 (u3 (u3 (nv W 50 (rC R 50)) 50 (rC R 50) 0 (rC R 50 : Int)) 50 (rC R 50) 1 (rC R 20 : Int)) 6 0 (rC R 50) (rC R 50 : Int)) 0 0 4 ((rC R 50 : Int) + 1) 0 0 4 = (rC R 50 : Int) + 1 := u3_eq
    generalize u3 (u3 (u3 (u3 (nv W 50 (rC R 50)) 50 (rC R 50) 0 (rC R 50 : Int)) 50 (rC R 50) 1 (rC R 20 : Int)) 6 0 (rC R 50) (rC R 50 : Int)) 0 0 4 ((rC R 50 : Int) + 1) = Z at *
    have zh : ∀ r j k, 100 ≤ r → Z r j k = V r j k := by
      intro r j k h
      rw [z50 r j k (by rintro (y | y | y) <;> omega)]
      exact wo r j k (by omega) (by omega) (by omega) (by omega)
    -- the reference
    unfold g_X9_freeze
    refine w_gv (by omega) ?_
    ((first | ((with_reducible refine w_s hS ?_ ?_ ?_ (fun x hx => ?_)); (focus decide); (focus (first | decide | omega)); (focus (first | decide | (simp only [sl]; omega)))) | ((with_reducible refine w_m hS ?_ ?_ ?_ ?_ ?_ (fun x hx => ?_)); (focus decide); (focus (first | decide | omega)); (focus omega); (focus (first | decide | omega)); (focus (first | decide | (simp only [ml]; omega)))) | (with_reducible refine w_k (by simp (disch := omega) only [w32_id]; exact rfl) ?_; ((with_reducible refine w_s hS ?_ ?_ ?_ (fun x hx => ?_)); (focus decide); (focus (first | decide | omega)); (focus (first | decide | (simp only [sl]; omega))))) | (with_reducible refine w_k (by simp (disch := omega) only [w32_id]; exact rfl) ?_; ((with_reducible refine w_m hS ?_ ?_ ?_ ?_ ?_ (fun x hx => ?_)); (focus decide); (focus (first | decide | omega)); (focus omega); (focus (first | decide | omega)); (focus (first | decide | (simp only [ml]; omega)))))); (try simp (disch := omega) only [Int.reduceToNat, tn_c, tn8, tn8i, tn5, tn5z, tn6, tn6z, tn1, u3_ne, u3_eq, u3_ni, u3_nk, zh 100 _ _ (by decide), n7] at hx); subst hx)
    refine w_ite (fun _ => ?_) (fun z => absurd (show (rC R 50 : Int) ≠ 6 by omega) z)
    refine w_for 5760 (fun j G => ∃ U, G = (U, nr Ri 50 2) ∧ (∀ r i' k, ¬ ((r = 133 ∨ r = 134) ∧ 5760 * rC R 50 ≤ k) → U r i' k = Z r i' k) ∧ ∀ k, k < j → U 133 0 (5760 * rC R 50 + k) = V 115 0 k ∧ U 134 0 (5760 * rC R 50 + k) = V 116 0 k) ?_ (i := 0) (by omega) (by omega) ⟨Z, rfl, fun _ _ _ _ => rfl, fun k hk => absurd hk (by omega)⟩
    rintro j G hj ⟨U, rfl, fru, hu⟩ self' ih'
    have u0 : ∀ r i k, r ≠ 133 → r ≠ 134 → U r i k = Z r i k := fun r i k h1 h2 => fru r i k (fun z => by rcases z.1 with z | z; exact h1 z; exact h2 z)
    have uh : ∀ r i k, 100 ≤ r → r ≠ 133 → r ≠ 134 → U r i k = V r i k := fun r i k h h1 h2 => by rw [u0 r i k h1 h2]; exact zh r i k h
    have u100 : ∀ k, U 100 0 k = V 100 0 k := fun k => uh 100 0 k (by decide) (by decide) (by decide)
    unfold glX9_freeze_14
    refine w_ite (fun hx' => ?_) (fun hx' => ?_)
    · ((first | ((with_reducible refine w_s hS ?_ ?_ ?_ (fun x hx => ?_)); (focus decide); (focus (first | decide | omega)); (focus (first | decide | (simp only [sl]; omega)))) | ((with_reducible refine w_m hS ?_ ?_ ?_ ?_ ?_ (fun x hx => ?_)); (focus decide); (focus (first | decide | omega)); (focus omega); (focus (first | decide | omega)); (focus (first | decide | (simp only [ml]; omega)))) | (with_reducible refine w_k (by simp (disch := omega) only [w32_id]; exact rfl) ?_; ((with_reducible refine w_s hS ?_ ?_ ?_ (fun x hx => ?_)); (focus decide); (focus (first | decide | omega)); (focus (first | decide | (simp only [sl]; omega))))) | (with_reducible refine w_k (by simp (disch := omega) only [w32_id]; exact rfl) ?_; ((with_reducible refine w_m hS ?_ ?_ ?_ ?_ ?_ (fun x hx => ?_)); (focus decide); (focus (first | decide | omega)); (focus omega); (focus (first | decide | omega)); (focus (first | decide | (simp only [ml]; omega)))))); (try simp (disch := omega) only [Int.reduceToNat, tn_c, tn8, tn8i, tn5, tn5z, tn6, tn6z, tn1, u3_ne, u3_eq, u3_ni, u3_nk, u100, f_100_31 hF] at hx); subst hx)
      ((first | ((with_reducible refine w_s hS ?_ ?_ ?_ (fun x hx => ?_)); (focus decide); (focus (first | decide | omega)); (focus (first | decide | (simp only [sl]; omega)))) | ((with_reducible refine w_m hS ?_ ?_ ?_ ?_ ?_ (fun x hx => ?_)); (focus decide); (focus (first | decide | omega)); (focus omega); (focus (first | decide | omega)); (focus (first | decide | (simp only [ml]; omega)))) | (with_reducible refine w_k (by simp (disch := omega) only [w32_id]; exact rfl) ?_; ((with_reducible refine w_s hS ?_ ?_ ?_ (fun x hx => ?_)); (focus decide); (focus (first | decide | omega)); (focus (first | decide | (simp only [sl]; omega))))) | (with_reducible refine w_k (by simp (disch := omega) only [w32_id]; exact rfl) ?_; ((with_reducible refine w_m hS ?_ ?_ ?_ ?_ ?_ (fun x hx => ?_)); (focus decide); (focus (first | decide | omega)); (focus omega); (focus (first | decide | omega)); (focus (first | decide | (simp only [ml]; omega)))))); (try simp (disch := omega) only [Int.reduceToNat, tn_c, tn8, tn8i, tn5, tn5z, tn6, tn6z, tn1, u3_ne, u3_eq, u3_ni, u3_nk, u100, n7] at hx); subst hx)
      ((first | ((with_reducible refine w_s hS ?_ ?_ ?_ (fun x hx => ?_)); (focus decide); (focus (first | decide | omega)); (focus (first | decide | (simp only [sl]; omega)))) | ((with_reducible refine w_m hS ?_ ?_ ?_ ?_ ?_ (fun x hx => ?_)); (focus decide); (focus (first | decide | omega)); (focus omega); (focus (first | decide | omega)); (focus (first | decide | (simp only [ml]; omega)))) | (with_reducible refine w_k (by simp (disch := omega) only [w32_id]; exact rfl) ?_; ((with_reducible refine w_s hS ?_ ?_ ?_ (fun x hx => ?_)); (focus decide); (focus (first | decide | omega)); (focus (first | decide | (simp only [sl]; omega))))) | (with_reducible refine w_k (by simp (disch := omega) only [w32_id]; exact rfl) ?_; ((with_reducible refine w_m hS ?_ ?_ ?_ ?_ ?_ (fun x hx => ?_)); (focus decide); (focus (first | decide | omega)); (focus omega); (focus (first | decide | omega)); (focus (first | decide | (simp only [ml]; omega)))))); (try simp (disch := omega) only [Int.reduceToNat, tn_c, tn8, tn8i, tn5, tn5z, tn6, tn6z, tn1, u3_ne, u3_eq, u3_ni, u3_nk, u100, n3] at hx); subst hx)
      refine w_ss hS (by decide) (by omega) (by simp only [sl]; omega) ?_
      rw [tn_c]
      ((first | ((with_reducible refine w_s hS ?_ ?_ ?_ (fun x hx => ?_)); (focus decide); (focus (first | decide | omega)); (focus (first | decide | (simp only [sl]; omega)))) | ((with_reducible refine w_m hS ?_ ?_ ?_ ?_ ?_ (fun x hx => ?_)); (focus decide); (focus (first | decide | omega)); (focus omega); (focus (first | decide | omega)); (focus (first | decide | (simp only [ml]; omega)))) | (with_reducible refine w_k (by simp (disch := omega) only [w32_id]; exact rfl) ?_; ((with_reducible refine w_s hS ?_ ?_ ?_ (fun x hx => ?_)); (focus decide); (focus (first | decide | omega)); (focus (first | decide | (simp only [sl]; omega))))) | (with_reducible refine w_k (by simp (disch := omega) only [w32_id]; exact rfl) ?_; ((with_reducible refine w_m hS ?_ ?_ ?_ ?_ ?_ (fun x hx => ?_)); (focus decide); (focus (first | decide | omega)); (focus omega); (focus (first | decide | omega)); (focus (first | decide | (simp only [ml]; omega)))))); (try simp (disch := omega) only [Int.reduceToNat, tn_c, tn8, tn8i, tn5, tn5z, tn6, tn6z, tn1, u3_ne, u3_eq, u3_ni, u3_nk, u3_ne, u100, f_100_32 hF] at hx); subst hx)
      ((first | ((with_reducible refine w_s hS ?_ ?_ ?_ (fun x hx => ?_)); (focus decide); (focus (first | decide | omega)); (focus (first | decide | (simp only [sl]; omega)))) | ((with_reducible refine w_m hS ?_ ?_ ?_ ?_ ?_ (fun x hx => ?_)); (focus decide); (focus (first | decide | omega)); (focus omega); (focus (first | decide | omega)); (focus (first | decide | (simp only [ml]; omega)))) | (with_reducible refine w_k (by simp (disch := omega) only [w32_id]; exact rfl) ?_; ((with_reducible refine w_s hS ?_ ?_ ?_ (fun x hx => ?_)); (focus decide); (focus (first | decide | omega)); (focus (first | decide | (simp only [sl]; omega))))) | (with_reducible refine w_k (by simp (disch := omega) only [w32_id]; exact rfl) ?_; ((with_reducible refine w_m hS ?_ ?_ ?_ ?_ ?_ (fun x hx => ?_)); (focus decide); (focus (first | decide | omega)); (focus omega); (focus (first | decide | omega)); (focus (first | decide | (simp only [ml]; omega)))))); (try simp (disch := omega) only [Int.reduceToNat, tn_c, tn8, tn8i, tn5, tn5z, tn6, tn6z, tn1, u3_ne, u3_eq, u3_ni, u3_nk, u3_ne, u100, n7] at hx); subst hx)
      ((first | ((with_reducible refine w_s hS ?_ ?_ ?_ (fun x hx => ?_)); (focus decide); (focus (first | decide | omega)); (focus (first | decide | (simp only [sl]; omega)))) | ((with_reducible refine w_m hS ?_ ?_ ?_ ?_ ?_ (fun x hx => ?_)); (focus decide); (focus (first | decide | omega)); (focus omega); (focus (first | decide | omega)); (focus (first | decide | (simp only [ml]; omega)))) | (with_reducible refine w_k (by simp (disch := omega) only [w32_id]; exact rfl) ?_; ((with_reducible refine w_s hS ?_ ?_ ?_ (fun x hx => ?_)); (focus decide); (focus (first | decide | omega)); (focus (first | decide | (simp only [sl]; omega))))) | (with_reducible refine w_k (by simp (disch := omega) only [w32_id]; exact rfl) ?_; ((with_reducible refine w_m hS ?_ ?_ ?_ ?_ ?_ (fun x hx => ?_)); (focus decide); (focus (first | decide | omega)); (focus omega); (focus (first | decide | omega)); (focus (first | decide | (simp only [ml]; omega)))))); (try simp (disch := omega) only [Int.reduceToNat, tn_c, tn8, tn8i, tn5, tn5z, tn6, tn6z, tn1, u3_ne, u3_eq, u3_ni, u3_nk, u3_ne, u100, n1] at hx); subst hx)
      refine w_ss hS (by decide) (by omega) (by simp only [sl]; omega) ?_
      rw [tn_c]
      ((first | ((with_reducible refine w_s hS ?_ ?_ ?_ (fun x hx => ?_)); (focus decide); (focus (first | decide | omega)); (focus (first | decide | (simp only [sl]; omega)))) | ((with_reducible refine w_m hS ?_ ?_ ?_ ?_ ?_ (fun x hx => ?_)); (focus decide); (focus (first | decide | omega)); (focus omega); (focus (first | decide | omega)); (focus (first | decide | (simp only [ml]; omega)))) | (with_reducible refine w_k (by simp (disch := omega) only [w32_id]; exact rfl) ?_; ((with_reducible refine w_s hS ?_ ?_ ?_ (fun x hx => ?_)); (focus decide); (focus (first | decide | omega)); (focus (first | decide | (simp only [sl]; omega))))) | (with_reducible refine w_k (by simp (disch := omega) only [w32_id]; exact rfl) ?_; ((with_reducible refine w_m hS ?_ ?_ ?_ ?_ ?_ (fun x hx => ?_)); (focus decide); (focus (first | decide | omega)); (focus omega); (focus (first | decide | omega)); (focus (first | decide | (simp only [ml]; omega)))))); (try simp (disch := omega) only [Int.reduceToNat, tn_c, tn8, tn8i, tn5, tn5z, tn6, tn6z, tn1, u3_ne, u3_eq, u3_ni, u3_nk, u3_ne, u100, n7] at hx); subst hx)
      rw [w32_id (by omega) (by omega)]
      refine w_ss hS (by decide) (by omega) (by decide) ?_
      ((first | ((with_reducible refine w_s hS ?_ ?_ ?_ (fun x hx => ?_)); (focus decide); (focus (first | decide | omega)); (focus (first | decide | (simp only [sl]; omega)))) | ((with_reducible refine w_m hS ?_ ?_ ?_ ?_ ?_ (fun x hx => ?_)); (focus decide); (focus (first | decide | omega)); (focus omega); (focus (first | decide | omega)); (focus (first | decide | (simp only [ml]; omega)))) | (with_reducible refine w_k (by simp (disch := omega) only [w32_id]; exact rfl) ?_; ((with_reducible refine w_s hS ?_ ?_ ?_ (fun x hx => ?_)); (focus decide); (focus (first | decide | omega)); (focus (first | decide | (simp only [sl]; omega))))) | (with_reducible refine w_k (by simp (disch := omega) only [w32_id]; exact rfl) ?_; ((with_reducible refine w_m hS ?_ ?_ ?_ ?_ ?_ (fun x hx => ?_)); (focus decide); (focus (first | decide | omega)); (focus omega); (focus (first | decide | omega)); (focus (first | decide | (simp only [ml]; omega)))))); (try simp (disch := omega) only [Int.reduceToNat, tn_c, tn8, tn8i, tn5, tn5z, tn6, tn6z, tn1, u3_ne, u3_eq, u3_ni, u3_nk, u3_eq] at hx); subst hx)
      rw [w32_id (by omega) (by omega), show (rC R 50 : Int) + 1 - 1 = (rC R 50 : Int) by omega]
      simp only [Int.reduceToNat]
      refine w_ret ⟨rfl, ?_⟩
      have t50 : ∀ r j k, ¬ ((r = 131 ∧ k = rC R 50) ∨ (r = 132 ∧ k = rC R 50) ∨ (r = 100 ∧ k = 30)) → u3 (u3 (u3 U 131 0 (rC R 50) (rC R 30 : Int)) 132 0 (rC R 50) (rC R 20 : Int)) 100 0 30 ((rC R 50 : Int) + 1) r j k = U r j k := by
        intro r j k h
        have m1 : ¬ (r = 100 ∧ j = 0 ∧ k = 30) := fun z => h (Or.inr (Or.inr ⟨z.1, z.2.2⟩))
        have m2 : ¬ (r = 132 ∧ j = 0 ∧ k = rC R 50) := fun z => h (Or.inr (Or.inl ⟨z.1, z.2.2⟩))
        have m3 : ¬ (r = 131 ∧ j = 0 ∧ k = rC R 50) := fun z => h (Or.inl ⟨z.1, z.2.2⟩)
        exact ((if_neg m1).trans (if_neg m2)).trans (if_neg m3)
      have t1 : u3 (u3 (u3 U 131 0 (rC R 50) (rC R 30 : Int)) 132 0 (rC R 50) (rC R 20 : Int)) 100 0 30 ((rC R 50 : Int) + 1) 131 0 (rC R 50) = (rC R 30 : Int) := by rw [u3_ne (by decide), u3_ne (by decide), u3_eq]
      have t2 : u3 (u3 (u3 U 131 0 (rC R 50) (rC R 30 : Int)) 132 0 (rC R 50) (rC R 20 : Int)) 100 0 30 ((rC R 50 : Int) + 1) 132 0 (rC R 50) = (rC R 20 : Int) := by rw [u3_ne (by decide), u3_eq]
      have t3 : u3 (u3 (u3 U 131 0 (rC R 50) (rC R 30 : Int)) 132 0 (rC R 50) (rC R 20 : Int)) 100 0 30 ((rC R 50 : Int) + 1) 100 0 30 = (rC R 50 : Int) + 1 := u3_eq
      show INV IT (u3 (u3 (u3 U 131 0 (rC R 50) (rC R 30 : Int)) 132 0 (rC R 50) (rC R 20 : Int)) 100 0 30 ((rC R 50 : Int) + 1)) (nr Ri 50 2)
      generalize u3 (u3 (u3 U 131 0 (rC R 50) (rC R 30 : Int)) 132 0 (rC R 50) (rC R 20 : Int)) 100 0 30 ((rC R 50 : Int) + 1) = T at *
      have tz : ∀ r j k, r < 100 → T r j k = Z r j k := fun r j k h => by
        rw [t50 r j k (by rintro (y | y | y) <;> omega)]; exact u0 r j k (by omega) (by omega)
      have sm : same V T LAE := by
        intro r j k hmm
        have nm : ∀ e, e ∈ LAE → ¬ (e.1 = r ∧ (e.2 = none ∨ e.2 = some k)) := fun e he z => hmm ⟨e, he, z⟩
        have hh : ∀ r2, (r2, (none : Option Nat)) ∈ LAE → r ≠ r2 := fun r2 h2 z => nm _ h2 ⟨z.symm, Or.inl rfl⟩
        have d50 := hh 50 (by decide)
        have d6 := hh 6 (by decide)
        have d131 := hh 131 (by decide)
        have d132 := hh 132 (by decide)
        have d133 := hh 133 (by decide)
        have d134 := hh 134 (by decide)
        rw [t50 r j k ?_, u0 r j k d133 d134, z50 r j k ?_]
        · exact wo r j k (hh 31 (by decide)) (hh 32 (by decide)) (hh 33 (by decide)) (hh 51 (by decide))
        · rintro (y | y | y)
          · exact d50 y.1
          · exact d6 y.1
          · exact nm (0, some 4) (by decide) ⟨y.1.symm, Or.inr (by rw [y.2])⟩
        · rintro (y | y | y)
          · exact d131 y.1
          · exact d132 y.1
          · exact nm (100, some 30) (by decide) ⟨y.1.symm, Or.inr (by rw [y.2])⟩
      have z31 : ∀ r j k, (r = 31 ∨ r = 32 ∨ r = 33 ∨ r = 51) → T r j k = W r j k := fun r j k h => by
        rw [tz r j k (by omega), z50 r j k (by rintro (y | y | y) <;> omega)]
      refine INV_addE hI e6 sm hRE (fun r j k h1 h2 => ?_) (fun r j k h1 h2 => ?_) (fun r k h1 h2 => ?_) (fun r k h1 h2 => ?_) ⟨?_, ?_⟩ ⟨?_, t1, t2, ?_, t3⟩ (fun h hh => ?_) (fun k hk => ?_)
      · rw [tz r j k (by omega), z50 r j k (by rintro (y | y | y) <;> omega)]
        exact fr r j k (by rintro (y | y) <;> omega)
      · rw [z31 r j k (by omega)]
        exact fr r j k (by rintro (y | y) <;> omega)
      · rcases h1 with rfl | rfl | rfl
        · rw [tz 6 0 k (by decide), z50 6 0 k (by rintro (y | y | y) <;> omega)]; exact wo 6 0 k (by decide) (by decide) (by decide) (by decide)
        · rw [t50 131 0 k (by rintro (y | y | y) <;> omega)]; exact uh 131 0 k (by decide) (by decide) (by decide)
        · rw [t50 132 0 k (by rintro (y | y | y) <;> omega)]; exact uh 132 0 k (by decide) (by decide) (by decide)
      · rw [t50 r 0 k (by rintro (y | y | y) <;> omega), fru r 0 k (fun z => by omega)]
        exact zh r 0 k (by omega)
      · rw [tz 50 _ _ (by decide)]; exact y50.1
      · rw [tz 50 _ _ (by decide)]; exact y50.2
      · rw [tz 6 _ _ (by decide)]; exact y6
      · rw [tz 0 _ _ (by decide)]; exact y04
      · rw [z31 51 _ _ (by omega), z31 31 _ _ (by omega), z31 31 _ _ (by omega)]
        obtain ⟨v1, v2, v3, v4⟩ := hv h hh
        refine ⟨v1, v2, v3, fun k hk => ?_⟩
        rw [z31 32 _ _ (by omega), z31 33 _ _ (by omega)]; exact v4 k hk
      · rw [t50 133 0 _ (by rintro (y | y | y) <;> omega), t50 134 0 _ (by rintro (y | y | y) <;> omega)]
        exact hu k (by omega)
    · ((first | ((with_reducible refine w_s hS ?_ ?_ ?_ (fun x hx => ?_)); (focus decide); (focus (first | decide | omega)); (focus (first | decide | (simp only [sl]; omega)))) | ((with_reducible refine w_m hS ?_ ?_ ?_ ?_ ?_ (fun x hx => ?_)); (focus decide); (focus (first | decide | omega)); (focus omega); (focus (first | decide | omega)); (focus (first | decide | (simp only [ml]; omega)))) | (with_reducible refine w_k (by simp (disch := omega) only [w32_id]; exact rfl) ?_; ((with_reducible refine w_s hS ?_ ?_ ?_ (fun x hx => ?_)); (focus decide); (focus (first | decide | omega)); (focus (first | decide | (simp only [sl]; omega))))) | (with_reducible refine w_k (by simp (disch := omega) only [w32_id]; exact rfl) ?_; ((with_reducible refine w_m hS ?_ ?_ ?_ ?_ ?_ (fun x hx => ?_)); (focus decide); (focus (first | decide | omega)); (focus omega); (focus (first | decide | omega)); (focus (first | decide | (simp only [ml]; omega)))))); (try simp (disch := omega) only [Int.reduceToNat, tn_c, tn8, tn8i, tn5, tn5z, tn6, tn6z, tn1, u3_ne, u3_eq, u3_ni, u3_nk, u100, f_100_33 hF] at hx); subst hx)
      ((first | ((with_reducible refine w_s hS ?_ ?_ ?_ (fun x hx => ?_)); (focus decide); (focus (first | decide | omega)); (focus (first | decide | (simp only [sl]; omega)))) | ((with_reducible refine w_m hS ?_ ?_ ?_ ?_ ?_ (fun x hx => ?_)); (focus decide); (focus (first | decide | omega)); (focus omega); (focus (first | decide | omega)); (focus (first | decide | (simp only [ml]; omega)))) | (with_reducible refine w_k (by simp (disch := omega) only [w32_id]; exact rfl) ?_; ((with_reducible refine w_s hS ?_ ?_ ?_ (fun x hx => ?_)); (focus decide); (focus (first | decide | omega)); (focus (first | decide | (simp only [sl]; omega))))) | (with_reducible refine w_k (by simp (disch := omega) only [w32_id]; exact rfl) ?_; ((with_reducible refine w_m hS ?_ ?_ ?_ ?_ ?_ (fun x hx => ?_)); (focus decide); (focus (first | decide | omega)); (focus omega); (focus (first | decide | omega)); (focus (first | decide | (simp only [ml]; omega)))))); (try simp (disch := omega) only [Int.reduceToNat, tn_c, tn8, tn8i, tn5, tn5z, tn6, tn6z, tn1, u3_ne, u3_eq, u3_ni, u3_nk, u100, n7] at hx); subst hx)
      ((first | ((with_reducible refine w_s hS ?_ ?_ ?_ (fun x hx => ?_)); (focus decide); (focus (first | decide | omega)); (focus (first | decide | (simp only [sl]; omega)))) | ((with_reducible refine w_m hS ?_ ?_ ?_ ?_ ?_ (fun x hx => ?_)); (focus decide); (focus (first | decide | omega)); (focus omega); (focus (first | decide | omega)); (focus (first | decide | (simp only [ml]; omega)))) | (with_reducible refine w_k (by simp (disch := omega) only [w32_id]; exact rfl) ?_; ((with_reducible refine w_s hS ?_ ?_ ?_ (fun x hx => ?_)); (focus decide); (focus (first | decide | omega)); (focus (first | decide | (simp only [sl]; omega))))) | (with_reducible refine w_k (by simp (disch := omega) only [w32_id]; exact rfl) ?_; ((with_reducible refine w_m hS ?_ ?_ ?_ ?_ ?_ (fun x hx => ?_)); (focus decide); (focus (first | decide | omega)); (focus omega); (focus (first | decide | omega)); (focus (first | decide | (simp only [ml]; omega)))))); (try simp (disch := omega) only [Int.reduceToNat, tn_c, tn8, tn8i, tn5, tn5z, tn6, tn6z, tn1, u3_ne, u3_eq, u3_ni, u3_nk, u100, f_100_15 hF] at hx); subst hx)
      ((first | ((with_reducible refine w_s hS ?_ ?_ ?_ (fun x hx => ?_)); (focus decide); (focus (first | decide | omega)); (focus (first | decide | (simp only [sl]; omega)))) | ((with_reducible refine w_m hS ?_ ?_ ?_ ?_ ?_ (fun x hx => ?_)); (focus decide); (focus (first | decide | omega)); (focus omega); (focus (first | decide | omega)); (focus (first | decide | (simp only [ml]; omega)))) | (with_reducible refine w_k (by simp (disch := omega) only [w32_id]; exact rfl) ?_; ((with_reducible refine w_s hS ?_ ?_ ?_ (fun x hx => ?_)); (focus decide); (focus (first | decide | omega)); (focus (first | decide | (simp only [sl]; omega))))) | (with_reducible refine w_k (by simp (disch := omega) only [w32_id]; exact rfl) ?_; ((with_reducible refine w_m hS ?_ ?_ ?_ ?_ ?_ (fun x hx => ?_)); (focus decide); (focus (first | decide | omega)); (focus omega); (focus (first | decide | omega)); (focus (first | decide | (simp only [ml]; omega)))))); (try simp (disch := omega) only [Int.reduceToNat, tn_c, tn8, tn8i, tn5, tn5z, tn6, tn6z, tn1, u3_ne, u3_eq, u3_ni, u3_nk, uh 115 _ _ (by decide) (by decide) (by decide)] at hx); subst hx)
      rw [we (by omega) (by omega)]
      refine w_ss hS (by decide) (by omega) (by simp only [sl]; omega) ?_
      rw [tn_c]
      ((first | ((with_reducible refine w_s hS ?_ ?_ ?_ (fun x hx => ?_)); (focus decide); (focus (first | decide | omega)); (focus (first | decide | (simp only [sl]; omega)))) | ((with_reducible refine w_m hS ?_ ?_ ?_ ?_ ?_ (fun x hx => ?_)); (focus decide); (focus (first | decide | omega)); (focus omega); (focus (first | decide | omega)); (focus (first | decide | (simp only [ml]; omega)))) | (with_reducible refine w_k (by simp (disch := omega) only [w32_id]; exact rfl) ?_; ((with_reducible refine w_s hS ?_ ?_ ?_ (fun x hx => ?_)); (focus decide); (focus (first | decide | omega)); (focus (first | decide | (simp only [sl]; omega))))) | (with_reducible refine w_k (by simp (disch := omega) only [w32_id]; exact rfl) ?_; ((with_reducible refine w_m hS ?_ ?_ ?_ ?_ ?_ (fun x hx => ?_)); (focus decide); (focus (first | decide | omega)); (focus omega); (focus (first | decide | omega)); (focus (first | decide | (simp only [ml]; omega)))))); (try simp (disch := omega) only [Int.reduceToNat, tn_c, tn8, tn8i, tn5, tn5z, tn6, tn6z, tn1, u3_ne, u3_eq, u3_ni, u3_nk, u3_ne, u100, f_100_34 hF] at hx); subst hx)
      ((first | ((with_reducible refine w_s hS ?_ ?_ ?_ (fun x hx => ?_)); (focus decide); (focus (first | decide | omega)); (focus (first | decide | (simp only [sl]; omega)))) | ((with_reducible refine w_m hS ?_ ?_ ?_ ?_ ?_ (fun x hx => ?_)); (focus decide); (focus (first | decide | omega)); (focus omega); (focus (first | decide | omega)); (focus (first | decide | (simp only [ml]; omega)))) | (with_reducible refine w_k (by simp (disch := omega) only [w32_id]; exact rfl) ?_; ((with_reducible refine w_s hS ?_ ?_ ?_ (fun x hx => ?_)); (focus decide); (focus (first | decide | omega)); (focus (first | decide | (simp only [sl]; omega))))) | (with_reducible refine w_k (by simp (disch := omega) only [w32_id]; exact rfl) ?_; ((with_reducible refine w_m hS ?_ ?_ ?_ ?_ ?_ (fun x hx => ?_)); (focus decide); (focus (first | decide | omega)); (focus omega); (focus (first | decide | omega)); (focus (first | decide | (simp only [ml]; omega)))))); (try simp (disch := omega) only [Int.reduceToNat, tn_c, tn8, tn8i, tn5, tn5z, tn6, tn6z, tn1, u3_ne, u3_eq, u3_ni, u3_nk, u3_ne, u100, n7] at hx); subst hx)
      ((first | ((with_reducible refine w_s hS ?_ ?_ ?_ (fun x hx => ?_)); (focus decide); (focus (first | decide | omega)); (focus (first | decide | (simp only [sl]; omega)))) | ((with_reducible refine w_m hS ?_ ?_ ?_ ?_ ?_ (fun x hx => ?_)); (focus decide); (focus (first | decide | omega)); (focus omega); (focus (first | decide | omega)); (focus (first | decide | (simp only [ml]; omega)))) | (with_reducible refine w_k (by simp (disch := omega) only [w32_id]; exact rfl) ?_; ((with_reducible refine w_s hS ?_ ?_ ?_ (fun x hx => ?_)); (focus decide); (focus (first | decide | omega)); (focus (first | decide | (simp only [sl]; omega))))) | (with_reducible refine w_k (by simp (disch := omega) only [w32_id]; exact rfl) ?_; ((with_reducible refine w_m hS ?_ ?_ ?_ ?_ ?_ (fun x hx => ?_)); (focus decide); (focus (first | decide | omega)); (focus omega); (focus (first | decide | omega)); (focus (first | decide | (simp only [ml]; omega)))))); (try simp (disch := omega) only [Int.reduceToNat, tn_c, tn8, tn8i, tn5, tn5z, tn6, tn6z, tn1, u3_ne, u3_eq, u3_ni, u3_nk, u3_ne, u100, f_100_16 hF] at hx); subst hx)
      ((first | ((with_reducible refine w_s hS ?_ ?_ ?_ (fun x hx => ?_)); (focus decide); (focus (first | decide | omega)); (focus (first | decide | (simp only [sl]; omega)))) | ((with_reducible refine w_m hS ?_ ?_ ?_ ?_ ?_ (fun x hx => ?_)); (focus decide); (focus (first | decide | omega)); (focus omega); (focus (first | decide | omega)); (focus (first | decide | (simp only [ml]; omega)))) | (with_reducible refine w_k (by simp (disch := omega) only [w32_id]; exact rfl) ?_; ((with_reducible refine w_s hS ?_ ?_ ?_ (fun x hx => ?_)); (focus decide); (focus (first | decide | omega)); (focus (first | decide | (simp only [sl]; omega))))) | (with_reducible refine w_k (by simp (disch := omega) only [w32_id]; exact rfl) ?_; ((with_reducible refine w_m hS ?_ ?_ ?_ ?_ ?_ (fun x hx => ?_)); (focus decide); (focus (first | decide | omega)); (focus omega); (focus (first | decide | omega)); (focus (first | decide | (simp only [ml]; omega)))))); (try simp (disch := omega) only [Int.reduceToNat, tn_c, tn8, tn8i, tn5, tn5z, tn6, tn6z, tn1, u3_ne, u3_eq, u3_ni, u3_nk, u3_ne, uh 116 _ _ (by decide) (by decide) (by decide)] at hx); subst hx)
      rw [we (by omega) (by omega)]
      refine w_ss hS (by decide) (by omega) (by simp only [sl]; omega) ?_
      rw [tn_c]
      refine ih' _ (by omega) ⟨_, rfl, fun r i' k h => ?_, fun k hk => ?_⟩
      · have m1 : ¬ (r = 134 ∧ i' = 0 ∧ k = 5760 * rC R 50 + j) := fun z => h ⟨Or.inr z.1, by omega⟩
        have m2 : ¬ (r = 133 ∧ i' = 0 ∧ k = 5760 * rC R 50 + j) := fun z => h ⟨Or.inl z.1, by omega⟩
        exact ((if_neg m1).trans (if_neg m2)).trans (fru r i' k h)
      · by_cases e : k = j
        · subst e
          rw [u3_ne (by decide), u3_eq, u3_eq]; exact ⟨rfl, rfl⟩
        · rw [u3_ne (by decide), u3_nk (by omega), u3_nk (by omega), u3_ne (by decide)]; exact hu k (by omega)
  · have hi : i < rC R 30 := by omega
    obtain ⟨s, es, es', hk⟩ := hI.sht hi
    have hl2 := SHl_nr (r := 31) (n := 2) hl rfl rfl
    refine w_gn (n := 2) (by omega) (by omega) (by omega) ?_
    rw [c31]
    refine w_sq (k := 1) hl2 (by decide) (by decide) ?_
    rw [nv_o (Or.inl (by decide)), w0, f_0_1 hF]
    refine w_sq (k := i) hl2 (by decide) (by simp only [sl]; omega) ?_
    rw [nv_o (Or.inl (by decide)), wo 5 0 i (by decide) (by decide) (by decide) (by decide), l_5 hL hi]
    refine w_mq (k := 0) hl2 (by decide) (by rw [nr_C (by decide), c2 30 (by omega)]; exact hi) (by decide) ?_
    rw [nv_o (Or.inl (by decide)), wo 30 i 0 (by decide) (by decide) (by decide) (by decide), es]
    refine w_sq (k := 0) hl2 (by decide) (by decide) ?_
    rw [nv_o (Or.inl (by decide)), w0, f_0_0 hF]
    refine w_sq (k := 1) hl2 (by decide) (by decide) ?_
    rw [nv_o (Or.inl (by decide)), w1, n2]
    obtain ⟨k1, k2, k3, k4, k5, k6, k7⟩ := hk
    have wl : ∀ r k, (r = 31 ∨ r = 32 ∨ r = 33) → W r s k = V r s k := fun r k h => fr r s k (by rintro (y | y) <;> omega)
    refine w_init6 hm hi b30 b20 (by omega) (by omega) hl k1 (by rw [wl 31 0 (by omega)]; exact k6) (by rw [wl 31 1 (by omega)]; exact k7) (by rw [ln 32 s (by omega)]; exact k4) (by rw [ln 33 s (by omega)]; exact k5) (fun W' fr' y31 y32 => ?_)
    have hm' := RM_next hm hi
    refine w_gsa (by omega) ?_
    refine w_gs' (by rw [hm'.1.1]; omega) (by rw [hm'.2.2.1]; exact hi) ?_
    refine ih _ hi ⟨_, _, rfl, hm', fun r j k h => ?_, fun h hh => ?_⟩
    · have m1 : ¬ (r = 51 ∧ j = rC R 50 ∧ k = i) := fun z => h (Or.inr ⟨z.1, z.2.1⟩)
      refine (if_neg m1).trans ?_
      rw [fr' r j k (fun z => h (Or.inl ⟨z.1, by omega⟩))]
      exact fr r j k h
    · have ne : ∀ r j k, r ≠ 51 → u3 W' 51 (rC R 50) i ((rC R 31 + i : Nat) : Int) r j k = W' r j k := fun r j k h => u3_ne h
      by_cases e : h = i
      · subst e
        rw [u3_eq, ne 31 _ _ (by decide), ne 31 _ _ (by decide)]
        refine ⟨rfl, y31.1, y31.2, fun k hk => ?_⟩
        rw [ne 32 _ _ (by decide), ne 33 _ _ (by decide), (y32 k hk).1, (y32 k hk).2, wl 32 k (by omega), wl 33 k (by omega), es']
        exact ⟨rfl, rfl⟩
      · obtain ⟨v1, v2, v3, v4⟩ := hv h (by omega)
        rw [u3_nk e, ne 31 _ _ (by decide), ne 31 _ _ (by decide), fr' 51 _ _ (by rintro ⟨y, _⟩; omega), fr' 31 _ _ (by rintro ⟨_, y⟩; omega), fr' 31 _ _ (by rintro ⟨_, y⟩; omega)]
        refine ⟨v1, v2, v3, fun k hk => ?_⟩
        rw [ne 32 _ _ (by decide), ne 33 _ _ (by decide), fr' 32 _ _ (by rintro ⟨_, y⟩; omega), fr' 33 _ _ (by rintro ⟨_, y⟩; omega)]
        exact v4 k hk
end Freeze
