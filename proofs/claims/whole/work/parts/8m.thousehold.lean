section Household
variable {V : GV} {R : GR} {Q : Int → GS → Prop}
theorem T_household (hI : INV IT V R) : Wp (g_X8_household 0 (V, R)) (fun r G => Wp (g_X9_household 0 G) (PO r)) := by
  have hS := hI.SH
  have hF := hI.RF
  have hL := hI.IL
  have hQ := hI.IQ
  obtain ⟨b20, b30, b40, b50⟩ := hI.IN.1
  obtain ⟨n1, n2, n3, n4, n5, n6, n7, n8⟩ := hI.IN.2.1
  have room := hI.room
  unfold g_X8_household
  refine w_gv (by omega) ?_
  ((first | ((with_reducible refine w_s hS ?_ ?_ ?_ (fun x hx => ?_)); (focus decide); (focus (first | decide | omega)); (focus (first | decide | (simp only [sl]; omega)))) | ((with_reducible refine w_m hS ?_ ?_ ?_ ?_ ?_ (fun x hx => ?_)); (focus decide); (focus (first | decide | omega)); (focus omega); (focus (first | decide | omega)); (focus (first | decide | (simp only [ml]; omega)))) | (with_reducible refine w_k (by simp (disch := omega) only [w32_id]; exact rfl) ?_; ((with_reducible refine w_s hS ?_ ?_ ?_ (fun x hx => ?_)); (focus decide); (focus (first | decide | omega)); (focus (first | decide | (simp only [sl]; omega))))) | (with_reducible refine w_k (by simp (disch := omega) only [w32_id]; exact rfl) ?_; ((with_reducible refine w_m hS ?_ ?_ ?_ ?_ ?_ (fun x hx => ?_)); (focus decide); (focus (first | decide | omega)); (focus omega); (focus (first | decide | omega)); (focus (first | decide | (simp only [ml]; omega)))))); (try simp (disch := omega) only [Int.reduceToNat, tn_c, tn8, tn8i, tn5, tn5z, tn6, tn6z, tn1, u3_ne, u3_eq, u3_ni, u3_nk, n4] at hx); subst hx)
  refine w_ite (fun h40 => ?_) (fun h40 => w_ret ?_)
  rotate_left
  · unfold g_X9_household
    refine w_gv (by omega) ?_
    ((first | ((with_reducible refine w_s hS ?_ ?_ ?_ (fun x hx => ?_)); (focus decide); (focus (first | decide | omega)); (focus (first | decide | (simp only [sl]; omega)))) | ((with_reducible refine w_m hS ?_ ?_ ?_ ?_ ?_ (fun x hx => ?_)); (focus decide); (focus (first | decide | omega)); (focus omega); (focus (first | decide | omega)); (focus (first | decide | (simp only [ml]; omega)))) | (with_reducible refine w_k (by simp (disch := omega) only [w32_id]; exact rfl) ?_; ((with_reducible refine w_s hS ?_ ?_ ?_ (fun x hx => ?_)); (focus decide); (focus (first | decide | omega)); (focus (first | decide | (simp only [sl]; omega))))) | (with_reducible refine w_k (by simp (disch := omega) only [w32_id]; exact rfl) ?_; ((with_reducible refine w_m hS ?_ ?_ ?_ ?_ ?_ (fun x hx => ?_)); (focus decide); (focus (first | decide | omega)); (focus omega); (focus (first | decide | omega)); (focus (first | decide | (simp only [ml]; omega)))))); (try simp (disch := omega) only [Int.reduceToNat, tn_c, tn8, tn8i, tn5, tn5z, tn6, tn6z, tn1, u3_ne, u3_eq, u3_ni, u3_nk, n3] at hx); subst hx)
    exact w_ite (fun z => absurd (show (rC R 30 : Int) = 40 by omega) z) (fun _ => w_ret ⟨rfl, hI⟩)
  have h40 : rC R 30 < 40 := by omega
  refine w_gn (n := 4) (by omega) (by omega) (by omega) ?_
  refine w_init4 hS (by omega) (by omega) ?_
  have RR := RH5 hS
  have hS5 := SH_RH hS RR
  obtain ⟨⟨c30, c34, c31, c32, c33⟩, c2, ⟨l30, l34, l31, l32, l33⟩, ln, _, _⟩ := id RR
  obtain ⟨f30, f31, f32, f33⟩ := nhv_f (V := V) (h := rC R 30) (s := rC R 31)
  have fo : ∀ r i k, ((r ≠ 30 ∧ r ≠ 34) ∨ i ≠ rC R 30) → ((r ≠ 31 ∧ r ≠ 32 ∧ r ≠ 33) ∨ i ≠ rC R 31) → nhv V (rC R 30) (rC R 31) r i k = V r i k := fun r i k h1 h2 => nhv_o h1 h2
  generalize nhv V (rC R 30) (rC R 31) = X at *
  have xo : ∀ r i k, (r < 30 ∨ 34 < r) → X r i k = V r i k := fun r i k h => fo r i k (by omega) (by omega)
  have hkX : shk X (rh5 R) (rC R 31) 120 := ⟨by omega, by omega, by omega, l32, l33, f31.1, f31.2⟩
  have e20 := c2 20 (by omega)
  -- the class's loop
  refine w_for (rC R 20) (fun i G => ∃ Y, G = (Y, rh5 R) ∧ (∀ r i' k, ((r ≠ 32 ∧ r ≠ 33) ∨ i' ≠ rC R 31) → Y r i' k = X r i' k) ∧ (∀ k, Y 32 (rC R 31) k = 0) ∧ ∀ q p, q < 24 → p < 5 → ((q < i ∧ V 101 0 q = 5 ∧ p = 0) → Y 33 (rC R 31) (5 * q + p) = 0) ∧ (¬ (q < i ∧ V 101 0 q = 5 ∧ p = 0) → Y 33 (rC R 31) (5 * q + p) = 1)) ?_ (i := 0) (by omega) (by omega) ⟨X, rfl, fun _ _ _ _ => rfl, f32, fun q p _ _ => ⟨fun z => absurd z.1 (by omega), fun _ => f33 _⟩⟩
  rintro i G hi ⟨Y, rfl, fr, y32, y33⟩ self ih
  have yo : ∀ r i k, (r < 30 ∨ 34 < r) → Y r i k = V r i k := fun r i k h => by rw [fr r i k (by omega)]; exact xo r i k h
  have hkY := hkX.cg (V' := Y) (fun i k => fr 31 i k (Or.inl (by decide)))
  unfold glX8_household_22 gjX8_household_62
  have hS := hS5
  ((first | ((with_reducible refine w_s hS ?_ ?_ ?_ (fun x hx => ?_)); (focus decide); (focus (first | decide | omega)); (focus (first | decide | (simp only [sl]; omega)))) | ((with_reducible refine w_m hS ?_ ?_ ?_ ?_ ?_ (fun x hx => ?_)); (focus decide); (focus (first | decide | omega)); (focus omega); (focus (first | decide | omega)); (focus (first | decide | (simp only [ml]; omega)))) | (with_reducible refine w_k (by simp (disch := omega) only [w32_id]; exact rfl) ?_; ((with_reducible refine w_s hS ?_ ?_ ?_ (fun x hx => ?_)); (focus decide); (focus (first | decide | omega)); (focus (first | decide | (simp only [sl]; omega))))) | (with_reducible refine w_k (by simp (disch := omega) only [w32_id]; exact rfl) ?_; ((with_reducible refine w_m hS ?_ ?_ ?_ ?_ ?_ (fun x hx => ?_)); (focus decide); (focus (first | decide | omega)); (focus omega); (focus (first | decide | omega)); (focus (first | decide | (simp only [ml]; omega)))))); (try simp (disch := omega) only [Int.reduceToNat, tn_c, tn8, tn8i, tn5, tn5z, tn6, tn6z, tn1, u3_ne, u3_eq, u3_ni, u3_nk, yo 0 _ _ (by omega), f_0_0 hF] at hx); subst hx)
  ((first | ((with_reducible refine w_s hS ?_ ?_ ?_ (fun x hx => ?_)); (focus decide); (focus (first | decide | omega)); (focus (first | decide | (simp only [sl]; omega)))) | ((with_reducible refine w_m hS ?_ ?_ ?_ ?_ ?_ (fun x hx => ?_)); (focus decide); (focus (first | decide | omega)); (focus omega); (focus (first | decide | omega)); (focus (first | decide | (simp only [ml]; omega)))) | (with_reducible refine w_k (by simp (disch := omega) only [w32_id]; exact rfl) ?_; ((with_reducible refine w_s hS ?_ ?_ ?_ (fun x hx => ?_)); (focus decide); (focus (first | decide | omega)); (focus (first | decide | (simp only [sl]; omega))))) | (with_reducible refine w_k (by simp (disch := omega) only [w32_id]; exact rfl) ?_; ((with_reducible refine w_m hS ?_ ?_ ?_ ?_ ?_ (fun x hx => ?_)); (focus decide); (focus (first | decide | omega)); (focus omega); (focus (first | decide | omega)); (focus (first | decide | (simp only [ml]; omega)))))); (try simp (disch := omega) only [Int.reduceToNat, tn_c, tn8, tn8i, tn5, tn5z, tn6, tn6z, tn1, u3_ne, u3_eq, u3_ni, u3_nk, yo 1 _ _ (by omega), n2] at hx); subst hx)
  refine w_ite (fun hx => ?_) (fun hx => ?_)
  · have ei : i = rC R 20 := by omega
    subst ei
    ((first | ((with_reducible refine w_s hS ?_ ?_ ?_ (fun x hx => ?_)); (focus decide); (focus (first | decide | omega)); (focus (first | decide | (simp only [sl]; omega)))) | ((with_reducible refine w_m hS ?_ ?_ ?_ ?_ ?_ (fun x hx => ?_)); (focus decide); (focus (first | decide | omega)); (focus omega); (focus (first | decide | omega)); (focus (first | decide | (simp only [ml]; omega)))) | (with_reducible refine w_k (by simp (disch := omega) only [w32_id]; exact rfl) ?_; ((with_reducible refine w_s hS ?_ ?_ ?_ (fun x hx => ?_)); (focus decide); (focus (first | decide | omega)); (focus (first | decide | (simp only [sl]; omega))))) | (with_reducible refine w_k (by simp (disch := omega) only [w32_id]; exact rfl) ?_; ((with_reducible refine w_m hS ?_ ?_ ?_ ?_ ?_ (fun x hx => ?_)); (focus decide); (focus (first | decide | omega)); (focus omega); (focus (first | decide | omega)); (focus (first | decide | (simp only [ml]; omega)))))); (try simp (disch := omega) only [Int.reduceToNat, tn_c, tn8, tn8i, tn5, tn5z, tn6, tn6z, tn1, u3_ne, u3_eq, u3_ni, u3_nk, yo 0 _ _ (by omega), f_0_1 hF] at hx); subst hx)
    ((first | ((with_reducible refine w_s hS ?_ ?_ ?_ (fun x hx => ?_)); (focus decide); (focus (first | decide | omega)); (focus (first | decide | (simp only [sl]; omega)))) | ((with_reducible refine w_m hS ?_ ?_ ?_ ?_ ?_ (fun x hx => ?_)); (focus decide); (focus (first | decide | omega)); (focus omega); (focus (first | decide | omega)); (focus (first | decide | (simp only [ml]; omega)))) | (with_reducible refine w_k (by simp (disch := omega) only [w32_id]; exact rfl) ?_; ((with_reducible refine w_s hS ?_ ?_ ?_ (fun x hx => ?_)); (focus decide); (focus (first | decide | omega)); (focus (first | decide | (simp only [sl]; omega))))) | (with_reducible refine w_k (by simp (disch := omega) only [w32_id]; exact rfl) ?_; ((with_reducible refine w_m hS ?_ ?_ ?_ ?_ ?_ (fun x hx => ?_)); (focus decide); (focus (first | decide | omega)); (focus omega); (focus (first | decide | omega)); (focus (first | decide | (simp only [ml]; omega)))))); (try simp (disch := omega) only [Int.reduceToNat, tn_c, tn8, tn8i, tn5, tn5z, tn6, tn6z, tn1, u3_ne, u3_eq, u3_ni, u3_nk, yo 0 _ _ (by omega), n4] at hx); subst hx)
    refine w_gsa (by omega) ?_
    refine w_ss hS (by decide) (by omega) (by simp only [sl]; omega) ?_
    rw [tn_c]
    ((first | ((with_reducible refine w_s hS ?_ ?_ ?_ (fun x hx => ?_)); (focus decide); (focus (first | decide | omega)); (focus (first | decide | (simp only [sl]; omega)))) | ((with_reducible refine w_m hS ?_ ?_ ?_ ?_ ?_ (fun x hx => ?_)); (focus decide); (focus (first | decide | omega)); (focus omega); (focus (first | decide | omega)); (focus (first | decide | (simp only [ml]; omega)))) | (with_reducible refine w_k (by simp (disch := omega) only [w32_id]; exact rfl) ?_; ((with_reducible refine w_s hS ?_ ?_ ?_ (fun x hx => ?_)); (focus decide); (focus (first | decide | omega)); (focus (first | decide | (simp only [sl]; omega))))) | (with_reducible refine w_k (by simp (disch := omega) only [w32_id]; exact rfl) ?_; ((with_reducible refine w_m hS ?_ ?_ ?_ ?_ ?_ (fun x hx => ?_)); (focus decide); (focus (first | decide | omega)); (focus omega); (focus (first | decide | omega)); (focus (first | decide | (simp only [ml]; omega)))))); (try simp (disch := omega) only [Int.reduceToNat, tn_c, tn8, tn8i, tn5, tn5z, tn6, tn6z, tn1, u3_ne, u3_eq, u3_ni, u3_nk, u3_ne, yo 0 _ _ (by omega), n4] at hx); subst hx)
    rw [w32_id (by omega) (by omega)]
    refine w_ss hS (by decide) (by omega) (by decide) ?_
    ((first | ((with_reducible refine w_s hS ?_ ?_ ?_ (fun x hx => ?_)); (focus decide); (focus (first | decide | omega)); (focus (first | decide | (simp only [sl]; omega)))) | ((with_reducible refine w_m hS ?_ ?_ ?_ ?_ ?_ (fun x hx => ?_)); (focus decide); (focus (first | decide | omega)); (focus omega); (focus (first | decide | omega)); (focus (first | decide | (simp only [ml]; omega)))) | (with_reducible refine w_k (by simp (disch := omega) only [w32_id]; exact rfl) ?_; ((with_reducible refine w_s hS ?_ ?_ ?_ (fun x hx => ?_)); (focus decide); (focus (first | decide | omega)); (focus (first | decide | (simp only [sl]; omega))))) | (with_reducible refine w_k (by simp (disch := omega) only [w32_id]; exact rfl) ?_; ((with_reducible refine w_m hS ?_ ?_ ?_ ?_ ?_ (fun x hx => ?_)); (focus decide); (focus (first | decide | omega)); (focus omega); (focus (first | decide | omega)); (focus (first | decide | (simp only [ml]; omega)))))); (try simp (disch := omega) only [Int.reduceToNat, tn_c, tn8, tn8i, tn5, tn5z, tn6, tn6z, tn1, u3_ne, u3_eq, u3_ni, u3_nk, u3_eq] at hx); subst hx)
    rw [w32_id (by omega) (by omega), show (rC R 30 : Int) + 1 - 1 = (rC R 30 : Int) by omega]
    simp only [Int.reduceToNat]
    refine w_ret ?_
    have zo : ∀ r i k, (r < 30 ∨ 34 < r) → (r ≠ 5 ∨ k ≠ rC R 30) → (r ≠ 0 ∨ k ≠ 2) → u3 (u3 Y 5 0 (rC R 30) (rC R 30 : Int)) 0 0 2 ((rC R 30 : Int) + 1) r i k = V r i k := by
      intro r i k h1 h2 h3
      have m1 : ¬ (r = 0 ∧ i = 0 ∧ k = 2) := fun z => by omega
      have m2 : ¬ (r = 5 ∧ i = 0 ∧ k = rC R 30) := fun z => by omega
      exact ((if_neg m1).trans (if_neg m2)).trans (yo r i k h1)
    have z5 : u3 (u3 Y 5 0 (rC R 30) (rC R 30 : Int)) 0 0 2 ((rC R 30 : Int) + 1) 5 0 (rC R 30) = (rC R 30 : Int) := by rw [u3_ne (by decide), u3_eq]
    have z0 : u3 (u3 Y 5 0 (rC R 30) (rC R 30 : Int)) 0 0 2 ((rC R 30 : Int) + 1) 0 0 2 = (rC R 30 : Int) + 1 := u3_eq
    have zy : ∀ r i k, 30 ≤ r → r ≤ 34 → u3 (u3 Y 5 0 (rC R 30) (rC R 30 : Int)) 0 0 2 ((rC R 30 : Int) + 1) r i k = Y r i k := by
      intro r i k h1 h2
      rw [u3_ne (by omega), u3_ne (by omega)]
    generalize u3 (u3 Y 5 0 (rC R 30) (rC R 30 : Int)) 0 0 2 ((rC R 30 : Int) + 1) = Z at *
    have zh : ∀ r i k, 100 ≤ r → Z r i k = V r i k := fun r i k h => zo r i k (by omega) (by omega) (by omega)
    -- the reference
    unfold g_X9_household
    refine w_gv (by omega) ?_
    ((first | ((with_reducible refine w_s hS ?_ ?_ ?_ (fun x hx => ?_)); (focus decide); (focus (first | decide | omega)); (focus (first | decide | (simp only [sl]; omega)))) | ((with_reducible refine w_m hS ?_ ?_ ?_ ?_ ?_ (fun x hx => ?_)); (focus decide); (focus (first | decide | omega)); (focus omega); (focus (first | decide | omega)); (focus (first | decide | (simp only [ml]; omega)))) | (with_reducible refine w_k (by simp (disch := omega) only [w32_id]; exact rfl) ?_; ((with_reducible refine w_s hS ?_ ?_ ?_ (fun x hx => ?_)); (focus decide); (focus (first | decide | omega)); (focus (first | decide | (simp only [sl]; omega))))) | (with_reducible refine w_k (by simp (disch := omega) only [w32_id]; exact rfl) ?_; ((with_reducible refine w_m hS ?_ ?_ ?_ ?_ ?_ (fun x hx => ?_)); (focus decide); (focus (first | decide | omega)); (focus omega); (focus (first | decide | omega)); (focus (first | decide | (simp only [ml]; omega)))))); (try simp (disch := omega) only [Int.reduceToNat, tn_c, tn8, tn8i, tn5, tn5z, tn6, tn6z, tn1, u3_ne, u3_eq, u3_ni, u3_nk, zh 100 _ _ (by decide), n3] at hx); subst hx)
    refine w_ite (fun _ => ?_) (fun z => absurd (show (rC R 30 : Int) ≠ 40 by omega) z)
    ((first | ((with_reducible refine w_s hS ?_ ?_ ?_ (fun x hx => ?_)); (focus decide); (focus (first | decide | omega)); (focus (first | decide | (simp only [sl]; omega)))) | ((with_reducible refine w_m hS ?_ ?_ ?_ ?_ ?_ (fun x hx => ?_)); (focus decide); (focus (first | decide | omega)); (focus omega); (focus (first | decide | omega)); (focus (first | decide | (simp only [ml]; omega)))) | (with_reducible refine w_k (by simp (disch := omega) only [w32_id]; exact rfl) ?_; ((with_reducible refine w_s hS ?_ ?_ ?_ (fun x hx => ?_)); (focus decide); (focus (first | decide | omega)); (focus (first | decide | (simp only [sl]; omega))))) | (with_reducible refine w_k (by simp (disch := omega) only [w32_id]; exact rfl) ?_; ((with_reducible refine w_m hS ?_ ?_ ?_ ?_ ?_ (fun x hx => ?_)); (focus decide); (focus (first | decide | omega)); (focus omega); (focus (first | decide | omega)); (focus (first | decide | (simp only [ml]; omega)))))); (try simp (disch := omega) only [Int.reduceToNat, tn_c, tn8, tn8i, tn5, tn5z, tn6, tn6z, tn1, u3_ne, u3_eq, u3_ni, u3_nk, zh 100 _ _ (by decide), f_100_17 hF] at hx); subst hx)
    ((first | ((with_reducible refine w_s hS ?_ ?_ ?_ (fun x hx => ?_)); (focus decide); (focus (first | decide | omega)); (focus (first | decide | (simp only [sl]; omega)))) | ((with_reducible refine w_m hS ?_ ?_ ?_ ?_ ?_ (fun x hx => ?_)); (focus decide); (focus (first | decide | omega)); (focus omega); (focus (first | decide | omega)); (focus (first | decide | (simp only [ml]; omega)))) | (with_reducible refine w_k (by simp (disch := omega) only [w32_id]; exact rfl) ?_; ((with_reducible refine w_s hS ?_ ?_ ?_ (fun x hx => ?_)); (focus decide); (focus (first | decide | omega)); (focus (first | decide | (simp only [sl]; omega))))) | (with_reducible refine w_k (by simp (disch := omega) only [w32_id]; exact rfl) ?_; ((with_reducible refine w_m hS ?_ ?_ ?_ ?_ ?_ (fun x hx => ?_)); (focus decide); (focus (first | decide | omega)); (focus omega); (focus (first | decide | omega)); (focus (first | decide | (simp only [ml]; omega)))))); (try simp (disch := omega) only [Int.reduceToNat, tn_c, tn8, tn8i, tn5, tn5z, tn6, tn6z, tn1, u3_ne, u3_eq, u3_ni, u3_nk, zh 100 _ _ (by decide), n3] at hx); subst hx)
    refine w_ss hS (by decide) (by omega) (by simp only [sl]; omega) ?_
    rw [tn_c]
    ((first | ((with_reducible refine w_s hS ?_ ?_ ?_ (fun x hx => ?_)); (focus decide); (focus (first | decide | omega)); (focus (first | decide | (simp only [sl]; omega)))) | ((with_reducible refine w_m hS ?_ ?_ ?_ ?_ ?_ (fun x hx => ?_)); (focus decide); (focus (first | decide | omega)); (focus omega); (focus (first | decide | omega)); (focus (first | decide | (simp only [ml]; omega)))) | (with_reducible refine w_k (by simp (disch := omega) only [w32_id]; exact rfl) ?_; ((with_reducible refine w_s hS ?_ ?_ ?_ (fun x hx => ?_)); (focus decide); (focus (first | decide | omega)); (focus (first | decide | (simp only [sl]; omega))))) | (with_reducible refine w_k (by simp (disch := omega) only [w32_id]; exact rfl) ?_; ((with_reducible refine w_m hS ?_ ?_ ?_ ?_ ?_ (fun x hx => ?_)); (focus decide); (focus (first | decide | omega)); (focus omega); (focus (first | decide | omega)); (focus (first | decide | (simp only [ml]; omega)))))); (try simp (disch := omega) only [Int.reduceToNat, tn_c, tn8, tn8i, tn5, tn5z, tn6, tn6z, tn1, u3_ne, u3_eq, u3_ni, u3_nk, u3_ne, zh 100 _ _ (by decide), n3] at hx); subst hx)
    rw [w32_id (by omega) (by omega)]
    refine w_ss hS (by decide) (by omega) (by decide) ?_
    simp only [Int.reduceToNat]
    have wo : ∀ r i k, (r ≠ 117 ∨ k ≠ rC R 30) → (r ≠ 100 ∨ k ≠ 14) → u3 (u3 Z 117 0 (rC R 30) 2520) 100 0 14 ((rC R 30 : Int) + 1) r i k = Z r i k := by
      intro r i k h1 h2
      have m1 : ¬ (r = 100 ∧ i = 0 ∧ k = 14) := fun z => by omega
      have m2 : ¬ (r = 117 ∧ i = 0 ∧ k = rC R 30) := fun z => by omega
      exact (if_neg m1).trans (if_neg m2)
    have w117 : u3 (u3 Z 117 0 (rC R 30) 2520) 100 0 14 ((rC R 30 : Int) + 1) 117 0 (rC R 30) = 2520 := by rw [u3_ne (by decide), u3_eq]
    have w14 : u3 (u3 Z 117 0 (rC R 30) 2520) 100 0 14 ((rC R 30 : Int) + 1) 100 0 14 = (rC R 30 : Int) + 1 := u3_eq
    generalize u3 (u3 Z 117 0 (rC R 30) 2520) 100 0 14 ((rC R 30 : Int) + 1) = W at *
    refine w_for (rC R 20) (fun j G => ∃ U, G = (U, rh5 R) ∧ (∀ r i' k, ¬ ((r = 115 ∨ r = 116) ∧ 144 * rC R 30 ≤ k ∧ k < 144 * rC R 30 + 6 * j) → U r i' k = W r i' k) ∧ ∀ q t, q < j → t < 6 → U 115 0 (144 * rC R 30 + 6 * q + t) = 0 ∧ (V 101 0 q = 5 → U 116 0 (144 * rC R 30 + 6 * q + t) = 0) ∧ (V 101 0 q ≠ 5 → U 116 0 (144 * rC R 30 + 6 * q + t) = 1)) ?_ (i := 0) (by omega) (by omega) ⟨W, rfl, fun _ _ _ _ => rfl, fun q t hq => absurd hq (by omega)⟩
    rintro j G hj ⟨U, rfl, fru, hu⟩ self' ih'
    have u0 : ∀ r i k, r ≠ 115 → r ≠ 116 → U r i k = W r i k := fun r i k h1 h2 => fru r i k (fun z => by rcases z.1 with z | z; exact h1 z; exact h2 z)
    have u100 : ∀ k, k ≠ 14 → U 100 0 k = V 100 0 k := fun k hk => by rw [u0 100 _ _ (by decide) (by decide), wo 100 0 k (by omega) (by omega)]; exact zh 100 _ _ (by decide)
    have u14 : U 100 0 14 = (rC R 30 : Int) + 1 := by rw [u0 100 _ _ (by decide) (by decide)]; exact w14
    unfold glX9_household_36
    ((first | ((with_reducible refine w_s hS ?_ ?_ ?_ (fun x hx => ?_)); (focus decide); (focus (first | decide | omega)); (focus (first | decide | (simp only [sl]; omega)))) | ((with_reducible refine w_m hS ?_ ?_ ?_ ?_ ?_ (fun x hx => ?_)); (focus decide); (focus (first | decide | omega)); (focus omega); (focus (first | decide | omega)); (focus (first | decide | (simp only [ml]; omega)))) | (with_reducible refine w_k (by simp (disch := omega) only [w32_id]; exact rfl) ?_; ((with_reducible refine w_s hS ?_ ?_ ?_ (fun x hx => ?_)); (focus decide); (focus (first | decide | omega)); (focus (first | decide | (simp only [sl]; omega))))) | (with_reducible refine w_k (by simp (disch := omega) only [w32_id]; exact rfl) ?_; ((with_reducible refine w_m hS ?_ ?_ ?_ ?_ ?_ (fun x hx => ?_)); (focus decide); (focus (first | decide | omega)); (focus omega); (focus (first | decide | omega)); (focus (first | decide | (simp only [ml]; omega)))))); (try simp (disch := omega) only [Int.reduceToNat, tn_c, tn8, tn8i, tn5, tn5z, tn6, tn6z, tn1, u3_ne, u3_eq, u3_ni, u3_nk, u100 0 (by decide), n1] at hx); subst hx)
    refine w_ite (fun hx' => ?_) (fun hx' => ?_)
    · have ej : j = rC R 20 := by omega
      subst ej
      ((first | ((with_reducible refine w_s hS ?_ ?_ ?_ (fun x hx => ?_)); (focus decide); (focus (first | decide | omega)); (focus (first | decide | (simp only [sl]; omega)))) | ((with_reducible refine w_m hS ?_ ?_ ?_ ?_ ?_ (fun x hx => ?_)); (focus decide); (focus (first | decide | omega)); (focus omega); (focus (first | decide | omega)); (focus (first | decide | (simp only [ml]; omega)))) | (with_reducible refine w_k (by simp (disch := omega) only [w32_id]; exact rfl) ?_; ((with_reducible refine w_s hS ?_ ?_ ?_ (fun x hx => ?_)); (focus decide); (focus (first | decide | omega)); (focus (first | decide | (simp only [sl]; omega))))) | (with_reducible refine w_k (by simp (disch := omega) only [w32_id]; exact rfl) ?_; ((with_reducible refine w_m hS ?_ ?_ ?_ ?_ ?_ (fun x hx => ?_)); (focus decide); (focus (first | decide | omega)); (focus omega); (focus (first | decide | omega)); (focus (first | decide | (simp only [ml]; omega)))))); (try simp (disch := omega) only [Int.reduceToNat, tn_c, tn8, tn8i, tn5, tn5z, tn6, tn6z, tn1, u3_ne, u3_eq, u3_ni, u3_nk, u14] at hx); subst hx)
      rw [w32_id (by omega) (by omega), show (rC R 30 : Int) + 1 - 1 = (rC R 30 : Int) by omega]
      refine w_ret ⟨rfl, ?_⟩
      show INV IT U (rh5 R)
      have uy : ∀ r i k, 30 ≤ r → r ≤ 34 → U r i k = Y r i k := fun r i k h1 h2 => by
        rw [u0 r i k (by omega) (by omega), wo r i k (by omega) (by omega)]; exact zy r i k h1 h2
      have uz : ∀ r i k, r ≠ 115 → r ≠ 116 → (r ≠ 117 ∨ k ≠ rC R 30) → (r ≠ 100 ∨ k ≠ 14) → U r i k = Z r i k := fun r i k h1 h2 h3 h4 => by rw [u0 r i k h1 h2]; exact wo r i k h3 h4
      have sm : same V U LAH := by
        intro r i k hmm
        have nm : ∀ e, e ∈ LAH → ¬ (e.1 = r ∧ (e.2 = none ∨ e.2 = some k)) := fun e he z => hmm ⟨e, he, z⟩
        have hh : ∀ r2, (r2, (none : Option Nat)) ∈ LAH → r ≠ r2 := fun r2 h2 z => nm _ h2 ⟨z.symm, Or.inl rfl⟩
        have d30 := hh 30 (by decide)
        have d31 := hh 31 (by decide)
        have d32 := hh 32 (by decide)
        have d33 := hh 33 (by decide)
        have d34 := hh 34 (by decide)
        have d5 := hh 5 (by decide)
        have d117 := hh 117 (by decide)
        have d02 : r ≠ 0 ∨ k ≠ 2 := by
          by_cases z : r = 0
          · exact Or.inr (fun y => nm (0, some 2) (by decide) ⟨z.symm, Or.inr (by rw [y])⟩)
          · exact Or.inl z
        have d14 : r ≠ 100 ∨ k ≠ 14 := by
          by_cases z : r = 100
          · exact Or.inr (fun y => nm (100, some 14) (by decide) ⟨z.symm, Or.inr (by rw [y])⟩)
          · exact Or.inl z
        rw [uz r i k (hh 115 (by decide)) (hh 116 (by decide)) (Or.inl d117) d14]
        refine zo r i k ?_ (Or.inl d5) d02
        clear d02 d14
        omega
      have low : ∀ k, k < 144 * rC R 30 → U 115 0 k = V 115 0 k ∧ U 116 0 k = V 116 0 k := by
        intro k hk
        rw [fru 115 0 k (fun z => by omega), fru 116 0 k (fun z => by omega), wo 115 0 k (by omega) (by omega), wo 116 0 k (by omega) (by omega)]
        exact ⟨zh 115 _ _ (by decide), zh 116 _ _ (by decide)⟩
      refine INV_addH hI h40 sm RR (fun r i k h1 h2 => ?_) (fun r i k h1 h2 => ?_) (fun k h => ⟨?_, ?_⟩) low ⟨?_, ?_, ?_, ?_⟩ ⟨?_, ?_⟩ ⟨?_, ?_, ?_, ?_⟩ (fun q p hq hp => ⟨?_, ?_, ?_⟩) hu
      · rw [uy r i k (by omega) (by omega), fr r i k (by omega)]; exact fo r i k (Or.inr h2) (by omega)
      · rw [uy r i k (by omega) (by omega), fr r i k (Or.inr h2)]; exact fo r i k (by omega) (Or.inr h2)
      · rw [uz 5 0 k (by decide) (by decide) (by omega) (by omega)]; exact zo 5 0 k (by omega) (Or.inr h) (by omega)
      · rw [uz 117 0 k (by decide) (by decide) (Or.inr h) (by omega)]; exact zh 117 _ _ (by decide)
      · rw [uy 30 _ _ (by omega) (by omega), fr 30 _ _ (Or.inl (by decide))]; exact f30.1
      · rw [uy 30 _ _ (by omega) (by omega), fr 30 _ _ (Or.inl (by decide))]; exact f30.2.1
      · rw [uy 30 _ _ (by omega) (by omega), fr 30 _ _ (Or.inl (by decide))]; exact f30.2.2.1
      · rw [uy 30 _ _ (by omega) (by omega), fr 30 _ _ (Or.inl (by decide))]; exact f30.2.2.2
      · rw [uy 31 _ _ (by omega) (by omega), fr 31 _ _ (Or.inl (by decide))]; exact f31.1
      · rw [uy 31 _ _ (by omega) (by omega), fr 31 _ _ (Or.inl (by decide))]; exact f31.2
      · rw [uz 5 0 _ (by decide) (by decide) (by omega) (by omega)]; exact z5
      · rw [u0 117 _ _ (by decide) (by decide)]; exact w117
      · rw [uz 0 0 2 (by decide) (by decide) (by omega) (by omega)]; exact z0
      · exact u14
      · rw [uy 32 _ _ (by omega) (by omega)]; exact y32 _
      · rw [uy 33 _ _ (by omega) (by omega)]; exact (y33 q p hq hp).1
      · rw [uy 33 _ _ (by omega) (by omega)]; exact (y33 q p hq hp).2
    · have hj : j < rC R 20 := by omega
      ((first | ((with_reducible refine w_s hS ?_ ?_ ?_ (fun x hx => ?_)); (focus decide); (focus (first | decide | omega)); (focus (first | decide | (simp only [sl]; omega)))) | ((with_reducible refine w_m hS ?_ ?_ ?_ ?_ ?_ (fun x hx => ?_)); (focus decide); (focus (first | decide | omega)); (focus omega); (focus (first | decide | omega)); (focus (first | decide | (simp only [ml]; omega)))) | (with_reducible refine w_k (by simp (disch := omega) only [w32_id]; exact rfl) ?_; ((with_reducible refine w_s hS ?_ ?_ ?_ (fun x hx => ?_)); (focus decide); (focus (first | decide | omega)); (focus (first | decide | (simp only [sl]; omega))))) | (with_reducible refine w_k (by simp (disch := omega) only [w32_id]; exact rfl) ?_; ((with_reducible refine w_m hS ?_ ?_ ?_ ?_ ?_ (fun x hx => ?_)); (focus decide); (focus (first | decide | omega)); (focus omega); (focus (first | decide | omega)); (focus (first | decide | (simp only [ml]; omega)))))); (try simp (disch := omega) only [Int.reduceToNat, tn_c, tn8, tn8i, tn5, tn5z, tn6, tn6z, tn1, u3_ne, u3_eq, u3_ni, u3_nk, u14] at hx); subst hx)
      rw [w32_id (by omega) (by omega), show (rC R 30 : Int) + 1 - 1 = (rC R 30 : Int) by omega]
      refine w_blank (kd := V 101 0 j) hS h40 (by omega) (by rw [u100 15 (by decide)]; exact f_100_15 hF) (by rw [u100 16 (by decide)]; exact f_100_16 hF) (by rw [u100 1 (by decide)]; exact f_100_1 hF) (by rw [u0 101 _ _ (by decide) (by decide), wo 101 _ _ (by omega) (by omega)]; exact zh 101 _ _ (by decide)) (fun U' fr' hu' => ?_)
      refine ih' _ hj ⟨U', rfl, fun r i' k h => ?_, fun q t hq ht => ?_⟩
      · rw [fr' r i' k (fun z => h ⟨z.1, by omega, by omega⟩)]
        exact fru r i' k (fun z => h ⟨z.1, z.2.1, by omega⟩)
      · by_cases e : q = j
        · subst e; exact hu' t ht
        · rw [fr' 115 0 _ (fun z => by omega), fr' 116 0 _ (fun z => by omega)]
          exact hu q t (by omega) ht
  · have hi : i < rC R 20 := by omega
    have e0 := (hQ.1 i hi).1.1.1
    ((first | ((with_reducible refine w_s hS ?_ ?_ ?_ (fun x hx => ?_)); (focus decide); (focus (first | decide | omega)); (focus (first | decide | (simp only [sl]; omega)))) | ((with_reducible refine w_m hS ?_ ?_ ?_ ?_ ?_ (fun x hx => ?_)); (focus decide); (focus (first | decide | omega)); (focus omega); (focus (first | decide | omega)); (focus (first | decide | (simp only [ml]; omega)))) | (with_reducible refine w_k (by simp (disch := omega) only [w32_id]; exact rfl) ?_; ((with_reducible refine w_s hS ?_ ?_ ?_ (fun x hx => ?_)); (focus decide); (focus (first | decide | omega)); (focus (first | decide | (simp only [sl]; omega))))) | (with_reducible refine w_k (by simp (disch := omega) only [w32_id]; exact rfl) ?_; ((with_reducible refine w_m hS ?_ ?_ ?_ ?_ ?_ (fun x hx => ?_)); (focus decide); (focus (first | decide | omega)); (focus omega); (focus (first | decide | omega)); (focus (first | decide | (simp only [ml]; omega)))))); (try simp (disch := omega) only [Int.reduceToNat, tn_c, tn8, tn8i, tn5, tn5z, tn6, tn6z, tn1, u3_ne, u3_eq, u3_ni, u3_nk, yo 0 _ _ (by omega), f_0_0 hF] at hx); subst hx)
    ((first | ((with_reducible refine w_s hS ?_ ?_ ?_ (fun x hx => ?_)); (focus decide); (focus (first | decide | omega)); (focus (first | decide | (simp only [sl]; omega)))) | ((with_reducible refine w_m hS ?_ ?_ ?_ ?_ ?_ (fun x hx => ?_)); (focus decide); (focus (first | decide | omega)); (focus omega); (focus (first | decide | omega)); (focus (first | decide | (simp only [ml]; omega)))) | (with_reducible refine w_k (by simp (disch := omega) only [w32_id]; exact rfl) ?_; ((with_reducible refine w_s hS ?_ ?_ ?_ (fun x hx => ?_)); (focus decide); (focus (first | decide | omega)); (focus (first | decide | (simp only [sl]; omega))))) | (with_reducible refine w_k (by simp (disch := omega) only [w32_id]; exact rfl) ?_; ((with_reducible refine w_m hS ?_ ?_ ?_ ?_ ?_ (fun x hx => ?_)); (focus decide); (focus (first | decide | omega)); (focus omega); (focus (first | decide | omega)); (focus (first | decide | (simp only [ml]; omega)))))); (try simp (disch := omega) only [Int.reduceToNat, tn_c, tn8, tn8i, tn5, tn5z, tn6, tn6z, tn1, u3_ne, u3_eq, u3_ni, u3_nk, yo 1 _ _ (by omega), f_1_0 hF] at hx); subst hx)
    ((first | ((with_reducible refine w_s hS ?_ ?_ ?_ (fun x hx => ?_)); (focus decide); (focus (first | decide | omega)); (focus (first | decide | (simp only [sl]; omega)))) | ((with_reducible refine w_m hS ?_ ?_ ?_ ?_ ?_ (fun x hx => ?_)); (focus decide); (focus (first | decide | omega)); (focus omega); (focus (first | decide | omega)); (focus (first | decide | (simp only [ml]; omega)))) | (with_reducible refine w_k (by simp (disch := omega) only [w32_id]; exact rfl) ?_; ((with_reducible refine w_s hS ?_ ?_ ?_ (fun x hx => ?_)); (focus decide); (focus (first | decide | omega)); (focus (first | decide | (simp only [sl]; omega))))) | (with_reducible refine w_k (by simp (disch := omega) only [w32_id]; exact rfl) ?_; ((with_reducible refine w_m hS ?_ ?_ ?_ ?_ ?_ (fun x hx => ?_)); (focus decide); (focus (first | decide | omega)); (focus omega); (focus (first | decide | omega)); (focus (first | decide | (simp only [ml]; omega)))))); (try simp (disch := omega) only [Int.reduceToNat, tn_c, tn8, tn8i, tn5, tn5z, tn6, tn6z, tn1, u3_ne, u3_eq, u3_ni, u3_nk, yo 2 _ _ (by omega), l_2 hL] at hx); subst hx)
    ((first | ((with_reducible refine w_s hS ?_ ?_ ?_ (fun x hx => ?_)); (focus decide); (focus (first | decide | omega)); (focus (first | decide | (simp only [sl]; omega)))) | ((with_reducible refine w_m hS ?_ ?_ ?_ ?_ ?_ (fun x hx => ?_)); (focus decide); (focus (first | decide | omega)); (focus omega); (focus (first | decide | omega)); (focus (first | decide | (simp only [ml]; omega)))) | (with_reducible refine w_k (by simp (disch := omega) only [w32_id]; exact rfl) ?_; ((with_reducible refine w_s hS ?_ ?_ ?_ (fun x hx => ?_)); (focus decide); (focus (first | decide | omega)); (focus (first | decide | (simp only [sl]; omega))))) | (with_reducible refine w_k (by simp (disch := omega) only [w32_id]; exact rfl) ?_; ((with_reducible refine w_m hS ?_ ?_ ?_ ?_ ?_ (fun x hx => ?_)); (focus decide); (focus (first | decide | omega)); (focus omega); (focus (first | decide | omega)); (focus (first | decide | (simp only [ml]; omega)))))); (try simp (disch := omega) only [Int.reduceToNat, tn_c, tn8, tn8i, tn5, tn5z, tn6, tn6z, tn1, u3_ne, u3_eq, u3_ni, u3_nk, yo 20 _ _ (by omega), e0] at hx); subst hx)
    refine w_ite (fun z => ih _ hi ⟨Y, rfl, fr, y32, fun q p hq hp => ⟨fun w => ?_, fun w => ?_⟩⟩) (fun z => ?_)
    · refine (y33 q p hq hp).1 ⟨?_, w.2⟩
      refine Nat.lt_of_le_of_ne (by omega) (fun e => ?_)
      subst e; exact z w.2.1
    · exact (y33 q p hq hp).2 (fun v => w ⟨by omega, v.2⟩)
    · have k5 : V 101 0 i = 5 := by omega
      have g30 : Y 30 (rC R 30) 0 = (rC R 31 : Int) := by rw [fr 30 _ _ (Or.inl (by decide))]; exact f30.1
      ((first | ((with_reducible refine w_s hS ?_ ?_ ?_ (fun x hx => ?_)); (focus decide); (focus (first | decide | omega)); (focus (first | decide | (simp only [sl]; omega)))) | ((with_reducible refine w_m hS ?_ ?_ ?_ ?_ ?_ (fun x hx => ?_)); (focus decide); (focus (first | decide | omega)); (focus omega); (focus (first | decide | omega)); (focus (first | decide | (simp only [ml]; omega)))) | (with_reducible refine w_k (by simp (disch := omega) only [w32_id]; exact rfl) ?_; ((with_reducible refine w_s hS ?_ ?_ ?_ (fun x hx => ?_)); (focus decide); (focus (first | decide | omega)); (focus (first | decide | (simp only [sl]; omega))))) | (with_reducible refine w_k (by simp (disch := omega) only [w32_id]; exact rfl) ?_; ((with_reducible refine w_m hS ?_ ?_ ?_ ?_ ?_ (fun x hx => ?_)); (focus decide); (focus (first | decide | omega)); (focus omega); (focus (first | decide | omega)); (focus (first | decide | (simp only [ml]; omega)))))); (try simp (disch := omega) only [Int.reduceToNat, tn_c, tn8, tn8i, tn5, tn5z, tn6, tn6z, tn1, u3_ne, u3_eq, u3_ni, u3_nk, g30] at hx); subst hx)
      refine w_spotn (by omega) ?_
      refine w_put hS hkY (by omega) ?_
      refine ih _ hi ⟨_, rfl, fun r i' k h => ?_, fun k => ?_, fun q p hq hp => ?_⟩
      · rw [putv_o ?_]
        · exact fr r i' k h
        · rcases h with h | h
          · exact Or.inl h
          · exact Or.inr (Or.inl h)
      · by_cases e : k = 5 * i
        · subst e; exact putv_32
        · rw [putv_o (Or.inr (Or.inr e))]; exact y32 k
      · by_cases e : 5 * q + p = 5 * i
        · have eq : q = i := by omega
          have ep : p = 0 := by omega
          subst eq ep
          refine ⟨fun _ => ?_, fun w => absurd ⟨Nat.lt_succ_self q, k5, rfl⟩ w⟩
          have := putv_33 (V := Y) (s := rC R 31) (k := 5 * q) (v := 0) (r := 0)
          exact this
        · rw [putv_o (Or.inr (Or.inr e))]
          refine ⟨fun w => (y33 q p hq hp).1 ⟨?_, w.2⟩, fun w => (y33 q p hq hp).2 (fun v => w ⟨by omega, v.2⟩)⟩
          refine Nat.lt_of_le_of_ne (by omega) (fun e' => ?_)
          subst e'
          exact e (by omega)
end Household
