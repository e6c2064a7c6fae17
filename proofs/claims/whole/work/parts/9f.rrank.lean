section RRank
variable {V : GV} {R : GR} {T : GV → Prop} {Q : Int → GS → Prop}
theorem slc_n {q g : Nat} : slc V q (-1) g ↔ vld V q g := ⟨fun z => z.1, fun z => ⟨z, Or.inl rfl⟩⟩
theorem w_missingAt {q x : Nat} {f : Int × GS → GO} (hI : INV IT V R) (hq : q < rC R 20) (hx : x < mct (slc V q (-1)) (dcl (slc V q (-1))) (rC R 30))
  (K : ∀ g : Nat, g < rC R 30 → ¬ slc V q (-1) g → mct (slc V q (-1)) (dcl (slc V q (-1))) g = x → Wp (f ((g : Int), (V, R))) Q) : Wp ((g_X8_missingAt 0 (q : Int) (x : Int) (V, R)).bind f) Q := by
  have hS := hI.SH
  have hF := hI.RF
  obtain ⟨b20, b30, b40, b50⟩ := hI.IN.1
  have n4 := hI.IN.2.1.2.2.2.1
  have mle : ∀ n, mct (slc V q (-1)) (dcl (slc V q (-1))) n ≤ n := by
    intro n
    induction n with
    | zero => exact Nat.le_refl _
    | succ n ih =>
      by_cases c : slc V q (-1) n
      · rw [mct_1 c]; omega
      · rw [mct_0 c]; omega
  have ml := mle (rC R 30)
  refine w_bind ?_
  unfold g_X8_missingAt
  refine w_gv (by omega) ?_
  refine w_for2 (rC R 30) (fun i a G => G = (V, R) ∧ ∃ l : Nat, a = (l : Int) ∧ l + mct (slc V q (-1)) (dcl (slc V q (-1))) i = x) ?_ (i := 0) (by omega) (by omega) ⟨rfl, x, rfl, rfl⟩
  rintro i a G hi ⟨rfl, l, rfl, hl⟩ self ih
  unfold glX8_missingAt_5 gjX8_missingAt_49
  ((first | ((with_reducible refine w_s hS ?_ ?_ ?_ (fun x hx => ?_)); (focus decide); (focus (first | decide | omega)); (focus (first | decide | (simp only [sl]; omega)))) | ((with_reducible refine w_m hS ?_ ?_ ?_ ?_ ?_ (fun x hx => ?_)); (focus decide); (focus (first | decide | omega)); (focus omega); (focus (first | decide | omega)); (focus (first | decide | (simp only [ml]; omega)))) | (with_reducible refine w_k (by simp (disch := omega) only [w32_id]; exact rfl) ?_; ((with_reducible refine w_s hS ?_ ?_ ?_ (fun x hx => ?_)); (focus decide); (focus (first | decide | omega)); (focus (first | decide | (simp only [sl]; omega))))) | (with_reducible refine w_k (by simp (disch := omega) only [w32_id]; exact rfl) ?_; ((with_reducible refine w_m hS ?_ ?_ ?_ ?_ ?_ (fun x hx => ?_)); (focus decide); (focus (first | decide | omega)); (focus omega); (focus (first | decide | omega)); (focus (first | decide | (simp only [ml]; omega)))))); (try simp (disch := omega) only [Int.reduceToNat, tn_c, tn8, tn8i, tn5, tn5z, tn6, tn6z, tn1, u3_ne, u3_eq, u3_ni, u3_nk, n4] at hx); subst hx)
  refine w_ite (fun hx' => ?_) (fun hx' => ?_)
  · have ei : i = rC R 30 := by omega
    subst ei
    omega
  · have hh : i < rC R 30 := by omega
    obtain ⟨s, e30, es, hk⟩ := hI.sht hh
    ((first | ((with_reducible refine w_s hS ?_ ?_ ?_ (fun x hx => ?_)); (focus decide); (focus (first | decide | omega)); (focus (first | decide | (simp only [sl]; omega)))) | ((with_reducible refine w_m hS ?_ ?_ ?_ ?_ ?_ (fun x hx => ?_)); (focus decide); (focus (first | decide | omega)); (focus omega); (focus (first | decide | omega)); (focus (first | decide | (simp only [ml]; omega)))) | (with_reducible refine w_k (by simp (disch := omega) only [w32_id]; exact rfl) ?_; ((with_reducible refine w_s hS ?_ ?_ ?_ (fun x hx => ?_)); (focus decide); (focus (first | decide | omega)); (focus (first | decide | (simp only [sl]; omega))))) | (with_reducible refine w_k (by simp (disch := omega) only [w32_id]; exact rfl) ?_; ((with_reducible refine w_m hS ?_ ?_ ?_ ?_ ?_ (fun x hx => ?_)); (focus decide); (focus (first | decide | omega)); (focus omega); (focus (first | decide | omega)); (focus (first | decide | (simp only [ml]; omega)))))); (try simp (disch := omega) only [Int.reduceToNat, tn_c, tn8, tn8i, tn5, tn5z, tn6, tn6z, tn1, u3_ne, u3_eq, u3_ni, u3_nk, f_0_1 hF] at hx); subst hx)
    ((first | ((with_reducible refine w_s hS ?_ ?_ ?_ (fun x hx => ?_)); (focus decide); (focus (first | decide | omega)); (focus (first | decide | (simp only [sl]; omega)))) | ((with_reducible refine w_m hS ?_ ?_ ?_ ?_ ?_ (fun x hx => ?_)); (focus decide); (focus (first | decide | omega)); (focus omega); (focus (first | decide | omega)); (focus (first | decide | (simp only [ml]; omega)))) | (with_reducible refine w_k (by simp (disch := omega) only [w32_id]; exact rfl) ?_; ((with_reducible refine w_s hS ?_ ?_ ?_ (fun x hx => ?_)); (focus decide); (focus (first | decide | omega)); (focus (first | decide | (simp only [sl]; omega))))) | (with_reducible refine w_k (by simp (disch := omega) only [w32_id]; exact rfl) ?_; ((with_reducible refine w_m hS ?_ ?_ ?_ ?_ ?_ (fun x hx => ?_)); (focus decide); (focus (first | decide | omega)); (focus omega); (focus (first | decide | omega)); (focus (first | decide | (simp only [ml]; omega)))))); (try simp (disch := omega) only [Int.reduceToNat, tn_c, tn8, tn8i, tn5, tn5z, tn6, tn6z, tn1, u3_ne, u3_eq, u3_ni, u3_nk, l_5 hI.IL] at hx); subst hx)
    ((first | ((with_reducible refine w_s hS ?_ ?_ ?_ (fun x hx => ?_)); (focus decide); (focus (first | decide | omega)); (focus (first | decide | (simp only [sl]; omega)))) | ((with_reducible refine w_m hS ?_ ?_ ?_ ?_ ?_ (fun x hx => ?_)); (focus decide); (focus (first | decide | omega)); (focus omega); (focus (first | decide | omega)); (focus (first | decide | (simp only [ml]; omega)))) | (with_reducible refine w_k (by simp (disch := omega) only [w32_id]; exact rfl) ?_; ((with_reducible refine w_s hS ?_ ?_ ?_ (fun x hx => ?_)); (focus decide); (focus (first | decide | omega)); (focus (first | decide | (simp only [sl]; omega))))) | (with_reducible refine w_k (by simp (disch := omega) only [w32_id]; exact rfl) ?_; ((with_reducible refine w_m hS ?_ ?_ ?_ ?_ ?_ (fun x hx => ?_)); (focus decide); (focus (first | decide | omega)); (focus omega); (focus (first | decide | omega)); (focus (first | decide | (simp only [ml]; omega)))))); (try simp (disch := omega) only [Int.reduceToNat, tn_c, tn8, tn8i, tn5, tn5z, tn6, tn6z, tn1, u3_ne, u3_eq, u3_ni, u3_nk, e30] at hx); subst hx)
    refine w_31 hS hk (Or.inr rfl) ?_
    refine w_spotn (by omega) ?_
    refine w_33 hk (by omega) ?_
    have ev : slc V q (-1) i ↔ V 33 s (5 * q) = 0 := by rw [slc_n]; unfold vld; rw [es]
    refine w_ite (fun z => ?_) (fun z => ?_)
    · have hn : ¬ slc V q (-1) i := fun y => z (ev.mp y)
      refine w_ite (fun y => ?_) (fun y => w_ret (K i hh hn (by omega)))
      have el : w32 ((l : Int) + (-1)) = ((l - 1 : Nat) : Int) := by rw [w32_id (by omega) (by omega)]; omega
      rw [el]
      exact ih _ _ hh ⟨rfl, l - 1, rfl, by rw [mct_0 hn]; omega⟩
    · exact ih _ _ hh ⟨rfl, l, rfl, by rw [mct_1 (ev.mpr (by omega))]; exact hl⟩
theorem w_rins {q k i : Nat} {kk : Int} {b : Nat → Nat} {rk : Nat → Int} {self : Int → GS → GO} (hS : SH R) (hF : RF V R) (hi : i < 40) (h1 : ∀ g, g < i + 1 → V 151 0 g = rk g) (h2 : ∀ k, k < i → V 152 0 k = ((b k : Nat) : Int) ∧ b k < i)
  (K : ∀ W, same V W [(152, none)] → (∀ k, k < i + 1 → W 152 0 k = ((insn b (ipos (fun k => rk (b k)) (rk i) i) i k : Nat) : Int)) → Wp (self (w32 ((i : Int) + 1)) (W, R)) Q) : Wp (lh1 (glX9_rank_130 self 0 (q : Int) kk (i : Int)) 6000 (i : Int) (V, R)) Q := by
  refine w_lh1 (fun x G => ∃ (W : GV) (t : Nat), G = (W, R) ∧ x = (t : Int) ∧ t ≤ i ∧ same V W [(152, none)] ∧ (∀ k, k < t → W 152 0 k = ((b k : Nat) : Int)) ∧ (∀ k, t < k → k < i + 1 → W 152 0 k = ((b (k - 1) : Nat) : Int)) ∧ ipos (fun k => rk (b k)) (rk i) i = ipos (fun k => rk (b k)) (rk i) t) (fun x _ => x.toNat) ?_ 6000 _ _ ⟨V, i, rfl, rfl, Nat.le_refl _, same.rf V _, fun k hk => (h2 k hk).1, fun k k1 k2 => absurd k1 (by omega), rfl⟩ (by omega)
  rintro x G ⟨W, t, rfl, rfl, hti, sm, w1, w2, hp⟩ self2 ih
  have hFW := cg_RF sm rfl hF
  have ex : ipos (fun k => rk (b k)) (rk i) i = t → Wp (gjX9_rank_181 self 0 (q : Int) kk (i : Int) (t : Int) (W, R)) Q := by
    intro ep
    unfold gjX9_rank_181
    ((first | ((with_reducible refine w_s hS ?_ ?_ ?_ (fun x hx => ?_)); (focus decide); (focus (first | decide | omega)); (focus (first | decide | (simp only [sl]; omega)))) | ((with_reducible refine w_m hS ?_ ?_ ?_ ?_ ?_ (fun x hx => ?_)); (focus decide); (focus (first | decide | omega)); (focus omega); (focus (first | decide | omega)); (focus (first | decide | (simp only [ml]; omega)))) | (with_reducible refine w_k (by simp (disch := omega) only [w32_id]; exact rfl) ?_; ((with_reducible refine w_s hS ?_ ?_ ?_ (fun x hx => ?_)); (focus decide); (focus (first | decide | omega)); (focus (first | decide | (simp only [sl]; omega))))) | (with_reducible refine w_k (by simp (disch := omega) only [w32_id]; exact rfl) ?_; ((with_reducible refine w_m hS ?_ ?_ ?_ ?_ ?_ (fun x hx => ?_)); (focus decide); (focus (first | decide | omega)); (focus omega); (focus (first | decide | omega)); (focus (first | decide | (simp only [ml]; omega)))))); (try simp (disch := omega) only [Int.reduceToNat, tn_c, tn8, tn8i, tn5, tn5z, tn6, tn6z, tn1, u3_ne, u3_eq, u3_ni, u3_nk, f_100_52 hFW] at hx); subst hx)
    refine w_ss hS (by decide) (by omega) (by simp only [sl]; omega) ?_
    rw [tn_c]
    refine K _ (sm.u ⟨(152, none), by decide, rfl, Or.inl rfl⟩) (fun k hk => ?_)
    rw [ep]
    unfold insn
    by_cases c1 : k < t
    · rw [if_pos c1, u3_nk (by omega)]; exact w1 k c1
    · rw [if_neg c1]
      by_cases c2 : k = t
      · rw [if_pos c2, u3_ek c2]
      · rw [if_neg c2, u3_nk c2]; exact w2 k (by omega) hk
  unfold glX9_rank_130
  refine w_ite (fun z => ex ?_) (fun z => ?_)
  · have e : t = 0 := by omega
    subst e; exact hp
  · obtain ⟨t', rfl⟩ : ∃ t', t = t' + 1 := ⟨t - 1, by omega⟩
    have et : w32 (((t' + 1 : Nat) : Int) - 1) = (t' : Int) := by rw [w32_id (by omega) (by omega)]; omega
    have et2 : w32 (((t' + 1 : Nat) : Int) + (-1)) = (t' : Int) := by rw [w32_id (by omega) (by omega)]; omega
    have bt' := (h2 t' (by omega)).2
    rw [et, et2]
    ((first | ((with_reducible refine w_s hS ?_ ?_ ?_ (fun x hx => ?_)); (focus decide); (focus (first | decide | omega)); (focus (first | decide | (simp only [sl]; omega)))) | ((with_reducible refine w_m hS ?_ ?_ ?_ ?_ ?_ (fun x hx => ?_)); (focus decide); (focus (first | decide | omega)); (focus omega); (focus (first | decide | omega)); (focus (first | decide | (simp only [ml]; omega)))) | (with_reducible refine w_k (by simp (disch := omega) only [w32_id]; exact rfl) ?_; ((with_reducible refine w_s hS ?_ ?_ ?_ (fun x hx => ?_)); (focus decide); (focus (first | decide | omega)); (focus (first | decide | (simp only [sl]; omega))))) | (with_reducible refine w_k (by simp (disch := omega) only [w32_id]; exact rfl) ?_; ((with_reducible refine w_m hS ?_ ?_ ?_ ?_ ?_ (fun x hx => ?_)); (focus decide); (focus (first | decide | omega)); (focus omega); (focus (first | decide | omega)); (focus (first | decide | (simp only [ml]; omega)))))); (try simp (disch := omega) only [Int.reduceToNat, tn_c, tn8, tn8i, tn5, tn5z, tn6, tn6z, tn1, u3_ne, u3_eq, u3_ni, u3_nk, f_100_51 hFW] at hx); subst hx)
    ((first | ((with_reducible refine w_s hS ?_ ?_ ?_ (fun x hx => ?_)); (focus decide); (focus (first | decide | omega)); (focus (first | decide | (simp only [sl]; omega)))) | ((with_reducible refine w_m hS ?_ ?_ ?_ ?_ ?_ (fun x hx => ?_)); (focus decide); (focus (first | decide | omega)); (focus omega); (focus (first | decide | omega)); (focus (first | decide | (simp only [ml]; omega)))) | (with_reducible refine w_k (by simp (disch := omega) only [w32_id]; exact rfl) ?_; ((with_reducible refine w_s hS ?_ ?_ ?_ (fun x hx => ?_)); (focus decide); (focus (first | decide | omega)); (focus (first | decide | (simp only [sl]; omega))))) | (with_reducible refine w_k (by simp (disch := omega) only [w32_id]; exact rfl) ?_; ((with_reducible refine w_m hS ?_ ?_ ?_ ?_ ?_ (fun x hx => ?_)); (focus decide); (focus (first | decide | omega)); (focus omega); (focus (first | decide | omega)); (focus (first | decide | (simp only [ml]; omega)))))); (try simp (disch := omega) only [Int.reduceToNat, tn_c, tn8, tn8i, tn5, tn5z, tn6, tn6z, tn1, u3_ne, u3_eq, u3_ni, u3_nk, f_100_52 hFW] at hx); subst hx)
    ((first | ((with_reducible refine w_s hS ?_ ?_ ?_ (fun x hx => ?_)); (focus decide); (focus (first | decide | omega)); (focus (first | decide | (simp only [sl]; omega)))) | ((with_reducible refine w_m hS ?_ ?_ ?_ ?_ ?_ (fun x hx => ?_)); (focus decide); (focus (first | decide | omega)); (focus omega); (focus (first | decide | omega)); (focus (first | decide | (simp only [ml]; omega)))) | (with_reducible refine w_k (by simp (disch := omega) only [w32_id]; exact rfl) ?_; ((with_reducible refine w_s hS ?_ ?_ ?_ (fun x hx => ?_)); (focus decide); (focus (first | decide | omega)); (focus (first | decide | (simp only [sl]; omega))))) | (with_reducible refine w_k (by simp (disch := omega) only [w32_id]; exact rfl) ?_; ((with_reducible refine w_m hS ?_ ?_ ?_ ?_ ?_ (fun x hx => ?_)); (focus decide); (focus (first | decide | omega)); (focus omega); (focus (first | decide | omega)); (focus (first | decide | (simp only [ml]; omega)))))); (try simp (disch := omega) only [Int.reduceToNat, tn_c, tn8, tn8i, tn5, tn5z, tn6, tn6z, tn1, u3_ne, u3_eq, u3_ni, u3_nk, tn_c, w1 t' (by omega)] at hx); subst hx)
    ((first | ((with_reducible refine w_s hS ?_ ?_ ?_ (fun x hx => ?_)); (focus decide); (focus (first | decide | omega)); (focus (first | decide | (simp only [sl]; omega)))) | ((with_reducible refine w_m hS ?_ ?_ ?_ ?_ ?_ (fun x hx => ?_)); (focus decide); (focus (first | decide | omega)); (focus omega); (focus (first | decide | omega)); (focus (first | decide | (simp only [ml]; omega)))) | (with_reducible refine w_k (by simp (disch := omega) only [w32_id]; exact rfl) ?_; ((with_reducible refine w_s hS ?_ ?_ ?_ (fun x hx => ?_)); (focus decide); (focus (first | decide | omega)); (focus (first | decide | (simp only [sl]; omega))))) | (with_reducible refine w_k (by simp (disch := omega) only [w32_id]; exact rfl) ?_; ((with_reducible refine w_m hS ?_ ?_ ?_ ?_ ?_ (fun x hx => ?_)); (focus decide); (focus (first | decide | omega)); (focus omega); (focus (first | decide | omega)); (focus (first | decide | (simp only [ml]; omega)))))); (try simp (disch := omega) only [Int.reduceToNat, tn_c, tn8, tn8i, tn5, tn5z, tn6, tn6z, tn1, u3_ne, u3_eq, u3_ni, u3_nk, tn_c, sm.r 151 rfl, h1 (b t') (by omega)] at hx); subst hx)
    ((first | ((with_reducible refine w_s hS ?_ ?_ ?_ (fun x hx => ?_)); (focus decide); (focus (first | decide | omega)); (focus (first | decide | (simp only [sl]; omega)))) | ((with_reducible refine w_m hS ?_ ?_ ?_ ?_ ?_ (fun x hx => ?_)); (focus decide); (focus (first | decide | omega)); (focus omega); (focus (first | decide | omega)); (focus (first | decide | (simp only [ml]; omega)))) | (with_reducible refine w_k (by simp (disch := omega) only [w32_id]; exact rfl) ?_; ((with_reducible refine w_s hS ?_ ?_ ?_ (fun x hx => ?_)); (focus decide); (focus (first | decide | omega)); (focus (first | decide | (simp only [sl]; omega))))) | (with_reducible refine w_k (by simp (disch := omega) only [w32_id]; exact rfl) ?_; ((with_reducible refine w_m hS ?_ ?_ ?_ ?_ ?_ (fun x hx => ?_)); (focus decide); (focus (first | decide | omega)); (focus omega); (focus (first | decide | omega)); (focus (first | decide | (simp only [ml]; omega)))))); (try simp (disch := omega) only [Int.reduceToNat, tn_c, tn8, tn8i, tn5, tn5z, tn6, tn6z, tn1, u3_ne, u3_eq, u3_ni, u3_nk, f_100_51 hFW] at hx); subst hx)
    ((first | ((with_reducible refine w_s hS ?_ ?_ ?_ (fun x hx => ?_)); (focus decide); (focus (first | decide | omega)); (focus (first | decide | (simp only [sl]; omega)))) | ((with_reducible refine w_m hS ?_ ?_ ?_ ?_ ?_ (fun x hx => ?_)); (focus decide); (focus (first | decide | omega)); (focus omega); (focus (first | decide | omega)); (focus (first | decide | (simp only [ml]; omega)))) | (with_reducible refine w_k (by simp (disch := omega) only [w32_id]; exact rfl) ?_; ((with_reducible refine w_s hS ?_ ?_ ?_ (fun x hx => ?_)); (focus decide); (focus (first | decide | omega)); (focus (first | decide | (simp only [sl]; omega))))) | (with_reducible refine w_k (by simp (disch := omega) only [w32_id]; exact rfl) ?_; ((with_reducible refine w_m hS ?_ ?_ ?_ ?_ ?_ (fun x hx => ?_)); (focus decide); (focus (first | decide | omega)); (focus omega); (focus (first | decide | omega)); (focus (first | decide | (simp only [ml]; omega)))))); (try simp (disch := omega) only [Int.reduceToNat, tn_c, tn8, tn8i, tn5, tn5z, tn6, tn6z, tn1, u3_ne, u3_eq, u3_ni, u3_nk, tn_c, sm.r 151 rfl, h1 i (by omega)] at hx); subst hx)
    refine w_ite (fun y => ex ?_) (fun y => ?_)
    · rw [lc_le] at y
      rw [hp]; exact ipos_e (by omega)
    · rw [lc_le] at y
      ((first | ((with_reducible refine w_s hS ?_ ?_ ?_ (fun x hx => ?_)); (focus decide); (focus (first | decide | omega)); (focus (first | decide | (simp only [sl]; omega)))) | ((with_reducible refine w_m hS ?_ ?_ ?_ ?_ ?_ (fun x hx => ?_)); (focus decide); (focus (first | decide | omega)); (focus omega); (focus (first | decide | omega)); (focus (first | decide | (simp only [ml]; omega)))) | (with_reducible refine w_k (by simp (disch := omega) only [w32_id]; exact rfl) ?_; ((with_reducible refine w_s hS ?_ ?_ ?_ (fun x hx => ?_)); (focus decide); (focus (first | decide | omega)); (focus (first | decide | (simp only [sl]; omega))))) | (with_reducible refine w_k (by simp (disch := omega) only [w32_id]; exact rfl) ?_; ((with_reducible refine w_m hS ?_ ?_ ?_ ?_ ?_ (fun x hx => ?_)); (focus decide); (focus (first | decide | omega)); (focus omega); (focus (first | decide | omega)); (focus (first | decide | (simp only [ml]; omega)))))); (try simp (disch := omega) only [Int.reduceToNat, tn_c, tn8, tn8i, tn5, tn5z, tn6, tn6z, tn1, u3_ne, u3_eq, u3_ni, u3_nk, f_100_52 hFW] at hx); subst hx)
      ((first | ((with_reducible refine w_s hS ?_ ?_ ?_ (fun x hx => ?_)); (focus decide); (focus (first | decide | omega)); (focus (first | decide | (simp only [sl]; omega)))) | ((with_reducible refine w_m hS ?_ ?_ ?_ ?_ ?_ (fun x hx => ?_)); (focus decide); (focus (first | decide | omega)); (focus omega); (focus (first | decide | omega)); (focus (first | decide | (simp only [ml]; omega)))) | (with_reducible refine w_k (by simp (disch := omega) only [w32_id]; exact rfl) ?_; ((with_reducible refine w_s hS ?_ ?_ ?_ (fun x hx => ?_)); (focus decide); (focus (first | decide | omega)); (focus (first | decide | (simp only [sl]; omega))))) | (with_reducible refine w_k (by simp (disch := omega) only [w32_id]; exact rfl) ?_; ((with_reducible refine w_m hS ?_ ?_ ?_ ?_ ?_ (fun x hx => ?_)); (focus decide); (focus (first | decide | omega)); (focus omega); (focus (first | decide | omega)); (focus (first | decide | (simp only [ml]; omega)))))); (try simp (disch := omega) only [Int.reduceToNat, tn_c, tn8, tn8i, tn5, tn5z, tn6, tn6z, tn1, u3_ne, u3_eq, u3_ni, u3_nk, f_100_52 hFW] at hx); subst hx)
      ((first | ((with_reducible refine w_s hS ?_ ?_ ?_ (fun x hx => ?_)); (focus decide); (focus (first | decide | omega)); (focus (first | decide | (simp only [sl]; omega)))) | ((with_reducible refine w_m hS ?_ ?_ ?_ ?_ ?_ (fun x hx => ?_)); (focus decide); (focus (first | decide | omega)); (focus omega); (focus (first | decide | omega)); (focus (first | decide | (simp only [ml]; omega)))) | (with_reducible refine w_k (by simp (disch := omega) only [w32_id]; exact rfl) ?_; ((with_reducible refine w_s hS ?_ ?_ ?_ (fun x hx => ?_)); (focus decide); (focus (first | decide | omega)); (focus (first | decide | (simp only [sl]; omega))))) | (with_reducible refine w_k (by simp (disch := omega) only [w32_id]; exact rfl) ?_; ((with_reducible refine w_m hS ?_ ?_ ?_ ?_ ?_ (fun x hx => ?_)); (focus decide); (focus (first | decide | omega)); (focus omega); (focus (first | decide | omega)); (focus (first | decide | (simp only [ml]; omega)))))); (try simp (disch := omega) only [Int.reduceToNat, tn_c, tn8, tn8i, tn5, tn5z, tn6, tn6z, tn1, u3_ne, u3_eq, u3_ni, u3_nk, tn_c, w1 t' (by omega)] at hx); subst hx)
      refine w_ss hS (by decide) (by omega) (by simp only [sl]; omega) ?_
      rw [tn_c]
      refine ih _ _ ⟨_, t', rfl, rfl, by omega, sm.u ⟨(152, none), by decide, rfl, Or.inl rfl⟩, fun k hk => ?_, fun k k1 k2 => ?_, ?_⟩ (by omega)
      · rw [u3_nk (by omega)]; exact w1 k (by omega)
      · by_cases e : k = t' + 1
        · rw [u3_ek e, e]; rfl
        · rw [u3_nk e]; exact w2 k (by omega) k2
      · rw [hp]; exact ipos_s (by omega)
def LRK : PL' := [(143, none), (144, none), (145, none), (151, none), (152, none)]
theorem now_top {q h : Nat} (hq : q < rC R 20) (top : V 102 0 q = -1) (hN : NOW V R h) : V 143 0 (6 * q) = V 32 (V 30 h 0).toNat (5 * q) ∧ V 144 0 (6 * q) = V 33 (V 30 h 0).toNat (5 * q) := by
  have hn := hN.1 q hq 0 (by rw [top]; unfold plc; rw [if_pos rfl]; omega)
  rw [top] at hn
  have s0 : slot (-1) 0 = 0 := by unfold slot; rw [if_pos rfl]
  rw [s0, Nat.add_zero, Nat.add_zero] at hn
  exact hn
theorem w_rrank {q k : Nat} (hI : INV IT V R) (hq : q < rC R 20) (top : V 102 0 q = -1) (hd : ∀ g, g < rC R 30 → std V g) (hk : k < rC R 30)
  (K : ∀ W, same V W LRK → Q (((srt (fun _ => True) dT (rkk (slc V q (-1)) (dcl (slc V q (-1))) (hgt V q)) (rC R 30)).1 k : Nat) : Int) (W, R)) : Wp (lh1 (glX9_rank_42 0 (q : Int) (k : Int)) 6000 0 (V, R)) Q := by
  have hS := hI.SH
  obtain ⟨b20, b30, b40, b50⟩ := hI.IN.1
  refine w_for (rC R 30) (fun i G => ∃ W, G = (W, R) ∧ same V W LRK ∧ (∀ g, g < i → W 151 0 g = rkk (slc V q (-1)) (dcl (slc V q (-1))) (hgt V q) g) ∧ ∀ k, k < i → W 152 0 k = (((srt (fun _ => True) dT (rkk (slc V q (-1)) (dcl (slc V q (-1))) (hgt V q)) i).1 k : Nat) : Int)) ?_ (i := 0) (by omega) (by omega) ⟨V, rfl, same.rf V _, fun g h => absurd h (by omega), fun k h => absurd h (by omega)⟩
  rintro i G hi ⟨W, rfl, sm, h1, h2⟩ self ih
  have hIW : INV IT W R := hI.scr (sm.mono (by decide))
  have hFW := hIW.RF
  have n3 := hIW.IN.2.1.2.2.1
  unfold glX9_rank_42
  ((first | ((with_reducible refine w_s hS ?_ ?_ ?_ (fun x hx => ?_)); (focus decide); (focus (first | decide | omega)); (focus (first | decide | (simp only [sl]; omega)))) | ((with_reducible refine w_m hS ?_ ?_ ?_ ?_ ?_ (fun x hx => ?_)); (focus decide); (focus (first | decide | omega)); (focus omega); (focus (first | decide | omega)); (focus (first | decide | (simp only [ml]; omega)))) | (with_reducible refine w_k (by simp (disch := omega) only [w32_id]; exact rfl) ?_; ((with_reducible refine w_s hS ?_ ?_ ?_ (fun x hx => ?_)); (focus decide); (focus (first | decide | omega)); (focus (first | decide | (simp only [sl]; omega))))) | (with_reducible refine w_k (by simp (disch := omega) only [w32_id]; exact rfl) ?_; ((with_reducible refine w_m hS ?_ ?_ ?_ ?_ ?_ (fun x hx => ?_)); (focus decide); (focus (first | decide | omega)); (focus omega); (focus (first | decide | omega)); (focus (first | decide | (simp only [ml]; omega)))))); (try simp (disch := omega) only [Int.reduceToNat, tn_c, tn8, tn8i, tn5, tn5z, tn6, tn6z, tn1, u3_ne, u3_eq, u3_ni, u3_nk, n3] at hx); subst hx)
  refine w_ite (fun hx => ?_) (fun hx => ?_)
  · have ei : i = rC R 30 := by omega
    subst ei
    ((first | ((with_reducible refine w_s hS ?_ ?_ ?_ (fun x hx => ?_)); (focus decide); (focus (first | decide | omega)); (focus (first | decide | (simp only [sl]; omega)))) | ((with_reducible refine w_m hS ?_ ?_ ?_ ?_ ?_ (fun x hx => ?_)); (focus decide); (focus (first | decide | omega)); (focus omega); (focus (first | decide | omega)); (focus (first | decide | (simp only [ml]; omega)))) | (with_reducible refine w_k (by simp (disch := omega) only [w32_id]; exact rfl) ?_; ((with_reducible refine w_s hS ?_ ?_ ?_ (fun x hx => ?_)); (focus decide); (focus (first | decide | omega)); (focus (first | decide | (simp only [sl]; omega))))) | (with_reducible refine w_k (by simp (disch := omega) only [w32_id]; exact rfl) ?_; ((with_reducible refine w_m hS ?_ ?_ ?_ ?_ ?_ (fun x hx => ?_)); (focus decide); (focus (first | decide | omega)); (focus omega); (focus (first | decide | omega)); (focus (first | decide | (simp only [ml]; omega)))))); (try simp (disch := omega) only [Int.reduceToNat, tn_c, tn8, tn8i, tn5, tn5z, tn6, tn6z, tn1, u3_ne, u3_eq, u3_ni, u3_nk, f_100_52 hFW] at hx); subst hx)
    ((first | ((with_reducible refine w_s hS ?_ ?_ ?_ (fun x hx => ?_)); (focus decide); (focus (first | decide | omega)); (focus (first | decide | (simp only [sl]; omega)))) | ((with_reducible refine w_m hS ?_ ?_ ?_ ?_ ?_ (fun x hx => ?_)); (focus decide); (focus (first | decide | omega)); (focus omega); (focus (first | decide | omega)); (focus (first | decide | (simp only [ml]; omega)))) | (with_reducible refine w_k (by simp (disch := omega) only [w32_id]; exact rfl) ?_; ((with_reducible refine w_s hS ?_ ?_ ?_ (fun x hx => ?_)); (focus decide); (focus (first | decide | omega)); (focus (first | decide | (simp only [sl]; omega))))) | (with_reducible refine w_k (by simp (disch := omega) only [w32_id]; exact rfl) ?_; ((with_reducible refine w_m hS ?_ ?_ ?_ ?_ ?_ (fun x hx => ?_)); (focus decide); (focus (first | decide | omega)); (focus omega); (focus (first | decide | omega)); (focus (first | decide | (simp only [ml]; omega)))))); (try simp (disch := omega) only [Int.reduceToNat, tn_c, tn8, tn8i, tn5, tn5z, tn6, tn6z, tn1, u3_ne, u3_eq, u3_ni, u3_nk, tn_c, h2 k hk] at hx); subst hx)
    exact w_ret (K W sm)
  · have hh : i < rC R 30 := by omega
    have hdW : W 30 i 2 = W 100 0 29 := by rw [sm.r 30 rfl, sm.r 100 rfl]; exact hd i hh
    refine w_workOut hIW hh hdW (fun V2 sm2 hI2 hN2 => ?_)
    have sma : same V V2 LRK := sm.tr (sm2.mono (by decide))
    have hF2 := hI2.RF
    have top2 : V2 102 0 q = -1 := by rw [sma.r 102 rfl]; exact top
    have nt := now_top hq top2 hN2
    have ok := (hI2.okr hh (by rw [sm2.r 30 rfl, sm2.r 100 rfl]; exact hdW) hq) 0 (by rw [top2]; unfold plc; rw [if_pos rfl]; omega)
    rw [Nat.add_zero] at ok
    have ev : slc V q (-1) i ↔ V2 33 (V2 30 i 0).toNat (5 * q) = 0 := by rw [slc_n]; unfold vld; rw [sma.r 30 rfl, sma.r 33 rfl]
    have e6 : w32 (6 * (q : Int)) = ((6 * q : Nat) : Int) := by rw [w32_id (by omega) (by omega)]; omega
    have key : ∀ v : Int, v = rkk (slc V q (-1)) (dcl (slc V q (-1))) (hgt V q) i → Wp (gjX9_rank_126 self 0 (q : Int) (k : Int) (i : Int) 0 (i : Int) v (V2, R)) Q := by
      intro v ev
      unfold gjX9_rank_126
      refine w_ss hS (by decide) (by omega) (by simp only [sl]; omega) ?_
      rw [tn_c]
      have sm3 : same V2 (u3 V2 151 0 i v) LRK := (same.rf V2 _).u ⟨(151, none), by decide, rfl, Or.inl rfl⟩
      have l := srt_lt (sel := fun _ => True) (ds := dT) (ht := rkk (slc V q (-1)) (dcl (slc V q (-1))) (hgt V q)) (i := i)
      have r1 : ∀ i, (srt (fun _ => True) dT (rkk (slc V q (-1)) (dcl (slc V q (-1))) (hgt V q)) i).2 = i := by
        intro i
        induction i with
        | zero => rfl
        | succ i ih => rw [srt_1 (sel := fun _ => True) (ds := dT) trivial]; show _ + 1 = _; rw [ih]
      rw [r1] at l
      refine w_rins (k := k) (b := (srt (fun _ => True) dT (rkk (slc V q (-1)) (dcl (slc V q (-1))) (hgt V q)) i).1) (rk := rkk (slc V q (-1)) (dcl (slc V q (-1))) (hgt V q)) hS (cg_RF sm3 rfl hF2) (by omega) (fun g hg => ?_) (fun k' hk' => ⟨?_, (l.2 k' hk').1⟩) (fun W' sm4 h4 => ?_)
      · by_cases e : g = i
        · subst e; rw [u3_eq]; exact ev
        · rw [u3_nk e, sm2.r 151 rfl]; exact h1 g (by omega)
      · rw [u3_ne (by decide), sm2.r 152 rfl]; exact h2 k' hk'
      · refine ih _ hh ⟨W', rfl, sma.tr (sm3.tr (sm4.mono (by decide))), fun g hg => ?_, fun k' hk' => ?_⟩
        · rw [sm4.r 151 rfl]
          by_cases e : g = i
          · subst e; rw [u3_eq]; exact ev
          · rw [u3_nk e, sm2.r 151 rfl]; exact h1 g (by omega)
        · rw [h4 k' hk', srt_1 (sel := fun _ => True) (ds := dT) trivial, r1]
    dsimp only
    rw [e6]
    ((first | ((with_reducible refine w_s hS ?_ ?_ ?_ (fun x hx => ?_)); (focus decide); (focus (first | decide | omega)); (focus (first | decide | (simp only [sl]; omega)))) | ((with_reducible refine w_m hS ?_ ?_ ?_ ?_ ?_ (fun x hx => ?_)); (focus decide); (focus (first | decide | omega)); (focus omega); (focus (first | decide | omega)); (focus (first | decide | (simp only [ml]; omega)))) | (with_reducible refine w_k (by simp (disch := omega) only [w32_id]; exact rfl) ?_; ((with_reducible refine w_s hS ?_ ?_ ?_ (fun x hx => ?_)); (focus decide); (focus (first | decide | omega)); (focus (first | decide | (simp only [sl]; omega))))) | (with_reducible refine w_k (by simp (disch := omega) only [w32_id]; exact rfl) ?_; ((with_reducible refine w_m hS ?_ ?_ ?_ ?_ ?_ (fun x hx => ?_)); (focus decide); (focus (first | decide | omega)); (focus omega); (focus (first | decide | omega)); (focus (first | decide | (simp only [ml]; omega)))))); (try simp (disch := omega) only [Int.reduceToNat, tn_c, tn8, tn8i, tn5, tn5z, tn6, tn6z, tn1, u3_ne, u3_eq, u3_ni, u3_nk, f_100_44 hF2] at hx); subst hx)
    ((first | ((with_reducible refine w_s hS ?_ ?_ ?_ (fun x hx => ?_)); (focus decide); (focus (first | decide | omega)); (focus (first | decide | (simp only [sl]; omega)))) | ((with_reducible refine w_m hS ?_ ?_ ?_ ?_ ?_ (fun x hx => ?_)); (focus decide); (focus (first | decide | omega)); (focus omega); (focus (first | decide | omega)); (focus (first | decide | (simp only [ml]; omega)))) | (with_reducible refine w_k (by simp (disch := omega) only [w32_id]; exact rfl) ?_; ((with_reducible refine w_s hS ?_ ?_ ?_ (fun x hx => ?_)); (focus decide); (focus (first | decide | omega)); (focus (first | decide | (simp only [sl]; omega))))) | (with_reducible refine w_k (by simp (disch := omega) only [w32_id]; exact rfl) ?_; ((with_reducible refine w_m hS ?_ ?_ ?_ ?_ ?_ (fun x hx => ?_)); (focus decide); (focus (first | decide | omega)); (focus omega); (focus (first | decide | omega)); (focus (first | decide | (simp only [ml]; omega)))))); (try simp (disch := omega) only [Int.reduceToNat, tn_c, tn8, tn8i, tn5, tn5z, tn6, tn6z, tn1, u3_ne, u3_eq, u3_ni, u3_nk, tn_c, nt.2] at hx); subst hx)
    refine w_ite (fun z => ?_) (fun z => ?_)
    · have z : V2 33 (V2 30 i 0).toNat (5 * q) = 0 := by omega
      have hs := ev.mpr z
      unfold gjX9_rank_76
      ((first | ((with_reducible refine w_s hS ?_ ?_ ?_ (fun x hx => ?_)); (focus decide); (focus (first | decide | omega)); (focus (first | decide | (simp only [sl]; omega)))) | ((with_reducible refine w_m hS ?_ ?_ ?_ ?_ ?_ (fun x hx => ?_)); (focus decide); (focus (first | decide | omega)); (focus omega); (focus (first | decide | omega)); (focus (first | decide | (simp only [ml]; omega)))) | (with_reducible refine w_k (by simp (disch := omega) only [w32_id]; exact rfl) ?_; ((with_reducible refine w_s hS ?_ ?_ ?_ (fun x hx => ?_)); (focus decide); (focus (first | decide | omega)); (focus (first | decide | (simp only [sl]; omega))))) | (with_reducible refine w_k (by simp (disch := omega) only [w32_id]; exact rfl) ?_; ((with_reducible refine w_m hS ?_ ?_ ?_ ?_ ?_ (fun x hx => ?_)); (focus decide); (focus (first | decide | omega)); (focus omega); (focus (first | decide | omega)); (focus (first | decide | (simp only [ml]; omega)))))); (try simp (disch := omega) only [Int.reduceToNat, tn_c, tn8, tn8i, tn5, tn5z, tn6, tn6z, tn1, u3_ne, u3_eq, u3_ni, u3_nk, f_100_51 hF2] at hx); subst hx)
      refine w_ite (fun _ => ?_) (fun y => absurd rfl y)
      ((first | ((with_reducible refine w_s hS ?_ ?_ ?_ (fun x hx => ?_)); (focus decide); (focus (first | decide | omega)); (focus (first | decide | (simp only [sl]; omega)))) | ((with_reducible refine w_m hS ?_ ?_ ?_ ?_ ?_ (fun x hx => ?_)); (focus decide); (focus (first | decide | omega)); (focus omega); (focus (first | decide | omega)); (focus (first | decide | (simp only [ml]; omega)))) | (with_reducible refine w_k (by simp (disch := omega) only [w32_id]; exact rfl) ?_; ((with_reducible refine w_s hS ?_ ?_ ?_ (fun x hx => ?_)); (focus decide); (focus (first | decide | omega)); (focus (first | decide | (simp only [sl]; omega))))) | (with_reducible refine w_k (by simp (disch := omega) only [w32_id]; exact rfl) ?_; ((with_reducible refine w_m hS ?_ ?_ ?_ ?_ ?_ (fun x hx => ?_)); (focus decide); (focus (first | decide | omega)); (focus omega); (focus (first | decide | omega)); (focus (first | decide | (simp only [ml]; omega)))))); (try simp (disch := omega) only [Int.reduceToNat, tn_c, tn8, tn8i, tn5, tn5z, tn6, tn6z, tn1, u3_ne, u3_eq, u3_ni, u3_nk, f_100_1 hF2] at hx); subst hx)
      ((first | ((with_reducible refine w_s hS ?_ ?_ ?_ (fun x hx => ?_)); (focus decide); (focus (first | decide | omega)); (focus (first | decide | (simp only [sl]; omega)))) | ((with_reducible refine w_m hS ?_ ?_ ?_ ?_ ?_ (fun x hx => ?_)); (focus decide); (focus (first | decide | omega)); (focus omega); (focus (first | decide | omega)); (focus (first | decide | (simp only [ml]; omega)))) | (with_reducible refine w_k (by simp (disch := omega) only [w32_id]; exact rfl) ?_; ((with_reducible refine w_s hS ?_ ?_ ?_ (fun x hx => ?_)); (focus decide); (focus (first | decide | omega)); (focus (first | decide | (simp only [sl]; omega))))) | (with_reducible refine w_k (by simp (disch := omega) only [w32_id]; exact rfl) ?_; ((with_reducible refine w_m hS ?_ ?_ ?_ ?_ ?_ (fun x hx => ?_)); (focus decide); (focus (first | decide | omega)); (focus omega); (focus (first | decide | omega)); (focus (first | decide | (simp only [ml]; omega)))))); (try simp (disch := omega) only [Int.reduceToNat, tn_c, tn8, tn8i, tn5, tn5z, tn6, tn6z, tn1, u3_ne, u3_eq, u3_ni, u3_nk, tn_c, sma.r 101 rfl] at hx); subst hx)
      refine w_ite (fun y => ?_) (fun y => ?_)
      · ((first | ((with_reducible refine w_s hS ?_ ?_ ?_ (fun x hx => ?_)); (focus decide); (focus (first | decide | omega)); (focus (first | decide | (simp only [sl]; omega)))) | ((with_reducible refine w_m hS ?_ ?_ ?_ ?_ ?_ (fun x hx => ?_)); (focus decide); (focus (first | decide | omega)); (focus omega); (focus (first | decide | omega)); (focus (first | decide | (simp only [ml]; omega)))) | (with_reducible refine w_k (by simp (disch := omega) only [w32_id]; exact rfl) ?_; ((with_reducible refine w_s hS ?_ ?_ ?_ (fun x hx => ?_)); (focus decide); (focus (first | decide | omega)); (focus (first | decide | (simp only [sl]; omega))))) | (with_reducible refine w_k (by simp (disch := omega) only [w32_id]; exact rfl) ?_; ((with_reducible refine w_m hS ?_ ?_ ?_ ?_ ?_ (fun x hx => ?_)); (focus decide); (focus (first | decide | omega)); (focus omega); (focus (first | decide | omega)); (focus (first | decide | (simp only [ml]; omega)))))); (try simp (disch := omega) only [Int.reduceToNat, tn_c, tn8, tn8i, tn5, tn5z, tn6, tn6z, tn1, u3_ne, u3_eq, u3_ni, u3_nk, f_100_43 hF2] at hx); subst hx)
        ((first | ((with_reducible refine w_s hS ?_ ?_ ?_ (fun x hx => ?_)); (focus decide); (focus (first | decide | omega)); (focus (first | decide | (simp only [sl]; omega)))) | ((with_reducible refine w_m hS ?_ ?_ ?_ ?_ ?_ (fun x hx => ?_)); (focus decide); (focus (first | decide | omega)); (focus omega); (focus (first | decide | omega)); (focus (first | decide | (simp only [ml]; omega)))) | (with_reducible refine w_k (by simp (disch := omega) only [w32_id]; exact rfl) ?_; ((with_reducible refine w_s hS ?_ ?_ ?_ (fun x hx => ?_)); (focus decide); (focus (first | decide | omega)); (focus (first | decide | (simp only [sl]; omega))))) | (with_reducible refine w_k (by simp (disch := omega) only [w32_id]; exact rfl) ?_; ((with_reducible refine w_m hS ?_ ?_ ?_ ?_ ?_ (fun x hx => ?_)); (focus decide); (focus (first | decide | omega)); (focus omega); (focus (first | decide | omega)); (focus (first | decide | (simp only [ml]; omega)))))); (try simp (disch := omega) only [Int.reduceToNat, tn_c, tn8, tn8i, tn5, tn5z, tn6, tn6z, tn1, u3_ne, u3_eq, u3_ni, u3_nk, tn_c, nt.1] at hx); subst hx)
        refine key _ ?_
        rw [rkk_1 hs]
        unfold hgt
        rw [if_neg y, sma.r 30 rfl, sma.r 32 rfl]
      · ((first | ((with_reducible refine w_s hS ?_ ?_ ?_ (fun x hx => ?_)); (focus decide); (focus (first | decide | omega)); (focus (first | decide | (simp only [sl]; omega)))) | ((with_reducible refine w_m hS ?_ ?_ ?_ ?_ ?_ (fun x hx => ?_)); (focus decide); (focus (first | decide | omega)); (focus omega); (focus (first | decide | omega)); (focus (first | decide | (simp only [ml]; omega)))) | (with_reducible refine w_k (by simp (disch := omega) only [w32_id]; exact rfl) ?_; ((with_reducible refine w_s hS ?_ ?_ ?_ (fun x hx => ?_)); (focus decide); (focus (first | decide | omega)); (focus (first | decide | (simp only [sl]; omega))))) | (with_reducible refine w_k (by simp (disch := omega) only [w32_id]; exact rfl) ?_; ((with_reducible refine w_m hS ?_ ?_ ?_ ?_ ?_ (fun x hx => ?_)); (focus decide); (focus (first | decide | omega)); (focus omega); (focus (first | decide | omega)); (focus (first | decide | (simp only [ml]; omega)))))); (try simp (disch := omega) only [Int.reduceToNat, tn_c, tn8, tn8i, tn5, tn5z, tn6, tn6z, tn1, u3_ne, u3_eq, u3_ni, u3_nk, f_100_43 hF2] at hx); subst hx)
        ((first | ((with_reducible refine w_s hS ?_ ?_ ?_ (fun x hx => ?_)); (focus decide); (focus (first | decide | omega)); (focus (first | decide | (simp only [sl]; omega)))) | ((with_reducible refine w_m hS ?_ ?_ ?_ ?_ ?_ (fun x hx => ?_)); (focus decide); (focus (first | decide | omega)); (focus omega); (focus (first | decide | omega)); (focus (first | decide | (simp only [ml]; omega)))) | (with_reducible refine w_k (by simp (disch := omega) only [w32_id]; exact rfl) ?_; ((with_reducible refine w_s hS ?_ ?_ ?_ (fun x hx => ?_)); (focus decide); (focus (first | decide | omega)); (focus (first | decide | (simp only [sl]; omega))))) | (with_reducible refine w_k (by simp (disch := omega) only [w32_id]; exact rfl) ?_; ((with_reducible refine w_m hS ?_ ?_ ?_ ?_ ?_ (fun x hx => ?_)); (focus decide); (focus (first | decide | omega)); (focus omega); (focus (first | decide | omega)); (focus (first | decide | (simp only [ml]; omega)))))); (try simp (disch := omega) only [Int.reduceToNat, tn_c, tn8, tn8i, tn5, tn5z, tn6, tn6z, tn1, u3_ne, u3_eq, u3_ni, u3_nk, tn_c, nt.1] at hx); subst hx)
        have y : V 101 0 q = 0 := by omega
        have c1 := cod_all hI2 hh (by rw [sm2.r 30 rfl, sm2.r 100 rfl]; exact hdW) hq (by rw [sma.r 101 rfl]; exact y) top2
        obtain ⟨j, hj, ej⟩ := c1.2 z
        refine w_codeNumber hS hF2 hI2.IQ b20 hq (fun j hj e => ?_) (fun hn => absurd ej (hn j hj))
        refine key _ ?_
        have := cidx_at hI2 hq hj e
        rw [rkk_1 hs]
        unfold hgt
        rw [if_pos y, ← this, cidx_cg (V := V) (V' := V2) (sma.r 108 rfl 0), sma.r 30 rfl, sma.r 32 rfl, sma.r 109 rfl]
    · unfold gjX9_rank_76
      ((first | ((with_reducible refine w_s hS ?_ ?_ ?_ (fun x hx => ?_)); (focus decide); (focus (first | decide | omega)); (focus (first | decide | (simp only [sl]; omega)))) | ((with_reducible refine w_m hS ?_ ?_ ?_ ?_ ?_ (fun x hx => ?_)); (focus decide); (focus (first | decide | omega)); (focus omega); (focus (first | decide | omega)); (focus (first | decide | (simp only [ml]; omega)))) | (with_reducible refine w_k (by simp (disch := omega) only [w32_id]; exact rfl) ?_; ((with_reducible refine w_s hS ?_ ?_ ?_ (fun x hx => ?_)); (focus decide); (focus (first | decide | omega)); (focus (first | decide | (simp only [sl]; omega))))) | (with_reducible refine w_k (by simp (disch := omega) only [w32_id]; exact rfl) ?_; ((with_reducible refine w_m hS ?_ ?_ ?_ ?_ ?_ (fun x hx => ?_)); (focus decide); (focus (first | decide | omega)); (focus omega); (focus (first | decide | omega)); (focus (first | decide | (simp only [ml]; omega)))))); (try simp (disch := omega) only [Int.reduceToNat, tn_c, tn8, tn8i, tn5, tn5z, tn6, tn6z, tn1, u3_ne, u3_eq, u3_ni, u3_nk, f_100_51 hF2] at hx); subst hx)
      refine w_ite (fun y => absurd (show (1 : Int) = 0 from y) (by decide)) (fun _ => key _ ?_)
      rw [rkk_0 (fun y => z (by have := ev.mp y; omega))]
theorem T_rank (hI : INV IT V R) (q' k' : Int) : Wp (g_X8_rank 0 q' k' (V, R)) (fun r G => Wp (g_X9_rank 0 q' k' G) (PO r)) := by
  have hS := hI.SH
  have hF := hI.RF
  have hL := hI.IL
  obtain ⟨b20, b30, b40, b50⟩ := hI.IN.1
  obtain ⟨n1, n2', n3, n4, n5, n6, _⟩ := hI.IN.2.1
  unfold g_X8_rank
  refine w_gv (by omega) ?_
  ((first | ((with_reducible refine w_s hS ?_ ?_ ?_ (fun x hx => ?_)); (focus decide); (focus (first | decide | omega)); (focus (first | decide | (simp only [sl]; omega)))) | ((with_reducible refine w_m hS ?_ ?_ ?_ ?_ ?_ (fun x hx => ?_)); (focus decide); (focus (first | decide | omega)); (focus omega); (focus (first | decide | omega)); (focus (first | decide | (simp only [ml]; omega)))) | (with_reducible refine w_k (by simp (disch := omega) only [w32_id]; exact rfl) ?_; ((with_reducible refine w_s hS ?_ ?_ ?_ (fun x hx => ?_)); (focus decide); (focus (first | decide | omega)); (focus (first | decide | (simp only [sl]; omega))))) | (with_reducible refine w_k (by simp (disch := omega) only [w32_id]; exact rfl) ?_; ((with_reducible refine w_m hS ?_ ?_ ?_ ?_ ?_ (fun x hx => ?_)); (focus decide); (focus (first | decide | omega)); (focus omega); (focus (first | decide | omega)); (focus (first | decide | (simp only [ml]; omega)))))); (try simp (disch := omega) only [Int.reduceToNat, tn_c, tn8, tn8i, tn5, tn5z, tn6, tn6z, tn1, u3_ne, u3_eq, u3_ni, u3_nk, f_0_0 hF] at hx); subst hx)
  refine w_qO hS n2' (f_1_0 hF) b20 (fun n hn => l_2 hL hn) (fun q eq hq => ?_) (fun hn => ?_)
  · subst eq
    dsimp only
    have badk : ¬ (0 ≤ k' ∧ k' < (rC R 30 : Int)) → Wp (g_X9_rank 0 (q : Int) k' (V, R)) (PO (-1)) := by
      intro hn
      unfold g_X9_rank
      refine w_gv (by omega) ?_
      refine w_isQ hS n1 b20 (fun q2 e2 hq2 => ?_) (fun hn => absurd (show 0 ≤ (q : Int) ∧ (q : Int) < (rC R 20 : Int) by omega) hn)
      refine w_ite (fun z => absurd (show (1 : Int) = 0 from z) (by decide)) (fun _ => ?_)
      refine w_isH hS n3 b30 (fun h2 e2 hh2 => absurd (show 0 ≤ k' ∧ k' < (rC R 30 : Int) by omega) hn) (fun _ => ?_)
      exact w_ite (fun z => absurd rfl z) (fun _ => w_ret ⟨rfl, hI⟩)
    refine w_ite (fun z => absurd z (by omega)) (fun _ => ?_)
    refine w_ite (fun z => w_ret (badk (by omega))) (fun zk => ?_)
    ((first | ((with_reducible refine w_s hS ?_ ?_ ?_ (fun x hx => ?_)); (focus decide); (focus (first | decide | omega)); (focus (first | decide | (simp only [sl]; omega)))) | ((with_reducible refine w_m hS ?_ ?_ ?_ ?_ ?_ (fun x hx => ?_)); (focus decide); (focus (first | decide | omega)); (focus omega); (focus (first | decide | omega)); (focus (first | decide | (simp only [ml]; omega)))) | (with_reducible refine w_k (by simp (disch := omega) only [w32_id]; exact rfl) ?_; ((with_reducible refine w_s hS ?_ ?_ ?_ (fun x hx => ?_)); (focus decide); (focus (first | decide | omega)); (focus (first | decide | (simp only [sl]; omega))))) | (with_reducible refine w_k (by simp (disch := omega) only [w32_id]; exact rfl) ?_; ((with_reducible refine w_m hS ?_ ?_ ?_ ?_ ?_ (fun x hx => ?_)); (focus decide); (focus (first | decide | omega)); (focus omega); (focus (first | decide | omega)); (focus (first | decide | (simp only [ml]; omega)))))); (try simp (disch := omega) only [Int.reduceToNat, tn_c, tn8, tn8i, tn5, tn5z, tn6, tn6z, tn1, u3_ne, u3_eq, u3_ni, u3_nk, n4] at hx); subst hx)
    refine w_ite (fun zk2 => ?_) (fun z => w_ret (badk (by omega)))
    obtain ⟨k, ek⟩ : ∃ k : Nat, k' = (k : Int) := n_pos (by omega)
    subst ek
    have hk : k < rC R 30 := by omega
    obtain ⟨⟨e0, k0, k5⟩, ⟨e1, t1, t2⟩, _⟩ := (hI.IQ.1 q hq).1
    have head : ∀ (V1 : GV) (r : Int), INV IT V1 R → V1 102 0 q = V 102 0 q → V1 101 0 q = V 101 0 q → (V 102 0 q ≥ 0 ∨ V 101 0 q = 1 → r = -2) → (V 102 0 q = -1 → V 101 0 q ≠ 1 → Wp (lh1 (glX9_rank_42 0 (q : Int) (k : Int)) 6000 0 (V1, R)) (PO r)) → Wp (g_X9_rank 0 (q : Int) (k : Int) (V1, R)) (PO r) := by
      intro V1 r hI1 e102 e101 hr hgo
      have hF1 := hI1.RF
      unfold g_X9_rank
      refine w_gv (by omega) ?_
      refine w_isQ hS hI1.IN.2.1.1 b20 (fun q2 e2 hq2 => ?_) (fun hn => absurd (show 0 ≤ (q : Int) ∧ (q : Int) < (rC R 20 : Int) by omega) hn)
      refine w_ite (fun z => absurd (show (1 : Int) = 0 from z) (by decide)) (fun _ => ?_)
      refine w_isH hS hI1.IN.2.1.2.2.1 b30 (fun h2 e2 hh2 => ?_) (fun hn => absurd (show 0 ≤ (k : Int) ∧ (k : Int) < (rC R 30 : Int) by omega) hn)
      refine w_ite (fun _ => ?_) (fun z => absurd (show (1 : Int) ≠ 0 by decide) z)
      dsimp only
      ((first | ((with_reducible refine w_s hS ?_ ?_ ?_ (fun x hx => ?_)); (focus decide); (focus (first | decide | omega)); (focus (first | decide | (simp only [sl]; omega)))) | ((with_reducible refine w_m hS ?_ ?_ ?_ ?_ ?_ (fun x hx => ?_)); (focus decide); (focus (first | decide | omega)); (focus omega); (focus (first | decide | omega)); (focus (first | decide | (simp only [ml]; omega)))) | (with_reducible refine w_k (by simp (disch := omega) only [w32_id]; exact rfl) ?_; ((with_reducible refine w_s hS ?_ ?_ ?_ (fun x hx => ?_)); (focus decide); (focus (first | decide | omega)); (focus (first | decide | (simp only [sl]; omega))))) | (with_reducible refine w_k (by simp (disch := omega) only [w32_id]; exact rfl) ?_; ((with_reducible refine w_m hS ?_ ?_ ?_ ?_ ?_ (fun x hx => ?_)); (focus decide); (focus (first | decide | omega)); (focus omega); (focus (first | decide | omega)); (focus (first | decide | (simp only [ml]; omega)))))); (try simp (disch := omega) only [Int.reduceToNat, tn_c, tn8, tn8i, tn5, tn5z, tn6, tn6z, tn1, u3_ne, u3_eq, u3_ni, u3_nk, f_100_2 hF1] at hx); subst hx)
      ((first | ((with_reducible refine w_s hS ?_ ?_ ?_ (fun x hx => ?_)); (focus decide); (focus (first | decide | omega)); (focus (first | decide | (simp only [sl]; omega)))) | ((with_reducible refine w_m hS ?_ ?_ ?_ ?_ ?_ (fun x hx => ?_)); (focus decide); (focus (first | decide | omega)); (focus omega); (focus (first | decide | omega)); (focus (first | decide | (simp only [ml]; omega)))) | (with_reducible refine w_k (by simp (disch := omega) only [w32_id]; exact rfl) ?_; ((with_reducible refine w_s hS ?_ ?_ ?_ (fun x hx => ?_)); (focus decide); (focus (first | decide | omega)); (focus (first | decide | (simp only [sl]; omega))))) | (with_reducible refine w_k (by simp (disch := omega) only [w32_id]; exact rfl) ?_; ((with_reducible refine w_m hS ?_ ?_ ?_ ?_ ?_ (fun x hx => ?_)); (focus decide); (focus (first | decide | omega)); (focus omega); (focus (first | decide | omega)); (focus (first | decide | (simp only [ml]; omega)))))); (try simp (disch := omega) only [Int.reduceToNat, tn_c, tn8, tn8i, tn5, tn5z, tn6, tn6z, tn1, u3_ne, u3_eq, u3_ni, u3_nk, tn_c, e102] at hx); subst hx)
      refine w_ite (fun z => w_ret ⟨hr (Or.inl z), hI1⟩) (fun z => ?_)
      ((first | ((with_reducible refine w_s hS ?_ ?_ ?_ (fun x hx => ?_)); (focus decide); (focus (first | decide | omega)); (focus (first | decide | (simp only [sl]; omega)))) | ((with_reducible refine w_m hS ?_ ?_ ?_ ?_ ?_ (fun x hx => ?_)); (focus decide); (focus (first | decide | omega)); (focus omega); (focus (first | decide | omega)); (focus (first | decide | (simp only [ml]; omega)))) | (with_reducible refine w_k (by simp (disch := omega) only [w32_id]; exact rfl) ?_; ((with_reducible refine w_s hS ?_ ?_ ?_ (fun x hx => ?_)); (focus decide); (focus (first | decide | omega)); (focus (first | decide | (simp only [sl]; omega))))) | (with_reducible refine w_k (by simp (disch := omega) only [w32_id]; exact rfl) ?_; ((with_reducible refine w_m hS ?_ ?_ ?_ ?_ ?_ (fun x hx => ?_)); (focus decide); (focus (first | decide | omega)); (focus omega); (focus (first | decide | omega)); (focus (first | decide | (simp only [ml]; omega)))))); (try simp (disch := omega) only [Int.reduceToNat, tn_c, tn8, tn8i, tn5, tn5z, tn6, tn6z, tn1, u3_ne, u3_eq, u3_ni, u3_nk, f_100_1 hF1] at hx); subst hx)
      ((first | ((with_reducible refine w_s hS ?_ ?_ ?_ (fun x hx => ?_)); (focus decide); (focus (first | decide | omega)); (focus (first | decide | (simp only [sl]; omega)))) | ((with_reducible refine w_m hS ?_ ?_ ?_ ?_ ?_ (fun x hx => ?_)); (focus decide); (focus (first | decide | omega)); (focus omega); (focus (first | decide | omega)); (focus (first | decide | (simp only [ml]; omega)))) | (with_reducible refine w_k (by simp (disch := omega) only [w32_id]; exact rfl) ?_; ((with_reducible refine w_s hS ?_ ?_ ?_ (fun x hx => ?_)); (focus decide); (focus (first | decide | omega)); (focus (first | decide | (simp only [sl]; omega))))) | (with_reducible refine w_k (by simp (disch := omega) only [w32_id]; exact rfl) ?_; ((with_reducible refine w_m hS ?_ ?_ ?_ ?_ ?_ (fun x hx => ?_)); (focus decide); (focus (first | decide | omega)); (focus omega); (focus (first | decide | omega)); (focus (first | decide | (simp only [ml]; omega)))))); (try simp (disch := omega) only [Int.reduceToNat, tn_c, tn8, tn8i, tn5, tn5z, tn6, tn6z, tn1, u3_ne, u3_eq, u3_ni, u3_nk, tn_c, e101] at hx); subst hx)
      refine w_ite (fun y => hgo (by omega) y) (fun y => w_ret ⟨hr (Or.inr (by omega)), hI1⟩)
    ((first | ((with_reducible refine w_s hS ?_ ?_ ?_ (fun x hx => ?_)); (focus decide); (focus (first | decide | omega)); (focus (first | decide | (simp only [sl]; omega)))) | ((with_reducible refine w_m hS ?_ ?_ ?_ ?_ ?_ (fun x hx => ?_)); (focus decide); (focus (first | decide | omega)); (focus omega); (focus (first | decide | omega)); (focus (first | decide | (simp only [ml]; omega)))) | (with_reducible refine w_k (by simp (disch := omega) only [w32_id]; exact rfl) ?_; ((with_reducible refine w_s hS ?_ ?_ ?_ (fun x hx => ?_)); (focus decide); (focus (first | decide | omega)); (focus (first | decide | (simp only [sl]; omega))))) | (with_reducible refine w_k (by simp (disch := omega) only [w32_id]; exact rfl) ?_; ((with_reducible refine w_m hS ?_ ?_ ?_ ?_ ?_ (fun x hx => ?_)); (focus decide); (focus (first | decide | omega)); (focus omega); (focus (first | decide | omega)); (focus (first | decide | (simp only [ml]; omega)))))); (try simp (disch := omega) only [Int.reduceToNat, tn_c, tn8, tn8i, tn5, tn5z, tn6, tn6z, tn1, u3_ne, u3_eq, u3_ni, u3_nk, e1] at hx); subst hx)
    refine w_ite (fun z => w_ret (head V (-2) hI rfl rfl (fun _ => rfl) (fun h => absurd h z))) (fun z => ?_)
    have top : V 102 0 q = -1 := by omega
    ((first | ((with_reducible refine w_s hS ?_ ?_ ?_ (fun x hx => ?_)); (focus decide); (focus (first | decide | omega)); (focus (first | decide | (simp only [sl]; omega)))) | ((with_reducible refine w_m hS ?_ ?_ ?_ ?_ ?_ (fun x hx => ?_)); (focus decide); (focus (first | decide | omega)); (focus omega); (focus (first | decide | omega)); (focus (first | decide | (simp only [ml]; omega)))) | (with_reducible refine w_k (by simp (disch := omega) only [w32_id]; exact rfl) ?_; ((with_reducible refine w_s hS ?_ ?_ ?_ (fun x hx => ?_)); (focus decide); (focus (first | decide | omega)); (focus (first | decide | (simp only [sl]; omega))))) | (with_reducible refine w_k (by simp (disch := omega) only [w32_id]; exact rfl) ?_; ((with_reducible refine w_m hS ?_ ?_ ?_ ?_ ?_ (fun x hx => ?_)); (focus decide); (focus (first | decide | omega)); (focus omega); (focus (first | decide | omega)); (focus (first | decide | (simp only [ml]; omega)))))); (try simp (disch := omega) only [Int.reduceToNat, tn_c, tn8, tn8i, tn5, tn5z, tn6, tn6z, tn1, u3_ne, u3_eq, u3_ni, u3_nk, e0] at hx); subst hx)
    refine w_ite (fun y => ?_) (fun y => w_ret (head V (-2) hI rfl rfl (fun _ => rfl) (fun _ h => absurd (by omega) h)))
    refine w_sortR (c := -1) hI hq top (Or.inl rfl) (fun V1 hI1 hd1 top1 k1 _ ha => ?_)
    have hF1 := hI1.RF
    have hm : ∀ g, g < rC R 30 → slc V1 q (-1) g → hgt V1 q g < 9223372036854775807 := by
      intro g hg hs
      have ok := (hI1.okr hg (hd1 g hg) hq) 0 (by rw [top1]; unfold plc; rw [if_pos rfl]; omega)
      rw [Nat.add_zero] at ok
      unfold hgt
      by_cases c : V1 101 0 q = 0
      · rw [if_pos c]
        have c1 := cod_all hI1 hg (hd1 g hg) hq c top1
        obtain ⟨j, hj, ej⟩ := c1.2 hs.1
        rw [cidx_at hI1 hq hj ej]
        have := (hI1.IQ.1 q hq).1.2.2.2.1
        omega
      · rw [if_neg c]; omega
    -- the heights of those that are there, and a small one elsewhere
    have rk := rank_eq (sel := fun g => slc V1 q (-1) g ∧ g < rC R 30) (ds := dcl _) (ht := hgt V1 q) (fun g hg => hm g hg.2 hg.1) (i := rC R 30)
    have c1 := srt_cg (sel := fun g => slc V1 q (-1) g ∧ g < rC R 30) (sel' := slc V1 q (-1)) (ds := dcl _) (ds' := dcl (slc V1 q (-1))) (ht := hgt V1 q) (ht' := hgt V1 q) (i := rC R 30) (fun g hg => ⟨⟨fun z => ⟨z, hg⟩, fun z => z.1⟩, fun _ => rfl⟩)
    have c2 := srt_cg (sel := fun _ => True) (sel' := fun _ => True) (ds := dT) (ds' := dT) (ht := rkk (fun g => slc V1 q (-1) g ∧ g < rC R 30) (dcl _) (hgt V1 q)) (ht' := rkk (slc V1 q (-1)) (dcl (slc V1 q (-1))) (hgt V1 q)) (i := rC R 30) (fun g hg => ⟨Iff.rfl, fun _ => by
      by_cases c : slc V1 q (-1) g
      · rw [rkk_1 c, rkk_1 (sel := fun g => slc V1 q (-1) g ∧ g < rC R 30) ⟨c, hg⟩]
      · rw [rkk_0 c, rkk_0 (sel := fun g => slc V1 q (-1) g ∧ g < rC R 30) (fun z => c z.1)]⟩)
    have c3 : ∀ i, i ≤ rC R 30 → mct (fun g => slc V1 q (-1) g ∧ g < rC R 30) (dcl _) i = mct (slc V1 q (-1)) (dcl (slc V1 q (-1))) i := by
      intro i
      induction i with
      | zero => intro _; rfl
      | succ i ih =>
        intro hi
        by_cases c : slc V1 q (-1) i
        · rw [mct_1 c, mct_1 (sel := fun g => slc V1 q (-1) g ∧ g < rC R 30) ⟨c, by omega⟩, ih (by omega)]
        · rw [mct_0 c, mct_0 (sel := fun g => slc V1 q (-1) g ∧ g < rC R 30) (fun z => c z.1), ih (by omega)]
    obtain ⟨r1, r2, r3, r4, r5⟩ := rk
    rw [c3 _ (Nat.le_refl _), ← c1.1] at r2
    rw [r1] at c2
    have hn2 : (srs V1 q (-1) (rC R 30)).2 = (srt (slc V1 q (-1)) (dcl (slc V1 q (-1))) (hgt V1 q) (rC R 30)).2 := rfl
    rw [← hn2] at r2
    have fin : ∀ r : Int, r = (((srt (fun _ => True) dT (rkk (slc V1 q (-1)) (dcl (slc V1 q (-1))) (hgt V1 q)) (rC R 30)).1 k : Nat) : Int) → Wp (g_X9_rank 0 (q : Int) (k : Int) (V1, R)) (PO r) := by
      intro r er
      refine head V1 r hI1 (top1.trans top.symm) k1 (fun z => ?_) (fun _ _ => ?_)
      · rcases z with z | z
        · omega
        · exact absurd z y
      · refine w_rrank hI1 hq top1 hd1 hk (fun W sm => ⟨er, hI1.scr (sm.mono (by decide))⟩)
    dsimp only
    refine w_ite (fun w => ?_) (fun w => ?_)
    · have w : (srs V1 q (-1) (rC R 30)).2 ≤ k := by omega
      have ex : w32 ((k : Int) - ((srs V1 q (-1) (rC R 30)).2 : Nat)) = ((k - (srs V1 q (-1) (rC R 30)).2 : Nat) : Int) := by rw [w32_id (by omega) (by omega)]; omega
      rw [ex]
      refine w_missingAt hI1 hq (by omega) (fun g hg hns hx => w_ret (fin _ ?_))
      have h5 := r5 g hg (fun z => hns z.1)
      rw [c3 g (by omega), ← c1.1, ← hn2, hx, show (srs V1 q (-1) (rC R 30)).2 + (k - (srs V1 q (-1) (rC R 30)).2) = k by omega] at h5
      rw [c2.2 k hk, h5]
    · have w : k < (srs V1 q (-1) (rC R 30)).2 := by omega
      ((first | ((with_reducible refine w_s hS ?_ ?_ ?_ (fun x hx => ?_)); (focus decide); (focus (first | decide | omega)); (focus (first | decide | (simp only [sl]; omega)))) | ((with_reducible refine w_m hS ?_ ?_ ?_ ?_ ?_ (fun x hx => ?_)); (focus decide); (focus (first | decide | omega)); (focus omega); (focus (first | decide | omega)); (focus (first | decide | (simp only [ml]; omega)))) | (with_reducible refine w_k (by simp (disch := omega) only [w32_id]; exact rfl) ?_; ((with_reducible refine w_s hS ?_ ?_ ?_ (fun x hx => ?_)); (focus decide); (focus (first | decide | omega)); (focus (first | decide | (simp only [sl]; omega))))) | (with_reducible refine w_k (by simp (disch := omega) only [w32_id]; exact rfl) ?_; ((with_reducible refine w_m hS ?_ ?_ ?_ ?_ ?_ (fun x hx => ?_)); (focus decide); (focus (first | decide | omega)); (focus omega); (focus (first | decide | omega)); (focus (first | decide | (simp only [ml]; omega)))))); (try simp (disch := omega) only [Int.reduceToNat, tn_c, tn8, tn8i, tn5, tn5z, tn6, tn6z, tn1, u3_ne, u3_eq, u3_ni, u3_nk, f_0_7 hF1] at hx); subst hx)
      ((first | ((with_reducible refine w_s hS ?_ ?_ ?_ (fun x hx => ?_)); (focus decide); (focus (first | decide | omega)); (focus (first | decide | (simp only [sl]; omega)))) | ((with_reducible refine w_m hS ?_ ?_ ?_ ?_ ?_ (fun x hx => ?_)); (focus decide); (focus (first | decide | omega)); (focus omega); (focus (first | decide | omega)); (focus (first | decide | (simp only [ml]; omega)))) | (with_reducible refine w_k (by simp (disch := omega) only [w32_id]; exact rfl) ?_; ((with_reducible refine w_s hS ?_ ?_ ?_ (fun x hx => ?_)); (focus decide); (focus (first | decide | omega)); (focus (first | decide | (simp only [sl]; omega))))) | (with_reducible refine w_k (by simp (disch := omega) only [w32_id]; exact rfl) ?_; ((with_reducible refine w_m hS ?_ ?_ ?_ ?_ ?_ (fun x hx => ?_)); (focus decide); (focus (first | decide | omega)); (focus omega); (focus (first | decide | omega)); (focus (first | decide | (simp only [ml]; omega)))))); (try simp (disch := omega) only [Int.reduceToNat, tn_c, tn8, tn8i, tn5, tn5z, tn6, tn6z, tn1, u3_ne, u3_eq, u3_ni, u3_nk, tn_c, ha k w] at hx); subst hx)
      refine w_ret (fin _ ?_)
      have w' : k < (srt (fun g => slc V1 q (-1) g ∧ g < rC R 30) (dcl _) (hgt V1 q) (rC R 30)).2 := by rw [← c1.1, ← hn2]; exact w
      rw [c2.2 k hk, r3 k w', ← c1.2 k w']
      rfl
  · refine w_ite (fun _ => w_ret ?_) (fun z => absurd rfl z)
    unfold g_X9_rank
    refine w_gv (by omega) ?_
    refine w_isQ hS n1 b20 (fun q2 e2 hq2 => absurd (show 0 ≤ q' ∧ q' < (rC R 20 : Int) by omega) hn) (fun _ => ?_)
    exact w_ite (fun _ => w_ret ⟨rfl, hI⟩) (fun z => absurd rfl z)
end RRank
