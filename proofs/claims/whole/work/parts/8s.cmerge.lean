section Merge
variable {V : GV} {R : GR} {Q : Int → GS → Prop}
theorem lst_len0 {F : Nat → List H3} : ∀ {n : Nat}, (lst F n).length = 0 → ∀ i, i < n → (F i).length = 0
  | 0, _, i, hi => absurd hi (by omega)
  | n + 1, h, i, hi => by
    have h' : (lst F n ++ F n).length = 0 := h
    rw [List.length_append] at h'
    by_cases e : i = n
    · subst e; omega
    · exact lst_len0 (n := n) (by omega) i (by omega)
theorem one_len0 {c : Prop} {x : H3} (h : (one c x).length = 0) : ¬ c := by
  intro z
  rw [one_t z] at h
  simp at h
theorem tk_none {n s t : Nat} (h : (mgh V n s t).length = 0) {q p : Nat} (hp : p < 5) : ¬ tk V n s t q p := by
  intro z
  have h1 := lst_len0 h q z.1
  exact one_len0 (lst_len0 h1 p hp) z
noncomputable def mga (V : GV) (n e h : Nat) : List H3 := mgh V n (V 30 h 0).toNat (V 51 e h).toNat
def CM (V W : GV) (R : GR) (n e i : Nat) : Prop := (∀ r j k, (r ≠ 32 ∧ r ≠ 33 ∧ (r ≠ 30 ∨ k ≠ 2)) → W r j k = V r j k) ∧ (∀ s k, (∀ h, h < i → s ≠ (V 30 h 0).toNat) → W 32 s k = V 32 s k ∧ W 33 s k = V 33 s k) ∧
  (∀ h, h < i → ∀ q p, p < 5 → (tk V n (V 30 h 0).toNat (V 51 e h).toNat q p → W 32 (V 30 h 0).toNat (5 * q + p) = V 32 (V 51 e h).toNat (5 * q + p) ∧ W 33 (V 30 h 0).toNat (5 * q + p) = 0) ∧ (¬ tk V n (V 30 h 0).toNat (V 51 e h).toNat q p → W 32 (V 30 h 0).toNat (5 * q + p) = V 32 (V 30 h 0).toNat (5 * q + p) ∧ W 33 (V 30 h 0).toNat (5 * q + p) = V 33 (V 30 h 0).toNat (5 * q + p))) ∧
  (∀ h, h < rC R 30 → W 30 h 2 = 0 ∨ (W 30 h 2 = V 30 h 2 ∧ (h < i → ∀ q p, p < 5 → ¬ tk V n (V 30 h 0).toNat (V 51 e h).toNat q p)))
theorem w_cmerge {e n : Nat} {f : Int → GS → Prop} (hI : INV IT V R) (he : e < rC R 50) (en : V 50 e 1 = (n : Int)) (K : ∀ W, CM V W R n e (rN R 51 e) → f ((lst (mga V n e) (rN R 51 e)).length : Int) (W, R)) : Wp (lh2 (glX8_merge_31 0 (e : Int) ((rN R 51 e : Nat) : Int)) 6000 0 0 (V, R)) f := by
  have hS := hI.SH
  have hF := hI.RF
  have hL := hI.IL
  obtain ⟨b20, b30, b40, b50⟩ := hI.IN.1
  obtain ⟨⟨_, d2⟩, ⟨_, c0, c1⟩, _⟩ := hI.IE e he
  have hn : n ≤ rC R 20 := by omega
  refine w_for2 (rN R 51 e) (fun i a G => ∃ W, G = (W, R) ∧ CM V W R n e i ∧ a = ((lst (mga V n e) i).length : Int)) ?_ (i := 0) (by omega) (by omega) ⟨V, rfl, ⟨fun _ _ _ _ => rfl, fun _ _ _ => ⟨rfl, rfl⟩, fun h hh => absurd hh (by omega), fun h _ => Or.inr ⟨rfl, fun z => absurd z (by omega)⟩⟩, rfl⟩
  rintro i a G hi ⟨W, rfl, ⟨m1, m2, m3, m4⟩, ea⟩ self ih
  have l1 := lst_len (F := mga V n e) (m := 120) (n := i) (fun h _ => by
    have := mgh_len (V := V) (n := n) (s := (V 30 h 0).toNat) (t := (V 51 e h).toNat)
    unfold mga; omega)
  unfold glX8_merge_31 gjX8_merge_63
  refine w_ite (fun hx => w_ret ?_) (fun hx => ?_)
  · have ei : i = rN R 51 e := by omega
    rw [ea, ei]
    rw [ei] at m2 m3 m4
    exact K W ⟨m1, m2, m3, m4⟩
  · have hi51 : i < rN R 51 e := by omega
    have hi30 : i < rC R 30 := by omega
    obtain ⟨s, es, es', hk⟩ := hI.sht hi30
    obtain ⟨t, n', et, et', en', hkt, hn', ar⟩ := hI.esh he hi51
    have : n' = n := by omega
    subst this
    obtain ⟨q0, _, dd⟩ := hI.IHs.2.2 e i he hi51
    have hst : s ≠ t := fun z => dd i hi30 (by omega)
    have w32s : ∀ k, W 32 s k = V 32 s k ∧ W 33 s k = V 33 s k := fun k => m2 s k (fun h hh z => by
      have := hI.sh_ne (g := i) (h := h) hi30 (by omega) (by omega)
      rw [es'] at this
      exact this z)
    have w32t : ∀ k, W 32 t k = V 32 t k ∧ W 33 t k = V 33 t k := fun k => m2 t k (fun h hh z => by
      have := dd h (by omega)
      have := (hI.IHs.1 h (by omega)).1
      omega)
    refine w_bringBack hI he hi51 es et en hn hst hk hkt ar hi30 m1 (fun k => ⟨(w32s k).1, (w32s k).2, (w32t k).1, (w32t k).2⟩) (fun U fru hu => ?_)
    have lm : (lst (mga V n' e) (i + 1)).length = (lst (mga V n' e) i).length + (mgh V n' s t).length := by
      show (lst (mga V n' e) i ++ mga V n' e i).length = _
      rw [List.length_append]
      unfold mga
      rw [es', et']
    have lb := mgh_len (V := V) (n := n') (s := s) (t := t)
    -- both ends of the step
    have next : ∀ Y : GV, (∀ r j k, (r ≠ 30 ∨ j ≠ i ∨ k ≠ 2) → Y r j k = U r j k) → (Y 30 i 2 = 0 ∨ (Y 30 i 2 = V 30 i 2 ∧ (mgh V n' s t).length = 0)) → CM V Y R n' e (i + 1) := by
      intro Y fy hy
      have y0 : ∀ r j k, r ≠ 30 → Y r j k = U r j k := fun r j k h => fy r j k (Or.inl h)
      refine ⟨fun r j k h => ?_, fun s2 k h => ?_, fun h hh q p hp => ?_, fun h hh => ?_⟩
      · rw [fy r j k (by rcases h.2.2 with z | z; exact Or.inl z; exact Or.inr (Or.inr z)), fru r j k (fun z => by rcases z.1 with y | y; exact h.1 y; exact h.2.1 y)]
        exact m1 r j k h
      · have ns : s2 ≠ s := fun z => h i (Nat.lt_succ_self i) (by rw [es']; exact z)
        rw [y0 32 s2 k (by decide), y0 33 s2 k (by decide), fru 32 s2 k (fun z => ns z.2), fru 33 s2 k (fun z => ns z.2)]
        exact m2 s2 k (fun h' hh' => h h' (by omega))
      · by_cases eh : h = i
        · subst eh
          rw [es', et', y0 32 s _ (by decide), y0 33 s _ (by decide)]
          exact hu q p hp
        · have ns : (V 30 h 0).toNat ≠ s := by
            have := hI.sh_ne (g := h) (h := i) (by omega) hi30 eh
            rw [es'] at this; exact this
          rw [y0 32 _ _ (by decide), y0 33 _ _ (by decide), fru 32 _ _ (fun z => ns z.2), fru 33 _ _ (fun z => ns z.2)]
          exact m3 h (by omega) q p hp
      · by_cases eh : h = i
        · subst eh
          rcases hy with hy | ⟨hy, hz⟩
          · exact Or.inl hy
          · refine Or.inr ⟨hy, fun _ q p hp => ?_⟩
            rw [es', et']; exact tk_none hz hp
        · rw [fy 30 h 2 (Or.inr (Or.inl eh)), fru 30 h 2 (fun z => by rcases z.1 with y | y; exact absurd y (by decide); exact absurd y (by decide))]
          rcases m4 h hh with z | ⟨z, w⟩
          · exact Or.inl z
          · exact Or.inr ⟨z, fun v => w (by omega)⟩
    have u30 : U 30 i 2 = W 30 i 2 := fru 30 i 2 (fun z => by rcases z.1 with y | y; exact absurd y (by decide); exact absurd y (by decide))
    have wi : W 30 i 2 = 0 ∨ W 30 i 2 = V 30 i 2 := by
      rcases m4 i hi30 with z | z
      · exact Or.inl z
      · exact Or.inr z.1
    have t0 := (hI.IS i hi30).1
    refine w_ite (fun z => ?_) (fun z => ?_)
    · rw [w32_id (by omega) (by omega)]
      refine ih _ _ hi51 ⟨U, rfl, next U (fun _ _ _ _ => rfl) ?_, by rw [ea, lm]; omega⟩
      have hz : (mgh V n' s t).length = 0 := by omega
      rw [u30]
      rcases wi with w | w
      · exact Or.inl w
      · exact Or.inr ⟨w, hz⟩
    · have u0 : ∀ r j k, (r ≠ 32 ∧ r ≠ 33 ∧ r ≠ 30) → U r j k = V r j k := fun r j k h => by
        rw [fru r j k (fun z => by rcases z.1 with y | y; exact h.1 y; exact h.2.1 y)]; exact m1 r j k ⟨h.1, h.2.1, Or.inl h.2.2⟩
      ((first | ((with_reducible refine w_s hS ?_ ?_ ?_ (fun x hx => ?_)); (focus decide); (focus (first | decide | omega)); (focus (first | decide | (simp only [sl]; omega)))) | ((with_reducible refine w_m hS ?_ ?_ ?_ ?_ ?_ (fun x hx => ?_)); (focus decide); (focus (first | decide | omega)); (focus omega); (focus (first | decide | omega)); (focus (first | decide | (simp only [ml]; omega)))) | (with_reducible refine w_k (by simp (disch := omega) only [w32_id]; exact rfl) ?_; ((with_reducible refine w_s hS ?_ ?_ ?_ (fun x hx => ?_)); (focus decide); (focus (first | decide | omega)); (focus (first | decide | (simp only [sl]; omega))))) | (with_reducible refine w_k (by simp (disch := omega) only [w32_id]; exact rfl) ?_; ((with_reducible refine w_m hS ?_ ?_ ?_ ?_ ?_ (fun x hx => ?_)); (focus decide); (focus (first | decide | omega)); (focus omega); (focus (first | decide | omega)); (focus (first | decide | (simp only [ml]; omega)))))); (try simp (disch := omega) only [Int.reduceToNat, tn_c, tn8, tn8i, tn5, tn5z, tn6, tn6z, tn1, u3_ne, u3_eq, u3_ni, u3_nk, u0 0 _ _ (by decide), f_0_1 hF] at hx); subst hx)
      ((first | ((with_reducible refine w_s hS ?_ ?_ ?_ (fun x hx => ?_)); (focus decide); (focus (first | decide | omega)); (focus (first | decide | (simp only [sl]; omega)))) | ((with_reducible refine w_m hS ?_ ?_ ?_ ?_ ?_ (fun x hx => ?_)); (focus decide); (focus (first | decide | omega)); (focus omega); (focus (first | decide | omega)); (focus (first | decide | (simp only [ml]; omega)))) | (with_reducible refine w_k (by simp (disch := omega) only [w32_id]; exact rfl) ?_; ((with_reducible refine w_s hS ?_ ?_ ?_ (fun x hx => ?_)); (focus decide); (focus (first | decide | omega)); (focus (first | decide | (simp only [sl]; omega))))) | (with_reducible refine w_k (by simp (disch := omega) only [w32_id]; exact rfl) ?_; ((with_reducible refine w_m hS ?_ ?_ ?_ ?_ ?_ (fun x hx => ?_)); (focus decide); (focus (first | decide | omega)); (focus omega); (focus (first | decide | omega)); (focus (first | decide | (simp only [ml]; omega)))))); (try simp (disch := omega) only [Int.reduceToNat, tn_c, tn8, tn8i, tn5, tn5z, tn6, tn6z, tn1, u3_ne, u3_eq, u3_ni, u3_nk, u0 5 _ _ (by decide), l_5 hL] at hx); subst hx)
      have U2 : Wp ((g_X4_unsettle (i : Int) 0 (U, R)).bind fun z4 => self (w32 (a + ((mgh V n' s t).length : Int))) (w32 ((i : Int) + 1)) z4.2) f := by
        refine w_bind ?_
        unfold g_X4_unsettle
        refine w_gv (by omega) ?_
        ((first | ((with_reducible refine w_s hS ?_ ?_ ?_ (fun x hx => ?_)); (focus decide); (focus (first | decide | omega)); (focus (first | decide | (simp only [sl]; omega)))) | ((with_reducible refine w_m hS ?_ ?_ ?_ ?_ ?_ (fun x hx => ?_)); (focus decide); (focus (first | decide | omega)); (focus omega); (focus (first | decide | omega)); (focus (first | decide | (simp only [ml]; omega)))) | (with_reducible refine w_k (by simp (disch := omega) only [w32_id]; exact rfl) ?_; ((with_reducible refine w_s hS ?_ ?_ ?_ (fun x hx => ?_)); (focus decide); (focus (first | decide | omega)); (focus (first | decide | (simp only [sl]; omega))))) | (with_reducible refine w_k (by simp (disch := omega) only [w32_id]; exact rfl) ?_; ((with_reducible refine w_m hS ?_ ?_ ?_ ?_ ?_ (fun x hx => ?_)); (focus decide); (focus (first | decide | omega)); (focus omega); (focus (first | decide | omega)); (focus (first | decide | (simp only [ml]; omega)))))); (try simp (disch := omega) only [Int.reduceToNat, tn_c, tn8, tn8i, tn5, tn5z, tn6, tn6z, tn1, u3_ne, u3_eq, u3_ni, u3_nk, u30] at hx); subst hx)
        refine w_ms hS (by decide) (by omega) (by omega) (by omega) (by decide) ?_
        have em : imin (W 30 i 2) 0 = 0 := by
          unfold imin
          by_cases c : (0 : Int) < W 30 i 2
          · rw [if_pos c]
          · rw [if_neg c]; omega
        rw [em]
        simp only [tn_c, Int.reduceToNat]
        refine w_ret ?_
        rw [w32_id (x := a + _) (by omega) (by omega)]
        refine ih _ _ hi51 ⟨_, rfl, next _ (fun r j k h => ?_) (Or.inl u3_eq), by rw [ea, lm]; omega⟩
        have m : ¬ (r = 30 ∧ j = i ∧ k = 2) := fun z => by omega
        exact if_neg m
      exact U2
end Merge
