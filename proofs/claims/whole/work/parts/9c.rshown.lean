section RShown
variable {V : GV} {R : GR} {Q : Int → GS → Prop} {m n : Nat} {two : Int} {hh ct : Nat → Int}
def LRH : PL' := [(142, none), (150, none)]
theorem w_leastOf {part : Int} {i j : Nat} {P : Nat → Prop} {f : Int × GS → GO} (hS : SH R) (hF : RF V R) (ht : tabr V m n two) (hct : ∀ k, k < m * n → V 139 0 k = ct k) (hi : i < m) (hj : j < n)
  (hP : (part = 0 ∧ ∀ c, P c ↔ c / n = i) ∨ (part = 1 ∧ ∀ c, P c ↔ c % n = j) ∨ (part = 2 ∧ ∀ c, P c))
  (K : ∀ x, lo (V 142 0) ct (m * n) P x → Wp (f (x, (V, R))) Q) : Wp ((g_X9_leastOf 0 part ((i * n + j : Nat) : Int) (V, R)).bind f) Q := by
  obtain ⟨⟨m1, m9, n1, n9⟩, ⟨e0, e1, e2, e3⟩, c3⟩ := id ht
  have mc := mn_le m9 n9
  have mn := mn_lt m9 n9 hi hj
  obtain ⟨k1, k2, km, kl⟩ := divmod n1 n9 (k := i * n + j) (by omega)
  have un := ij_un kl hj km
  rw [un.1] at k1
  rw [un.2] at k2
  refine w_bind ?_
  unfold g_X9_leastOf
  refine w_gv (by omega) ?_
  refine w_for2 (m * n) (fun c a G => G = (V, R) ∧ lo (V 142 0) ct c P a) ?_ (i := 0) (by omega) (by omega) ⟨rfl, lo_0 (fun c hc => absurd hc (by omega))⟩
  rintro c a G hc ⟨rfl, hl⟩ self ih
  unfold glX9_leastOf_5 gjX9_leastOf_68
  refine w_rdim (f := fun x => if (c : Int) ≥ x then _ else _) hS e0 e1 m9 n9 ?_
  refine w_ite (fun hx => w_ret (K a ?_)) (fun hx => ?_)
  · have ec : c = m * n := by omega
    subst ec
    exact hl
  · have hcn : c < m * n := by omega
    obtain ⟨d1, d2, dm, dl⟩ := divmod n1 n9 (k := c) (by omega)
    have yes : P c → Wp (gjX9_leastOf_73 self 0 part ((i * n + j : Nat) : Int) a (c : Int) 1 (V, R)) (fun r G => Wp (f (r, G)) Q) := by
      intro hp
      have hv := c3 c hcn
      unfold gjX9_leastOf_73 gjX9_leastOf_115 gjX9_leastOf_110 gjX9_leastOf_116
      refine w_ite (fun z => absurd (show (1 : Int) = 0 from z) (by decide)) (fun _ => ?_)
      ((first | ((with_reducible refine w_s hS ?_ ?_ ?_ (fun x hx => ?_)); (focus decide); (focus (first | decide | omega)); (focus (first | decide | (simp only [sl]; omega)))) | ((with_reducible refine w_m hS ?_ ?_ ?_ ?_ ?_ (fun x hx => ?_)); (focus decide); (focus (first | decide | omega)); (focus omega); (focus (first | decide | omega)); (focus (first | decide | (simp only [ml]; omega)))) | (with_reducible refine w_k (by simp (disch := omega) only [w32_id]; exact rfl) ?_; ((with_reducible refine w_s hS ?_ ?_ ?_ (fun x hx => ?_)); (focus decide); (focus (first | decide | omega)); (focus (first | decide | (simp only [sl]; omega))))) | (with_reducible refine w_k (by simp (disch := omega) only [w32_id]; exact rfl) ?_; ((with_reducible refine w_m hS ?_ ?_ ?_ ?_ ?_ (fun x hx => ?_)); (focus decide); (focus (first | decide | omega)); (focus omega); (focus (first | decide | omega)); (focus (first | decide | (simp only [ml]; omega)))))); (try simp (disch := omega) only [Int.reduceToNat, tn_c, tn8, tn8i, tn5, tn5z, tn6, tn6z, tn1, u3_ne, u3_eq, u3_ni, u3_nk, f_100_42 hF] at hx); subst hx)
      ((first | ((with_reducible refine w_s hS ?_ ?_ ?_ (fun x hx => ?_)); (focus decide); (focus (first | decide | omega)); (focus (first | decide | (simp only [sl]; omega)))) | ((with_reducible refine w_m hS ?_ ?_ ?_ ?_ ?_ (fun x hx => ?_)); (focus decide); (focus (first | decide | omega)); (focus omega); (focus (first | decide | omega)); (focus (first | decide | (simp only [ml]; omega)))) | (with_reducible refine w_k (by simp (disch := omega) only [w32_id]; exact rfl) ?_; ((with_reducible refine w_s hS ?_ ?_ ?_ (fun x hx => ?_)); (focus decide); (focus (first | decide | omega)); (focus (first | decide | (simp only [sl]; omega))))) | (with_reducible refine w_k (by simp (disch := omega) only [w32_id]; exact rfl) ?_; ((with_reducible refine w_m hS ?_ ?_ ?_ ?_ ?_ (fun x hx => ?_)); (focus decide); (focus (first | decide | omega)); (focus omega); (focus (first | decide | omega)); (focus (first | decide | (simp only [ml]; omega)))))); (try simp (disch := omega) only [Int.reduceToNat, tn_c, tn8, tn8i, tn5, tn5z, tn6, tn6z, tn1, u3_ne, u3_eq, u3_ni, u3_nk, tn_c] at hx); subst hx)
      refine w_ite (fun z => ih _ _ hcn ⟨rfl, lo_skip (Or.inr z) hl⟩) (fun z => ?_)
      have z : V 142 0 c = 0 := by omega
      have al := lo_lt hl
      refine w_ite (fun y => ih _ _ hcn ⟨rfl, lo_new hp z (Or.inl (by omega)) hl⟩) (fun y => ?_)
      obtain ⟨d, ed⟩ : ∃ d : Nat, a = (d : Int) := n_pos (by omega)
      subst ed
      ((first | ((with_reducible refine w_s hS ?_ ?_ ?_ (fun x hx => ?_)); (focus decide); (focus (first | decide | omega)); (focus (first | decide | (simp only [sl]; omega)))) | ((with_reducible refine w_m hS ?_ ?_ ?_ ?_ ?_ (fun x hx => ?_)); (focus decide); (focus (first | decide | omega)); (focus omega); (focus (first | decide | omega)); (focus (first | decide | (simp only [ml]; omega)))) | (with_reducible refine w_k (by simp (disch := omega) only [w32_id]; exact rfl) ?_; ((with_reducible refine w_s hS ?_ ?_ ?_ (fun x hx => ?_)); (focus decide); (focus (first | decide | omega)); (focus (first | decide | (simp only [sl]; omega))))) | (with_reducible refine w_k (by simp (disch := omega) only [w32_id]; exact rfl) ?_; ((with_reducible refine w_m hS ?_ ?_ ?_ ?_ ?_ (fun x hx => ?_)); (focus decide); (focus (first | decide | omega)); (focus omega); (focus (first | decide | omega)); (focus (first | decide | (simp only [ml]; omega)))))); (try simp (disch := omega) only [Int.reduceToNat, tn_c, tn8, tn8i, tn5, tn5z, tn6, tn6z, tn1, u3_ne, u3_eq, u3_ni, u3_nk, f_100_39 hF] at hx); subst hx)
      ((first | ((with_reducible refine w_s hS ?_ ?_ ?_ (fun x hx => ?_)); (focus decide); (focus (first | decide | omega)); (focus (first | decide | (simp only [sl]; omega)))) | ((with_reducible refine w_m hS ?_ ?_ ?_ ?_ ?_ (fun x hx => ?_)); (focus decide); (focus (first | decide | omega)); (focus omega); (focus (first | decide | omega)); (focus (first | decide | (simp only [ml]; omega)))) | (with_reducible refine w_k (by simp (disch := omega) only [w32_id]; exact rfl) ?_; ((with_reducible refine w_s hS ?_ ?_ ?_ (fun x hx => ?_)); (focus decide); (focus (first | decide | omega)); (focus (first | decide | (simp only [sl]; omega))))) | (with_reducible refine w_k (by simp (disch := omega) only [w32_id]; exact rfl) ?_; ((with_reducible refine w_m hS ?_ ?_ ?_ ?_ ?_ (fun x hx => ?_)); (focus decide); (focus (first | decide | omega)); (focus omega); (focus (first | decide | omega)); (focus (first | decide | (simp only [ml]; omega)))))); (try simp (disch := omega) only [Int.reduceToNat, tn_c, tn8, tn8i, tn5, tn5z, tn6, tn6z, tn1, u3_ne, u3_eq, u3_ni, u3_nk, tn_c, hct c hcn] at hx); subst hx)
      ((first | ((with_reducible refine w_s hS ?_ ?_ ?_ (fun x hx => ?_)); (focus decide); (focus (first | decide | omega)); (focus (first | decide | (simp only [sl]; omega)))) | ((with_reducible refine w_m hS ?_ ?_ ?_ ?_ ?_ (fun x hx => ?_)); (focus decide); (focus (first | decide | omega)); (focus omega); (focus (first | decide | omega)); (focus (first | decide | (simp only [ml]; omega)))) | (with_reducible refine w_k (by simp (disch := omega) only [w32_id]; exact rfl) ?_; ((with_reducible refine w_s hS ?_ ?_ ?_ (fun x hx => ?_)); (focus decide); (focus (first | decide | omega)); (focus (first | decide | (simp only [sl]; omega))))) | (with_reducible refine w_k (by simp (disch := omega) only [w32_id]; exact rfl) ?_; ((with_reducible refine w_m hS ?_ ?_ ?_ ?_ ?_ (fun x hx => ?_)); (focus decide); (focus (first | decide | omega)); (focus omega); (focus (first | decide | omega)); (focus (first | decide | (simp only [ml]; omega)))))); (try simp (disch := omega) only [Int.reduceToNat, tn_c, tn8, tn8i, tn5, tn5z, tn6, tn6z, tn1, u3_ne, u3_eq, u3_ni, u3_nk, f_100_39 hF] at hx); subst hx)
      ((first | ((with_reducible refine w_s hS ?_ ?_ ?_ (fun x hx => ?_)); (focus decide); (focus (first | decide | omega)); (focus (first | decide | (simp only [sl]; omega)))) | ((with_reducible refine w_m hS ?_ ?_ ?_ ?_ ?_ (fun x hx => ?_)); (focus decide); (focus (first | decide | omega)); (focus omega); (focus (first | decide | omega)); (focus (first | decide | (simp only [ml]; omega)))) | (with_reducible refine w_k (by simp (disch := omega) only [w32_id]; exact rfl) ?_; ((with_reducible refine w_s hS ?_ ?_ ?_ (fun x hx => ?_)); (focus decide); (focus (first | decide | omega)); (focus (first | decide | (simp only [sl]; omega))))) | (with_reducible refine w_k (by simp (disch := omega) only [w32_id]; exact rfl) ?_; ((with_reducible refine w_m hS ?_ ?_ ?_ ?_ ?_ (fun x hx => ?_)); (focus decide); (focus (first | decide | omega)); (focus omega); (focus (first | decide | omega)); (focus (first | decide | (simp only [ml]; omega)))))); (try simp (disch := omega) only [Int.reduceToNat, tn_c, tn8, tn8i, tn5, tn5z, tn6, tn6z, tn1, u3_ne, u3_eq, u3_ni, u3_nk, tn_c, hct d (by omega)] at hx); subst hx)
      refine w_ite (fun w => ih _ _ hcn ⟨rfl, lo_keep rfl (by omega) hl⟩) (fun w => ih _ _ hcn ⟨rfl, lo_new hp z (Or.inr ⟨d, rfl, by omega⟩) hl⟩)
    have no : ¬ P c → Wp (gjX9_leastOf_73 self 0 part ((i * n + j : Nat) : Int) a (c : Int) 0 (V, R)) (fun r G => Wp (f (r, G)) Q) := by
      intro hp
      unfold gjX9_leastOf_73 gjX9_leastOf_115 gjX9_leastOf_116
      exact w_ite (fun _ => ih _ _ hcn ⟨rfl, lo_skip (Or.inl hp) hl⟩) (fun z => absurd rfl z)
    rcases hP with ⟨ep, hP⟩ | ⟨ep, hP⟩ | ⟨ep, hP⟩
    · refine w_ite (fun z => absurd ep z) (fun _ => ?_)
      ((first | ((with_reducible refine w_s hS ?_ ?_ ?_ (fun x hx => ?_)); (focus decide); (focus (first | decide | omega)); (focus (first | decide | (simp only [sl]; omega)))) | ((with_reducible refine w_m hS ?_ ?_ ?_ ?_ ?_ (fun x hx => ?_)); (focus decide); (focus (first | decide | omega)); (focus omega); (focus (first | decide | omega)); (focus (first | decide | (simp only [ml]; omega)))) | (with_reducible refine w_k (by simp (disch := omega) only [w32_id]; exact rfl) ?_; ((with_reducible refine w_s hS ?_ ?_ ?_ (fun x hx => ?_)); (focus decide); (focus (first | decide | omega)); (focus (first | decide | (simp only [sl]; omega))))) | (with_reducible refine w_k (by simp (disch := omega) only [w32_id]; exact rfl) ?_; ((with_reducible refine w_m hS ?_ ?_ ?_ ?_ ?_ (fun x hx => ?_)); (focus decide); (focus (first | decide | omega)); (focus omega); (focus (first | decide | omega)); (focus (first | decide | (simp only [ml]; omega)))))); (try simp (disch := omega) only [Int.reduceToNat, tn_c, tn8, tn8i, tn5, tn5z, tn6, tn6z, tn1, u3_ne, u3_eq, u3_ni, u3_nk, e1] at hx); subst hx)
      refine w_ite (fun z => absurd z (by omega)) (fun _ => ?_)
      ((first | ((with_reducible refine w_s hS ?_ ?_ ?_ (fun x hx => ?_)); (focus decide); (focus (first | decide | omega)); (focus (first | decide | (simp only [sl]; omega)))) | ((with_reducible refine w_m hS ?_ ?_ ?_ ?_ ?_ (fun x hx => ?_)); (focus decide); (focus (first | decide | omega)); (focus omega); (focus (first | decide | omega)); (focus (first | decide | (simp only [ml]; omega)))) | (with_reducible refine w_k (by simp (disch := omega) only [w32_id]; exact rfl) ?_; ((with_reducible refine w_s hS ?_ ?_ ?_ (fun x hx => ?_)); (focus decide); (focus (first | decide | omega)); (focus (first | decide | (simp only [sl]; omega))))) | (with_reducible refine w_k (by simp (disch := omega) only [w32_id]; exact rfl) ?_; ((with_reducible refine w_m hS ?_ ?_ ?_ ?_ ?_ (fun x hx => ?_)); (focus decide); (focus (first | decide | omega)); (focus omega); (focus (first | decide | omega)); (focus (first | decide | (simp only [ml]; omega)))))); (try simp (disch := omega) only [Int.reduceToNat, tn_c, tn8, tn8i, tn5, tn5z, tn6, tn6z, tn1, u3_ne, u3_eq, u3_ni, u3_nk, e1] at hx); subst hx)
      refine w_ite (fun z => absurd z (by omega)) (fun _ => ?_)
      rw [d1, k1]
      refine w_ite (fun z => no (fun y => z ?_)) (fun z => yes ((hP c).mpr ?_))
      · rw [(hP c).mp y]
      · exact Int.ofNat.inj (Classical.byContradiction z)
    · refine w_ite (fun _ => ?_) (fun z => absurd (show part ≠ 0 by omega) z)
      refine w_ite (fun z => absurd z (by omega)) (fun _ => ?_)
      ((first | ((with_reducible refine w_s hS ?_ ?_ ?_ (fun x hx => ?_)); (focus decide); (focus (first | decide | omega)); (focus (first | decide | (simp only [sl]; omega)))) | ((with_reducible refine w_m hS ?_ ?_ ?_ ?_ ?_ (fun x hx => ?_)); (focus decide); (focus (first | decide | omega)); (focus omega); (focus (first | decide | omega)); (focus (first | decide | (simp only [ml]; omega)))) | (with_reducible refine w_k (by simp (disch := omega) only [w32_id]; exact rfl) ?_; ((with_reducible refine w_s hS ?_ ?_ ?_ (fun x hx => ?_)); (focus decide); (focus (first | decide | omega)); (focus (first | decide | (simp only [sl]; omega))))) | (with_reducible refine w_k (by simp (disch := omega) only [w32_id]; exact rfl) ?_; ((with_reducible refine w_m hS ?_ ?_ ?_ ?_ ?_ (fun x hx => ?_)); (focus decide); (focus (first | decide | omega)); (focus omega); (focus (first | decide | omega)); (focus (first | decide | (simp only [ml]; omega)))))); (try simp (disch := omega) only [Int.reduceToNat, tn_c, tn8, tn8i, tn5, tn5z, tn6, tn6z, tn1, u3_ne, u3_eq, u3_ni, u3_nk, e1] at hx); subst hx)
      refine w_ite (fun z => absurd z (by omega)) (fun _ => ?_)
      ((first | ((with_reducible refine w_s hS ?_ ?_ ?_ (fun x hx => ?_)); (focus decide); (focus (first | decide | omega)); (focus (first | decide | (simp only [sl]; omega)))) | ((with_reducible refine w_m hS ?_ ?_ ?_ ?_ ?_ (fun x hx => ?_)); (focus decide); (focus (first | decide | omega)); (focus omega); (focus (first | decide | omega)); (focus (first | decide | (simp only [ml]; omega)))) | (with_reducible refine w_k (by simp (disch := omega) only [w32_id]; exact rfl) ?_; ((with_reducible refine w_s hS ?_ ?_ ?_ (fun x hx => ?_)); (focus decide); (focus (first | decide | omega)); (focus (first | decide | (simp only [sl]; omega))))) | (with_reducible refine w_k (by simp (disch := omega) only [w32_id]; exact rfl) ?_; ((with_reducible refine w_m hS ?_ ?_ ?_ ?_ ?_ (fun x hx => ?_)); (focus decide); (focus (first | decide | omega)); (focus omega); (focus (first | decide | omega)); (focus (first | decide | (simp only [ml]; omega)))))); (try simp (disch := omega) only [Int.reduceToNat, tn_c, tn8, tn8i, tn5, tn5z, tn6, tn6z, tn1, u3_ne, u3_eq, u3_ni, u3_nk, e1] at hx); subst hx)
      refine w_ite (fun z => absurd z (by omega)) (fun _ => ?_)
      rw [d2, k2]
      refine w_ite (fun z => no (fun y => z ?_)) (fun z => yes ((hP c).mpr ?_))
      · rw [(hP c).mp y]
      · exact Int.ofNat.inj (Classical.byContradiction z)
    · refine w_ite (fun _ => ?_) (fun z => absurd (show part ≠ 0 by omega) z)
      exact w_ite (fun _ => yes (hP c)) (fun z => absurd ep z)
theorem w_rstep {i j : Nat} {self : Int → GS → GO} (hS : SH R) (hF : RF V R) (ht : tabr V m n two) (hct : ∀ k, k < m * n → V 139 0 k = ct k) (hi : i < m) (hj : j < n)
  (K1 : ∀ c : Nat, c < m * n → cov (V 142 0) ct m n i j (c : Int) → ∀ V' r, same V V' LRH → V' 142 0 = updx (V 142 0) c 1 → ffs two (V' 142 0) m n r → Wp (self r (V', R)) Q)
  (K0 : cov (V 142 0) ct m n i j (-1) → Wp (self (-1) (V, R)) Q) : Wp (glX9_shown_77 0 self ((i * n + j : Nat) : Int) (V, R)) Q := by
  obtain ⟨⟨m1, m9, n1, n9⟩, ⟨e0, e1, e2, e3⟩, c3⟩ := id ht
  have mc := mn_le m9 n9
  have fin : ∀ x, cov (V 142 0) ct m n i j x → Wp (gjX9_shown_117 self 0 x (V, R)) Q := by
    intro x hv
    unfold gjX9_shown_117 gjX9_shown_129 gjX9_shown_141
    rcases cov_open hv with e | ⟨c, e, hc, h0⟩
    · subst e
      refine w_ite (fun _ => ?_) (fun z => absurd (show (-1 : Int) < 0 by decide) z)
      exact w_ite (fun z => absurd z (by decide)) (fun _ => K0 hv)
    · subst e
      refine w_ite (fun z => absurd z (by omega)) (fun _ => ?_)
      ((first | ((with_reducible refine w_s hS ?_ ?_ ?_ (fun x hx => ?_)); (focus decide); (focus (first | decide | omega)); (focus (first | decide | (simp only [sl]; omega)))) | ((with_reducible refine w_m hS ?_ ?_ ?_ ?_ ?_ (fun x hx => ?_)); (focus decide); (focus (first | decide | omega)); (focus omega); (focus (first | decide | omega)); (focus (first | decide | (simp only [ml]; omega)))) | (with_reducible refine w_k (by simp (disch := omega) only [w32_id]; exact rfl) ?_; ((with_reducible refine w_s hS ?_ ?_ ?_ (fun x hx => ?_)); (focus decide); (focus (first | decide | omega)); (focus (first | decide | (simp only [sl]; omega))))) | (with_reducible refine w_k (by simp (disch := omega) only [w32_id]; exact rfl) ?_; ((with_reducible refine w_m hS ?_ ?_ ?_ ?_ ?_ (fun x hx => ?_)); (focus decide); (focus (first | decide | omega)); (focus omega); (focus (first | decide | omega)); (focus (first | decide | (simp only [ml]; omega)))))); (try simp (disch := omega) only [Int.reduceToNat, tn_c, tn8, tn8i, tn5, tn5z, tn6, tn6z, tn1, u3_ne, u3_eq, u3_ni, u3_nk, f_100_42 hF] at hx); subst hx)
      refine w_gsz (Or.inr rfl) ?_
      refine w_ss hS (by decide) (by omega) (by simp only [sl]; omega) ?_
      rw [tn_c]
      refine w_ite (fun _ => ?_) (fun z => absurd (show (c : Int) ≥ 0 by omega) z)
      have sm : same V (u3 V 142 0 c 1) LRH := (same.rf V _).u ⟨(142, none), by decide, rfl, Or.inl rfl⟩
      have eh : u3 V 142 0 c 1 142 0 = updx (V 142 0) c 1 := by
        funext k
        unfold updx
        by_cases e : k = c
        · rw [u3_ek e, if_pos e]
        · rw [u3_nk e, if_neg e]
      have ht' : tabr (u3 V 142 0 c 1) m n two := by
        refine ⟨⟨m1, m9, n1, n9⟩, ⟨(sm.r 100 rfl _ _).trans e0, (sm.r 100 rfl _ _).trans e1, (sm.r 100 rfl _ _).trans e2, e3⟩, fun k hk => ?_⟩
        by_cases e : k = c
        · rw [u3_ek e]; exact Or.inr rfl
        · rw [u3_nk e]; exact c3 k hk
      refine w_rff hS (cg_RF sm rfl hF) ht' (fun r V' sm' hf => ?_)
      have e142 : V' 142 0 = u3 V 142 0 c 1 142 0 := funext (fun k => sm'.r 142 rfl 0 k)
      refine K1 c hc hv V' r (sm.tr (sm'.mono (by decide))) (e142.trans eh) ?_
      rw [e142]; exact hf
  unfold glX9_shown_77
  refine w_ite (fun z => absurd z (by omega)) (fun _ => ?_)
  refine w_leastOf (part := 0) (P := fun c => c / n = i) hS hF ht hct hi hj (Or.inl ⟨rfl, fun c => Iff.rfl⟩) (fun x0 l0 => ?_)
  have b0 := lo_lt l0
  dsimp only
  refine w_ite (fun z => ?_) (fun z => ?_)
  · unfold gjX9_shown_102
    exact w_ite (fun _ => fin x0 ⟨x0, l0, Or.inl ⟨by omega, rfl⟩⟩) (fun y => absurd z y)
  · refine w_leastOf (part := 1) (P := fun c => c % n = j) hS hF ht hct hi hj (Or.inr (Or.inl ⟨rfl, fun c => Iff.rfl⟩)) (fun x1 l1 => ?_)
    have b1 := lo_lt l1
    unfold gjX9_shown_102
    dsimp only
    refine w_ite (fun y => fin x1 ⟨x0, l0, Or.inr ⟨by omega, x1, l1, Or.inl ⟨by omega, rfl⟩⟩⟩) (fun y => ?_)
    refine w_leastOf (part := 2) (P := fun _ => True) hS hF ht hct hi hj (Or.inr (Or.inr ⟨rfl, fun c => trivial⟩)) (fun x2 l2 => ?_)
    exact fin x2 ⟨x0, l0, Or.inr ⟨by omega, x1, l1, Or.inr ⟨by omega, l2⟩⟩⟩
theorem w_rcount (hS : SH R) (hF : RF V R) (ht : tabr V m n two) (K : Q (wsm (V 142 0) (m * n)) (V, R)) {fu : Nat} : Wp (lh1 (glX9_shown_77 0) (fu + 1) (-1) (V, R)) Q := by
  obtain ⟨⟨m1, m9, n1, n9⟩, ⟨e0, e1, e2, e3⟩, c3⟩ := id ht
  have mc := mn_le m9 n9
  rw [lh1_s]
  unfold glX9_shown_77
  refine w_ite (fun _ => ?_) (fun z => absurd (show (-1 : Int) < 0 by decide) z)
  refine w_for2 (m * n) (fun c a G => G = (V, R) ∧ a = wsm (V 142 0) c) ?_ (i := 0) (by omega) (by omega) ⟨rfl, rfl⟩
  rintro c a G hc ⟨rfl, rfl⟩ self ih
  unfold glX9_shown_150 gjX9_shown_180
  refine w_rdim (f := fun x => if (c : Int) ≥ x then _ else _) hS e0 e1 m9 n9 ?_
  refine w_ite (fun hx => w_ret ?_) (fun hx => ?_)
  · have ec : c = m * n := by omega
    subst ec
    exact K
  · have hcn : c < m * n := by omega
    have hv := c3 c hcn
    have b := wsm_nn (hh := V 142 0) (k := c) (fun i hi => c3 i (by omega))
    have st : ∀ v : Int, v = V 142 0 c → Wp (self (w32 (wsm (V 142 0) c + v)) (w32 ((c : Int) + 1)) (V, R)) Q := by
      intro v ev
      rw [ev, w32_id (x := wsm (V 142 0) c + V 142 0 c) (by omega) (by omega)]
      exact ih _ _ hcn ⟨rfl, rfl⟩
    ((first | ((with_reducible refine w_s hS ?_ ?_ ?_ (fun x hx => ?_)); (focus decide); (focus (first | decide | omega)); (focus (first | decide | (simp only [sl]; omega)))) | ((with_reducible refine w_m hS ?_ ?_ ?_ ?_ ?_ (fun x hx => ?_)); (focus decide); (focus (first | decide | omega)); (focus omega); (focus (first | decide | omega)); (focus (first | decide | (simp only [ml]; omega)))) | (with_reducible refine w_k (by simp (disch := omega) only [w32_id]; exact rfl) ?_; ((with_reducible refine w_s hS ?_ ?_ ?_ (fun x hx => ?_)); (focus decide); (focus (first | decide | omega)); (focus (first | decide | (simp only [sl]; omega))))) | (with_reducible refine w_k (by simp (disch := omega) only [w32_id]; exact rfl) ?_; ((with_reducible refine w_m hS ?_ ?_ ?_ ?_ ?_ (fun x hx => ?_)); (focus decide); (focus (first | decide | omega)); (focus omega); (focus (first | decide | omega)); (focus (first | decide | (simp only [ml]; omega)))))); (try simp (disch := omega) only [Int.reduceToNat, tn_c, tn8, tn8i, tn5, tn5z, tn6, tn6z, tn1, u3_ne, u3_eq, u3_ni, u3_nk, f_100_42 hF] at hx); subst hx)
    ((first | ((with_reducible refine w_s hS ?_ ?_ ?_ (fun x hx => ?_)); (focus decide); (focus (first | decide | omega)); (focus (first | decide | (simp only [sl]; omega)))) | ((with_reducible refine w_m hS ?_ ?_ ?_ ?_ ?_ (fun x hx => ?_)); (focus decide); (focus (first | decide | omega)); (focus omega); (focus (first | decide | omega)); (focus (first | decide | (simp only [ml]; omega)))) | (with_reducible refine w_k (by simp (disch := omega) only [w32_id]; exact rfl) ?_; ((with_reducible refine w_s hS ?_ ?_ ?_ (fun x hx => ?_)); (focus decide); (focus (first | decide | omega)); (focus (first | decide | (simp only [sl]; omega))))) | (with_reducible refine w_k (by simp (disch := omega) only [w32_id]; exact rfl) ?_; ((with_reducible refine w_m hS ?_ ?_ ?_ ?_ ?_ (fun x hx => ?_)); (focus decide); (focus (first | decide | omega)); (focus omega); (focus (first | decide | omega)); (focus (first | decide | (simp only [ml]; omega)))))); (try simp (disch := omega) only [Int.reduceToNat, tn_c, tn8, tn8i, tn5, tn5z, tn6, tn6z, tn1, u3_ne, u3_eq, u3_ni, u3_nk, tn_c] at hx); subst hx)
    exact w_ite (fun z => st 0 (by omega)) (fun z => st 1 (by omega))
theorem w_rrun {V0 : GV} {h' : Nat → Int} (hS : SH R) (hF0 : RF V0 R) (K : ∀ V', same V0 V' LRH → (∀ c, c < m * n → V' 142 0 c = h' c) → Q (wsm h' (m * n)) (V', R)) : ∀ (t fu : Nat) (h : Nat → Int) (V : GV) (r : Int), t + 3 ≤ fu → same V0 V LRH → (∀ k, k < m * n → V0 139 0 k = ct k) → tabr V m n two → (∀ c, c < m * n → V 142 0 c = h c) → ffs two h m n r → Runx two ct m n t h h' → Wp (lh1 (glX9_shown_77 0) fu r (V, R)) Q := by
  have fin : ∀ (fu : Nat) (V : GV), 1 ≤ fu → same V0 V LRH → tabr V m n two → (∀ c, c < m * n → V 142 0 c = h' c) → Wp (lh1 (glX9_shown_77 0) fu (-1) (V, R)) Q := by
    intro fu V hfu sm ht he
    obtain ⟨fu, rfl⟩ : ∃ x, fu = x + 1 := ⟨fu - 1, by omega⟩
    refine w_rcount hS (cg_RF sm rfl hF0) ht ?_
    rw [wsm_cg (w := h') (w' := V 142 0) he]
    exact K V sm he
  intro t
  induction t with
  | zero =>
    intro fu h V r hfu sm hct ht he hf hr
    obtain ⟨e, hs⟩ := hr
    subst e
    rcases hs with hs | ⟨i, j, hi, hj, hs, hv⟩
    · rw [ffs_un hf hs]
      exact fin fu V (by omega) sm ht he
    · rw [ffs_un hf hs]
      obtain ⟨fu, rfl⟩ : ∃ x, fu = x + 1 := ⟨fu - 1, by omega⟩
      rw [lh1_s]
      have hv' : cov (V 142 0) ct m n i j (-1) := cov_cg he (fun _ _ => rfl) hv
      refine w_rstep (ct := ct) hS (cg_RF sm rfl hF0) ht (fun k hk => by rw [sm.r 139 rfl]; exact hct k hk) hi hj (fun c hc hvc => ?_) (fun _ => ?_)
      · have := cov_un hvc hv'; omega
      · exact fin fu V (by omega) sm ht he
  | succ t ih =>
    intro fu h V r hfu sm hct ht he hf hr
    obtain ⟨i, j, c, hi, hj, hc, hs, hv, hr⟩ := hr
    rw [ffs_un hf hs]
    obtain ⟨fu, rfl⟩ : ∃ x, fu = x + 1 := ⟨fu - 1, by omega⟩
    rw [lh1_s]
    have hv' : cov (V 142 0) ct m n i j (c : Int) := cov_cg he (fun _ _ => rfl) hv
    refine w_rstep (ct := ct) hS (cg_RF sm rfl hF0) ht (fun k hk => by rw [sm.r 139 rfl]; exact hct k hk) hi hj (fun d hd hvd V' r' sm' eh hf' => ?_) (fun hvd => ?_)
    · have ed : d = c := by have := cov_un hvd hv'; omega
      subst ed
      have he' : ∀ k, k < m * n → V' 142 0 k = updx h d 1 k := by
        intro k hk
        rw [eh]
        unfold updx
        by_cases e : k = d
        · rw [if_pos e, if_pos e]
        · rw [if_neg e, if_neg e]; exact he k hk
      refine ih fu (updx h d 1) V' r' (by omega) (sm.tr sm') hct ?_ he' (ffs_cg (fun k hk => (he' k hk).symm) hf') hr
      obtain ⟨dd, ⟨e0, e1, e2, e3⟩, c3⟩ := ht
      refine ⟨dd, ⟨(sm'.r 100 rfl _ _).trans e0, (sm'.r 100 rfl _ _).trans e1, (sm'.r 100 rfl _ _).trans e2, e3⟩, fun k hk => ?_⟩
      rw [eh]
      unfold updx
      by_cases e : k = d
      · rw [if_pos e]; exact Or.inr rfl
      · rw [if_neg e]; exact c3 k hk
    · have := cov_un hvd hv'; omega
theorem w_rshown {th : Int} {t : Nat} {h' : Nat → Int} (hS : SH R) (hF : RF V R) (h35 : V 100 0 35 = 1) (hth : 1 ≤ th ∧ th ≤ 1000) (ht : tabr V m n two) (hct : ∀ k, k < m * n → V 139 0 k = ct k) (ht9 : t < 100) (hr : Runx two ct m n t (hb ct th (m * n)) h')
  (K : ∀ V', same V V' LRH → (∀ c, c < m * n → V' 142 0 c = h' c) → Q (wsm h' (m * n)) (V', R)) : Wp (g_X9_shown 0 th (V, R)) Q := by
  obtain ⟨⟨m1, m9, n1, n9⟩, ⟨e0, e1, e2, e3⟩, c3⟩ := id ht
  have mc := mn_le m9 n9
  unfold g_X9_shown
  refine w_gv (by omega) ?_
  ((first | ((with_reducible refine w_s hS ?_ ?_ ?_ (fun x hx => ?_)); (focus decide); (focus (first | decide | omega)); (focus (first | decide | (simp only [sl]; omega)))) | ((with_reducible refine w_m hS ?_ ?_ ?_ ?_ ?_ (fun x hx => ?_)); (focus decide); (focus (first | decide | omega)); (focus omega); (focus (first | decide | omega)); (focus (first | decide | (simp only [ml]; omega)))) | (with_reducible refine w_k (by simp (disch := omega) only [w32_id]; exact rfl) ?_; ((with_reducible refine w_s hS ?_ ?_ ?_ (fun x hx => ?_)); (focus decide); (focus (first | decide | omega)); (focus (first | decide | (simp only [sl]; omega))))) | (with_reducible refine w_k (by simp (disch := omega) only [w32_id]; exact rfl) ?_; ((with_reducible refine w_m hS ?_ ?_ ?_ ?_ ?_ (fun x hx => ?_)); (focus decide); (focus (first | decide | omega)); (focus omega); (focus (first | decide | omega)); (focus (first | decide | (simp only [ml]; omega)))))); (try simp (disch := omega) only [Int.reduceToNat, tn_c, tn8, tn8i, tn5, tn5z, tn6, tn6z, tn1, u3_ne, u3_eq, u3_ni, u3_nk, h35] at hx); subst hx)
  refine w_ite (fun z => absurd (show (1 : Int) = 0 from z) (by decide)) (fun _ => ?_)
  refine w_in (fun _ => ?_) (fun z => absurd hth z)
  refine w_ite (fun _ => ?_) (fun z => absurd (show (1 : Int) ≠ 0 by decide) z)
  dsimp only
  refine w_for (m * n) (fun c G => ∃ W, G = (W, R) ∧ same V W LRH ∧ tabr W m n two ∧ ∀ k, k < c → W 142 0 k = hb ct th (m * n) k) ?_ (i := 0) (by omega) (by omega) ⟨V, rfl, same.rf V _, ht, fun k hk => absurd hk (by omega)⟩
  rintro c G hc ⟨W, rfl, sm, tw, hw⟩ self ih
  have hFW := cg_RF sm rfl hF
  unfold glX9_shown_23 gjX9_shown_64 gjX9_shown_65
  refine w_rdim (f := fun x => if (c : Int) ≥ x then _ else _) hS tw.2.1.1 tw.2.1.2.1 m9 n9 ?_
  refine w_ite (fun hx => ?_) (fun hx => ?_)
  · have ec : c = m * n := by omega
    subst ec
    refine w_rff hS hFW tw (fun r V' sm' hf => ?_)
    have he : ∀ k, k < m * n → V' 142 0 k = hb ct th (m * n) k := fun k hk => by rw [sm'.r 142 rfl]; exact hw k hk
    exact w_rrun hS hF K t 6000 (hb ct th (m * n)) V' r (by omega) (sm.tr (sm'.mono (by decide))) hct (tw.cg sm' rfl) he (ffs_cg (fun k hk => (hw k hk).symm) hf) hr
  · have hcn : c < m * n := by omega
    have st : ∀ v : Int, v = hb ct th (m * n) c → Wp ((gsz 142 (W, R) 0 (c : Int) v).bind fun G1 => self (w32 ((c : Int) + 1)) G1) Q := by
      intro v ev
      refine w_gsz (by rw [ev]; exact hb_01) ?_
      refine w_ss hS (by decide) (by omega) (by simp only [sl]; omega) ?_
      rw [tn_c]
      have sm2 : same V (u3 W 142 0 c v) LRH := sm.u ⟨(142, none), by decide, rfl, Or.inl rfl⟩
      refine ih _ hcn ⟨_, rfl, sm2, ?_, fun k hk => ?_⟩
      · refine ⟨⟨m1, m9, n1, n9⟩, ⟨(sm2.r 100 rfl _ _).trans e0, (sm2.r 100 rfl _ _).trans e1, (sm2.r 100 rfl _ _).trans e2, e3⟩, fun k hk => ?_⟩
        by_cases e : k = c
        · rw [u3_ek e, ev]; exact hb_01
        · rw [u3_nk e]; exact tw.2.2 k hk
      · by_cases e : k = c
        · subst e; rw [u3_eq, ev]
        · rw [u3_nk e]; exact hw k (by omega)
    ((first | ((with_reducible refine w_s hS ?_ ?_ ?_ (fun x hx => ?_)); (focus decide); (focus (first | decide | omega)); (focus (first | decide | (simp only [sl]; omega)))) | ((with_reducible refine w_m hS ?_ ?_ ?_ ?_ ?_ (fun x hx => ?_)); (focus decide); (focus (first | decide | omega)); (focus omega); (focus (first | decide | omega)); (focus (first | decide | (simp only [ml]; omega)))) | (with_reducible refine w_k (by simp (disch := omega) only [w32_id]; exact rfl) ?_; ((with_reducible refine w_s hS ?_ ?_ ?_ (fun x hx => ?_)); (focus decide); (focus (first | decide | omega)); (focus (first | decide | (simp only [sl]; omega))))) | (with_reducible refine w_k (by simp (disch := omega) only [w32_id]; exact rfl) ?_; ((with_reducible refine w_m hS ?_ ?_ ?_ ?_ ?_ (fun x hx => ?_)); (focus decide); (focus (first | decide | omega)); (focus omega); (focus (first | decide | omega)); (focus (first | decide | (simp only [ml]; omega)))))); (try simp (disch := omega) only [Int.reduceToNat, tn_c, tn8, tn8i, tn5, tn5z, tn6, tn6z, tn1, u3_ne, u3_eq, u3_ni, u3_nk, f_100_42 hFW] at hx); subst hx)
    ((first | ((with_reducible refine w_s hS ?_ ?_ ?_ (fun x hx => ?_)); (focus decide); (focus (first | decide | omega)); (focus (first | decide | (simp only [sl]; omega)))) | ((with_reducible refine w_m hS ?_ ?_ ?_ ?_ ?_ (fun x hx => ?_)); (focus decide); (focus (first | decide | omega)); (focus omega); (focus (first | decide | omega)); (focus (first | decide | (simp only [ml]; omega)))) | (with_reducible refine w_k (by simp (disch := omega) only [w32_id]; exact rfl) ?_; ((with_reducible refine w_s hS ?_ ?_ ?_ (fun x hx => ?_)); (focus decide); (focus (first | decide | omega)); (focus (first | decide | (simp only [sl]; omega))))) | (with_reducible refine w_k (by simp (disch := omega) only [w32_id]; exact rfl) ?_; ((with_reducible refine w_m hS ?_ ?_ ?_ ?_ ?_ (fun x hx => ?_)); (focus decide); (focus (first | decide | omega)); (focus omega); (focus (first | decide | omega)); (focus (first | decide | (simp only [ml]; omega)))))); (try simp (disch := omega) only [Int.reduceToNat, tn_c, tn8, tn8i, tn5, tn5z, tn6, tn6z, tn1, u3_ne, u3_eq, u3_ni, u3_nk, f_100_39 hFW] at hx); subst hx)
    ((first | ((with_reducible refine w_s hS ?_ ?_ ?_ (fun x hx => ?_)); (focus decide); (focus (first | decide | omega)); (focus (first | decide | (simp only [sl]; omega)))) | ((with_reducible refine w_m hS ?_ ?_ ?_ ?_ ?_ (fun x hx => ?_)); (focus decide); (focus (first | decide | omega)); (focus omega); (focus (first | decide | omega)); (focus (first | decide | (simp only [ml]; omega)))) | (with_reducible refine w_k (by simp (disch := omega) only [w32_id]; exact rfl) ?_; ((with_reducible refine w_s hS ?_ ?_ ?_ (fun x hx => ?_)); (focus decide); (focus (first | decide | omega)); (focus (first | decide | (simp only [sl]; omega))))) | (with_reducible refine w_k (by simp (disch := omega) only [w32_id]; exact rfl) ?_; ((with_reducible refine w_m hS ?_ ?_ ?_ ?_ ?_ (fun x hx => ?_)); (focus decide); (focus (first | decide | omega)); (focus omega); (focus (first | decide | omega)); (focus (first | decide | (simp only [ml]; omega)))))); (try simp (disch := omega) only [Int.reduceToNat, tn_c, tn8, tn8i, tn5, tn5z, tn6, tn6z, tn1, u3_ne, u3_eq, u3_ni, u3_nk, tn_c, sm.r 139 rfl, hct c hcn] at hx); subst hx)
    refine w_ite (fun z => st 0 ?_) (fun z => ?_)
    · unfold hb; rw [if_neg (by omega)]
    · ((first | ((with_reducible refine w_s hS ?_ ?_ ?_ (fun x hx => ?_)); (focus decide); (focus (first | decide | omega)); (focus (first | decide | (simp only [sl]; omega)))) | ((with_reducible refine w_m hS ?_ ?_ ?_ ?_ ?_ (fun x hx => ?_)); (focus decide); (focus (first | decide | omega)); (focus omega); (focus (first | decide | omega)); (focus (first | decide | (simp only [ml]; omega)))) | (with_reducible refine w_k (by simp (disch := omega) only [w32_id]; exact rfl) ?_; ((with_reducible refine w_s hS ?_ ?_ ?_ (fun x hx => ?_)); (focus decide); (focus (first | decide | omega)); (focus (first | decide | (simp only [sl]; omega))))) | (with_reducible refine w_k (by simp (disch := omega) only [w32_id]; exact rfl) ?_; ((with_reducible refine w_m hS ?_ ?_ ?_ ?_ ?_ (fun x hx => ?_)); (focus decide); (focus (first | decide | omega)); (focus omega); (focus (first | decide | omega)); (focus (first | decide | (simp only [ml]; omega)))))); (try simp (disch := omega) only [Int.reduceToNat, tn_c, tn8, tn8i, tn5, tn5z, tn6, tn6z, tn1, u3_ne, u3_eq, u3_ni, u3_nk, f_100_39 hFW] at hx); subst hx)
      ((first | ((with_reducible refine w_s hS ?_ ?_ ?_ (fun x hx => ?_)); (focus decide); (focus (first | decide | omega)); (focus (first | decide | (simp only [sl]; omega)))) | ((with_reducible refine w_m hS ?_ ?_ ?_ ?_ ?_ (fun x hx => ?_)); (focus decide); (focus (first | decide | omega)); (focus omega); (focus (first | decide | omega)); (focus (first | decide | (simp only [ml]; omega)))) | (with_reducible refine w_k (by simp (disch := omega) only [w32_id]; exact rfl) ?_; ((with_reducible refine w_s hS ?_ ?_ ?_ (fun x hx => ?_)); (focus decide); (focus (first | decide | omega)); (focus (first | decide | (simp only [sl]; omega))))) | (with_reducible refine w_k (by simp (disch := omega) only [w32_id]; exact rfl) ?_; ((with_reducible refine w_m hS ?_ ?_ ?_ ?_ ?_ (fun x hx => ?_)); (focus decide); (focus (first | decide | omega)); (focus omega); (focus (first | decide | omega)); (focus (first | decide | (simp only [ml]; omega)))))); (try simp (disch := omega) only [Int.reduceToNat, tn_c, tn8, tn8i, tn5, tn5z, tn6, tn6z, tn1, u3_ne, u3_eq, u3_ni, u3_nk, tn_c, sm.r 139 rfl, hct c hcn] at hx); subst hx)
      refine w_ite (fun y => st 0 ?_) (fun y => st 1 ?_)
      · unfold hb; rw [if_neg (by omega)]
      · unfold hb; rw [if_pos (by omega)]
theorem T_shown (hI : INV IT V R) (th : Int) : Wp (g_X8_shown 0 th (V, R)) (fun r G => Wp (g_X9_shown 0 th G) (PO r)) := by
  have hS := hI.SH
  have hF := hI.RF
  unfold g_X8_shown
  refine w_gv (by omega) ?_
  ((first | ((with_reducible refine w_s hS ?_ ?_ ?_ (fun x hx => ?_)); (focus decide); (focus (first | decide | omega)); (focus (first | decide | (simp only [sl]; omega)))) | ((with_reducible refine w_m hS ?_ ?_ ?_ ?_ ?_ (fun x hx => ?_)); (focus decide); (focus (first | decide | omega)); (focus omega); (focus (first | decide | omega)); (focus (first | decide | (simp only [ml]; omega)))) | (with_reducible refine w_k (by simp (disch := omega) only [w32_id]; exact rfl) ?_; ((with_reducible refine w_s hS ?_ ?_ ?_ (fun x hx => ?_)); (focus decide); (focus (first | decide | omega)); (focus (first | decide | (simp only [sl]; omega))))) | (with_reducible refine w_k (by simp (disch := omega) only [w32_id]; exact rfl) ?_; ((with_reducible refine w_m hS ?_ ?_ ?_ ?_ ?_ (fun x hx => ?_)); (focus decide); (focus (first | decide | omega)); (focus omega); (focus (first | decide | omega)); (focus (first | decide | (simp only [ml]; omega)))))); (try simp (disch := omega) only [Int.reduceToNat, tn_c, tn8, tn8i, tn5, tn5z, tn6, tn6z, tn1, u3_ne, u3_eq, u3_ni, u3_nk, f_0_5 hF] at hx); subst hx)
  refine w_bind ?_
  unfold g_X7_isNone
  refine w_gv (by omega) ?_
  ((first | ((with_reducible refine w_s hS ?_ ?_ ?_ (fun x hx => ?_)); (focus decide); (focus (first | decide | omega)); (focus (first | decide | (simp only [sl]; omega)))) | ((with_reducible refine w_m hS ?_ ?_ ?_ ?_ ?_ (fun x hx => ?_)); (focus decide); (focus (first | decide | omega)); (focus omega); (focus (first | decide | omega)); (focus (first | decide | (simp only [ml]; omega)))) | (with_reducible refine w_k (by simp (disch := omega) only [w32_id]; exact rfl) ?_; ((with_reducible refine w_s hS ?_ ?_ ?_ (fun x hx => ?_)); (focus decide); (focus (first | decide | omega)); (focus (first | decide | (simp only [sl]; omega))))) | (with_reducible refine w_k (by simp (disch := omega) only [w32_id]; exact rfl) ?_; ((with_reducible refine w_m hS ?_ ?_ ?_ ?_ ?_ (fun x hx => ?_)); (focus decide); (focus (first | decide | omega)); (focus omega); (focus (first | decide | omega)); (focus (first | decide | (simp only [ml]; omega)))))); (try simp (disch := omega) only [Int.reduceToNat, tn_c, tn8, tn8i, tn5, tn5z, tn6, tn6z, tn1, u3_ne, u3_eq, u3_ni, u3_nk, tn_c] at hx); subst hx)
  rcases IT_iff.mp hI.IT with h | ⟨h1, m, n, ht⟩
  · refine w_ite (fun z => absurd h.2.1 z) (fun _ => w_ret ?_)
    refine w_ite (fun _ => w_ret ?_) (fun z => absurd (show (1 : Int) ≠ 0 by decide) z)
    unfold g_X9_shown
    refine w_gv (by omega) ?_
    ((first | ((with_reducible refine w_s hS ?_ ?_ ?_ (fun x hx => ?_)); (focus decide); (focus (first | decide | omega)); (focus (first | decide | (simp only [sl]; omega)))) | ((with_reducible refine w_m hS ?_ ?_ ?_ ?_ ?_ (fun x hx => ?_)); (focus decide); (focus (first | decide | omega)); (focus omega); (focus (first | decide | omega)); (focus (first | decide | (simp only [ml]; omega)))) | (with_reducible refine w_k (by simp (disch := omega) only [w32_id]; exact rfl) ?_; ((with_reducible refine w_s hS ?_ ?_ ?_ (fun x hx => ?_)); (focus decide); (focus (first | decide | omega)); (focus (first | decide | (simp only [sl]; omega))))) | (with_reducible refine w_k (by simp (disch := omega) only [w32_id]; exact rfl) ?_; ((with_reducible refine w_m hS ?_ ?_ ?_ ?_ ?_ (fun x hx => ?_)); (focus decide); (focus (first | decide | omega)); (focus omega); (focus (first | decide | omega)); (focus (first | decide | (simp only [ml]; omega)))))); (try simp (disch := omega) only [Int.reduceToNat, tn_c, tn8, tn8i, tn5, tn5z, tn6, tn6z, tn1, u3_ne, u3_eq, u3_ni, u3_nk, h.1] at hx); subst hx)
    exact w_ite (fun _ => w_ret ⟨rfl, hI⟩) (fun z => absurd rfl z)
  · have e7 := ht.2.1.1
    have d := ht.1
    have c3 := ht.2.2.2.1
    refine w_ite (fun _ => w_ret ?_) (fun z => absurd (show V 7 0 0 ≠ 0 by omega) z)
    refine w_ite (fun z => absurd rfl z) (fun _ => ?_)
    have bad : ¬ (1 ≤ th ∧ th ≤ 1000) → Wp (g_X9_shown 0 th (V, R)) (PO (-1)) := by
      intro hn
      unfold g_X9_shown
      refine w_gv (by omega) ?_
      ((first | ((with_reducible refine w_s hS ?_ ?_ ?_ (fun x hx => ?_)); (focus decide); (focus (first | decide | omega)); (focus (first | decide | (simp only [sl]; omega)))) | ((with_reducible refine w_m hS ?_ ?_ ?_ ?_ ?_ (fun x hx => ?_)); (focus decide); (focus (first | decide | omega)); (focus omega); (focus (first | decide | omega)); (focus (first | decide | (simp only [ml]; omega)))) | (with_reducible refine w_k (by simp (disch := omega) only [w32_id]; exact rfl) ?_; ((with_reducible refine w_s hS ?_ ?_ ?_ (fun x hx => ?_)); (focus decide); (focus (first | decide | omega)); (focus (first | decide | (simp only [sl]; omega))))) | (with_reducible refine w_k (by simp (disch := omega) only [w32_id]; exact rfl) ?_; ((with_reducible refine w_m hS ?_ ?_ ?_ ?_ ?_ (fun x hx => ?_)); (focus decide); (focus (first | decide | omega)); (focus omega); (focus (first | decide | omega)); (focus (first | decide | (simp only [ml]; omega)))))); (try simp (disch := omega) only [Int.reduceToNat, tn_c, tn8, tn8i, tn5, tn5z, tn6, tn6z, tn1, u3_ne, u3_eq, u3_ni, u3_nk, h1] at hx); subst hx)
      refine w_ite (fun z => absurd (show (1 : Int) = 0 from z) (by decide)) (fun _ => ?_)
      refine w_in (fun z => absurd z hn) (fun _ => ?_)
      exact w_ite (fun z => absurd rfl z) (fun _ => w_ret ⟨rfl, hI⟩)
    refine w_ite (fun z => w_ret (bad (by omega))) (fun z1 => w_ite (fun z2 => ?_) (fun z => w_ret (bad (by omega))))
    dsimp only
    ((first | ((with_reducible refine w_s hS ?_ ?_ ?_ (fun x hx => ?_)); (focus decide); (focus (first | decide | omega)); (focus (first | decide | (simp only [sl]; omega)))) | ((with_reducible refine w_m hS ?_ ?_ ?_ ?_ ?_ (fun x hx => ?_)); (focus decide); (focus (first | decide | omega)); (focus omega); (focus (first | decide | omega)); (focus (first | decide | (simp only [ml]; omega)))) | (with_reducible refine w_k (by simp (disch := omega) only [w32_id]; exact rfl) ?_; ((with_reducible refine w_s hS ?_ ?_ ?_ (fun x hx => ?_)); (focus decide); (focus (first | decide | omega)); (focus (first | decide | (simp only [sl]; omega))))) | (with_reducible refine w_k (by simp (disch := omega) only [w32_id]; exact rfl) ?_; ((with_reducible refine w_m hS ?_ ?_ ?_ ?_ ?_ (fun x hx => ?_)); (focus decide); (focus (first | decide | omega)); (focus omega); (focus (first | decide | omega)); (focus (first | decide | (simp only [ml]; omega)))))); (try simp (disch := omega) only [Int.reduceToNat, tn_c, tn8, tn8i, tn5, tn5z, tn6, tn6z, tn1, u3_ne, u3_eq, u3_ni, u3_nk, f_0_5 hF] at hx); subst hx)
    have h8 : ∀ k, k < m * n → V 8 0 k = V 139 0 k := fun k hk => (c3 k hk).1
    refine w_holdBelow (ct := V 139 0) (th := th) hS hF (tab_h ht) h8 (fun V1 sm1 t1 => ?_)
    have hF1 := cg_RF sm1 rfl hF
    dsimp only
    ((first | ((with_reducible refine w_s hS ?_ ?_ ?_ (fun x hx => ?_)); (focus decide); (focus (first | decide | omega)); (focus (first | decide | (simp only [sl]; omega)))) | ((with_reducible refine w_m hS ?_ ?_ ?_ ?_ ?_ (fun x hx => ?_)); (focus decide); (focus (first | decide | omega)); (focus omega); (focus (first | decide | omega)); (focus (first | decide | (simp only [ml]; omega)))) | (with_reducible refine w_k (by simp (disch := omega) only [w32_id]; exact rfl) ?_; ((with_reducible refine w_s hS ?_ ?_ ?_ (fun x hx => ?_)); (focus decide); (focus (first | decide | omega)); (focus (first | decide | (simp only [sl]; omega))))) | (with_reducible refine w_k (by simp (disch := omega) only [w32_id]; exact rfl) ?_; ((with_reducible refine w_m hS ?_ ?_ ?_ ?_ ?_ (fun x hx => ?_)); (focus decide); (focus (first | decide | omega)); (focus omega); (focus (first | decide | omega)); (focus (first | decide | (simp only [ml]; omega)))))); (try simp (disch := omega) only [Int.reduceToNat, tn_c, tn8, tn8i, tn5, tn5z, tn6, tn6z, tn1, u3_ne, u3_eq, u3_ni, u3_nk, f_0_5 hF1] at hx); subst hx)
    refine w_until (ct := V 139 0) hS hF1 t1 (fun k hk => by rw [sm1.r 8 rfl]; exact h8 k hk) (fun V2 t h' ht9 sm2 hr t2 => ?_)
    have hF2 := cg_RF sm2 rfl hF1
    dsimp only
    ((first | ((with_reducible refine w_s hS ?_ ?_ ?_ (fun x hx => ?_)); (focus decide); (focus (first | decide | omega)); (focus (first | decide | (simp only [sl]; omega)))) | ((with_reducible refine w_m hS ?_ ?_ ?_ ?_ ?_ (fun x hx => ?_)); (focus decide); (focus (first | decide | omega)); (focus omega); (focus (first | decide | omega)); (focus (first | decide | (simp only [ml]; omega)))) | (with_reducible refine w_k (by simp (disch := omega) only [w32_id]; exact rfl) ?_; ((with_reducible refine w_s hS ?_ ?_ ?_ (fun x hx => ?_)); (focus decide); (focus (first | decide | omega)); (focus (first | decide | (simp only [sl]; omega))))) | (with_reducible refine w_k (by simp (disch := omega) only [w32_id]; exact rfl) ?_; ((with_reducible refine w_m hS ?_ ?_ ?_ ?_ ?_ (fun x hx => ?_)); (focus decide); (focus (first | decide | omega)); (focus omega); (focus (first | decide | omega)); (focus (first | decide | (simp only [ml]; omega)))))); (try simp (disch := omega) only [Int.reduceToNat, tn_c, tn8, tn8i, tn5, tn5z, tn6, tn6z, tn1, u3_ne, u3_eq, u3_ni, u3_nk, f_0_5 hF2] at hx); subst hx)
    ((first | ((with_reducible refine w_s hS ?_ ?_ ?_ (fun x hx => ?_)); (focus decide); (focus (first | decide | omega)); (focus (first | decide | (simp only [sl]; omega)))) | ((with_reducible refine w_m hS ?_ ?_ ?_ ?_ ?_ (fun x hx => ?_)); (focus decide); (focus (first | decide | omega)); (focus omega); (focus (first | decide | omega)); (focus (first | decide | (simp only [ml]; omega)))) | (with_reducible refine w_k (by simp (disch := omega) only [w32_id]; exact rfl) ?_; ((with_reducible refine w_s hS ?_ ?_ ?_ (fun x hx => ?_)); (focus decide); (focus (first | decide | omega)); (focus (first | decide | (simp only [sl]; omega))))) | (with_reducible refine w_k (by simp (disch := omega) only [w32_id]; exact rfl) ?_; ((with_reducible refine w_m hS ?_ ?_ ?_ ?_ ?_ (fun x hx => ?_)); (focus decide); (focus (first | decide | omega)); (focus omega); (focus (first | decide | omega)); (focus (first | decide | (simp only [ml]; omega)))))); (try simp (disch := omega) only [Int.reduceToNat, tn_c, tn8, tn8i, tn5, tn5z, tn6, tn6z, tn1, u3_ne, u3_eq, u3_ni, u3_nk, t2.2.2.2.2] at hx); subst hx)
    refine w_ret ?_
    have sm : same V V2 LCH := sm1.tr sm2
    have tr2 : tabr V2 m n (V 100 0 36) := (tab_r ht).cg sm rfl
    refine w_rshown (t := t) (h' := h') (ct := V 139 0) hS hF2 (by rw [sm.r 100 rfl]; exact h1) ⟨by omega, by omega⟩ tr2 (fun k _ => sm.r 139 rfl 0 k) ht9 hr (fun V3 sm3 he => ⟨rfl, ?_⟩)
    have sma : same V V3 [(12, none), (7, some 8), (142, none), (150, none)] := (sm.mono (by decide)).tr (sm3.mono (by decide))
    show INV IT V3 R
    refine INV_it (hI.tbx (sma.mono (by decide))) (Or.inr ⟨by rw [sma.r 100 rfl]; exact h1, m, n, d, ?_, ?_, fun k hk => ?_, fun i hi => ?_, ?_⟩)
    · simp only [sma.f 7 0 rfl, sma.f 7 1 rfl, sma.r 100 rfl]; exact ht.2.1
    · simp only [sma.f 7 2 rfl, sma.r 100 rfl]; exact ht.2.2.1
    · obtain ⟨a1, a2, a3, a4, a5, a6, a7, a8⟩ := c3 k hk
      simp only [sma.r 8 rfl, sma.r 139 rfl, sma.r 9 rfl, sma.r 140 rfl, sma.r 10 rfl, sma.r 141 rfl]
      refine ⟨a1, a2, a3, a4, a5, a6, a7, ?_⟩
      rw [he k hk]; exact t2.2.2.1 k hk
    · rw [sm3.r 12 rfl]
      obtain ⟨b1, b2, b3⟩ := t2.2.2.2.1 i hi
      refine ⟨b1, b2, fun j hj => ?_⟩
      rw [he _ (mn_lt d.2.1 d.2.2.2 hi hj).1]
      exact b3 j hj
    · rw [sm3.f 7 8 rfl, t2.2.2.2.2, hcnt_w, wsm_cg (w := h') (w' := V3 142 0) he]
end RShown
