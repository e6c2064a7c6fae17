section Cond
variable {V : GV} {R : GR} {Q : Int → GS → Prop}
def rcd (W : GV) (c o : Nat) (s r n l : Int) : GV := u3 (u3 (u3 (u3 (u3 (u3 (u3 W 119 0 c s) 125 0 c r) 126 0 c n) 127 0 c l) 128 0 o (100 + (c : Int))) 100 0 29 ((o : Int) + 1)) 100 0 18 ((c : Int) + 1)
theorem w_rcond {W : GV} {c o : Nat} {s r n l : Int} {f : Int × GS → GO} (hS : SH R) (hc : c < 60) (ho : o < 84) (w18 : W 100 0 18 = (c : Int)) (w29 : W 100 0 29 = (o : Int)) (w19 : W 100 0 19 = 0) (w25 : W 100 0 25 = 0) (w26 : W 100 0 26 = 0) (w27 : W 100 0 27 = 0) (w28 : W 100 0 28 = 0) (k : Wp (f ((c : Int), (rcd W c o s r n l, R))) Q) : Wp ((g_X9_condition 0 s r n l (W, R)).bind f) Q := by
  refine w_bind ?_
  unfold g_X9_condition
  refine w_gv (by omega) ?_
  ((first | ((with_reducible refine w_s hS ?_ ?_ ?_ (fun x hx => ?_)); (focus decide); (focus (first | decide | omega)); (focus (first | decide | (simp only [sl]; omega)))) | ((with_reducible refine w_m hS ?_ ?_ ?_ ?_ ?_ (fun x hx => ?_)); (focus decide); (focus (first | decide | omega)); (focus omega); (focus (first | decide | omega)); (focus (first | decide | (simp only [ml]; omega)))) | (with_reducible refine w_k (by simp (disch := omega) only [w32_id]; exact rfl) ?_; ((with_reducible refine w_s hS ?_ ?_ ?_ (fun x hx => ?_)); (focus decide); (focus (first | decide | omega)); (focus (first | decide | (simp only [sl]; omega))))) | (with_reducible refine w_k (by simp (disch := omega) only [w32_id]; exact rfl) ?_; ((with_reducible refine w_m hS ?_ ?_ ?_ ?_ ?_ (fun x hx => ?_)); (focus decide); (focus (first | decide | omega)); (focus omega); (focus (first | decide | omega)); (focus (first | decide | (simp only [ml]; omega)))))); (try simp (disch := omega) only [Int.reduceToNat, tn_c, tn8, tn8i, tn5, tn5z, tn6, tn6z, tn1, u3_ne, u3_eq, u3_ni, u3_nk, w18] at hx); subst hx)
  ((first | ((with_reducible refine w_s hS ?_ ?_ ?_ (fun x hx => ?_)); (focus decide); (focus (first | decide | omega)); (focus (first | decide | (simp only [sl]; omega)))) | ((with_reducible refine w_m hS ?_ ?_ ?_ ?_ ?_ (fun x hx => ?_)); (focus decide); (focus (first | decide | omega)); (focus omega); (focus (first | decide | omega)); (focus (first | decide | (simp only [ml]; omega)))) | (with_reducible refine w_k (by simp (disch := omega) only [w32_id]; exact rfl) ?_; ((with_reducible refine w_s hS ?_ ?_ ?_ (fun x hx => ?_)); (focus decide); (focus (first | decide | omega)); (focus (first | decide | (simp only [sl]; omega))))) | (with_reducible refine w_k (by simp (disch := omega) only [w32_id]; exact rfl) ?_; ((with_reducible refine w_m hS ?_ ?_ ?_ ?_ ?_ (fun x hx => ?_)); (focus decide); (focus (first | decide | omega)); (focus omega); (focus (first | decide | omega)); (focus (first | decide | (simp only [ml]; omega)))))); (try simp (disch := omega) only [Int.reduceToNat, tn_c, tn8, tn8i, tn5, tn5z, tn6, tn6z, tn1, u3_ne, u3_eq, u3_ni, u3_nk, w19] at hx); subst hx)
  refine w_ss hS (by decide) (by omega) (by simp only [sl]; omega) ?_
  rw [tn_c]
  ((first | ((with_reducible refine w_s hS ?_ ?_ ?_ (fun x hx => ?_)); (focus decide); (focus (first | decide | omega)); (focus (first | decide | (simp only [sl]; omega)))) | ((with_reducible refine w_m hS ?_ ?_ ?_ ?_ ?_ (fun x hx => ?_)); (focus decide); (focus (first | decide | omega)); (focus omega); (focus (first | decide | omega)); (focus (first | decide | (simp only [ml]; omega)))) | (with_reducible refine w_k (by simp (disch := omega) only [w32_id]; exact rfl) ?_; ((with_reducible refine w_s hS ?_ ?_ ?_ (fun x hx => ?_)); (focus decide); (focus (first | decide | omega)); (focus (first | decide | (simp only [sl]; omega))))) | (with_reducible refine w_k (by simp (disch := omega) only [w32_id]; exact rfl) ?_; ((with_reducible refine w_m hS ?_ ?_ ?_ ?_ ?_ (fun x hx => ?_)); (focus decide); (focus (first | decide | omega)); (focus omega); (focus (first | decide | omega)); (focus (first | decide | (simp only [ml]; omega)))))); (try simp (disch := omega) only [Int.reduceToNat, tn_c, tn8, tn8i, tn5, tn5z, tn6, tn6z, tn1, u3_ne, u3_eq, u3_ni, u3_nk, u3_ne, w25] at hx); subst hx)
  refine w_ss hS (by decide) (by omega) (by simp only [sl]; omega) ?_
  rw [tn_c]
  ((first | ((with_reducible refine w_s hS ?_ ?_ ?_ (fun x hx => ?_)); (focus decide); (focus (first | decide | omega)); (focus (first | decide | (simp only [sl]; omega)))) | ((with_reducible refine w_m hS ?_ ?_ ?_ ?_ ?_ (fun x hx => ?_)); (focus decide); (focus (first | decide | omega)); (focus omega); (focus (first | decide | omega)); (focus (first | decide | (simp only [ml]; omega)))) | (with_reducible refine w_k (by simp (disch := omega) only [w32_id]; exact rfl) ?_; ((with_reducible refine w_s hS ?_ ?_ ?_ (fun x hx => ?_)); (focus decide); (focus (first | decide | omega)); (focus (first | decide | (simp only [sl]; omega))))) | (with_reducible refine w_k (by simp (disch := omega) only [w32_id]; exact rfl) ?_; ((with_reducible refine w_m hS ?_ ?_ ?_ ?_ ?_ (fun x hx => ?_)); (focus decide); (focus (first | decide | omega)); (focus omega); (focus (first | decide | omega)); (focus (first | decide | (simp only [ml]; omega)))))); (try simp (disch := omega) only [Int.reduceToNat, tn_c, tn8, tn8i, tn5, tn5z, tn6, tn6z, tn1, u3_ne, u3_eq, u3_ni, u3_nk, u3_ne, w26] at hx); subst hx)
  refine w_ss hS (by decide) (by omega) (by simp only [sl]; omega) ?_
  rw [tn_c]
  ((first | ((with_reducible refine w_s hS ?_ ?_ ?_ (fun x hx => ?_)); (focus decide); (focus (first | decide | omega)); (focus (first | decide | (simp only [sl]; omega)))) | ((with_reducible refine w_m hS ?_ ?_ ?_ ?_ ?_ (fun x hx => ?_)); (focus decide); (focus (first | decide | omega)); (focus omega); (focus (first | decide | omega)); (focus (first | decide | (simp only [ml]; omega)))) | (with_reducible refine w_k (by simp (disch := omega) only [w32_id]; exact rfl) ?_; ((with_reducible refine w_s hS ?_ ?_ ?_ (fun x hx => ?_)); (focus decide); (focus (first | decide | omega)); (focus (first | decide | (simp only [sl]; omega))))) | (with_reducible refine w_k (by simp (disch := omega) only [w32_id]; exact rfl) ?_; ((with_reducible refine w_m hS ?_ ?_ ?_ ?_ ?_ (fun x hx => ?_)); (focus decide); (focus (first | decide | omega)); (focus omega); (focus (first | decide | omega)); (focus (first | decide | (simp only [ml]; omega)))))); (try simp (disch := omega) only [Int.reduceToNat, tn_c, tn8, tn8i, tn5, tn5z, tn6, tn6z, tn1, u3_ne, u3_eq, u3_ni, u3_nk, u3_ne, w27] at hx); subst hx)
  refine w_ss hS (by decide) (by omega) (by simp only [sl]; omega) ?_
  rw [tn_c]
  ((first | ((with_reducible refine w_s hS ?_ ?_ ?_ (fun x hx => ?_)); (focus decide); (focus (first | decide | omega)); (focus (first | decide | (simp only [sl]; omega)))) | ((with_reducible refine w_m hS ?_ ?_ ?_ ?_ ?_ (fun x hx => ?_)); (focus decide); (focus (first | decide | omega)); (focus omega); (focus (first | decide | omega)); (focus (first | decide | (simp only [ml]; omega)))) | (with_reducible refine w_k (by simp (disch := omega) only [w32_id]; exact rfl) ?_; ((with_reducible refine w_s hS ?_ ?_ ?_ (fun x hx => ?_)); (focus decide); (focus (first | decide | omega)); (focus (first | decide | (simp only [sl]; omega))))) | (with_reducible refine w_k (by simp (disch := omega) only [w32_id]; exact rfl) ?_; ((with_reducible refine w_m hS ?_ ?_ ?_ ?_ ?_ (fun x hx => ?_)); (focus decide); (focus (first | decide | omega)); (focus omega); (focus (first | decide | omega)); (focus (first | decide | (simp only [ml]; omega)))))); (try simp (disch := omega) only [Int.reduceToNat, tn_c, tn8, tn8i, tn5, tn5z, tn6, tn6z, tn1, u3_ne, u3_eq, u3_ni, u3_nk, u3_ne, w28] at hx); subst hx)
  ((first | ((with_reducible refine w_s hS ?_ ?_ ?_ (fun x hx => ?_)); (focus decide); (focus (first | decide | omega)); (focus (first | decide | (simp only [sl]; omega)))) | ((with_reducible refine w_m hS ?_ ?_ ?_ ?_ ?_ (fun x hx => ?_)); (focus decide); (focus (first | decide | omega)); (focus omega); (focus (first | decide | omega)); (focus (first | decide | (simp only [ml]; omega)))) | (with_reducible refine w_k (by simp (disch := omega) only [w32_id]; exact rfl) ?_; ((with_reducible refine w_s hS ?_ ?_ ?_ (fun x hx => ?_)); (focus decide); (focus (first | decide | omega)); (focus (first | decide | (simp only [sl]; omega))))) | (with_reducible refine w_k (by simp (disch := omega) only [w32_id]; exact rfl) ?_; ((with_reducible refine w_m hS ?_ ?_ ?_ ?_ ?_ (fun x hx => ?_)); (focus decide); (focus (first | decide | omega)); (focus omega); (focus (first | decide | omega)); (focus (first | decide | (simp only [ml]; omega)))))); (try simp (disch := omega) only [Int.reduceToNat, tn_c, tn8, tn8i, tn5, tn5z, tn6, tn6z, tn1, u3_ne, u3_eq, u3_ni, u3_nk, u3_ne, w29] at hx); subst hx)
  refine w_ss hS (by decide) (by omega) (by simp only [sl]; omega) ?_
  rw [tn_c, w32_id (x := 100 + (c : Int)) (by omega) (by omega)]
  ((first | ((with_reducible refine w_s hS ?_ ?_ ?_ (fun x hx => ?_)); (focus decide); (focus (first | decide | omega)); (focus (first | decide | (simp only [sl]; omega)))) | ((with_reducible refine w_m hS ?_ ?_ ?_ ?_ ?_ (fun x hx => ?_)); (focus decide); (focus (first | decide | omega)); (focus omega); (focus (first | decide | omega)); (focus (first | decide | (simp only [ml]; omega)))) | (with_reducible refine w_k (by simp (disch := omega) only [w32_id]; exact rfl) ?_; ((with_reducible refine w_s hS ?_ ?_ ?_ (fun x hx => ?_)); (focus decide); (focus (first | decide | omega)); (focus (first | decide | (simp only [sl]; omega))))) | (with_reducible refine w_k (by simp (disch := omega) only [w32_id]; exact rfl) ?_; ((with_reducible refine w_m hS ?_ ?_ ?_ ?_ ?_ (fun x hx => ?_)); (focus decide); (focus (first | decide | omega)); (focus omega); (focus (first | decide | omega)); (focus (first | decide | (simp only [ml]; omega)))))); (try simp (disch := omega) only [Int.reduceToNat, tn_c, tn8, tn8i, tn5, tn5z, tn6, tn6z, tn1, u3_ne, u3_eq, u3_ni, u3_nk, u3_ne, w29] at hx); subst hx)
  rw [w32_id (x := (o : Int) + 1) (by omega) (by omega)]
  refine w_ss hS (by decide) (by omega) (by decide) ?_
  ((first | ((with_reducible refine w_s hS ?_ ?_ ?_ (fun x hx => ?_)); (focus decide); (focus (first | decide | omega)); (focus (first | decide | (simp only [sl]; omega)))) | ((with_reducible refine w_m hS ?_ ?_ ?_ ?_ ?_ (fun x hx => ?_)); (focus decide); (focus (first | decide | omega)); (focus omega); (focus (first | decide | omega)); (focus (first | decide | (simp only [ml]; omega)))) | (with_reducible refine w_k (by simp (disch := omega) only [w32_id]; exact rfl) ?_; ((with_reducible refine w_s hS ?_ ?_ ?_ (fun x hx => ?_)); (focus decide); (focus (first | decide | omega)); (focus (first | decide | (simp only [sl]; omega))))) | (with_reducible refine w_k (by simp (disch := omega) only [w32_id]; exact rfl) ?_; ((with_reducible refine w_m hS ?_ ?_ ?_ ?_ ?_ (fun x hx => ?_)); (focus decide); (focus (first | decide | omega)); (focus omega); (focus (first | decide | omega)); (focus (first | decide | (simp only [ml]; omega)))))); (try simp (disch := omega) only [Int.reduceToNat, tn_c, tn8, tn8i, tn5, tn5z, tn6, tn6z, tn1, u3_ne, u3_eq, u3_ni, u3_nk, u3_nk, u3_ne, w18] at hx); subst hx)
  rw [w32_id (x := (c : Int) + 1) (by omega) (by omega)]
  refine w_ss hS (by decide) (by omega) (by decide) ?_
  exact w_ret k
theorem SH_nrc (hS : SH R) : SH (nr R 40 7) := by
  obtain ⟨s1, s2, s3⟩ := hS
  refine ⟨fun r hr => ?_, fun r hr i hi => ?_, ?_⟩
  · have : r ≠ 40 := fun z => by subst z; exact hr rfl
    rw [nr_C this, nr_N (Or.inl this)]; exact s1 r hr
  · by_cases e : r = 40
    · subst e
      rw [nr_Ce] at hi
      by_cases e' : i = rC R 40
      · subst e'; rw [nr_Ne]; rfl
      · rw [nr_N (Or.inr e')]; exact s2 40 hr i (by omega)
    · rw [nr_C e] at hi
      rw [nr_N (Or.inl e)]; exact s2 r hr i hi
  · rw [nr_C (by decide), nr_C (by decide), nr_C (by decide), nr_C (by decide), nr_C (by decide), nr_C (by decide), nr_C (by decide), nr_C (by decide), nr_C (by decide), nr_C (by decide), nr_C (by decide), nr_C (by decide)]; exact s3
theorem cnd_o {c o : Nat} {a1 a2 a3 a4 a5 a6 a7 : Int} {r i k : Nat} (h : (r ≠ 40 ∨ i ≠ c) ∧ (r ≠ 3 ∨ k ≠ c) ∧ (r ≠ 4 ∨ k ≠ o) ∧ (r ≠ 1 ∨ (k ≠ 3 ∧ k ≠ 5))) : cnd V c o a1 a2 a3 a4 a5 a6 a7 r i k = V r i k := by
  obtain ⟨h1, h2, h3, h4⟩ := h
  have g40 : ∀ {W : GV} {j : Nat} {v : Int}, u3 W 40 c j v r i k = W r i k := by
    intro W j v
    rcases h1 with h1 | h1
    · exact u3_ne h1
    · exact u3_ni h1
  have g1 : ∀ {W : GV} {j : Nat} {v : Int}, (j = 3 ∨ j = 5) → u3 W 1 0 j v r i k = W r i k := by
    intro W j v hj
    rcases h4 with h4 | h4
    · exact u3_ne h4
    · refine u3_nk ?_
      rcases hj with rfl | rfl
      · exact h4.1
      · exact h4.2
  unfold cnd
  rw [g1 (Or.inl rfl), g1 (Or.inr rfl)]
  have e4 : ∀ {W : GV} {v : Int}, u3 W 4 0 o v r i k = W r i k := by
    intro W v
    rcases h3 with h3 | h3
    · exact u3_ne h3
    · exact u3_nk h3
  have e3 : ∀ {W : GV} {v : Int}, u3 W 3 0 c v r i k = W r i k := by
    intro W v
    rcases h2 with h2 | h2
    · exact u3_ne h2
    · exact u3_nk h2
  rw [e4, e3, g40, g40, g40, g40, g40, g40, g40]
  exact nv_o h1
theorem cnd_f {c o : Nat} {a1 a2 a3 a4 a5 a6 a7 : Int} : (cnd V c o a1 a2 a3 a4 a5 a6 a7 40 c 0 = a1 ∧ cnd V c o a1 a2 a3 a4 a5 a6 a7 40 c 1 = a2 ∧ cnd V c o a1 a2 a3 a4 a5 a6 a7 40 c 2 = a3 ∧ cnd V c o a1 a2 a3 a4 a5 a6 a7 40 c 3 = a4 ∧ cnd V c o a1 a2 a3 a4 a5 a6 a7 40 c 4 = a5 ∧ cnd V c o a1 a2 a3 a4 a5 a6 a7 40 c 5 = a6 ∧ cnd V c o a1 a2 a3 a4 a5 a6 a7 40 c 6 = a7) ∧ cnd V c o a1 a2 a3 a4 a5 a6 a7 3 0 c = (c : Int) ∧ cnd V c o a1 a2 a3 a4 a5 a6 a7 4 0 o = 24 + (c : Int) ∧ cnd V c o a1 a2 a3 a4 a5 a6 a7 1 0 3 = (c : Int) + 1 ∧ cnd V c o a1 a2 a3 a4 a5 a6 a7 1 0 5 = (o : Int) + 1 := by
  unfold cnd
  refine ⟨⟨?_, ?_, ?_, ?_, ?_, ?_, ?_⟩, ?_, ?_, ?_, ?_⟩
  · rw [u3_ne (by decide), u3_ne (by decide), u3_ne (by decide), u3_ne (by decide), u3_nk (by decide), u3_nk (by decide), u3_nk (by decide), u3_nk (by decide), u3_nk (by decide), u3_nk (by decide), u3_eq]
  · rw [u3_ne (by decide), u3_ne (by decide), u3_ne (by decide), u3_ne (by decide), u3_nk (by decide), u3_nk (by decide), u3_nk (by decide), u3_nk (by decide), u3_nk (by decide), u3_eq]
  · rw [u3_ne (by decide), u3_ne (by decide), u3_ne (by decide), u3_ne (by decide), u3_nk (by decide), u3_nk (by decide), u3_nk (by decide), u3_nk (by decide), u3_eq]
  · rw [u3_ne (by decide), u3_ne (by decide), u3_ne (by decide), u3_ne (by decide), u3_nk (by decide), u3_nk (by decide), u3_nk (by decide), u3_eq]
  · rw [u3_ne (by decide), u3_ne (by decide), u3_ne (by decide), u3_ne (by decide), u3_nk (by decide), u3_nk (by decide), u3_eq]
  · rw [u3_ne (by decide), u3_ne (by decide), u3_ne (by decide), u3_ne (by decide), u3_nk (by decide), u3_eq]
  · rw [u3_ne (by decide), u3_ne (by decide), u3_ne (by decide), u3_ne (by decide), u3_eq]
  · rw [u3_ne (by decide), u3_ne (by decide), u3_ne (by decide), u3_eq]
  · rw [u3_ne (by decide), u3_ne (by decide), u3_eq]
  · rw [u3_eq]
  · rw [u3_nk (by decide), u3_eq]
theorem rcd_o {W : GV} {c o : Nat} {s r n l : Int} {r' i k : Nat} (h : (r' ≠ 119 ∧ r' ≠ 125 ∧ r' ≠ 126 ∧ r' ≠ 127 ∨ k ≠ c) ∧ (r' ≠ 128 ∨ k ≠ o) ∧ (r' ≠ 100 ∨ (k ≠ 18 ∧ k ≠ 29))) : rcd W c o s r n l r' i k = W r' i k := by
  obtain ⟨h1, h2, h3⟩ := h
  have g : ∀ {X : GV} {j : Nat} {v : Int}, (j = 119 ∨ j = 125 ∨ j = 126 ∨ j = 127) → u3 X j 0 c v r' i k = X r' i k := by
    intro X j v hj
    rcases h1 with h1 | h1
    · exact u3_ne (by omega)
    · exact u3_nk h1
  have g2 : ∀ {X : GV} {v : Int}, u3 X 128 0 o v r' i k = X r' i k := by
    intro X v
    rcases h2 with h2 | h2
    · exact u3_ne h2
    · exact u3_nk h2
  have g3 : ∀ {X : GV} {j : Nat} {v : Int}, (j = 18 ∨ j = 29) → u3 X 100 0 j v r' i k = X r' i k := by
    intro X j v hj
    rcases h3 with h3 | h3
    · exact u3_ne h3
    · exact u3_nk (by omega)
  unfold rcd
  rw [g3 (Or.inl rfl), g3 (Or.inr rfl), g2, g (by omega), g (by omega), g (by omega), g (by omega)]
theorem rcd_f {W : GV} {c o : Nat} {s r n l : Int} : rcd W c o s r n l 119 0 c = s ∧ rcd W c o s r n l 125 0 c = r ∧ rcd W c o s r n l 126 0 c = n ∧ rcd W c o s r n l 127 0 c = l ∧ rcd W c o s r n l 128 0 o = 100 + (c : Int) ∧ rcd W c o s r n l 100 0 29 = (o : Int) + 1 ∧ rcd W c o s r n l 100 0 18 = (c : Int) + 1 := by
  unfold rcd
  refine ⟨?_, ?_, ?_, ?_, ?_, ?_, ?_⟩
  · rw [u3_ne (by decide), u3_ne (by decide), u3_ne (by decide), u3_ne (by decide), u3_ne (by decide), u3_ne (by decide), u3_eq]
  · rw [u3_ne (by decide), u3_ne (by decide), u3_ne (by decide), u3_ne (by decide), u3_ne (by decide), u3_eq]
  · rw [u3_ne (by decide), u3_ne (by decide), u3_ne (by decide), u3_ne (by decide), u3_eq]
  · rw [u3_ne (by decide), u3_ne (by decide), u3_ne (by decide), u3_eq]
  · rw [u3_ne (by decide), u3_ne (by decide), u3_eq]
  · rw [u3_nk (by decide), u3_eq]
  · rw [u3_eq]
theorem addC_fin {V' : GV} {o : Nat} {a1 a2 a3 a4 s r n l : Int} (hI : INV IT V R) (c60 : rC R 40 < 60) (eo : V 100 0 29 = (o : Int))
  (fr : ∀ r' i k, ¬ ((120 ≤ r' ∧ r' ≤ 124) ∧ k = rC R 40) → V' r' i k = rcd (cnd V (rC R 40) o a1 a2 a3 a4 r n l) (rC R 40) o s r n l r' i k)
  (hr : r = -1 ∨ (0 ≤ r ∧ r < (rC R 20 : Int) ∧ V 101 0 r.toNat = 5)) (hn : 1 ≤ n ∧ n ≤ 30) (hl : 0 ≤ l ∧ l < (rC R 20 : Int)) (hs : 0 ≤ s ∧ s ≤ 4)
  (c0 : s = 0 → (a1 = V' 120 0 (rC R 40) ∧ 0 ≤ V' 120 0 (rC R 40) ∧ V' 120 0 (rC R 40) ≤ 3) ∧ (a2 = V' 121 0 (rC R 40) ∧ 0 ≤ V' 121 0 (rC R 40) ∧ V' 121 0 (rC R 40) < (rC R 20 : Int)) ∧ a4 = V' 122 0 (rC R 40) ∧ r = V 102 0 (V' 121 0 (rC R 40)).toNat ∧ (V 101 0 (V' 121 0 (rC R 40)).toNat = 1 → V' 120 0 (rC R 40) = 0 → 0 ≤ V' 122 0 (rC R 40) ∧ V' 122 0 (rC R 40) ≤ 7) ∧ (V 101 0 (V' 121 0 (rC R 40)).toNat ≤ 1 → V' 120 0 (rC R 40) = 0 ∨ V' 120 0 (rC R 40) = 3))
  (cn : s ≠ 0 → a1 = s + 3 ∧ a2 = V' 123 0 (rC R 40) ∧ 0 ≤ V' 123 0 (rC R 40) ∧ V' 123 0 (rC R 40) < (rC R 40 : Int))
  (c12 : s = 1 ∨ s = 2 → a3 = V' 124 0 (rC R 40) ∧ 0 ≤ V' 124 0 (rC R 40) ∧ V' 124 0 (rC R 40) < (rC R 40 : Int) ∧ (V 125 0 (V' 123 0 (rC R 40)).toNat = -1 ∨ V 125 0 (V' 123 0 (rC R 40)).toNat = r) ∧ (V 125 0 (V' 124 0 (rC R 40)).toNat = -1 ∨ V 125 0 (V' 124 0 (rC R 40)).toNat = r))
  (c3 : s = 3 → r = V 125 0 (V' 123 0 (rC R 40)).toNat) (c4 : s = 4 → a4 = V' 120 0 (rC R 40) ∧ 0 ≤ V' 120 0 (rC R 40) ∧ V' 120 0 (rC R 40) ≤ 5 ∧ r = -1 ∧ 0 ≤ V 125 0 (V' 123 0 (rC R 40)).toNat) : INV IT V' (nr R 40 7) := by
  obtain ⟨f40, f3, f4, f13, f15⟩ := cnd_f (V := V) (c := rC R 40) (o := o) (a1 := a1) (a2 := a2) (a3 := a3) (a4 := a4) (a5 := r) (a6 := n) (a7 := l)
  obtain ⟨g119, g125, g126, g127, g128, g29, g18⟩ := rcd_f (W := cnd V (rC R 40) o a1 a2 a3 a4 r n l) (c := rC R 40) (o := o) (s := s) (r := r) (n := n) (l := l)
  obtain ⟨b20, b30, b40, b50⟩ := hI.IN.1
  have sm : same V V' LAC := by
    intro r' i k hm
    have nm : ∀ e, e ∈ LAC → ¬ (e.1 = r' ∧ (e.2 = none ∨ e.2 = some k)) := fun e he z => hm ⟨e, he, z⟩
    have hh : ∀ r2, (r2, (none : Option Nat)) ∈ LAC → r' ≠ r2 := fun r2 h2 z => nm _ h2 ⟨z.symm, Or.inl rfl⟩
    have h40 := hh 40 (by decide)
    have h3 := hh 3 (by decide)
    have h4 := hh 4 (by decide)
    have h119 := hh 119 (by decide)
    have h120 := hh 120 (by decide)
    have h121 := hh 121 (by decide)
    have h122 := hh 122 (by decide)
    have h123 := hh 123 (by decide)
    have h124 := hh 124 (by decide)
    have h125 := hh 125 (by decide)
    have h126 := hh 126 (by decide)
    have h127 := hh 127 (by decide)
    have h128 := hh 128 (by decide)
    have h13 : r' = 1 → k ≠ 3 ∧ k ≠ 5 := fun z => ⟨fun y => nm (1, some 3) (by decide) ⟨z.symm, Or.inr (by rw [y])⟩, fun y => nm (1, some 5) (by decide) ⟨z.symm, Or.inr (by rw [y])⟩⟩
    have h18 : r' = 100 → k ≠ 18 ∧ k ≠ 29 := fun z => ⟨fun y => nm (100, some 18) (by decide) ⟨z.symm, Or.inr (by rw [y])⟩, fun y => nm (100, some 29) (by decide) ⟨z.symm, Or.inr (by rw [y])⟩⟩
    have q18 : r' ≠ 100 ∨ (k ≠ 18 ∧ k ≠ 29) := by
      by_cases z : r' = 100
      · exact Or.inr (h18 z)
      · exact Or.inl z
    rw [fr r' i k (by omega), rcd_o ⟨Or.inl ⟨h119, h125, h126, h127⟩, Or.inl h128, q18⟩]
    exact cnd_o ⟨Or.inl h40, Or.inl h3, Or.inl h4, by
      by_cases z : r' = 1
      · exact Or.inr (h13 z)
      · exact Or.inl z⟩
  have old : ∀ a, a < rC R 40 → V' 125 0 a = V 125 0 a := fun a ha => by
    rw [fr 125 0 a (by omega), rcd_o ⟨Or.inr (by omega), Or.inl (by decide), Or.inl (by decide)⟩, cnd_o ⟨Or.inl (by decide), Or.inl (by decide), Or.inl (by decide), Or.inl (by decide)⟩]
  have v40 : ∀ k, V' 40 (rC R 40) k = cnd V (rC R 40) o a1 a2 a3 a4 r n l 40 (rC R 40) k := fun k => by
    rw [fr 40 _ k (by omega), rcd_o ⟨Or.inl (by decide), Or.inl (by decide), Or.inl (by decide)⟩]
  have e119 : V' 119 0 (rC R 40) = s := by rw [fr 119 0 _ (by omega)]; exact g119
  have e125 : V' 125 0 (rC R 40) = r := by rw [fr 125 0 _ (by omega)]; exact g125
  have e126 : V' 126 0 (rC R 40) = n := by rw [fr 126 0 _ (by omega)]; exact g126
  have e127 : V' 127 0 (rC R 40) = l := by rw [fr 127 0 _ (by omega)]; exact g127
  have c20 : rC (nr R 40 7) 20 = rC R 20 := nr_C (by decide)
  refine INV_addC (o := o) hI c60 eo sm ⟨nr_Ce, fun r h => nr_C h⟩ ⟨nr_Ne, fun r i h => nr_N h⟩ ⟨rfl, rfl⟩ (fun i k h => ?_) (fun k h => ?_) ?_ (fun k h => ?_) ⟨?_, ?_⟩ ⟨?_, ?_, ?_, ?_⟩ (fun r' k h1 h2 h3 => ?_) ?_
  · rw [fr 40 i k (by omega), rcd_o ⟨Or.inl (by decide), Or.inl (by decide), Or.inl (by decide)⟩, cnd_o ⟨Or.inr h, Or.inl (by decide), Or.inl (by decide), Or.inl (by decide)⟩]
  · rw [fr 3 0 k (by omega), rcd_o ⟨Or.inl (by decide), Or.inl (by decide), Or.inl (by decide)⟩, cnd_o ⟨Or.inl (by decide), Or.inr h, Or.inl (by decide), Or.inl (by decide)⟩]
  · rw [fr 3 0 _ (by omega), rcd_o ⟨Or.inl (by decide), Or.inl (by decide), Or.inl (by decide)⟩]; exact f3
  · rw [fr 4 0 k (by omega), rcd_o ⟨Or.inl (by decide), Or.inl (by decide), Or.inl (by decide)⟩, cnd_o ⟨Or.inl (by decide), Or.inl (by decide), Or.inr h, Or.inl (by decide)⟩, fr 128 0 k (by omega), rcd_o ⟨Or.inl (by decide), Or.inr h, Or.inl (by decide)⟩, cnd_o ⟨Or.inl (by decide), Or.inl (by decide), Or.inl (by decide), Or.inl (by decide)⟩]
    exact ⟨rfl, rfl⟩
  · rw [fr 4 0 _ (by omega), rcd_o ⟨Or.inl (by decide), Or.inl (by decide), Or.inl (by decide)⟩]; exact f4
  · rw [fr 128 0 _ (by omega)]; exact g128
  · rw [fr 1 0 _ (by omega), rcd_o ⟨Or.inl (by decide), Or.inl (by decide), Or.inl (by decide)⟩]; exact f13
  · rw [fr 1 0 _ (by omega), rcd_o ⟨Or.inl (by decide), Or.inl (by decide), Or.inl (by decide)⟩]; exact f15
  · rw [fr 100 0 _ (by omega)]; exact g18
  · rw [fr 100 0 _ (by omega)]; exact g29
  · rw [fr r' 0 k (by omega), rcd_o ⟨Or.inr h3, Or.inl (by omega), Or.inl (by omega)⟩, cnd_o ⟨Or.inl (by omega), Or.inl (by omega), Or.inl (by omega), Or.inl (by omega)⟩]
  · refine ⟨?_, ?_, ?_, ?_, ?_, fun z => ?_, fun z => ?_, fun z => ?_, fun z => ?_, fun z => ?_⟩
    · rw [v40, f40.2.2.2.2.1, e125, c20]; omega
    · rw [v40, f40.2.2.2.2.2.1, e126]; exact ⟨rfl, hn⟩
    · rw [v40, f40.2.2.2.2.2.2, e127, c20]; exact ⟨rfl, hl⟩
    · rw [e119]; exact hs
    · unfold ICre
      rw [e125, c20]
      rcases hr with hr | ⟨h1, h2, h3⟩
      · exact Or.inl hr
      · exact Or.inr ⟨h1, h2, by rw [sm.r 101 rfl]; exact h3⟩
    · rw [e119] at z
      obtain ⟨d1, d2, d3, d4, d5, d6⟩ := c0 z
      rw [v40, f40.1, v40, f40.2.1, v40, f40.2.2.2.1, c20, e125, sm.r 102 rfl, sm.r 101 rfl]
      exact ⟨d1, d2, d3, d4, d5, d6⟩
    · rw [e119] at z
      rw [v40, f40.1, e119, v40, f40.2.1]; exact cn z
    · rw [e119] at z
      obtain ⟨d1, d2, d3, d4, d5⟩ := c12 z
      obtain ⟨_, _, w1, w2⟩ := cn (by omega)
      rw [v40, f40.2.2.1, e125, old _ (by omega), old _ (by omega)]
      exact ⟨d1, d2, d3, d4, d5⟩
    · rw [e119] at z
      obtain ⟨_, _, w1, w2⟩ := cn (by omega)
      rw [e125, old _ (by omega)]; exact c3 z
    · rw [e119] at z
      obtain ⟨_, _, w1, w2⟩ := cn (by omega)
      rw [v40, f40.2.2.2.1, e125, old _ (by omega)]; exact c4 z
theorem w_cFull {n : Int} {f : Int × GS → GO} (hI : INV IT V R) (k0 : rC R 40 < 60 → n ≤ 30 → Wp (f (0, (V, R))) Q) (k1 : ¬ (rC R 40 < 60 ∧ n ≤ 30) → Wp (f (1, (V, R))) Q) : Wp ((g_X3_conditionsAreFull 0 n (V, R)).bind f) Q := by
  have hS := hI.SH
  have n6 := hI.IN.2.1.2.2.2.2.2.1
  refine w_bind ?_
  unfold g_X3_conditionsAreFull gjX3_conditionsAreFull_15
  refine w_gv (by omega) ?_
  ((first | ((with_reducible refine w_s hS ?_ ?_ ?_ (fun x hx => ?_)); (focus decide); (focus (first | decide | omega)); (focus (first | decide | (simp only [sl]; omega)))) | ((with_reducible refine w_m hS ?_ ?_ ?_ ?_ ?_ (fun x hx => ?_)); (focus decide); (focus (first | decide | omega)); (focus omega); (focus (first | decide | omega)); (focus (first | decide | (simp only [ml]; omega)))) | (with_reducible refine w_k (by simp (disch := omega) only [w32_id]; exact rfl) ?_; ((with_reducible refine w_s hS ?_ ?_ ?_ (fun x hx => ?_)); (focus decide); (focus (first | decide | omega)); (focus (first | decide | (simp only [sl]; omega))))) | (with_reducible refine w_k (by simp (disch := omega) only [w32_id]; exact rfl) ?_; ((with_reducible refine w_m hS ?_ ?_ ?_ ?_ ?_ (fun x hx => ?_)); (focus decide); (focus (first | decide | omega)); (focus omega); (focus (first | decide | omega)); (focus (first | decide | (simp only [ml]; omega)))))); (try simp (disch := omega) only [Int.reduceToNat, tn_c, tn8, tn8i, tn5, tn5z, tn6, tn6z, tn1, u3_ne, u3_eq, u3_ni, u3_nk, n6] at hx); subst hx)
  exact w_ite (fun z => w_ret (k1 (by omega))) (fun z => w_ite (fun y => w_ret (k0 (by omega) y)) (fun y => w_ret (k1 (by omega))))
end Cond
