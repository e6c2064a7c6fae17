section Told
variable {V : GV} {R : GR} {Q : Int → GS → Prop}
def dst (R : GR) (ρ : Nat → Int) (q n : Nat) (s r i k : Nat) : Prop := (r = 32 ∨ r = 33) ∧ i = s ∧ ∃ q' p : Nat, q' < rC R 20 ∧ p < 5 ∧ n ≤ p ∧ ρ q' = (q : Int) ∧ k = 5 * q' + p
theorem w_dropPersons {s q n : Nat} {ρ : Nat → Int} {f : Int × GS → GO} (hS : SH R) (b20 : rC R 20 ≤ 24) (hF : RF V R) (hN : V 1 0 1 = (rC R 20 : Int)) (hL : ∀ k, k < rC R 20 → V 2 0 k = (k : Int)) (h20 : ∀ q', q' < rC R 20 → V 20 q' 1 = ρ q') (hk : shk V R s 120) (hn : n ≤ 5)
  (K : ∀ V', (∀ r i k, ¬ dst R ρ q n s r i k → V' r i k = V r i k) → (∀ q' p : Nat, q' < rC R 20 → p < 5 → n ≤ p → ρ q' = (q : Int) → V' 32 s (5 * q' + p) = 0 ∧ V' 33 s (5 * q' + p) = 1) → Wp (f (0, (V', R))) Q) : Wp ((g_X8_dropPersons 0 (s : Int) (q : Int) (n : Int) (V, R)).bind f) Q := by
  refine w_bind ?_
  unfold g_X8_dropPersons
  refine w_gv (by omega) ?_
  refine w_for (rC R 20) (fun i G => ∃ V', G = (V', R) ∧ (∀ r i k, ¬ dst R ρ q n s r i k → V' r i k = V r i k) ∧ ∀ q' p : Nat, q' < i → p < 5 → n ≤ p → ρ q' = (q : Int) → V' 32 s (5 * q' + p) = 0 ∧ V' 33 s (5 * q' + p) = 1) ?_ (i := 0) (by omega) (by omega) ⟨V, rfl, fun _ _ _ _ => rfl, fun q' p h => absurd h (by omega)⟩
  rintro i G hi ⟨V', rfl, fr, hv⟩ self ih
  have e0 : ∀ r, r ≠ 32 → r ≠ 33 → ∀ i k, V' r i k = V r i k := fun r h1 h2 i k => fr r i k (fun z => by rcases z.1 with z | z <;> omega)
  unfold glX8_dropPersons_3 gjX8_dropPersons_62
  ((first | ((with_reducible refine w_s hS ?_ ?_ ?_ (fun x hx => ?_)); (focus decide); (focus (first | decide | omega)); (focus (first | decide | (simp only [sl]; omega)))) | ((with_reducible refine w_m hS ?_ ?_ ?_ ?_ ?_ (fun x hx => ?_)); (focus decide); (focus (first | decide | omega)); (focus omega); (focus (first | decide | omega)); (focus (first | decide | (simp only [ml]; omega)))) | (with_reducible refine w_k (by simp (disch := omega) only [w32_id]; exact rfl) ?_; ((with_reducible refine w_s hS ?_ ?_ ?_ (fun x hx => ?_)); (focus decide); (focus (first | decide | omega)); (focus (first | decide | (simp only [sl]; omega))))) | (with_reducible refine w_k (by simp (disch := omega) only [w32_id]; exact rfl) ?_; ((with_reducible refine w_m hS ?_ ?_ ?_ ?_ ?_ (fun x hx => ?_)); (focus decide); (focus (first | decide | omega)); (focus omega); (focus (first | decide | omega)); (focus (first | decide | (simp only [ml]; omega)))))); (try simp (disch := omega) only [Int.reduceToNat, tn_c, tn8, tn8i, tn5, tn5z, tn6, tn6z, tn1, u3_ne, u3_eq, u3_ni, u3_nk, e0 0 (by decide) (by decide), f_0_0 hF] at hx); subst hx)
  ((first | ((with_reducible refine w_s hS ?_ ?_ ?_ (fun x hx => ?_)); (focus decide); (focus (first | decide | omega)); (focus (first | decide | (simp only [sl]; omega)))) | ((with_reducible refine w_m hS ?_ ?_ ?_ ?_ ?_ (fun x hx => ?_)); (focus decide); (focus (first | decide | omega)); (focus omega); (focus (first | decide | omega)); (focus (first | decide | (simp only [ml]; omega)))) | (with_reducible refine w_k (by simp (disch := omega) only [w32_id]; exact rfl) ?_; ((with_reducible refine w_s hS ?_ ?_ ?_ (fun x hx => ?_)); (focus decide); (focus (first | decide | omega)); (focus (first | decide | (simp only [sl]; omega))))) | (with_reducible refine w_k (by simp (disch := omega) only [w32_id]; exact rfl) ?_; ((with_reducible refine w_m hS ?_ ?_ ?_ ?_ ?_ (fun x hx => ?_)); (focus decide); (focus (first | decide | omega)); (focus omega); (focus (first | decide | omega)); (focus (first | decide | (simp only [ml]; omega)))))); (try simp (disch := omega) only [Int.reduceToNat, tn_c, tn8, tn8i, tn5, tn5z, tn6, tn6z, tn1, u3_ne, u3_eq, u3_ni, u3_nk, e0 1 (by decide) (by decide), hN] at hx); subst hx)
  refine w_ite (fun hx => w_ret (K V' fr (fun q' p h => hv q' p (by omega)))) (fun hx => ?_)
  have hi : i < rC R 20 := by omega
  ((first | ((with_reducible refine w_s hS ?_ ?_ ?_ (fun x hx => ?_)); (focus decide); (focus (first | decide | omega)); (focus (first | decide | (simp only [sl]; omega)))) | ((with_reducible refine w_m hS ?_ ?_ ?_ ?_ ?_ (fun x hx => ?_)); (focus decide); (focus (first | decide | omega)); (focus omega); (focus (first | decide | omega)); (focus (first | decide | (simp only [ml]; omega)))) | (with_reducible refine w_k (by simp (disch := omega) only [w32_id]; exact rfl) ?_; ((with_reducible refine w_s hS ?_ ?_ ?_ (fun x hx => ?_)); (focus decide); (focus (first | decide | omega)); (focus (first | decide | (simp only [sl]; omega))))) | (with_reducible refine w_k (by simp (disch := omega) only [w32_id]; exact rfl) ?_; ((with_reducible refine w_m hS ?_ ?_ ?_ ?_ ?_ (fun x hx => ?_)); (focus decide); (focus (first | decide | omega)); (focus omega); (focus (first | decide | omega)); (focus (first | decide | (simp only [ml]; omega)))))); (try simp (disch := omega) only [Int.reduceToNat, tn_c, tn8, tn8i, tn5, tn5z, tn6, tn6z, tn1, u3_ne, u3_eq, u3_ni, u3_nk, e0 0 (by decide) (by decide), f_0_0 hF] at hx); subst hx)
  ((first | ((with_reducible refine w_s hS ?_ ?_ ?_ (fun x hx => ?_)); (focus decide); (focus (first | decide | omega)); (focus (first | decide | (simp only [sl]; omega)))) | ((with_reducible refine w_m hS ?_ ?_ ?_ ?_ ?_ (fun x hx => ?_)); (focus decide); (focus (first | decide | omega)); (focus omega); (focus (first | decide | omega)); (focus (first | decide | (simp only [ml]; omega)))) | (with_reducible refine w_k (by simp (disch := omega) only [w32_id]; exact rfl) ?_; ((with_reducible refine w_s hS ?_ ?_ ?_ (fun x hx => ?_)); (focus decide); (focus (first | decide | omega)); (focus (first | decide | (simp only [sl]; omega))))) | (with_reducible refine w_k (by simp (disch := omega) only [w32_id]; exact rfl) ?_; ((with_reducible refine w_m hS ?_ ?_ ?_ ?_ ?_ (fun x hx => ?_)); (focus decide); (focus (first | decide | omega)); (focus omega); (focus (first | decide | omega)); (focus (first | decide | (simp only [ml]; omega)))))); (try simp (disch := omega) only [Int.reduceToNat, tn_c, tn8, tn8i, tn5, tn5z, tn6, tn6z, tn1, u3_ne, u3_eq, u3_ni, u3_nk, e0 1 (by decide) (by decide), f_1_0 hF] at hx); subst hx)
  ((first | ((with_reducible refine w_s hS ?_ ?_ ?_ (fun x hx => ?_)); (focus decide); (focus (first | decide | omega)); (focus (first | decide | (simp only [sl]; omega)))) | ((with_reducible refine w_m hS ?_ ?_ ?_ ?_ ?_ (fun x hx => ?_)); (focus decide); (focus (first | decide | omega)); (focus omega); (focus (first | decide | omega)); (focus (first | decide | (simp only [ml]; omega)))) | (with_reducible refine w_k (by simp (disch := omega) only [w32_id]; exact rfl) ?_; ((with_reducible refine w_s hS ?_ ?_ ?_ (fun x hx => ?_)); (focus decide); (focus (first | decide | omega)); (focus (first | decide | (simp only [sl]; omega))))) | (with_reducible refine w_k (by simp (disch := omega) only [w32_id]; exact rfl) ?_; ((with_reducible refine w_m hS ?_ ?_ ?_ ?_ ?_ (fun x hx => ?_)); (focus decide); (focus (first | decide | omega)); (focus omega); (focus (first | decide | omega)); (focus (first | decide | (simp only [ml]; omega)))))); (try simp (disch := omega) only [Int.reduceToNat, tn_c, tn8, tn8i, tn5, tn5z, tn6, tn6z, tn1, u3_ne, u3_eq, u3_ni, u3_nk, e0 2 (by decide) (by decide), hL] at hx); subst hx)
  ((first | ((with_reducible refine w_s hS ?_ ?_ ?_ (fun x hx => ?_)); (focus decide); (focus (first | decide | omega)); (focus (first | decide | (simp only [sl]; omega)))) | ((with_reducible refine w_m hS ?_ ?_ ?_ ?_ ?_ (fun x hx => ?_)); (focus decide); (focus (first | decide | omega)); (focus omega); (focus (first | decide | omega)); (focus (first | decide | (simp only [ml]; omega)))) | (with_reducible refine w_k (by simp (disch := omega) only [w32_id]; exact rfl) ?_; ((with_reducible refine w_s hS ?_ ?_ ?_ (fun x hx => ?_)); (focus decide); (focus (first | decide | omega)); (focus (first | decide | (simp only [sl]; omega))))) | (with_reducible refine w_k (by simp (disch := omega) only [w32_id]; exact rfl) ?_; ((with_reducible refine w_m hS ?_ ?_ ?_ ?_ ?_ (fun x hx => ?_)); (focus decide); (focus (first | decide | omega)); (focus omega); (focus (first | decide | omega)); (focus (first | decide | (simp only [ml]; omega)))))); (try simp (disch := omega) only [Int.reduceToNat, tn_c, tn8, tn8i, tn5, tn5z, tn6, tn6z, tn1, u3_ne, u3_eq, u3_ni, u3_nk, e0 20 (by decide) (by decide), h20] at hx); subst hx)
  refine w_ite (fun z => ?_) (fun z => ih _ hi ⟨V', rfl, fr, fun q' p h hp hnp hr => ?_⟩)
  · refine w_for 5 (fun j G => n ≤ j ∧ ∃ V2, G = (V2, R) ∧ (∀ r i k, ¬ dst R ρ q n s r i k → V2 r i k = V r i k) ∧ (∀ q' p : Nat, q' < i → p < 5 → n ≤ p → ρ q' = (q : Int) → V2 32 s (5 * q' + p) = 0 ∧ V2 33 s (5 * q' + p) = 1) ∧ ∀ p, n ≤ p → p < j → V2 32 s (5 * i + p) = 0 ∧ V2 33 s (5 * i + p) = 1) ?_ hn (by omega) ⟨Nat.le_refl _, V', rfl, fr, hv, fun p h1 h2 => absurd h2 (by omega)⟩
    rintro j G hj ⟨hnj, V2, rfl, fr2, hv2, hw2⟩ self' ih'
    have hk2 : shk V2 R s 120 := hk.cg (V' := V2) (fun i k => fr2 _ _ _ (fun z => by rcases z.1 with z | z <;> omega))
    unfold glX8_dropPersons_38 gjX8_dropPersons_62
    refine w_ite (fun hx' => ih _ hi ⟨V2, rfl, fr2, fun q' p h hp hnp hr => ?_⟩) (fun hx' => ?_)
    · by_cases e : q' = i
      · subst e; exact hw2 p hnp (by omega)
      · exact hv2 q' p (by omega) hp hnp hr
    · refine w_spot (by omega) (by omega) ?_
      refine w_lack hS hk2 (by omega) ?_
      refine ih' _ (by omega) ⟨by omega, _, rfl, fun r i' k' hd => ?_, fun q' p h hp hnp hr => ?_, fun p h1 h2 => ?_⟩
      · rw [putv_o ?_]
        · exact fr2 r i' k' hd
        · by_cases e : i' = s
          · by_cases e2 : k' = 5 * i + j
            · refine Or.inl ⟨fun w => hd ⟨Or.inl w, e, i, j, hi, by omega, hnj, z, e2⟩, fun w => hd ⟨Or.inr w, e, i, j, hi, by omega, hnj, z, e2⟩⟩
            · exact Or.inr (Or.inr e2)
          · exact Or.inr (Or.inl e)
      · rw [putv_o (Or.inr (Or.inr (by omega))), putv_o (Or.inr (Or.inr (by omega)))]
        exact hv2 q' p h hp hnp hr
      · by_cases e : p = j
        · subst e; rw [putv_32, putv_33]; exact ⟨rfl, rfl⟩
        · rw [putv_o (Or.inr (Or.inr (by omega))), putv_o (Or.inr (Or.inr (by omega)))]
          exact hw2 p h1 (by omega)
  · by_cases e : q' = i
    · subst e; exact absurd hr z
    · exact hv q' p (by omega) hp hnp hr
def pst (R : GR) (ρ : Nat → Int) (q h : Nat) (n m : Int) (r k : Nat) : Prop := (r = 115 ∨ r = 116) ∧ ∃ q' p : Nat, q' < rC R 20 ∧ p < 5 ∧ (n ≤ (p : Int) ∨ m ≤ (p : Int)) ∧ ρ q' = (q : Int) ∧ k = 144 * h + 6 * q' + (p + 1)
theorem w_people {h q : Nat} {n : Int} {ρ : Nat → Int} {f : Int × GS → GO} (hS : SH R) (b20 : rC R 20 ≤ 24) (hh : h < 40) (hq : q < 24) (hF : RF V R) (hN : V 100 0 0 = (rC R 20 : Int)) (h102 : ∀ q', q' < rC R 20 → V 102 0 q' = ρ q') (p0 : 0 ≤ V 115 0 (144 * h + 6 * q)) (p5 : V 115 0 (144 * h + 6 * q) ≤ 5)
  (K : ∀ V', (∀ r i k, ¬ pst R ρ q h n (V 115 0 (144 * h + 6 * q)) r k → V' r i k = V r i k) → (∀ q' p : Nat, q' < rC R 20 → p < 5 → (n ≤ (p : Int) ∨ V 115 0 (144 * h + 6 * q) ≤ (p : Int)) → ρ q' = (q : Int) → V' 115 0 (144 * h + 6 * q' + (p + 1)) = 0 ∧ V' 116 0 (144 * h + 6 * q' + (p + 1)) = 1) → Wp (f (0, (V', R))) Q) : Wp ((g_X9_people 0 (h : Int) (q : Int) n (V, R)).bind f) Q := by
  refine w_bind ?_
  unfold g_X9_people
  refine w_gv (by omega) ?_
  refine w_rpers hS hF hh hq p0 p5 ?_
  dsimp only
  generalize V 115 0 (144 * h + 6 * q) = m at *
  refine w_for (rC R 20) (fun i G => ∃ V', G = (V', R) ∧ (∀ r i k, ¬ pst R ρ q h n m r k → V' r i k = V r i k) ∧ ∀ q' p : Nat, q' < i → p < 5 → (n ≤ (p : Int) ∨ m ≤ (p : Int)) → ρ q' = (q : Int) → V' 115 0 (144 * h + 6 * q' + (p + 1)) = 0 ∧ V' 116 0 (144 * h + 6 * q' + (p + 1)) = 1) ?_ (i := 0) (by omega) (by omega) ⟨V, rfl, fun _ _ _ _ => rfl, fun q' p h => absurd h (by omega)⟩
  rintro i G hi ⟨V', rfl, fr, hv⟩ self ih
  have e0 : ∀ r, r ≠ 115 → r ≠ 116 → ∀ i k, V' r i k = V r i k := fun r h1 h2 i k => fr r i k (fun z => by rcases z.1 with z | z <;> omega)
  unfold glX9_people_11
  ((first | ((with_reducible refine w_s hS ?_ ?_ ?_ (fun x hx => ?_)); (focus decide); (focus (first | decide | omega)); (focus (first | decide | (simp only [sl]; omega)))) | ((with_reducible refine w_m hS ?_ ?_ ?_ ?_ ?_ (fun x hx => ?_)); (focus decide); (focus (first | decide | omega)); (focus omega); (focus (first | decide | omega)); (focus (first | decide | (simp only [ml]; omega)))) | (with_reducible refine w_k (by simp (disch := omega) only [w32_id]; exact rfl) ?_; ((with_reducible refine w_s hS ?_ ?_ ?_ (fun x hx => ?_)); (focus decide); (focus (first | decide | omega)); (focus (first | decide | (simp only [sl]; omega))))) | (with_reducible refine w_k (by simp (disch := omega) only [w32_id]; exact rfl) ?_; ((with_reducible refine w_m hS ?_ ?_ ?_ ?_ ?_ (fun x hx => ?_)); (focus decide); (focus (first | decide | omega)); (focus omega); (focus (first | decide | omega)); (focus (first | decide | (simp only [ml]; omega)))))); (try simp (disch := omega) only [Int.reduceToNat, tn_c, tn8, tn8i, tn5, tn5z, tn6, tn6z, tn1, u3_ne, u3_eq, u3_ni, u3_nk, e0 100 (by decide) (by decide), hN] at hx); subst hx)
  refine w_ite (fun hx => w_ret (K V' fr (fun q' p h => hv q' p (by omega)))) (fun hx => ?_)
  have hi : i < rC R 20 := by omega
  refine w_for 5 (fun j G => ∃ V2, G = (V2, R) ∧ (∀ r i k, ¬ pst R ρ q h n m r k → V2 r i k = V r i k) ∧ (∀ q' p : Nat, q' < i → p < 5 → (n ≤ (p : Int) ∨ m ≤ (p : Int)) → ρ q' = (q : Int) → V2 115 0 (144 * h + 6 * q' + (p + 1)) = 0 ∧ V2 116 0 (144 * h + 6 * q' + (p + 1)) = 1) ∧ (ρ i = (q : Int) → ∀ p, p < j → (n ≤ (p : Int) ∨ m ≤ (p : Int)) → V2 115 0 (144 * h + 6 * i + (p + 1)) = 0 ∧ V2 116 0 (144 * h + 6 * i + (p + 1)) = 1)) ?_ (i := 0) (by omega) (by omega) ⟨V', rfl, fr, hv, fun _ p h2 => absurd h2 (by omega)⟩
  rintro j G hj ⟨V2, rfl, fr2, hv2, hw2⟩ self' ih'
  have e2 : ∀ r, r ≠ 115 → r ≠ 116 → ∀ i k, V2 r i k = V r i k := fun r h1 h2 i k => fr2 r i k (fun z => by rcases z.1 with z | z <;> omega)
  have hF2 : RF V2 R := by
    refine ⟨fun e he => ?_, fun e he i hi => ?_⟩
    · rw [e2 e.1 ?_ ?_]
      · exact hF.1 e he
      · exact (by decide : ∀ e, e ∈ RL0 → e.1 ≠ 115) e he
      · exact (by decide : ∀ e, e ∈ RL0 → e.1 ≠ 116) e he
    · rw [e2 e.1 ?_ ?_]
      · exact hF.2 e he i hi
      · exact (by decide : ∀ e, e ∈ RL1 → e.1 ≠ 115) e he
      · exact (by decide : ∀ e, e ∈ RL1 → e.1 ≠ 116) e he
  unfold glX9_people_23 gjX9_people_91 gjX9_people_85
  have out : (ρ i = (q : Int) → 5 ≤ j) → Wp (self (w32 ((i : Int) + 1)) (V2, R)) (fun r G => Wp (f (r, G)) Q) := by
    intro ho
    refine ih _ hi ⟨V2, rfl, fr2, fun q' p h hp hnp hr => ?_⟩
    by_cases e : q' = i
    · subst e; exact hw2 hr p (by have := ho hr; omega) hnp
    · exact hv2 q' p (by omega) hp hnp hr
  refine w_ite (fun hx' => out (fun _ => by omega)) (fun hx' => ?_)
  ((first | ((with_reducible refine w_s hS ?_ ?_ ?_ (fun x hx => ?_)); (focus decide); (focus (first | decide | omega)); (focus (first | decide | (simp only [sl]; omega)))) | ((with_reducible refine w_m hS ?_ ?_ ?_ ?_ ?_ (fun x hx => ?_)); (focus decide); (focus (first | decide | omega)); (focus omega); (focus (first | decide | omega)); (focus (first | decide | (simp only [ml]; omega)))) | (with_reducible refine w_k (by simp (disch := omega) only [w32_id]; exact rfl) ?_; ((with_reducible refine w_s hS ?_ ?_ ?_ (fun x hx => ?_)); (focus decide); (focus (first | decide | omega)); (focus (first | decide | (simp only [sl]; omega))))) | (with_reducible refine w_k (by simp (disch := omega) only [w32_id]; exact rfl) ?_; ((with_reducible refine w_m hS ?_ ?_ ?_ ?_ ?_ (fun x hx => ?_)); (focus decide); (focus (first | decide | omega)); (focus omega); (focus (first | decide | omega)); (focus (first | decide | (simp only [ml]; omega)))))); (try simp (disch := omega) only [Int.reduceToNat, tn_c, tn8, tn8i, tn5, tn5z, tn6, tn6z, tn1, u3_ne, u3_eq, u3_ni, u3_nk, f_100_2 hF2] at hx); subst hx)
  ((first | ((with_reducible refine w_s hS ?_ ?_ ?_ (fun x hx => ?_)); (focus decide); (focus (first | decide | omega)); (focus (first | decide | (simp only [sl]; omega)))) | ((with_reducible refine w_m hS ?_ ?_ ?_ ?_ ?_ (fun x hx => ?_)); (focus decide); (focus (first | decide | omega)); (focus omega); (focus (first | decide | omega)); (focus (first | decide | (simp only [ml]; omega)))) | (with_reducible refine w_k (by simp (disch := omega) only [w32_id]; exact rfl) ?_; ((with_reducible refine w_s hS ?_ ?_ ?_ (fun x hx => ?_)); (focus decide); (focus (first | decide | omega)); (focus (first | decide | (simp only [sl]; omega))))) | (with_reducible refine w_k (by simp (disch := omega) only [w32_id]; exact rfl) ?_; ((with_reducible refine w_m hS ?_ ?_ ?_ ?_ ?_ (fun x hx => ?_)); (focus decide); (focus (first | decide | omega)); (focus omega); (focus (first | decide | omega)); (focus (first | decide | (simp only [ml]; omega)))))); (try simp (disch := omega) only [Int.reduceToNat, tn_c, tn8, tn8i, tn5, tn5z, tn6, tn6z, tn1, u3_ne, u3_eq, u3_ni, u3_nk, e2 102 (by decide) (by decide), h102] at hx); subst hx)
  refine w_ite (fun z => out (fun w => absurd w z)) (fun z => ?_)
  have hj5 : j < 5 := by omega
  have put : (n ≤ (j : Int) ∨ m ≤ (j : Int)) → Wp (gjX9_people_53 self self' 0 (h : Int) (q : Int) n m (i : Int) (j : Int) (V2, R)) (fun r G => Wp (f (r, G)) Q) := by
    intro hnm
    unfold gjX9_people_53 gjX9_people_85
    rw [ws1 (by omega)]
    ((first | ((with_reducible refine w_s hS ?_ ?_ ?_ (fun x hx => ?_)); (focus decide); (focus (first | decide | omega)); (focus (first | decide | (simp only [sl]; omega)))) | ((with_reducible refine w_m hS ?_ ?_ ?_ ?_ ?_ (fun x hx => ?_)); (focus decide); (focus (first | decide | omega)); (focus omega); (focus (first | decide | omega)); (focus (first | decide | (simp only [ml]; omega)))) | (with_reducible refine w_k (by simp (disch := omega) only [w32_id]; exact rfl) ?_; ((with_reducible refine w_s hS ?_ ?_ ?_ (fun x hx => ?_)); (focus decide); (focus (first | decide | omega)); (focus (first | decide | (simp only [sl]; omega))))) | (with_reducible refine w_k (by simp (disch := omega) only [w32_id]; exact rfl) ?_; ((with_reducible refine w_m hS ?_ ?_ ?_ ?_ ?_ (fun x hx => ?_)); (focus decide); (focus (first | decide | omega)); (focus omega); (focus (first | decide | omega)); (focus (first | decide | (simp only [ml]; omega)))))); (try simp (disch := omega) only [Int.reduceToNat, tn_c, tn8, tn8i, tn5, tn5z, tn6, tn6z, tn1, u3_ne, u3_eq, u3_ni, u3_nk, f_100_15 hF2] at hx); subst hx)
    refine w_place hh (by omega) (by omega) ?_
    refine w_ss hS (by decide) (by omega) (by simp only [sl]; omega) ?_
    rw [tn_c]
    ((first | ((with_reducible refine w_s hS ?_ ?_ ?_ (fun x hx => ?_)); (focus decide); (focus (first | decide | omega)); (focus (first | decide | (simp only [sl]; omega)))) | ((with_reducible refine w_m hS ?_ ?_ ?_ ?_ ?_ (fun x hx => ?_)); (focus decide); (focus (first | decide | omega)); (focus omega); (focus (first | decide | omega)); (focus (first | decide | (simp only [ml]; omega)))) | (with_reducible refine w_k (by simp (disch := omega) only [w32_id]; exact rfl) ?_; ((with_reducible refine w_s hS ?_ ?_ ?_ (fun x hx => ?_)); (focus decide); (focus (first | decide | omega)); (focus (first | decide | (simp only [sl]; omega))))) | (with_reducible refine w_k (by simp (disch := omega) only [w32_id]; exact rfl) ?_; ((with_reducible refine w_m hS ?_ ?_ ?_ ?_ ?_ (fun x hx => ?_)); (focus decide); (focus (first | decide | omega)); (focus omega); (focus (first | decide | omega)); (focus (first | decide | (simp only [ml]; omega)))))); (try simp (disch := omega) only [Int.reduceToNat, tn_c, tn8, tn8i, tn5, tn5z, tn6, tn6z, tn1, u3_ne, u3_eq, u3_ni, u3_nk, u3_ne, f_100_16 hF2] at hx); subst hx)
    refine w_place hh (by omega) (by omega) ?_
    refine w_ss hS (by decide) (by omega) (by simp only [sl]; omega) ?_
    rw [tn_c]
    rw [← ws1 (i := j) (by omega)]
    refine ih' _ hj5 ⟨_, rfl, fun r i' k' hd => ?_, fun q' p h hp hnp hr => ?_, fun hr p hp hnp => ?_⟩
    · have n1 : ¬ (r = 116 ∧ i' = 0 ∧ k' = 144 * h + 6 * i + (j + 1)) := fun w => hd ⟨Or.inr w.1, i, j, hi, hj5, hnm, by omega, w.2.2⟩
      have n2 : ¬ (r = 115 ∧ i' = 0 ∧ k' = 144 * h + 6 * i + (j + 1)) := fun w => hd ⟨Or.inl w.1, i, j, hi, hj5, hnm, by omega, w.2.2⟩
      exact ((if_neg n1).trans (if_neg n2)).trans (fr2 r i' k' hd)
    · rw [u3_ne (by decide), u3_nk (by omega), u3_nk (by omega), u3_ne (by decide)]
      exact hv2 q' p h hp hnp hr
    · by_cases e : p = j
      · subst e; rw [u3_ne (by decide), u3_eq, u3_eq]; exact ⟨rfl, rfl⟩
      · rw [u3_ne (by decide), u3_nk (by omega), u3_nk (by omega), u3_ne (by decide)]
        exact hw2 hr p (by omega) hnp
  refine w_ite (fun y => put (Or.inr y)) (fun y => w_ite (fun w => ih' _ hj5 ⟨V2, rfl, fr2, hv2, fun hr p hp hnp => ?_⟩) (fun w => put (Or.inl (by omega))))
  by_cases e : p = j
  · subst e; omega
  · exact hw2 hr p (by omega) hnp
theorem INV_count {V' : GV} {h q : Nat} {v : Int} (hI : INV IT V R) (sm : same V V' LC) (hh : h < rC R 30) (hq : q < rC R 20) (k5 : V 101 0 q = 5) (v0 : 0 ≤ v) (v5 : v ≤ 5) (hd : V' 30 h 2 = 0) (hd' : ∀ g, g ≠ h → V' 30 g 2 = V 30 g 2)
  (c1 : V' 32 (V 30 h 0).toNat (5 * q) = v ∧ V' 33 (V 30 h 0).toNat (5 * q) = 0) (c2 : ∀ q' p : Nat, q' < rC R 20 → p < 5 → v ≤ (p : Int) → V 102 0 q' = (q : Int) → V' 32 (V 30 h 0).toNat (5 * q' + p) = 0 ∧ V' 33 (V 30 h 0).toNat (5 * q' + p) = 1)
  (c3 : ∀ q' p : Nat, p < 5 → (rC R 20 ≤ q' ∨ V 102 0 q' ≠ (q : Int) ∨ (p : Int) < v) → (q' ≠ q ∨ p ≠ 0) → V' 32 (V 30 h 0).toNat (5 * q' + p) = V 32 (V 30 h 0).toNat (5 * q' + p) ∧ V' 33 (V 30 h 0).toNat (5 * q' + p) = V 33 (V 30 h 0).toNat (5 * q' + p)) (c4 : ∀ s k, s ≠ (V 30 h 0).toNat → V' 32 s k = V 32 s k ∧ V' 33 s k = V 33 s k)
  (d1 : V' 115 0 (144 * h + 6 * q) = v ∧ V' 116 0 (144 * h + 6 * q) = 0) (d2 : ∀ q' p : Nat, q' < rC R 20 → p < 5 → (v ≤ (p : Int) ∨ V 115 0 (144 * h + 6 * q) ≤ (p : Int)) → V 102 0 q' = (q : Int) → V' 115 0 (144 * h + 6 * q' + (p + 1)) = 0 ∧ V' 116 0 (144 * h + 6 * q' + (p + 1)) = 1)
  (d3 : ∀ k, k ≠ 144 * h + 6 * q → (∀ q' p : Nat, q' < rC R 20 → p < 5 → V 102 0 q' = (q : Int) → (v ≤ (p : Int) ∨ V 115 0 (144 * h + 6 * q) ≤ (p : Int)) → k ≠ 144 * h + 6 * q' + (p + 1)) → V' 115 0 k = V 115 0 k ∧ V' 116 0 k = V 116 0 k) : INV IT V' R := by
  have b20 := hI.IN.1.1
  have okc : ∀ q v r, okv V q v r → okv V' q v r := by intro q v r; unfold okv; simp only [sm.r 101 rfl, sm.r 108 rfl, sm.r 109 rfl]; exact id
  obtain ⟨qm, qt⟩ := hI.IQ.k5 hq k5
  refine INV_told hI sm (fun s hs k => c4 s k (hs h hh)) ?_ (fun g hg => ?_)
  · intro g hg
    unfold IA1
    rw [sm.f 30 0 rfl]
    by_cases eg : g = h
    · subst eg
      refine ⟨fun q' hq' m0' => ?_, fun q' h1 h2 p' hp' => ?_⟩
      · rw [sm.r 103 rfl] at m0'
        rw [sm.r 102 rfl]
        obtain ⟨A1, A2⟩ := (hI.IA g hg).1 q' hq' m0'
        refine ⟨fun tt => ?_, fun tt p hp => ?_⟩
        · by_cases e : q' = q
          · subst e
            rw [c1.1, c1.2, d1.1, d1.2]
            exact ⟨rfl, rfl, okc _ _ _ ⟨by omega, by omega, by omega, fun z => absurd rfl z, fun _ => ⟨rfl, v0, v5⟩, fun z => by omega⟩⟩
          · have x := c3 q' 0 (by omega) (Or.inr (Or.inl (by omega))) (Or.inl e)
            rw [Nat.add_zero] at x
            have y := d3 (144 * g + 6 * q') (by omega) (fun q2 p2 _ _ _ _ => by omega)
            rw [x.1, x.2, y.1, y.2]
            obtain ⟨B1, B2, B3⟩ := A1 tt
            exact ⟨B1, B2, okc _ _ _ B3⟩
        · obtain ⟨m, em, hmq, hm, k5m, _, mt⟩ := hI.IQ.ro hq' (by omega)
          obtain ⟨B1, B2, B3, B4⟩ := A2 tt p hp
          rw [em, tn_c] at B4 ⊢
          have hq'q : q' ≠ q := fun z => by subst z; omega
          by_cases e : m = q
          · subst e
            rw [d1.1]
            by_cases vp : v ≤ (p : Int)
            · have x := c2 q' p hq' hp vp em
              have y := d2 q' p hq' hp (Or.inl vp) em
              rw [x.1, x.2, y.1, y.2]
              refine ⟨rfl, rfl, okc _ _ _ ⟨by omega, by omega, by omega, fun _ => rfl, fun z => ?_, fun _ z => absurd z (by omega)⟩, fun _ => ⟨rfl, rfl⟩⟩
              have := hI.IQ.k5 hq' z
              omega
            · have x := c3 q' p hp (Or.inr (Or.inr (by omega))) (Or.inl hq'q)
              by_cases hd : V 115 0 (144 * g + 6 * m) ≤ (p : Int)
              · have y := d2 q' p hq' hp (Or.inr hd) em
                have B5 := B4 hd
                rw [x.1, x.2, y.1, y.2, B1, B2, B5.1, B5.2]
                rw [B5.1, B5.2] at B3
                exact ⟨rfl, rfl, okc _ _ _ B3, fun z => ⟨rfl, rfl⟩⟩
              · have y := d3 (144 * g + 6 * q' + (p + 1)) (by omega) (fun q2 p2 _ _ _ h4 z => by
                  have : p2 = p := by omega
                  subst this
                  omega)
                rw [x.1, x.2, y.1, y.2]
                exact ⟨B1, B2, okc _ _ _ B3, fun z => absurd z vp⟩
          · have x := c3 q' p hp (Or.inr (Or.inl (by omega))) (Or.inl hq'q)
            have y := d3 (144 * g + 6 * q' + (p + 1)) (by omega) (fun q2 p2 _ _ h3 _ z => by
              have : q2 = q' := by omega
              subst this
              omega)
            have w := d3 (144 * g + 6 * m) (by omega) (fun q2 p2 _ _ _ _ => by omega)
            rw [x.1, x.2, y.1, y.2, w.1]
            exact ⟨B1, B2, okc _ _ _ B3, B4⟩
      · have x := c3 q' p' hp' (Or.inl h1) (Or.inl (by omega))
        have := (hI.IA g hg).2 q' h1 h2 p' hp'
        rw [x.1, x.2]; exact this
    · have ns := hI.sh_ne hg hh eg
      have dd : ∀ k, 144 * g ≤ k → k < 144 * g + 144 → V' 115 0 k = V 115 0 k ∧ V' 116 0 k = V 116 0 k := by
        intro k h1 h2
        exact d3 k (by omega) (fun q2 p2 _ _ _ _ => by omega)
      refine ⟨AR_pt b20 (fun q hq => hI.IQ.rlt hq) (fun q _ => sm.r 102 rfl _ _) (fun q _ => sm.r 103 rfl _ _) (fun q _ => okc q) (fun k h1 h2 => (dd k h1 h2).1) (fun k h1 h2 => (dd k h1 h2).2) (fun q _ _ p _ => c4 _ _ ns) (hI.IA g hg).1, fun q' h1 h2 p' hp' => ?_⟩
      rw [(c4 _ _ ns).1, (c4 _ _ ns).2]
      exact (hI.IA g hg).2 q' h1 h2 p' hp'
  · by_cases e : g = h
    · subst e; exact Or.inl hd
    · exact Or.inr ⟨hd' g e, fun k => c4 _ _ (hI.sh_ne hg hh e)⟩
theorem T_answer (hI : INV IT V R) (h' q' person v : Int) : Wp (g_X8_answer 0 h' q' person v (V, R)) (fun r G => Wp (g_X9_answer 0 h' q' person v G) (PO r)) := by
  have hS := hI.SH
  have hF := hI.RF
  obtain ⟨b20, b30, b40, b50⟩ := hI.IN.1
  unfold g_X8_answer
  refine w_gv (by omega) ?_
  refine w_front hI (fun h q p hp => ?_) (fun hp => ?_)
  · obtain ⟨p5, plt, hpl⟩ := hp.pl hI
    obtain ⟨eh, eq, hh, hq, hpk⟩ := id hp
    subst eh eq
    obtain ⟨s, e30, es, hk⟩ := hI.sht hh
    obtain ⟨⟨e0, _, _⟩, ⟨e1, _, _⟩, ⟨e2, m0, _⟩, _⟩ := (hI.IQ.1 q hq).1
    have psl := hpk.sl
    have sl6 : slot (V 102 0 q) p < 6 := slot_lt p5
    have t0 := (hI.IS h hh).1
    dsimp only
    ((first | ((with_reducible refine w_s hS ?_ ?_ ?_ (fun x hx => ?_)); (focus decide); (focus (first | decide | omega)); (focus (first | decide | (simp only [sl]; omega)))) | ((with_reducible refine w_m hS ?_ ?_ ?_ ?_ ?_ (fun x hx => ?_)); (focus decide); (focus (first | decide | omega)); (focus omega); (focus (first | decide | omega)); (focus (first | decide | (simp only [ml]; omega)))) | (with_reducible refine w_k (by simp (disch := omega) only [w32_id]; exact rfl) ?_; ((with_reducible refine w_s hS ?_ ?_ ?_ (fun x hx => ?_)); (focus decide); (focus (first | decide | omega)); (focus (first | decide | (simp only [sl]; omega))))) | (with_reducible refine w_k (by simp (disch := omega) only [w32_id]; exact rfl) ?_; ((with_reducible refine w_m hS ?_ ?_ ?_ ?_ ?_ (fun x hx => ?_)); (focus decide); (focus (first | decide | omega)); (focus omega); (focus (first | decide | omega)); (focus (first | decide | (simp only [ml]; omega)))))); (try simp (disch := omega) only [Int.reduceToNat, tn_c, tn8, tn8i, tn5, tn5z, tn6, tn6z, tn1, u3_ne, u3_eq, u3_ni, u3_nk, e2] at hx); subst hx)
    refine w_ite (fun z1 => ?_) (fun z => w_ret ?_)
    rotate_left
    · unfold g_X9_answer
      refine w_gv (by omega) ?_
      refine w_rPlaceP hI hp hS hF hI.IN (fun _ => rfl) (fun _ => rfl) ?_
      refine w_ite (fun _ => ?_) (fun z => absurd (show (1 : Int) ≠ 0 by decide) z)
      ((first | ((with_reducible refine w_s hS ?_ ?_ ?_ (fun x hx => ?_)); (focus decide); (focus (first | decide | omega)); (focus (first | decide | (simp only [sl]; omega)))) | ((with_reducible refine w_m hS ?_ ?_ ?_ ?_ ?_ (fun x hx => ?_)); (focus decide); (focus (first | decide | omega)); (focus omega); (focus (first | decide | omega)); (focus (first | decide | (simp only [ml]; omega)))) | (with_reducible refine w_k (by simp (disch := omega) only [w32_id]; exact rfl) ?_; ((with_reducible refine w_s hS ?_ ?_ ?_ (fun x hx => ?_)); (focus decide); (focus (first | decide | omega)); (focus (first | decide | (simp only [sl]; omega))))) | (with_reducible refine w_k (by simp (disch := omega) only [w32_id]; exact rfl) ?_; ((with_reducible refine w_m hS ?_ ?_ ?_ ?_ ?_ (fun x hx => ?_)); (focus decide); (focus (first | decide | omega)); (focus omega); (focus (first | decide | omega)); (focus (first | decide | (simp only [ml]; omega)))))); (try simp (disch := omega) only [Int.reduceToNat, tn_c, tn8, tn8i, tn5, tn5z, tn6, tn6z, tn1, u3_ne, u3_eq, u3_ni, u3_nk, f_100_3 hF] at hx); subst hx)
      ((first | ((with_reducible refine w_s hS ?_ ?_ ?_ (fun x hx => ?_)); (focus decide); (focus (first | decide | omega)); (focus (first | decide | (simp only [sl]; omega)))) | ((with_reducible refine w_m hS ?_ ?_ ?_ ?_ ?_ (fun x hx => ?_)); (focus decide); (focus (first | decide | omega)); (focus omega); (focus (first | decide | omega)); (focus (first | decide | (simp only [ml]; omega)))) | (with_reducible refine w_k (by simp (disch := omega) only [w32_id]; exact rfl) ?_; ((with_reducible refine w_s hS ?_ ?_ ?_ (fun x hx => ?_)); (focus decide); (focus (first | decide | omega)); (focus (first | decide | (simp only [sl]; omega))))) | (with_reducible refine w_k (by simp (disch := omega) only [w32_id]; exact rfl) ?_; ((with_reducible refine w_m hS ?_ ?_ ?_ ?_ ?_ (fun x hx => ?_)); (focus decide); (focus (first | decide | omega)); (focus omega); (focus (first | decide | omega)); (focus (first | decide | (simp only [ml]; omega)))))); (try simp (disch := omega) only [Int.reduceToNat, tn_c, tn8, tn8i, tn5, tn5z, tn6, tn6z, tn1, u3_ne, u3_eq, u3_ni, u3_nk, tn_c] at hx); subst hx)
      exact w_ite (fun y => absurd z (by omega)) (fun _ => w_ret ⟨rfl, hI⟩)
    refine w_takes hS hF hI.IQ b20 hq (fun ac => ?_) (fun ac => ?_)
    rotate_left
    · refine w_ite (fun z => absurd rfl z) (fun _ => w_ret ?_)
      unfold g_X9_answer
      refine w_gv (by omega) ?_
      refine w_rPlaceP hI hp hS hF hI.IN (fun _ => rfl) (fun _ => rfl) ?_
      refine w_ite (fun _ => ?_) (fun z => absurd (show (1 : Int) ≠ 0 by decide) z)
      ((first | ((with_reducible refine w_s hS ?_ ?_ ?_ (fun x hx => ?_)); (focus decide); (focus (first | decide | omega)); (focus (first | decide | (simp only [sl]; omega)))) | ((with_reducible refine w_m hS ?_ ?_ ?_ ?_ ?_ (fun x hx => ?_)); (focus decide); (focus (first | decide | omega)); (focus omega); (focus (first | decide | omega)); (focus (first | decide | (simp only [ml]; omega)))) | (with_reducible refine w_k (by simp (disch := omega) only [w32_id]; exact rfl) ?_; ((with_reducible refine w_s hS ?_ ?_ ?_ (fun x hx => ?_)); (focus decide); (focus (first | decide | omega)); (focus (first | decide | (simp only [sl]; omega))))) | (with_reducible refine w_k (by simp (disch := omega) only [w32_id]; exact rfl) ?_; ((with_reducible refine w_m hS ?_ ?_ ?_ ?_ ?_ (fun x hx => ?_)); (focus decide); (focus (first | decide | omega)); (focus omega); (focus (first | decide | omega)); (focus (first | decide | (simp only [ml]; omega)))))); (try simp (disch := omega) only [Int.reduceToNat, tn_c, tn8, tn8i, tn5, tn5z, tn6, tn6z, tn1, u3_ne, u3_eq, u3_ni, u3_nk, f_100_3 hF] at hx); subst hx)
      ((first | ((with_reducible refine w_s hS ?_ ?_ ?_ (fun x hx => ?_)); (focus decide); (focus (first | decide | omega)); (focus (first | decide | (simp only [sl]; omega)))) | ((with_reducible refine w_m hS ?_ ?_ ?_ ?_ ?_ (fun x hx => ?_)); (focus decide); (focus (first | decide | omega)); (focus omega); (focus (first | decide | omega)); (focus (first | decide | (simp only [ml]; omega)))) | (with_reducible refine w_k (by simp (disch := omega) only [w32_id]; exact rfl) ?_; ((with_reducible refine w_s hS ?_ ?_ ?_ (fun x hx => ?_)); (focus decide); (focus (first | decide | omega)); (focus (first | decide | (simp only [sl]; omega))))) | (with_reducible refine w_k (by simp (disch := omega) only [w32_id]; exact rfl) ?_; ((with_reducible refine w_m hS ?_ ?_ ?_ ?_ ?_ (fun x hx => ?_)); (focus decide); (focus (first | decide | omega)); (focus omega); (focus (first | decide | omega)); (focus (first | decide | (simp only [ml]; omega)))))); (try simp (disch := omega) only [Int.reduceToNat, tn_c, tn8, tn8i, tn5, tn5z, tn6, tn6z, tn1, u3_ne, u3_eq, u3_ni, u3_nk, tn_c] at hx); subst hx)
      refine w_ite (fun _ => ?_) (fun z => absurd (show V 103 0 q ≤ 0 by omega) z)
      refine w_isValue hS hF hI.IQ b20 hq (fun y => absurd y ac) (fun _ => ?_)
      exact w_ite (fun z => absurd rfl z) (fun _ => w_ret ⟨rfl, hI⟩)
    refine w_ite (fun _ => ?_) (fun z => absurd (show (1 : Int) ≠ 0 by decide) z)
    ((first | ((with_reducible refine w_s hS ?_ ?_ ?_ (fun x hx => ?_)); (focus decide); (focus (first | decide | omega)); (focus (first | decide | (simp only [sl]; omega)))) | ((with_reducible refine w_m hS ?_ ?_ ?_ ?_ ?_ (fun x hx => ?_)); (focus decide); (focus (first | decide | omega)); (focus omega); (focus (first | decide | omega)); (focus (first | decide | (simp only [ml]; omega)))) | (with_reducible refine w_k (by simp (disch := omega) only [w32_id]; exact rfl) ?_; ((with_reducible refine w_s hS ?_ ?_ ?_ (fun x hx => ?_)); (focus decide); (focus (first | decide | omega)); (focus (first | decide | (simp only [sl]; omega))))) | (with_reducible refine w_k (by simp (disch := omega) only [w32_id]; exact rfl) ?_; ((with_reducible refine w_m hS ?_ ?_ ?_ ?_ ?_ (fun x hx => ?_)); (focus decide); (focus (first | decide | omega)); (focus omega); (focus (first | decide | omega)); (focus (first | decide | (simp only [ml]; omega)))))); (try simp (disch := omega) only [Int.reduceToNat, tn_c, tn8, tn8i, tn5, tn5z, tn6, tn6z, tn1, u3_ne, u3_eq, u3_ni, u3_nk, e30] at hx); subst hx)
    rw [es] at hpk
    refine w_spotp (by omega) hpk p5 ?_
    refine w_put hS hk (by omega) ?_
    -- the reference, up to its value
    have gate : ∀ {V1 : GV}, same V V1 LC → (∀ k, V1 115 0 k = V 115 0 k) → Wp (if V 101 0 q ≠ 5 then gjX9_answer_55 0 (h : Int) (q : Int) person v (V1, R) else (g_X9_people 0 (h : Int) (q : Int) (w32 v) (V1, R)).bind fun z7 => gjX9_answer_55 0 (h : Int) (q : Int) person v z7.2) (PO 1) → Wp (g_X9_answer 0 (h : Int) (q : Int) person v (V1, R)) (PO 1) := by
      intro V1 sm1 e115 k
      have hF1 := cg_RF sm1 rfl hF
      have ac1 : acc V1 q v ↔ acc V q v := by simp only [acc, sm1.r 101 rfl, sm1.r 109 rfl, sm1.r 108 rfl]
      unfold g_X9_answer
      refine w_gv (by omega) ?_
      refine w_rPlaceP hI hp hS hF1 (cg_IN sm1 rfl hI.IN) (sm1.r 102 rfl 0) e115 ?_
      refine w_ite (fun _ => ?_) (fun z => absurd (show (1 : Int) ≠ 0 by decide) z)
      ((first | ((with_reducible refine w_s hS ?_ ?_ ?_ (fun x hx => ?_)); (focus decide); (focus (first | decide | omega)); (focus (first | decide | (simp only [sl]; omega)))) | ((with_reducible refine w_m hS ?_ ?_ ?_ ?_ ?_ (fun x hx => ?_)); (focus decide); (focus (first | decide | omega)); (focus omega); (focus (first | decide | omega)); (focus (first | decide | (simp only [ml]; omega)))) | (with_reducible refine w_k (by simp (disch := omega) only [w32_id]; exact rfl) ?_; ((with_reducible refine w_s hS ?_ ?_ ?_ (fun x hx => ?_)); (focus decide); (focus (first | decide | omega)); (focus (first | decide | (simp only [sl]; omega))))) | (with_reducible refine w_k (by simp (disch := omega) only [w32_id]; exact rfl) ?_; ((with_reducible refine w_m hS ?_ ?_ ?_ ?_ ?_ (fun x hx => ?_)); (focus decide); (focus (first | decide | omega)); (focus omega); (focus (first | decide | omega)); (focus (first | decide | (simp only [ml]; omega)))))); (try simp (disch := omega) only [Int.reduceToNat, tn_c, tn8, tn8i, tn5, tn5z, tn6, tn6z, tn1, u3_ne, u3_eq, u3_ni, u3_nk, f_100_3 hF1] at hx); subst hx)
      ((first | ((with_reducible refine w_s hS ?_ ?_ ?_ (fun x hx => ?_)); (focus decide); (focus (first | decide | omega)); (focus (first | decide | (simp only [sl]; omega)))) | ((with_reducible refine w_m hS ?_ ?_ ?_ ?_ ?_ (fun x hx => ?_)); (focus decide); (focus (first | decide | omega)); (focus omega); (focus (first | decide | omega)); (focus (first | decide | (simp only [ml]; omega)))) | (with_reducible refine w_k (by simp (disch := omega) only [w32_id]; exact rfl) ?_; ((with_reducible refine w_s hS ?_ ?_ ?_ (fun x hx => ?_)); (focus decide); (focus (first | decide | omega)); (focus (first | decide | (simp only [sl]; omega))))) | (with_reducible refine w_k (by simp (disch := omega) only [w32_id]; exact rfl) ?_; ((with_reducible refine w_m hS ?_ ?_ ?_ ?_ ?_ (fun x hx => ?_)); (focus decide); (focus (first | decide | omega)); (focus omega); (focus (first | decide | omega)); (focus (first | decide | (simp only [ml]; omega)))))); (try simp (disch := omega) only [Int.reduceToNat, tn_c, tn8, tn8i, tn5, tn5z, tn6, tn6z, tn1, u3_ne, u3_eq, u3_ni, u3_nk, sm1.r 103 rfl] at hx); subst hx)
      refine w_ite (fun _ => ?_) (fun z => absurd (show V 103 0 q ≤ 0 by omega) z)
      refine w_isValue hS hF1 (cg_IQ sm1 rfl hI.IQ) b20 hq (fun _ => ?_) (fun y => absurd (ac1.mpr ac) y)
      refine w_ite (fun _ => ?_) (fun z => absurd (show (1 : Int) ≠ 0 by decide) z)
      ((first | ((with_reducible refine w_s hS ?_ ?_ ?_ (fun x hx => ?_)); (focus decide); (focus (first | decide | omega)); (focus (first | decide | (simp only [sl]; omega)))) | ((with_reducible refine w_m hS ?_ ?_ ?_ ?_ ?_ (fun x hx => ?_)); (focus decide); (focus (first | decide | omega)); (focus omega); (focus (first | decide | omega)); (focus (first | decide | (simp only [ml]; omega)))) | (with_reducible refine w_k (by simp (disch := omega) only [w32_id]; exact rfl) ?_; ((with_reducible refine w_s hS ?_ ?_ ?_ (fun x hx => ?_)); (focus decide); (focus (first | decide | omega)); (focus (first | decide | (simp only [sl]; omega))))) | (with_reducible refine w_k (by simp (disch := omega) only [w32_id]; exact rfl) ?_; ((with_reducible refine w_m hS ?_ ?_ ?_ ?_ ?_ (fun x hx => ?_)); (focus decide); (focus (first | decide | omega)); (focus omega); (focus (first | decide | omega)); (focus (first | decide | (simp only [ml]; omega)))))); (try simp (disch := omega) only [Int.reduceToNat, tn_c, tn8, tn8i, tn5, tn5z, tn6, tn6z, tn1, u3_ne, u3_eq, u3_ni, u3_nk, f_100_1 hF1] at hx); subst hx)
      ((first | ((with_reducible refine w_s hS ?_ ?_ ?_ (fun x hx => ?_)); (focus decide); (focus (first | decide | omega)); (focus (first | decide | (simp only [sl]; omega)))) | ((with_reducible refine w_m hS ?_ ?_ ?_ ?_ ?_ (fun x hx => ?_)); (focus decide); (focus (first | decide | omega)); (focus omega); (focus (first | decide | omega)); (focus (first | decide | (simp only [ml]; omega)))) | (with_reducible refine w_k (by simp (disch := omega) only [w32_id]; exact rfl) ?_; ((with_reducible refine w_s hS ?_ ?_ ?_ (fun x hx => ?_)); (focus decide); (focus (first | decide | omega)); (focus (first | decide | (simp only [sl]; omega))))) | (with_reducible refine w_k (by simp (disch := omega) only [w32_id]; exact rfl) ?_; ((with_reducible refine w_m hS ?_ ?_ ?_ ?_ ?_ (fun x hx => ?_)); (focus decide); (focus (first | decide | omega)); (focus omega); (focus (first | decide | omega)); (focus (first | decide | (simp only [ml]; omega)))))); (try simp (disch := omega) only [Int.reduceToNat, tn_c, tn8, tn8i, tn5, tn5z, tn6, tn6z, tn1, u3_ne, u3_eq, u3_ni, u3_nk, sm1.r 101 rfl] at hx); subst hx)
      exact k
    have smp : same V (putv V s (5 * q + p) v 0) LC := by
      unfold putv
      exact ((same.rf V _).u ⟨(32, none), by decide, rfl, Or.inl rfl⟩).u ⟨(33, none), by decide, rfl, Or.inl rfl⟩
    ((first | ((with_reducible refine w_s hS ?_ ?_ ?_ (fun x hx => ?_)); (focus decide); (focus (first | decide | omega)); (focus (first | decide | (simp only [sl]; omega)))) | ((with_reducible refine w_m hS ?_ ?_ ?_ ?_ ?_ (fun x hx => ?_)); (focus decide); (focus (first | decide | omega)); (focus omega); (focus (first | decide | omega)); (focus (first | decide | (simp only [ml]; omega)))) | (with_reducible refine w_k (by simp (disch := omega) only [w32_id]; exact rfl) ?_; ((with_reducible refine w_s hS ?_ ?_ ?_ (fun x hx => ?_)); (focus decide); (focus (first | decide | omega)); (focus (first | decide | (simp only [sl]; omega))))) | (with_reducible refine w_k (by simp (disch := omega) only [w32_id]; exact rfl) ?_; ((with_reducible refine w_m hS ?_ ?_ ?_ ?_ ?_ (fun x hx => ?_)); (focus decide); (focus (first | decide | omega)); (focus omega); (focus (first | decide | omega)); (focus (first | decide | (simp only [ml]; omega)))))); (try simp (disch := omega) only [Int.reduceToNat, tn_c, tn8, tn8i, tn5, tn5z, tn6, tn6z, tn1, u3_ne, u3_eq, u3_ni, u3_nk, smp.r 20 rfl, e0] at hx); subst hx)
    unfold gjX8_answer_106
    refine w_ite (fun k5 => ?_) (fun k5 => ?_)
    · refine w_unset hS hh (by rw [putv_o (Or.inl ⟨by decide, by decide⟩)]; exact t0) (w_ret ?_)
      have sm1 : same V (u3 (putv V s (5 * q + p) v 0) 30 h 2 0) LC := smp.u ⟨(30, some 2), by decide, rfl, Or.inr rfl⟩
      have e115 : ∀ k, u3 (putv V s (5 * q + p) v 0) 30 h 2 0 115 0 k = V 115 0 k := fun k => by rw [u3_ne (by decide), putv_o (Or.inl ⟨by decide, by decide⟩)]
      generalize hV1 : u3 (putv V s (5 * q + p) v 0) 30 h 2 0 = V1 at *
      refine gate sm1 e115 ?_
      refine w_ite (fun _ => ?_) (fun z => absurd k5 z)
      unfold gjX9_answer_55
      refine w_rtell hS (cg_RF sm1 rfl hF) (by omega) (by omega) sl6 psl ⟨rfl, ?_⟩
      have := INV_put hI hh hq z1 k5 hpl (acc_ok hI hq ac)
      rw [es] at this
      subst hV1
      exact this
    · have k5 : V 101 0 q = 5 := by omega
      obtain ⟨_, qt⟩ := hI.IQ.k5 hq k5
      have p00 : p = 0 ∧ person = -1 := by
        rcases hpk with ⟨_, a, b⟩ | ⟨a, _⟩
        · exact ⟨b, a⟩
        · exact absurd qt a
      obtain ⟨rfl, rfl⟩ := p00
      have vr : 0 ≤ v ∧ v ≤ 5 := ((acc_ok hI hq ac).2.2.2.2.1 k5).2
      obtain ⟨n, en⟩ : ∃ n : Nat, v = (n : Int) := ⟨v.toNat, by omega⟩
      rw [w32_id (x := v) (by omega) (by omega)]
      ((first | ((with_reducible refine w_s hS ?_ ?_ ?_ (fun x hx => ?_)); (focus decide); (focus (first | decide | omega)); (focus (first | decide | (simp only [sl]; omega)))) | ((with_reducible refine w_m hS ?_ ?_ ?_ ?_ ?_ (fun x hx => ?_)); (focus decide); (focus (first | decide | omega)); (focus omega); (focus (first | decide | omega)); (focus (first | decide | (simp only [ml]; omega)))) | (with_reducible refine w_k (by simp (disch := omega) only [w32_id]; exact rfl) ?_; ((with_reducible refine w_s hS ?_ ?_ ?_ (fun x hx => ?_)); (focus decide); (focus (first | decide | omega)); (focus (first | decide | (simp only [sl]; omega))))) | (with_reducible refine w_k (by simp (disch := omega) only [w32_id]; exact rfl) ?_; ((with_reducible refine w_m hS ?_ ?_ ?_ ?_ ?_ (fun x hx => ?_)); (focus decide); (focus (first | decide | omega)); (focus omega); (focus (first | decide | omega)); (focus (first | decide | (simp only [ml]; omega)))))); (try simp (disch := omega) only [Int.reduceToNat, tn_c, tn8, tn8i, tn5, tn5z, tn6, tn6z, tn1, u3_ne, u3_eq, u3_ni, u3_nk, smp.f 30 0 rfl, e30] at hx); subst hx)
      rw [en]
      rw [en] at smp
      refine w_dropPersons (ρ := fun q' => V 102 0 q') hS b20 (cg_RF smp rfl hF) (by rw [smp.f 1 1 rfl]; exact hI.IN.2.1.2.1) (fun k hk => by rw [smp.r 2 rfl]; exact l_2 hI.IL hk) (fun q' hq' => by rw [smp.r 20 rfl]; exact (hI.IQ.1 q' hq').1.2.1.1) (hk.cg (smp.r 31 rfl)) (by omega) (fun V1 fr1 dr1 => ?_)
      have e1 : ∀ r, r ≠ 32 → r ≠ 33 → ∀ i k, V1 r i k = V r i k := by
        intro r h1 h2 i k
        rw [fr1 r i k (fun z => by rcases z.1 with z | z <;> omega), putv_o (Or.inl ⟨h1, h2⟩)]
      refine w_unset hS hh (by rw [e1 30 (by decide) (by decide)]; exact t0) (w_ret ?_)
      have sm1 : same V (u3 V1 30 h 2 0) LC := by
        refine same.u (fun r i k hn => e1 r ?_ ?_ i k) ⟨(30, some 2), by decide, rfl, Or.inr rfl⟩
        · intro z; subst z; exact hn ⟨(32, none), by decide, rfl, Or.inl rfl⟩
        · intro z; subst z; exact hn ⟨(33, none), by decide, rfl, Or.inl rfl⟩
      have x115 : ∀ k, u3 V1 30 h 2 0 115 0 k = V 115 0 k := fun k => by rw [u3_ne (by decide)]; exact e1 115 (by decide) (by decide) _ _
      have x30 : u3 V1 30 h 2 0 30 h 2 = 0 := u3_eq
      have x30' : ∀ g, g ≠ h → u3 V1 30 h 2 0 30 g 2 = V 30 g 2 := fun g hg => by rw [u3_ni hg]; exact e1 30 (by decide) (by decide) _ _
      have x32 : ∀ i k, u3 V1 30 h 2 0 32 i k = V1 32 i k ∧ u3 V1 30 h 2 0 33 i k = V1 33 i k := fun i k => ⟨u3_ne (by decide), u3_ne (by decide)⟩
      generalize hV2 : u3 V1 30 h 2 0 = V2 at *
      rw [en] at gate
      refine gate sm1 x115 ?_
      refine w_ite (fun z => absurd k5 z) (fun _ => ?_)
      rw [w32_id (x := (n : Int)) (by omega) (by omega)]
      have pr := hI.pers hh q hq k5
      have pe := hI.per hh hq k5
      have hF2 := cg_RF sm1 rfl hF
      refine w_people (ρ := fun q' => V 102 0 q') hS b20 (by omega) (by omega) hF2 (by rw [sm1.f 100 0 rfl]; exact hI.IN.2.1.1) (fun q' hq' => sm1.r 102 rfl _ _) (by rw [x115]; omega) (by rw [x115]; omega) (fun V3 fr3 dr3 => ?_)
      rw [x115] at fr3 dr3
      have e3 : ∀ r, r ≠ 115 → r ≠ 116 → ∀ i k, V3 r i k = V2 r i k := fun r h1 h2 i k => fr3 r i k (fun z => by rcases z.1 with z | z <;> omega)
      have sm3 : same V V3 LC := by
        intro r i k hn
        rw [e3 r ?_ ?_, sm1 r i k hn]
        · intro z; subst z; exact hn ⟨(115, none), by decide, rfl, Or.inl rfl⟩
        · intro z; subst z; exact hn ⟨(116, none), by decide, rfl, Or.inl rfl⟩
      unfold gjX9_answer_55
      refine w_rtell (t := 0) hS (cg_RF sm3 rfl hF) (by omega) (by omega) (by omega) (by decide) ⟨rfl, ?_⟩
      have sm4 : same V (u3 (u3 V3 115 0 (144 * h + 6 * q + 0) (n : Int)) 116 0 (144 * h + 6 * q + 0) 0) LC := (sm3.u ⟨(115, none), by decide, rfl, Or.inl rfl⟩).u ⟨(116, none), by decide, rfl, Or.inl rfl⟩
      have y : ∀ r, r ≠ 115 → r ≠ 116 → ∀ i k, u3 (u3 V3 115 0 (144 * h + 6 * q + 0) (n : Int)) 116 0 (144 * h + 6 * q + 0) 0 r i k = V2 r i k := fun r h1 h2 i k => by rw [u3_ne h2, u3_ne h1]; exact e3 r h1 h2 i k
      show INV IT (u3 (u3 V3 115 0 (144 * h + 6 * q + 0) (n : Int)) 116 0 (144 * h + 6 * q + 0) 0) R
      rw [Nat.add_zero] at y sm4 ⊢
      have z1' : ∀ k, k ≠ 144 * h + 6 * q → u3 (u3 V3 115 0 (144 * h + 6 * q) (n : Int)) 116 0 (144 * h + 6 * q) 0 115 0 k = V3 115 0 k ∧ u3 (u3 V3 115 0 (144 * h + 6 * q) (n : Int)) 116 0 (144 * h + 6 * q) 0 116 0 k = V3 116 0 k := by
        intro k hk
        rw [u3_ne (by decide), u3_nk hk, u3_nk hk, u3_ne (by decide)]; exact ⟨rfl, rfl⟩
      have z2 : u3 (u3 V3 115 0 (144 * h + 6 * q) (n : Int)) 116 0 (144 * h + 6 * q) 0 115 0 (144 * h + 6 * q) = (n : Int) ∧ u3 (u3 V3 115 0 (144 * h + 6 * q) (n : Int)) 116 0 (144 * h + 6 * q) 0 116 0 (144 * h + 6 * q) = 0 := by
        rw [u3_ne (by decide), u3_eq, u3_eq]; exact ⟨rfl, rfl⟩
      generalize u3 (u3 V3 115 0 (144 * h + 6 * q) (n : Int)) 116 0 (144 * h + 6 * q) 0 = V4 at *
      have y32 : ∀ i k, V4 32 i k = V1 32 i k ∧ V4 33 i k = V1 33 i k := fun i k => by
        rw [y 32 (by decide) (by decide), y 33 (by decide) (by decide)]; exact x32 i k
      have notd : ∀ r k, (¬ ∃ q' p : Nat, q' < rC R 20 ∧ p < 5 ∧ n ≤ p ∧ V 102 0 q' = (q : Int) ∧ k = 5 * q' + p) → V1 r s k = putv V s (5 * q + 0) (n : Int) 0 r s k := by
        intro r k hn
        exact fr1 r s k (fun z => hn z.2.2)
      refine INV_count (h := h) (q := q) (v := (n : Int)) hI sm4 hh hq k5 (by omega) (by omega) ?_ (fun g hg => ?_) ?_ (fun q' p hq' hp hv hr => ?_) (fun q' p hp hc hne => ?_) (fun s' k hs' => ?_) z2 (fun q' p hq' hp hv hr => ?_) (fun k hk hd => ?_)
      · rw [y 30 (by decide) (by decide)]; exact x30
      · rw [y 30 (by decide) (by decide)]; exact x30' g hg
      · rw [es, (y32 s _).1, (y32 s _).2]
        have nq : ¬ ∃ q' p : Nat, q' < rC R 20 ∧ p < 5 ∧ n ≤ p ∧ V 102 0 q' = (q : Int) ∧ 5 * q = 5 * q' + p := by
          rintro ⟨q', p, a, b, c, d, e⟩
          have : q' = q := by omega
          subst this; omega
        rw [notd 32 _ nq, notd 33 _ nq]
        have := putv_32 (V := V) (s := s) (k := 5 * q + 0) (v := (n : Int)) (r := 0)
        have w := putv_33 (V := V) (s := s) (k := 5 * q + 0) (v := (n : Int)) (r := 0)
        exact ⟨this, w⟩
      · rw [es, (y32 s _).1, (y32 s _).2]
        exact dr1 q' p hq' hp (by omega) hr
      · rw [es, (y32 s _).1, (y32 s _).2]
        have nq : ¬ ∃ q2 p2 : Nat, q2 < rC R 20 ∧ p2 < 5 ∧ n ≤ p2 ∧ V 102 0 q2 = (q : Int) ∧ 5 * q' + p = 5 * q2 + p2 := by
          rintro ⟨q2, p2, a, b, c, d, e⟩
          have e1 : q2 = q' := by omega
          subst e1
          have e2 : p2 = p := by omega
          subst e2
          omega
        rw [notd 32 _ nq, notd 33 _ nq, putv_o (Or.inr (Or.inr (by omega))), putv_o (Or.inr (Or.inr (by omega)))]
        exact ⟨rfl, rfl⟩
      · rw [(y32 s' _).1, (y32 s' _).2]
        rw [es] at hs'
        rw [fr1 32 s' k (fun z => hs' z.2.1), fr1 33 s' k (fun z => hs' z.2.1), putv_o (Or.inr (Or.inl hs')), putv_o (Or.inr (Or.inl hs'))]
        exact ⟨rfl, rfl⟩
      · rw [(z1' _ (by omega)).1, (z1' _ (by omega)).2]
        exact dr3 q' p hq' hp hv hr
      · rw [(z1' k hk).1, (z1' k hk).2]
        have np : ∀ r, ¬ pst R (fun q' => V 102 0 q') q h (n : Int) (V 115 0 (144 * h + 6 * q)) r k := by
          rintro r ⟨_, q2, p2, a, b, c, d, e⟩
          exact hd q2 p2 a b d c e
        rw [fr3 115 0 k (np 115), fr3 116 0 k (np 116), x115]
        refine ⟨rfl, ?_⟩
        subst hV2
        rw [u3_ne (by decide)]; exact e1 116 (by decide) (by decide) _ _
  · unfold g_X9_answer
    refine w_gv (by omega) ?_
    refine w_rPlace hI (fun h2 q2 p2 hp2 => absurd hp2 (hp h2 q2 p2)) (fun _ => ?_)
    exact w_ite (fun z => absurd rfl z) (fun _ => w_ret ⟨rfl, hI⟩)
end Told
