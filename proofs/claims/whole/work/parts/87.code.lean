section Code
variable {V : GV} {R : GR} {Q : Int → GS → Prop}
theorem w_isCode {c : Int} {G : GS} {f : Int × GS → GO} (k1 : -128 ≤ c ∧ c ≤ 127 → Wp (f (1, G)) Q) (k0 : ¬ (-128 ≤ c ∧ c ≤ 127) → Wp (f (0, G)) Q) : Wp ((g_X8_isCode c G).bind f) Q := by
  refine w_bind ?_
  unfold g_X8_isCode
  exact w_ite (fun z => w_ret (k0 (by omega))) (fun z => w_ite (fun y => w_ret (k0 (by omega))) (fun y => w_ret (k1 (by omega))))
theorem w_addCode {q n : Nat} {c : Int} {f : Int × GS → GO} (hS : SH R) (hF : RF V R) (hq : q < rC R 20) (e5 : V 20 q 5 = (n : Int)) (hn : n < 8) (k : Wp (f (0, (u3 (u3 V 21 q n c) 20 q 5 ((n + 1 : Nat) : Int), R))) Q) : Wp ((g_X5_addCode (q : Int) c (V, R)).bind f) Q := by
  obtain ⟨s21, _⟩ := hS.2.2
  refine w_bind ?_
  unfold g_X5_addCode
  refine w_gv (by omega) ?_
  ((first | ((with_reducible refine w_s hS ?_ ?_ ?_ (fun x hx => ?_)); (focus decide); (focus (first | decide | omega)); (focus (first | decide | (simp only [sl]; omega)))) | ((with_reducible refine w_m hS ?_ ?_ ?_ ?_ ?_ (fun x hx => ?_)); (focus decide); (focus (first | decide | omega)); (focus omega); (focus (first | decide | omega)); (focus (first | decide | (simp only [ml]; omega)))) | (with_reducible refine w_k (by simp (disch := omega) only [w32_id]; exact rfl) ?_; ((with_reducible refine w_s hS ?_ ?_ ?_ (fun x hx => ?_)); (focus decide); (focus (first | decide | omega)); (focus (first | decide | (simp only [sl]; omega))))) | (with_reducible refine w_k (by simp (disch := omega) only [w32_id]; exact rfl) ?_; ((with_reducible refine w_m hS ?_ ?_ ?_ ?_ ?_ (fun x hx => ?_)); (focus decide); (focus (first | decide | omega)); (focus omega); (focus (first | decide | omega)); (focus (first | decide | (simp only [ml]; omega)))))); (try simp (disch := omega) only [Int.reduceToNat, tn_c, tn8, tn8i, tn5, tn5z, tn6, tn6z, tn1, u3_ne, u3_eq, u3_ni, u3_nk, e5] at hx); subst hx)
  refine w_ite (fun _ => ?_) (fun z => absurd (show (n : Int) < 8 by omega) z)
  ((first | ((with_reducible refine w_s hS ?_ ?_ ?_ (fun x hx => ?_)); (focus decide); (focus (first | decide | omega)); (focus (first | decide | (simp only [sl]; omega)))) | ((with_reducible refine w_m hS ?_ ?_ ?_ ?_ ?_ (fun x hx => ?_)); (focus decide); (focus (first | decide | omega)); (focus omega); (focus (first | decide | omega)); (focus (first | decide | (simp only [ml]; omega)))) | (with_reducible refine w_k (by simp (disch := omega) only [w32_id]; exact rfl) ?_; ((with_reducible refine w_s hS ?_ ?_ ?_ (fun x hx => ?_)); (focus decide); (focus (first | decide | omega)); (focus (first | decide | (simp only [sl]; omega))))) | (with_reducible refine w_k (by simp (disch := omega) only [w32_id]; exact rfl) ?_; ((with_reducible refine w_m hS ?_ ?_ ?_ ?_ ?_ (fun x hx => ?_)); (focus decide); (focus (first | decide | omega)); (focus omega); (focus (first | decide | omega)); (focus (first | decide | (simp only [ml]; omega)))))); (try simp (disch := omega) only [Int.reduceToNat, tn_c, tn8, tn8i, tn5, tn5z, tn6, tn6z, tn1, u3_ne, u3_eq, u3_ni, u3_nk, f_20_4 hF] at hx); subst hx)
  ((first | ((with_reducible refine w_s hS ?_ ?_ ?_ (fun x hx => ?_)); (focus decide); (focus (first | decide | omega)); (focus (first | decide | (simp only [sl]; omega)))) | ((with_reducible refine w_m hS ?_ ?_ ?_ ?_ ?_ (fun x hx => ?_)); (focus decide); (focus (first | decide | omega)); (focus omega); (focus (first | decide | omega)); (focus (first | decide | (simp only [ml]; omega)))) | (with_reducible refine w_k (by simp (disch := omega) only [w32_id]; exact rfl) ?_; ((with_reducible refine w_s hS ?_ ?_ ?_ (fun x hx => ?_)); (focus decide); (focus (first | decide | omega)); (focus (first | decide | (simp only [sl]; omega))))) | (with_reducible refine w_k (by simp (disch := omega) only [w32_id]; exact rfl) ?_; ((with_reducible refine w_m hS ?_ ?_ ?_ ?_ ?_ (fun x hx => ?_)); (focus decide); (focus (first | decide | omega)); (focus omega); (focus (first | decide | omega)); (focus (first | decide | (simp only [ml]; omega)))))); (try simp (disch := omega) only [Int.reduceToNat, tn_c, tn8, tn8i, tn5, tn5z, tn6, tn6z, tn1, u3_ne, u3_eq, u3_ni, u3_nk, e5] at hx); subst hx)
  refine w_ms hS (by decide) (by omega) (by omega) (by omega) (by simp only [ml]; omega) ?_
  rw [tn_c, tn_c]
  ((first | ((with_reducible refine w_s hS ?_ ?_ ?_ (fun x hx => ?_)); (focus decide); (focus (first | decide | omega)); (focus (first | decide | (simp only [sl]; omega)))) | ((with_reducible refine w_m hS ?_ ?_ ?_ ?_ ?_ (fun x hx => ?_)); (focus decide); (focus (first | decide | omega)); (focus omega); (focus (first | decide | omega)); (focus (first | decide | (simp only [ml]; omega)))) | (with_reducible refine w_k (by simp (disch := omega) only [w32_id]; exact rfl) ?_; ((with_reducible refine w_s hS ?_ ?_ ?_ (fun x hx => ?_)); (focus decide); (focus (first | decide | omega)); (focus (first | decide | (simp only [sl]; omega))))) | (with_reducible refine w_k (by simp (disch := omega) only [w32_id]; exact rfl) ?_; ((with_reducible refine w_m hS ?_ ?_ ?_ ?_ ?_ (fun x hx => ?_)); (focus decide); (focus (first | decide | omega)); (focus omega); (focus (first | decide | omega)); (focus (first | decide | (simp only [ml]; omega)))))); (try simp (disch := omega) only [Int.reduceToNat, tn_c, tn8, tn8i, tn5, tn5z, tn6, tn6z, tn1, u3_ne, u3_eq, u3_ni, u3_nk, u3_ne, e5] at hx); subst hx)
  refine w_ms hS (by decide) (by omega) (by omega) (by omega) (by decide) ?_
  simp only [tn_c, Int.reduceToNat]
  rw [ws1 (by omega)]
  exact w_ret k
def LD : PL' := [(21, none), (20, some 5), (108, none), (109, none)]
theorem T_code (hI : INV IT V R) (q' c : Int) : Wp (g_X8_code 0 q' c (V, R)) (fun r G => Wp (g_X9_code 0 q' c G) (PO r)) := by
  have hS := hI.SH
  have hF := hI.RF
  have hL := hI.IL
  have hQ := hI.IQ
  obtain ⟨b20, b30, b40, b50⟩ := hI.IN.1
  obtain ⟨n1, n2, _⟩ := hI.IN.2.1
  have bad : ¬ ((0 ≤ q' ∧ q' < (rC R 20 : Int)) ∧ (-128 ≤ c ∧ c ≤ 127)) → Wp (g_X9_code 0 q' c (V, R)) (PO (-1)) := by
    intro hb
    unfold g_X9_code
    refine w_gv (by omega) ?_
    refine w_isQ hS n1 b20 (fun q2 eq2 hq2 => ?_) (fun hn' => w_ite (fun _ => w_ret ⟨rfl, hI⟩) (fun z => absurd rfl z))
    refine w_ite (fun z => absurd (show (1 : Int) = 0 from z) (by decide)) (fun _ => ?_)
    exact w_in (fun hw => absurd (show (0 ≤ q' ∧ q' < (rC R 20 : Int)) ∧ (-128 ≤ c ∧ c ≤ 127) by omega) hb) (fun hw => w_ite (fun z => absurd rfl z) (fun _ => w_ret ⟨rfl, hI⟩))
  unfold g_X8_code
  refine w_gv (by omega) ?_
  ((first | ((with_reducible refine w_s hS ?_ ?_ ?_ (fun x hx => ?_)); (focus decide); (focus (first | decide | omega)); (focus (first | decide | (simp only [sl]; omega)))) | ((with_reducible refine w_m hS ?_ ?_ ?_ ?_ ?_ (fun x hx => ?_)); (focus decide); (focus (first | decide | omega)); (focus omega); (focus (first | decide | omega)); (focus (first | decide | (simp only [ml]; omega)))) | (with_reducible refine w_k (by simp (disch := omega) only [w32_id]; exact rfl) ?_; ((with_reducible refine w_s hS ?_ ?_ ?_ (fun x hx => ?_)); (focus decide); (focus (first | decide | omega)); (focus (first | decide | (simp only [sl]; omega))))) | (with_reducible refine w_k (by simp (disch := omega) only [w32_id]; exact rfl) ?_; ((with_reducible refine w_m hS ?_ ?_ ?_ ?_ ?_ (fun x hx => ?_)); (focus decide); (focus (first | decide | omega)); (focus omega); (focus (first | decide | omega)); (focus (first | decide | (simp only [ml]; omega)))))); (try simp (disch := omega) only [Int.reduceToNat, tn_c, tn8, tn8i, tn5, tn5z, tn6, tn6z, tn1, u3_ne, u3_eq, u3_ni, u3_nk, f_0_0 hF] at hx); subst hx)
  refine w_qO hS n2 (f_1_0 hF) b20 (fun n hn => l_2 hL hn) (fun q eq hq => ?_) (fun hn => w_ite (fun _ => w_ret (bad (by omega))) (fun z => absurd rfl z))
  subst eq
  dsimp only
  refine w_ite (fun z => absurd z (by omega)) (fun _ => ?_)
  refine w_isCode (fun hc => ?_) (fun hc => w_ite (fun z => absurd rfl z) (fun _ => w_ret (bad (by omega))))
  refine w_ite (fun _ => ?_) (fun z => absurd (show (1 : Int) ≠ 0 by decide) z)
  obtain ⟨⟨e0, _, _⟩, ⟨e1, t0, _⟩, ⟨e2, m0, _⟩, ⟨e5, c0, c8⟩, _⟩ := (hQ.1 q hq).1
  obtain ⟨n, en⟩ : ∃ n : Nat, V 109 0 q = (n : Int) := ⟨_, (Int.toNat_of_nonneg c0).symm⟩
  have gate : ∀ {V1 : GV} {P : Int → GS → Prop}, RF V1 R → V1 100 0 0 = (rC R 20 : Int) → (∀ r k, r > 100 → V1 r 0 k = V r 0 k) → (V 101 0 q > 1 ∨ V 103 0 q ≠ 0 → P (-2) (V1, R)) → (V 101 0 q ≤ 1 → V 103 0 q = 0 → (∃ j : Nat, (j : Int) < V 109 0 q ∧ V 108 0 (8 * q + j) = c) → P (-3) (V1, R)) → (V 101 0 q ≤ 1 → V 103 0 q = 0 → (∀ j : Nat, (j : Int) < V 109 0 q → V 108 0 (8 * q + j) ≠ c) → V 109 0 q = 8 → P (-4) (V1, R)) → (V 101 0 q ≤ 1 → V 103 0 q = 0 → (∀ j : Nat, (j : Int) < V 109 0 q → V 108 0 (8 * q + j) ≠ c) → V 109 0 q ≠ 8 → P ((n + 1 : Nat) : Int) (u3 (u3 V1 108 0 (8 * q + n) c) 109 0 q ((n + 1 : Nat) : Int), R)) → Wp (g_X9_code 0 (q : Int) c (V1, R)) P := by
    intro V1 P hF1 n1' er pk pt pf pg
    unfold g_X9_code
    refine w_gv (by omega) ?_
    refine w_isQ hS n1' b20 (fun q2 eq2 hq2 => ?_) (fun hn' => absurd (show 0 ≤ (q : Int) ∧ (q : Int) < (rC R 20 : Int) by omega) hn')
    refine w_ite (fun z => absurd (show (1 : Int) = 0 from z) (by decide)) (fun _ => ?_)
    refine w_in (fun _ => ?_) (fun z => absurd hc z)
    refine w_ite (fun _ => ?_) (fun z => absurd (show (1 : Int) ≠ 0 by decide) z)
    ((first | ((with_reducible refine w_s hS ?_ ?_ ?_ (fun x hx => ?_)); (focus decide); (focus (first | decide | omega)); (focus (first | decide | (simp only [sl]; omega)))) | ((with_reducible refine w_m hS ?_ ?_ ?_ ?_ ?_ (fun x hx => ?_)); (focus decide); (focus (first | decide | omega)); (focus omega); (focus (first | decide | omega)); (focus (first | decide | (simp only [ml]; omega)))) | (with_reducible refine w_k (by simp (disch := omega) only [w32_id]; exact rfl) ?_; ((with_reducible refine w_s hS ?_ ?_ ?_ (fun x hx => ?_)); (focus decide); (focus (first | decide | omega)); (focus (first | decide | (simp only [sl]; omega))))) | (with_reducible refine w_k (by simp (disch := omega) only [w32_id]; exact rfl) ?_; ((with_reducible refine w_m hS ?_ ?_ ?_ ?_ ?_ (fun x hx => ?_)); (focus decide); (focus (first | decide | omega)); (focus omega); (focus (first | decide | omega)); (focus (first | decide | (simp only [ml]; omega)))))); (try simp (disch := omega) only [Int.reduceToNat, tn_c, tn8, tn8i, tn5, tn5z, tn6, tn6z, tn1, u3_ne, u3_eq, u3_ni, u3_nk, f_100_1 hF1] at hx); subst hx)
    ((first | ((with_reducible refine w_s hS ?_ ?_ ?_ (fun x hx => ?_)); (focus decide); (focus (first | decide | omega)); (focus (first | decide | (simp only [sl]; omega)))) | ((with_reducible refine w_m hS ?_ ?_ ?_ ?_ ?_ (fun x hx => ?_)); (focus decide); (focus (first | decide | omega)); (focus omega); (focus (first | decide | omega)); (focus (first | decide | (simp only [ml]; omega)))) | (with_reducible refine w_k (by simp (disch := omega) only [w32_id]; exact rfl) ?_; ((with_reducible refine w_s hS ?_ ?_ ?_ (fun x hx => ?_)); (focus decide); (focus (first | decide | omega)); (focus (first | decide | (simp only [sl]; omega))))) | (with_reducible refine w_k (by simp (disch := omega) only [w32_id]; exact rfl) ?_; ((with_reducible refine w_m hS ?_ ?_ ?_ ?_ ?_ (fun x hx => ?_)); (focus decide); (focus (first | decide | omega)); (focus omega); (focus (first | decide | omega)); (focus (first | decide | (simp only [ml]; omega)))))); (try simp (disch := omega) only [Int.reduceToNat, tn_c, tn8, tn8i, tn5, tn5z, tn6, tn6z, tn1, u3_ne, u3_eq, u3_ni, u3_nk, er 101 _ (by decide)] at hx); subst hx)
    refine w_ite (fun z => w_ret (pk (Or.inl z))) (fun z => ?_)
    ((first | ((with_reducible refine w_s hS ?_ ?_ ?_ (fun x hx => ?_)); (focus decide); (focus (first | decide | omega)); (focus (first | decide | (simp only [sl]; omega)))) | ((with_reducible refine w_m hS ?_ ?_ ?_ ?_ ?_ (fun x hx => ?_)); (focus decide); (focus (first | decide | omega)); (focus omega); (focus (first | decide | omega)); (focus (first | decide | (simp only [ml]; omega)))) | (with_reducible refine w_k (by simp (disch := omega) only [w32_id]; exact rfl) ?_; ((with_reducible refine w_s hS ?_ ?_ ?_ (fun x hx => ?_)); (focus decide); (focus (first | decide | omega)); (focus (first | decide | (simp only [sl]; omega))))) | (with_reducible refine w_k (by simp (disch := omega) only [w32_id]; exact rfl) ?_; ((with_reducible refine w_m hS ?_ ?_ ?_ ?_ ?_ (fun x hx => ?_)); (focus decide); (focus (first | decide | omega)); (focus omega); (focus (first | decide | omega)); (focus (first | decide | (simp only [ml]; omega)))))); (try simp (disch := omega) only [Int.reduceToNat, tn_c, tn8, tn8i, tn5, tn5z, tn6, tn6z, tn1, u3_ne, u3_eq, u3_ni, u3_nk, f_100_3 hF1] at hx); subst hx)
    ((first | ((with_reducible refine w_s hS ?_ ?_ ?_ (fun x hx => ?_)); (focus decide); (focus (first | decide | omega)); (focus (first | decide | (simp only [sl]; omega)))) | ((with_reducible refine w_m hS ?_ ?_ ?_ ?_ ?_ (fun x hx => ?_)); (focus decide); (focus (first | decide | omega)); (focus omega); (focus (first | decide | omega)); (focus (first | decide | (simp only [ml]; omega)))) | (with_reducible refine w_k (by simp (disch := omega) only [w32_id]; exact rfl) ?_; ((with_reducible refine w_s hS ?_ ?_ ?_ (fun x hx => ?_)); (focus decide); (focus (first | decide | omega)); (focus (first | decide | (simp only [sl]; omega))))) | (with_reducible refine w_k (by simp (disch := omega) only [w32_id]; exact rfl) ?_; ((with_reducible refine w_m hS ?_ ?_ ?_ ?_ ?_ (fun x hx => ?_)); (focus decide); (focus (first | decide | omega)); (focus omega); (focus (first | decide | omega)); (focus (first | decide | (simp only [ml]; omega)))))); (try simp (disch := omega) only [Int.reduceToNat, tn_c, tn8, tn8i, tn5, tn5z, tn6, tn6z, tn1, u3_ne, u3_eq, u3_ni, u3_nk, er 103 _ (by decide)] at hx); subst hx)
    refine w_ite (fun y => ?_) (fun y => w_ret (pk (Or.inr (by omega))))
    refine w_codeNumber0 hS hF1 (by omega) (by rw [er 109 _ (by decide)]; omega) (fun j hj ej => ?_) (fun hn => ?_)
    · rw [er 109 _ (by decide)] at hj
      rw [er 108 _ (by decide)] at ej
      exact w_ite (fun w => absurd (show (j : Int) < 0 from w) (by omega)) (fun _ => w_ret (pt (by omega) (by omega) ⟨j, hj, ej⟩))
    · have hn : ∀ j : Nat, (j : Int) < V 109 0 q → V 108 0 (8 * q + j) ≠ c := by
        intro j hj
        have := hn j (by rw [er 109 _ (by decide)]; exact hj)
        rw [er 108 _ (by decide)] at this; exact this
      refine w_ite (fun _ => ?_) (fun w => absurd (show (-1 : Int) < 0 by decide) w)
      ((first | ((with_reducible refine w_s hS ?_ ?_ ?_ (fun x hx => ?_)); (focus decide); (focus (first | decide | omega)); (focus (first | decide | (simp only [sl]; omega)))) | ((with_reducible refine w_m hS ?_ ?_ ?_ ?_ ?_ (fun x hx => ?_)); (focus decide); (focus (first | decide | omega)); (focus omega); (focus (first | decide | omega)); (focus (first | decide | (simp only [ml]; omega)))) | (with_reducible refine w_k (by simp (disch := omega) only [w32_id]; exact rfl) ?_; ((with_reducible refine w_s hS ?_ ?_ ?_ (fun x hx => ?_)); (focus decide); (focus (first | decide | omega)); (focus (first | decide | (simp only [sl]; omega))))) | (with_reducible refine w_k (by simp (disch := omega) only [w32_id]; exact rfl) ?_; ((with_reducible refine w_m hS ?_ ?_ ?_ ?_ ?_ (fun x hx => ?_)); (focus decide); (focus (first | decide | omega)); (focus omega); (focus (first | decide | omega)); (focus (first | decide | (simp only [ml]; omega)))))); (try simp (disch := omega) only [Int.reduceToNat, tn_c, tn8, tn8i, tn5, tn5z, tn6, tn6z, tn1, u3_ne, u3_eq, u3_ni, u3_nk, f_100_9 hF1] at hx); subst hx)
      ((first | ((with_reducible refine w_s hS ?_ ?_ ?_ (fun x hx => ?_)); (focus decide); (focus (first | decide | omega)); (focus (first | decide | (simp only [sl]; omega)))) | ((with_reducible refine w_m hS ?_ ?_ ?_ ?_ ?_ (fun x hx => ?_)); (focus decide); (focus (first | decide | omega)); (focus omega); (focus (first | decide | omega)); (focus (first | decide | (simp only [ml]; omega)))) | (with_reducible refine w_k (by simp (disch := omega) only [w32_id]; exact rfl) ?_; ((with_reducible refine w_s hS ?_ ?_ ?_ (fun x hx => ?_)); (focus decide); (focus (first | decide | omega)); (focus (first | decide | (simp only [sl]; omega))))) | (with_reducible refine w_k (by simp (disch := omega) only [w32_id]; exact rfl) ?_; ((with_reducible refine w_m hS ?_ ?_ ?_ ?_ ?_ (fun x hx => ?_)); (focus decide); (focus (first | decide | omega)); (focus omega); (focus (first | decide | omega)); (focus (first | decide | (simp only [ml]; omega)))))); (try simp (disch := omega) only [Int.reduceToNat, tn_c, tn8, tn8i, tn5, tn5z, tn6, tn6z, tn1, u3_ne, u3_eq, u3_ni, u3_nk, er 109 _ (by decide), en] at hx); subst hx)
      refine w_ite (fun w => ?_) (fun w => w_ret (pf (by omega) (by omega) hn (by omega)))
      ((first | ((with_reducible refine w_s hS ?_ ?_ ?_ (fun x hx => ?_)); (focus decide); (focus (first | decide | omega)); (focus (first | decide | (simp only [sl]; omega)))) | ((with_reducible refine w_m hS ?_ ?_ ?_ ?_ ?_ (fun x hx => ?_)); (focus decide); (focus (first | decide | omega)); (focus omega); (focus (first | decide | omega)); (focus (first | decide | (simp only [ml]; omega)))) | (with_reducible refine w_k (by simp (disch := omega) only [w32_id]; exact rfl) ?_; ((with_reducible refine w_s hS ?_ ?_ ?_ (fun x hx => ?_)); (focus decide); (focus (first | decide | omega)); (focus (first | decide | (simp only [sl]; omega))))) | (with_reducible refine w_k (by simp (disch := omega) only [w32_id]; exact rfl) ?_; ((with_reducible refine w_m hS ?_ ?_ ?_ ?_ ?_ (fun x hx => ?_)); (focus decide); (focus (first | decide | omega)); (focus omega); (focus (first | decide | omega)); (focus (first | decide | (simp only [ml]; omega)))))); (try simp (disch := omega) only [Int.reduceToNat, tn_c, tn8, tn8i, tn5, tn5z, tn6, tn6z, tn1, u3_ne, u3_eq, u3_ni, u3_nk, f_100_8 hF1] at hx); subst hx)
      ((first | ((with_reducible refine w_s hS ?_ ?_ ?_ (fun x hx => ?_)); (focus decide); (focus (first | decide | omega)); (focus (first | decide | (simp only [sl]; omega)))) | ((with_reducible refine w_m hS ?_ ?_ ?_ ?_ ?_ (fun x hx => ?_)); (focus decide); (focus (first | decide | omega)); (focus omega); (focus (first | decide | omega)); (focus (first | decide | (simp only [ml]; omega)))) | (with_reducible refine w_k (by simp (disch := omega) only [w32_id]; exact rfl) ?_; ((with_reducible refine w_s hS ?_ ?_ ?_ (fun x hx => ?_)); (focus decide); (focus (first | decide | omega)); (focus (first | decide | (simp only [sl]; omega))))) | (with_reducible refine w_k (by simp (disch := omega) only [w32_id]; exact rfl) ?_; ((with_reducible refine w_m hS ?_ ?_ ?_ ?_ ?_ (fun x hx => ?_)); (focus decide); (focus (first | decide | omega)); (focus omega); (focus (first | decide | omega)); (focus (first | decide | (simp only [ml]; omega)))))); (try simp (disch := omega) only [Int.reduceToNat, tn_c, tn8, tn8i, tn5, tn5z, tn6, tn6z, tn1, u3_ne, u3_eq, u3_ni, u3_nk, f_100_9 hF1] at hx); subst hx)
      ((first | ((with_reducible refine w_s hS ?_ ?_ ?_ (fun x hx => ?_)); (focus decide); (focus (first | decide | omega)); (focus (first | decide | (simp only [sl]; omega)))) | ((with_reducible refine w_m hS ?_ ?_ ?_ ?_ ?_ (fun x hx => ?_)); (focus decide); (focus (first | decide | omega)); (focus omega); (focus (first | decide | omega)); (focus (first | decide | (simp only [ml]; omega)))) | (with_reducible refine w_k (by simp (disch := omega) only [w32_id]; exact rfl) ?_; ((with_reducible refine w_s hS ?_ ?_ ?_ (fun x hx => ?_)); (focus decide); (focus (first | decide | omega)); (focus (first | decide | (simp only [sl]; omega))))) | (with_reducible refine w_k (by simp (disch := omega) only [w32_id]; exact rfl) ?_; ((with_reducible refine w_m hS ?_ ?_ ?_ ?_ ?_ (fun x hx => ?_)); (focus decide); (focus (first | decide | omega)); (focus omega); (focus (first | decide | omega)); (focus (first | decide | (simp only [ml]; omega)))))); (try simp (disch := omega) only [Int.reduceToNat, tn_c, tn8, tn8i, tn5, tn5z, tn6, tn6z, tn1, u3_ne, u3_eq, u3_ni, u3_nk, er 109 _ (by decide), en] at hx); subst hx)
      rw [w8 (by omega) (by omega)]
      refine w_ss hS (by decide) (by omega) (by simp only [sl]; omega) ?_
      rw [tn_c]
      ((first | ((with_reducible refine w_s hS ?_ ?_ ?_ (fun x hx => ?_)); (focus decide); (focus (first | decide | omega)); (focus (first | decide | (simp only [sl]; omega)))) | ((with_reducible refine w_m hS ?_ ?_ ?_ ?_ ?_ (fun x hx => ?_)); (focus decide); (focus (first | decide | omega)); (focus omega); (focus (first | decide | omega)); (focus (first | decide | (simp only [ml]; omega)))) | (with_reducible refine w_k (by simp (disch := omega) only [w32_id]; exact rfl) ?_; ((with_reducible refine w_s hS ?_ ?_ ?_ (fun x hx => ?_)); (focus decide); (focus (first | decide | omega)); (focus (first | decide | (simp only [sl]; omega))))) | (with_reducible refine w_k (by simp (disch := omega) only [w32_id]; exact rfl) ?_; ((with_reducible refine w_m hS ?_ ?_ ?_ ?_ ?_ (fun x hx => ?_)); (focus decide); (focus (first | decide | omega)); (focus omega); (focus (first | decide | omega)); (focus (first | decide | (simp only [ml]; omega)))))); (try simp (disch := omega) only [Int.reduceToNat, tn_c, tn8, tn8i, tn5, tn5z, tn6, tn6z, tn1, u3_ne, u3_eq, u3_ni, u3_nk, u3_ne, f_100_9 hF1] at hx); subst hx)
      ((first | ((with_reducible refine w_s hS ?_ ?_ ?_ (fun x hx => ?_)); (focus decide); (focus (first | decide | omega)); (focus (first | decide | (simp only [sl]; omega)))) | ((with_reducible refine w_m hS ?_ ?_ ?_ ?_ ?_ (fun x hx => ?_)); (focus decide); (focus (first | decide | omega)); (focus omega); (focus (first | decide | omega)); (focus (first | decide | (simp only [ml]; omega)))) | (with_reducible refine w_k (by simp (disch := omega) only [w32_id]; exact rfl) ?_; ((with_reducible refine w_s hS ?_ ?_ ?_ (fun x hx => ?_)); (focus decide); (focus (first | decide | omega)); (focus (first | decide | (simp only [sl]; omega))))) | (with_reducible refine w_k (by simp (disch := omega) only [w32_id]; exact rfl) ?_; ((with_reducible refine w_m hS ?_ ?_ ?_ ?_ ?_ (fun x hx => ?_)); (focus decide); (focus (first | decide | omega)); (focus omega); (focus (first | decide | omega)); (focus (first | decide | (simp only [ml]; omega)))))); (try simp (disch := omega) only [Int.reduceToNat, tn_c, tn8, tn8i, tn5, tn5z, tn6, tn6z, tn1, u3_ne, u3_eq, u3_ni, u3_nk, u3_ne, er 109 _ (by decide), en] at hx); subst hx)
      refine w_ss hS (by decide) (by omega) (by simp only [sl]; omega) ?_
      rw [tn_c, ws1 (by omega)]
      ((first | ((with_reducible refine w_s hS ?_ ?_ ?_ (fun x hx => ?_)); (focus decide); (focus (first | decide | omega)); (focus (first | decide | (simp only [sl]; omega)))) | ((with_reducible refine w_m hS ?_ ?_ ?_ ?_ ?_ (fun x hx => ?_)); (focus decide); (focus (first | decide | omega)); (focus omega); (focus (first | decide | omega)); (focus (first | decide | (simp only [ml]; omega)))) | (with_reducible refine w_k (by simp (disch := omega) only [w32_id]; exact rfl) ?_; ((with_reducible refine w_s hS ?_ ?_ ?_ (fun x hx => ?_)); (focus decide); (focus (first | decide | omega)); (focus (first | decide | (simp only [sl]; omega))))) | (with_reducible refine w_k (by simp (disch := omega) only [w32_id]; exact rfl) ?_; ((with_reducible refine w_m hS ?_ ?_ ?_ ?_ ?_ (fun x hx => ?_)); (focus decide); (focus (first | decide | omega)); (focus omega); (focus (first | decide | omega)); (focus (first | decide | (simp only [ml]; omega)))))); (try simp (disch := omega) only [Int.reduceToNat, tn_c, tn8, tn8i, tn5, tn5z, tn6, tn6z, tn1, u3_ne, u3_eq, u3_ni, u3_nk, u3_ne, f_100_9 hF1] at hx); subst hx)
      ((first | ((with_reducible refine w_s hS ?_ ?_ ?_ (fun x hx => ?_)); (focus decide); (focus (first | decide | omega)); (focus (first | decide | (simp only [sl]; omega)))) | ((with_reducible refine w_m hS ?_ ?_ ?_ ?_ ?_ (fun x hx => ?_)); (focus decide); (focus (first | decide | omega)); (focus omega); (focus (first | decide | omega)); (focus (first | decide | (simp only [ml]; omega)))) | (with_reducible refine w_k (by simp (disch := omega) only [w32_id]; exact rfl) ?_; ((with_reducible refine w_s hS ?_ ?_ ?_ (fun x hx => ?_)); (focus decide); (focus (first | decide | omega)); (focus (first | decide | (simp only [sl]; omega))))) | (with_reducible refine w_k (by simp (disch := omega) only [w32_id]; exact rfl) ?_; ((with_reducible refine w_m hS ?_ ?_ ?_ ?_ ?_ (fun x hx => ?_)); (focus decide); (focus (first | decide | omega)); (focus omega); (focus (first | decide | omega)); (focus (first | decide | (simp only [ml]; omega)))))); (try simp (disch := omega) only [Int.reduceToNat, tn_c, tn8, tn8i, tn5, tn5z, tn6, tn6z, tn1, u3_ne, u3_eq, u3_ni, u3_nk, u3_eq] at hx); subst hx)
      exact w_ret (pg (by omega) (by omega) hn (by omega))
  ((first | ((with_reducible refine w_s hS ?_ ?_ ?_ (fun x hx => ?_)); (focus decide); (focus (first | decide | omega)); (focus (first | decide | (simp only [sl]; omega)))) | ((with_reducible refine w_m hS ?_ ?_ ?_ ?_ ?_ (fun x hx => ?_)); (focus decide); (focus (first | decide | omega)); (focus omega); (focus (first | decide | omega)); (focus (first | decide | (simp only [ml]; omega)))) | (with_reducible refine w_k (by simp (disch := omega) only [w32_id]; exact rfl) ?_; ((with_reducible refine w_s hS ?_ ?_ ?_ (fun x hx => ?_)); (focus decide); (focus (first | decide | omega)); (focus (first | decide | (simp only [sl]; omega))))) | (with_reducible refine w_k (by simp (disch := omega) only [w32_id]; exact rfl) ?_; ((with_reducible refine w_m hS ?_ ?_ ?_ ?_ ?_ (fun x hx => ?_)); (focus decide); (focus (first | decide | omega)); (focus omega); (focus (first | decide | omega)); (focus (first | decide | (simp only [ml]; omega)))))); (try simp (disch := omega) only [Int.reduceToNat, tn_c, tn8, tn8i, tn5, tn5z, tn6, tn6z, tn1, u3_ne, u3_eq, u3_ni, u3_nk, e0] at hx); subst hx)
  refine w_ite (fun z => w_ret (gate hF n1 (fun _ _ _ => rfl) (fun _ => ⟨rfl, hI⟩) (fun _ => by omega) (fun _ => by omega) (fun _ => by omega))) (fun z1 => ?_)
  ((first | ((with_reducible refine w_s hS ?_ ?_ ?_ (fun x hx => ?_)); (focus decide); (focus (first | decide | omega)); (focus (first | decide | (simp only [sl]; omega)))) | ((with_reducible refine w_m hS ?_ ?_ ?_ ?_ ?_ (fun x hx => ?_)); (focus decide); (focus (first | decide | omega)); (focus omega); (focus (first | decide | omega)); (focus (first | decide | (simp only [ml]; omega)))) | (with_reducible refine w_k (by simp (disch := omega) only [w32_id]; exact rfl) ?_; ((with_reducible refine w_s hS ?_ ?_ ?_ (fun x hx => ?_)); (focus decide); (focus (first | decide | omega)); (focus (first | decide | (simp only [sl]; omega))))) | (with_reducible refine w_k (by simp (disch := omega) only [w32_id]; exact rfl) ?_; ((with_reducible refine w_m hS ?_ ?_ ?_ ?_ ?_ (fun x hx => ?_)); (focus decide); (focus (first | decide | omega)); (focus omega); (focus (first | decide | omega)); (focus (first | decide | (simp only [ml]; omega)))))); (try simp (disch := omega) only [Int.reduceToNat, tn_c, tn8, tn8i, tn5, tn5z, tn6, tn6z, tn1, u3_ne, u3_eq, u3_ni, u3_nk, e2] at hx); subst hx)
  refine w_ite (fun z2 => ?_) (fun z => w_ret (gate hF n1 (fun _ _ _ => rfl) (fun _ => ⟨rfl, hI⟩) (fun _ w => absurd w z) (fun _ w => absurd w z) (fun _ w => absurd w z)))
  refine w_codeIndex hS hF hQ b20 hq (fun j hj ej => ?_) (fun hn => ?_)
  · refine w_ite (fun w => absurd (show (j : Int) = -1 from w) (by omega)) (fun _ => w_ret ?_)
    exact gate hF n1 (fun _ _ _ => rfl) (fun w => by omega) (fun _ _ _ => ⟨rfl, hI⟩) (fun _ _ w => absurd ej (w j hj)) (fun _ _ w => absurd ej (w j hj))
  · refine w_ite (fun _ => ?_) (fun w => absurd rfl w)
    ((first | ((with_reducible refine w_s hS ?_ ?_ ?_ (fun x hx => ?_)); (focus decide); (focus (first | decide | omega)); (focus (first | decide | (simp only [sl]; omega)))) | ((with_reducible refine w_m hS ?_ ?_ ?_ ?_ ?_ (fun x hx => ?_)); (focus decide); (focus (first | decide | omega)); (focus omega); (focus (first | decide | omega)); (focus (first | decide | (simp only [ml]; omega)))) | (with_reducible refine w_k (by simp (disch := omega) only [w32_id]; exact rfl) ?_; ((with_reducible refine w_s hS ?_ ?_ ?_ (fun x hx => ?_)); (focus decide); (focus (first | decide | omega)); (focus (first | decide | (simp only [sl]; omega))))) | (with_reducible refine w_k (by simp (disch := omega) only [w32_id]; exact rfl) ?_; ((with_reducible refine w_m hS ?_ ?_ ?_ ?_ ?_ (fun x hx => ?_)); (focus decide); (focus (first | decide | omega)); (focus omega); (focus (first | decide | omega)); (focus (first | decide | (simp only [ml]; omega)))))); (try simp (disch := omega) only [Int.reduceToNat, tn_c, tn8, tn8i, tn5, tn5z, tn6, tn6z, tn1, u3_ne, u3_eq, u3_ni, u3_nk, e5, en] at hx); subst hx)
    refine w_ite (fun z3 => ?_) (fun z3 => w_ret ?_)
    · refine w_addCode hS hF hq (by rw [e5, en]) (by omega) ?_
      ((first | ((with_reducible refine w_s hS ?_ ?_ ?_ (fun x hx => ?_)); (focus decide); (focus (first | decide | omega)); (focus (first | decide | (simp only [sl]; omega)))) | ((with_reducible refine w_m hS ?_ ?_ ?_ ?_ ?_ (fun x hx => ?_)); (focus decide); (focus (first | decide | omega)); (focus omega); (focus (first | decide | omega)); (focus (first | decide | (simp only [ml]; omega)))) | (with_reducible refine w_k (by simp (disch := omega) only [w32_id]; exact rfl) ?_; ((with_reducible refine w_s hS ?_ ?_ ?_ (fun x hx => ?_)); (focus decide); (focus (first | decide | omega)); (focus (first | decide | (simp only [sl]; omega))))) | (with_reducible refine w_k (by simp (disch := omega) only [w32_id]; exact rfl) ?_; ((with_reducible refine w_m hS ?_ ?_ ?_ ?_ ?_ (fun x hx => ?_)); (focus decide); (focus (first | decide | omega)); (focus omega); (focus (first | decide | omega)); (focus (first | decide | (simp only [ml]; omega)))))); (try simp (disch := omega) only [Int.reduceToNat, tn_c, tn8, tn8i, tn5, tn5z, tn6, tn6z, tn1, u3_ne, u3_eq, u3_ni, u3_nk, u3_eq] at hx); subst hx)
      refine w_ret ?_
      have sm1 : same V (u3 (u3 V 21 q n c) 20 q 5 ((n + 1 : Nat) : Int)) LD := ((same.rf V _).u ⟨(21, none), by decide, rfl, Or.inl rfl⟩).u ⟨(20, some 5), by decide, rfl, Or.inr rfl⟩
      refine gate (cg_RF sm1 rfl hF) (by rw [sm1.f 100 0 rfl]; exact n1) (fun r k hr => by rw [u3_ne (by omega), u3_ne (by omega)]) (fun w => by omega) (fun _ _ ⟨j, hj, ej⟩ => absurd ej (hn j hj)) (fun _ _ _ w => by omega) (fun _ _ _ _ => ⟨rfl, ?_⟩)
      have sm : same V (u3 (u3 (u3 (u3 V 21 q n c) 20 q 5 ((n + 1 : Nat) : Int)) 108 0 (8 * q + n) c) 109 0 q ((n + 1 : Nat) : Int)) LD := (sm1.u ⟨(108, none), by decide, rfl, Or.inl rfl⟩).u ⟨(109, none), by decide, rfl, Or.inl rfl⟩
      have x21 : ∀ i k, (i ≠ q ∨ k ≠ n) → u3 (u3 (u3 (u3 V 21 q n c) 20 q 5 ((n + 1 : Nat) : Int)) 108 0 (8 * q + n) c) 109 0 q ((n + 1 : Nat) : Int) 21 i k = V 21 i k := by
        intro i k h
        rw [u3_ne (by decide), u3_ne (by decide), u3_ne (by decide)]
        rcases h with h | h
        · exact u3_ni h
        · exact u3_nk h
      have y21 : u3 (u3 (u3 (u3 V 21 q n c) 20 q 5 ((n + 1 : Nat) : Int)) 108 0 (8 * q + n) c) 109 0 q ((n + 1 : Nat) : Int) 21 q n = c := by
        rw [u3_ne (by decide), u3_ne (by decide), u3_ne (by decide), u3_eq]
      have x20 : ∀ i k, (i ≠ q ∨ k ≠ 5) → u3 (u3 (u3 (u3 V 21 q n c) 20 q 5 ((n + 1 : Nat) : Int)) 108 0 (8 * q + n) c) 109 0 q ((n + 1 : Nat) : Int) 20 i k = V 20 i k := by
        intro i k h
        rw [u3_ne (by decide), u3_ne (by decide)]
        rcases h with h | h
        · rw [u3_ni h, u3_ne (by decide)]
        · rw [u3_nk h, u3_ne (by decide)]
      have y20 : u3 (u3 (u3 (u3 V 21 q n c) 20 q 5 ((n + 1 : Nat) : Int)) 108 0 (8 * q + n) c) 109 0 q ((n + 1 : Nat) : Int) 20 q 5 = ((n + 1 : Nat) : Int) := by
        rw [u3_ne (by decide), u3_ne (by decide), u3_eq]
      have x108 : ∀ k, k ≠ 8 * q + n → u3 (u3 (u3 (u3 V 21 q n c) 20 q 5 ((n + 1 : Nat) : Int)) 108 0 (8 * q + n) c) 109 0 q ((n + 1 : Nat) : Int) 108 0 k = V 108 0 k := by
        intro k h
        rw [u3_ne (by decide), u3_nk h, u3_ne (by decide), u3_ne (by decide)]
      have y108 : u3 (u3 (u3 (u3 V 21 q n c) 20 q 5 ((n + 1 : Nat) : Int)) 108 0 (8 * q + n) c) 109 0 q ((n + 1 : Nat) : Int) 108 0 (8 * q + n) = c := by
        rw [u3_ne (by decide), u3_eq]
      have x109 : ∀ k, k ≠ q → u3 (u3 (u3 (u3 V 21 q n c) 20 q 5 ((n + 1 : Nat) : Int)) 108 0 (8 * q + n) c) 109 0 q ((n + 1 : Nat) : Int) 109 0 k = V 109 0 k := by
        intro k h
        rw [u3_nk h, u3_ne (by decide), u3_ne (by decide), u3_ne (by decide)]
      have y109 : u3 (u3 (u3 (u3 V 21 q n c) 20 q 5 ((n + 1 : Nat) : Int)) 108 0 (8 * q + n) c) 109 0 q ((n + 1 : Nat) : Int) 109 0 q = ((n + 1 : Nat) : Int) := u3_eq
      show INV IT (u3 (u3 (u3 (u3 V 21 q n c) 20 q 5 ((n + 1 : Nat) : Int)) 108 0 (8 * q + n) c) 109 0 q ((n + 1 : Nat) : Int)) R
      generalize u3 (u3 (u3 (u3 V 21 q n c) 20 q 5 ((n + 1 : Nat) : Int)) 108 0 (8 * q + n) c) 109 0 q ((n + 1 : Nat) : Int) = V' at *
      have ok : ∀ q', q' < rC R 20 → ∀ v r, okv V q' v r → okv V' q' v r := by
        intro q' hq' v r
        have c8' := (hQ.1 q' hq').1.2.2.2.1.2
        refine okv_pt (sm.r 101 rfl _ _) ?_ (fun i hi => x108 _ ?_)
        · by_cases e : q' = q
          · subst e; rw [y109, en]; omega
          · rw [x109 q' e]; exact Int.le_refl _
        · by_cases e : q' = q
          · subst e; omega
          · omega
      refine ⟨⟨hI.SH, cg_RF sm rfl hI.RF, cg_IN sm rfl hI.IN, cg_IL sm rfl hI.IL, hI.IR⟩, ?_, cg_IC sm rfl hI.IC, cg_IOO sm rfl hI.IOO, cg_IHs sm rfl hI.IHs, ?_, cg_IW sm rfl hI.IW, cg_IS sm rfl hI.IS, ?_, cg_T sm rfl hI.TT⟩
      · refine ⟨fun q' hq' => ?_, fun q' h1 h2 => ?_⟩
        · by_cases e : q' = q
          · subst e
            obtain ⟨⟨a1, a2, a3, a4, a5, a6, a7, ro, fi, ma, kr⟩, ⟨hc1, hc2⟩, ⟨hr1, hr2, hr3⟩, hm⟩ := hQ.1 q' hq'
            refine ⟨⟨?_, ?_, ?_, ?_, ?_, ?_, ?_, ?_, ?_, ?_, ?_⟩, ⟨?_, ?_⟩, ⟨?_, ?_, ?_⟩, ?_⟩
            · rw [x20 _ 0 (by omega), sm.r 101 rfl]; exact a1
            · rw [x20 _ 1 (by omega), sm.r 102 rfl]; exact a2
            · rw [x20 _ 2 (by omega), sm.r 103 rfl]; exact a3
            · rw [y20, y109]; omega
            · rw [x20 _ 9 (by omega), sm.r 113 rfl]; exact a5
            · rw [x20 _ 10 (by omega), sm.r 106 rfl]; exact a6
            · rw [x20 _ 11 (by omega), sm.r 107 rfl]; exact a7
            · simp only [IQro, sm.r 102 rfl, sm.r 101 rfl]; exact ro
            · simp only [IQfi, sm.r 102 rfl, sm.r 106 rfl, sm.r 125 rfl]; exact fi
            · simp only [IQma, sm.r 107 rfl, sm.r 102 rfl, sm.r 103 rfl]; exact ma
            · simp only [IQkr, sm.r 101 rfl, sm.r 103 rfl]; exact kr
            · intro i hi
              rw [y109] at hi
              by_cases ei : i = n
              · subst ei; rw [y21, y108]; exact ⟨rfl, by omega, by omega⟩
              · rw [x21 _ _ (Or.inr ei), x108 _ (by omega)]; exact hc1 i (by omega)
            · intro i j hij hj
              rw [y109] at hj
              rw [x108 (8 * q' + i) (by omega)]
              by_cases ej : j = n
              · subst ej; rw [y108]; exact hn i (by omega)
              · rw [x108 _ (by omega)]; exact hc2 i j hij (by omega)
            · simp only [sm.r 113 rfl, sm.r 22 rfl, sm.r 23 rfl, sm.r 24 rfl, sm.r 110 rfl, sm.r 111 rfl, sm.r 112 rfl]; exact hr1
            · intro w
              rw [sm.r 103 rfl] at w
              omega
            · intro i hi
              rw [sm.r 113 rfl] at hi
              obtain ⟨j, hj, ej⟩ := hr3 i hi
              refine ⟨j, by rw [y109]; omega, ?_⟩
              rw [x108 _ (by omega), sm.r 112 rfl]; exact ej
            · simp only [IQm, sm.r 103 rfl, x20 _ 3 (Or.inr (by decide)), sm.r 104 rfl, sm.r 101 rfl, sm.r 102 rfl, sm.r 105 rfl, sm.r 125 rfl]; exact hm
          · exact IQ_pt hq' (Nat.le_refl _) (fun k _ => x20 _ _ (Or.inl e)) (sm.r 101 rfl _ _) (sm.r 102 rfl _ _) (sm.r 103 rfl _ _) (sm.r 104 rfl _ _) (sm.r 105 rfl _ _) (sm.r 106 rfl _ _) (sm.r 107 rfl _ _) (x109 _ e) (sm.r 113 rfl _ _) (fun i _ => ⟨x108 _ (by omega), sm.r 110 rfl _ _, sm.r 111 rfl _ _, sm.r 112 rfl _ _, x21 _ _ (Or.inl e), sm.r 22 rfl _ _, sm.r 23 rfl _ _, sm.r 24 rfl _ _⟩) (fun k _ => ⟨sm.r 101 rfl _ _, sm.r 102 rfl _ _⟩) (fun c _ => sm.r 125 rfl _ _) ⟨rfl, rfl, rfl⟩ (hQ.1 q' hq')
        · rw [x109 q' (by omega), sm.r 113 rfl, sm.r 107 rfl]; exact hQ.2 q' h1 h2
      · intro g hg
        unfold IA1
        simp only [sm.f 30 0 rfl, sm.r 32 rfl, sm.r 33 rfl]
        refine ⟨AR_pt b20 (fun q hq => hQ.rlt hq) (fun q _ => sm.r 102 rfl _ _) (fun q _ => sm.r 103 rfl _ _) ok (fun k _ _ => sm.r 115 rfl _ _) (fun k _ _ => sm.r 116 rfl _ _) (fun q _ _ p _ => ⟨sm.r 32 rfl _ _, sm.r 33 rfl _ _⟩) (hI.IA g hg).1, (hI.IA g hg).2⟩
      · intro e he
        obtain ⟨a, b, d⟩ := hI.IE e he
        unfold IE1
        simp only [sm.r 131 rfl, sm.r 132 rfl, sm.f 50 1 rfl, sm.r 51 rfl]
        refine ⟨a, b, fun g hg => ?_⟩
        have d := d g hg
        refine ⟨d.1, d.2.1, AR_pt (by omega) (fun q hq => hQ.rlt (by omega)) (fun q _ => sm.r 102 rfl _ _) (fun q _ => sm.r 103 rfl _ _) (fun q hq => ok q (by omega)) (fun k _ _ => sm.r 133 rfl _ _) (fun k _ _ => sm.r 134 rfl _ _) (fun q _ _ p _ => ⟨sm.r 32 rfl _ _, sm.r 33 rfl _ _⟩) d.2.2⟩
    · exact gate hF n1 (fun _ _ _ => rfl) (fun w => by omega) (fun _ _ ⟨j, hj, ej⟩ => absurd ej (hn j hj)) (fun _ _ _ _ => ⟨rfl, hI⟩) (fun _ _ _ w => by omega)
end Code
