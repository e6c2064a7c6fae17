section Row
variable {V : GV} {R : GR} {Q : Int → GS → Prop}
theorem rwr_o {q n : Nat} {lo hi c : Int} {r i k : Nat} (h : (r ≠ 110 ∧ r ≠ 111 ∧ r ≠ 112 ∧ r ≠ 113)) : rwr V q n lo hi c r i k = V r i k := by
  unfold rwr; rw [u3_ne h.2.2.2, u3_ne h.2.2.1, u3_ne h.2.1, u3_ne h.1]
theorem rwc_o {q n : Nat} {lo hi c : Int} {r i k : Nat} (h : (r ≠ 20 ∧ r ≠ 22 ∧ r ≠ 23 ∧ r ≠ 24)) : rwc V q n lo hi c r i k = V r i k := by
  unfold rwc; rw [u3_ne h.1, u3_ne h.2.2.2, u3_ne h.2.2.1, u3_ne h.2.1]
theorem rwr_f {q n : Nat} {lo hi c : Int} : (∀ k, k ≠ 8 * q + n → rwr V q n lo hi c 110 0 k = V 110 0 k ∧ rwr V q n lo hi c 111 0 k = V 111 0 k ∧ rwr V q n lo hi c 112 0 k = V 112 0 k) ∧ (rwr V q n lo hi c 110 0 (8 * q + n) = lo ∧ rwr V q n lo hi c 111 0 (8 * q + n) = hi ∧ rwr V q n lo hi c 112 0 (8 * q + n) = c) ∧ (∀ k, k ≠ q → rwr V q n lo hi c 113 0 k = V 113 0 k) ∧ rwr V q n lo hi c 113 0 q = ((n + 1 : Nat) : Int) := by
  unfold rwr
  refine ⟨fun k h => ⟨?_, ?_, ?_⟩, ⟨?_, ?_, ?_⟩, fun k h => ?_, ?_⟩
  · rw [u3_ne (by decide), u3_ne (by decide), u3_ne (by decide), u3_nk h]
  · rw [u3_ne (by decide), u3_ne (by decide), u3_nk h, u3_ne (by decide)]
  · rw [u3_ne (by decide), u3_nk h, u3_ne (by decide), u3_ne (by decide)]
  · rw [u3_ne (by decide), u3_ne (by decide), u3_ne (by decide), u3_eq]
  · rw [u3_ne (by decide), u3_ne (by decide), u3_eq]
  · rw [u3_ne (by decide), u3_eq]
  · rw [u3_nk h, u3_ne (by decide), u3_ne (by decide), u3_ne (by decide)]
  · rw [u3_eq]
theorem rwc_f {q n : Nat} {lo hi c : Int} : (∀ i k, (i ≠ q ∨ k ≠ n) → rwc V q n lo hi c 22 i k = V 22 i k ∧ rwc V q n lo hi c 23 i k = V 23 i k ∧ rwc V q n lo hi c 24 i k = V 24 i k) ∧ (rwc V q n lo hi c 22 q n = lo ∧ rwc V q n lo hi c 23 q n = hi ∧ rwc V q n lo hi c 24 q n = c) ∧ (∀ i k, (i ≠ q ∨ k ≠ 9) → rwc V q n lo hi c 20 i k = V 20 i k) ∧ rwc V q n lo hi c 20 q 9 = ((n + 1 : Nat) : Int) := by
  have g : ∀ {W : GV} {r i k : Nat} {v : Int}, (i ≠ q ∨ k ≠ n) → u3 W r q n v r i k = W r i k := by
    intro W r i k v h
    rcases h with h | h
    · exact u3_ni h
    · exact u3_nk h
  unfold rwc
  refine ⟨fun i k h => ⟨?_, ?_, ?_⟩, ⟨?_, ?_, ?_⟩, fun i k h => ?_, ?_⟩
  · rw [u3_ne (by decide), u3_ne (by decide), u3_ne (by decide), g h]
  · rw [u3_ne (by decide), u3_ne (by decide), g h, u3_ne (by decide)]
  · rw [u3_ne (by decide), g h, u3_ne (by decide), u3_ne (by decide)]
  · rw [u3_ne (by decide), u3_ne (by decide), u3_ne (by decide), u3_eq]
  · rw [u3_ne (by decide), u3_ne (by decide), u3_eq]
  · rw [u3_ne (by decide), u3_eq]
  · rcases h with h | h
    · rw [u3_ni h, u3_ne (by decide), u3_ne (by decide), u3_ne (by decide)]
    · rw [u3_nk h, u3_ne (by decide), u3_ne (by decide), u3_ne (by decide)]
  · rw [u3_eq]
theorem T_row (hI : INV IT V R) (q' lo hi c : Int) : Wp (g_X8_row 0 q' lo hi c (V, R)) (fun r G => Wp (g_X9_row 0 q' lo hi c G) (PO r)) := by
  have hS := hI.SH
  have hF := hI.RF
  have hL := hI.IL
  have hQ := hI.IQ
  obtain ⟨b20, b30, b40, b50⟩ := hI.IN.1
  obtain ⟨n1, n2, n3, n4, _⟩ := hI.IN.2.1
  have bad : ¬ ((0 ≤ q' ∧ q' < (rC R 20 : Int)) ∧ lo ≤ hi ∧ (-128 ≤ c ∧ c ≤ 127)) → Wp (g_X9_row 0 q' lo hi c (V, R)) (PO (-1)) := by
    intro hb
    unfold g_X9_row
    refine w_gv (by omega) ?_
    refine w_isQ hS n1 b20 (fun q2 eq2 hq2 => ?_) (fun hn' => w_ite (fun _ => w_ret ⟨rfl, hI⟩) (fun z => absurd rfl z))
    refine w_ite (fun z => absurd (show (1 : Int) = 0 from z) (by decide)) (fun _ => ?_)
    refine w_ite (fun _ => w_ret ⟨rfl, hI⟩) (fun z => ?_)
    rw [lc_gt] at z
    exact w_in (fun hw => absurd (show (0 ≤ q' ∧ q' < (rC R 20 : Int)) ∧ lo ≤ hi ∧ (-128 ≤ c ∧ c ≤ 127) by omega) hb) (fun hw => w_ite (fun z => absurd rfl z) (fun _ => w_ret ⟨rfl, hI⟩))
  unfold g_X8_row
  refine w_gv (by omega) ?_
  ((first | ((with_reducible refine w_s hS ?_ ?_ ?_ (fun x hx => ?_)); (focus decide); (focus (first | decide | omega)); (focus (first | decide | (simp only [sl]; omega)))) | ((with_reducible refine w_m hS ?_ ?_ ?_ ?_ ?_ (fun x hx => ?_)); (focus decide); (focus (first | decide | omega)); (focus omega); (focus (first | decide | omega)); (focus (first | decide | (simp only [ml]; omega)))) | (with_reducible refine w_k (by simp (disch := omega) only [w32_id]; exact rfl) ?_; ((with_reducible refine w_s hS ?_ ?_ ?_ (fun x hx => ?_)); (focus decide); (focus (first | decide | omega)); (focus (first | decide | (simp only [sl]; omega))))) | (with_reducible refine w_k (by simp (disch := omega) only [w32_id]; exact rfl) ?_; ((with_reducible refine w_m hS ?_ ?_ ?_ ?_ ?_ (fun x hx => ?_)); (focus decide); (focus (first | decide | omega)); (focus omega); (focus (first | decide | omega)); (focus (first | decide | (simp only [ml]; omega)))))); (try simp (disch := omega) only [Int.reduceToNat, tn_c, tn8, tn8i, tn5, tn5z, tn6, tn6z, tn1, u3_ne, u3_eq, u3_ni, u3_nk, f_0_0 hF] at hx); subst hx)
  refine w_qO hS n2 (f_1_0 hF) b20 (fun n hn => l_2 hL hn) (fun q eq hq => ?_) (fun hn => w_ite (fun _ => w_ret (bad (by omega))) (fun z => absurd rfl z))
  subst eq
  dsimp only
  refine w_ite (fun z => absurd z (by omega)) (fun _ => w_ite (fun z => w_ret (bad ?_)) (fun zl => ?_))
  · rw [lc_gt] at z; omega
  rw [lc_gt] at zl
  refine w_isCode (fun hc => ?_) (fun hc => w_ite (fun z => absurd rfl z) (fun _ => w_ret (bad (by omega))))
  refine w_ite (fun _ => ?_) (fun z => absurd (show (1 : Int) ≠ 0 by decide) z)
  obtain ⟨_, _, ⟨e2, _, _⟩, ⟨e5, c0, c8⟩, ⟨e9, r0, r8⟩, _⟩ := (hQ.1 q hq).1
  obtain ⟨n, en⟩ : ∃ n : Nat, V 113 0 q = (n : Int) := ⟨_, (Int.toNat_of_nonneg r0).symm⟩
  obtain ⟨m, em⟩ : ∃ m : Nat, V 109 0 q = (m : Int) := ⟨_, (Int.toNat_of_nonneg c0).symm⟩
  have gate : ∀ {V1 : GV} {P : Int → GS → Prop}, RF V1 R → V1 100 0 0 = (rC R 20 : Int) → (∀ r k, r > 100 → V1 r 0 k = V r 0 k) → (V 103 0 q ≠ 1 → P (-2) (V1, R)) → (V 103 0 q = 1 → V 113 0 q = 8 → P (-4) (V1, R)) → (V 103 0 q = 1 → V 113 0 q ≠ 8 → (∃ j : Nat, j < m ∧ V 108 0 (8 * q + j) = c) → P ((n + 1 : Nat) : Int) (rwr V1 q n lo hi c, R)) → (V 103 0 q = 1 → V 113 0 q ≠ 8 → (∀ j : Nat, j < m → V 108 0 (8 * q + j) ≠ c) → P ((n + 1 : Nat) : Int) (u3 (u3 (rwr V1 q n lo hi c) 108 0 (8 * q + m) c) 109 0 q ((m + 1 : Nat) : Int), R)) → Wp (g_X9_row 0 (q : Int) lo hi c (V1, R)) P := by
    intro V1 P hF1 n1' er pk pf p1 p0
    unfold g_X9_row gjX9_row_147
    refine w_gv (by omega) ?_
    refine w_isQ hS n1' b20 (fun q2 eq2 hq2 => ?_) (fun hn' => absurd (show 0 ≤ (q : Int) ∧ (q : Int) < (rC R 20 : Int) by omega) hn')
    refine w_ite (fun z => absurd (show (1 : Int) = 0 from z) (by decide)) (fun _ => ?_)
    refine w_ite (fun z => ?_) (fun _ => ?_)
    · rw [lc_gt] at z; omega
    refine w_in (fun _ => ?_) (fun z => absurd hc z)
    refine w_ite (fun _ => ?_) (fun z => absurd (show (1 : Int) ≠ 0 by decide) z)
    ((first | ((with_reducible refine w_s hS ?_ ?_ ?_ (fun x hx => ?_)); (focus decide); (focus (first | decide | omega)); (focus (first | decide | (simp only [sl]; omega)))) | ((with_reducible refine w_m hS ?_ ?_ ?_ ?_ ?_ (fun x hx => ?_)); (focus decide); (focus (first | decide | omega)); (focus omega); (focus (first | decide | omega)); (focus (first | decide | (simp only [ml]; omega)))) | (with_reducible refine w_k (by simp (disch := omega) only [w32_id]; exact rfl) ?_; ((with_reducible refine w_s hS ?_ ?_ ?_ (fun x hx => ?_)); (focus decide); (focus (first | decide | omega)); (focus (first | decide | (simp only [sl]; omega))))) | (with_reducible refine w_k (by simp (disch := omega) only [w32_id]; exact rfl) ?_; ((with_reducible refine w_m hS ?_ ?_ ?_ ?_ ?_ (fun x hx => ?_)); (focus decide); (focus (first | decide | omega)); (focus omega); (focus (first | decide | omega)); (focus (first | decide | (simp only [ml]; omega)))))); (try simp (disch := omega) only [Int.reduceToNat, tn_c, tn8, tn8i, tn5, tn5z, tn6, tn6z, tn1, u3_ne, u3_eq, u3_ni, u3_nk, f_100_3 hF1] at hx); subst hx)
    ((first | ((with_reducible refine w_s hS ?_ ?_ ?_ (fun x hx => ?_)); (focus decide); (focus (first | decide | omega)); (focus (first | decide | (simp only [sl]; omega)))) | ((with_reducible refine w_m hS ?_ ?_ ?_ ?_ ?_ (fun x hx => ?_)); (focus decide); (focus (first | decide | omega)); (focus omega); (focus (first | decide | omega)); (focus (first | decide | (simp only [ml]; omega)))) | (with_reducible refine w_k (by simp (disch := omega) only [w32_id]; exact rfl) ?_; ((with_reducible refine w_s hS ?_ ?_ ?_ (fun x hx => ?_)); (focus decide); (focus (first | decide | omega)); (focus (first | decide | (simp only [sl]; omega))))) | (with_reducible refine w_k (by simp (disch := omega) only [w32_id]; exact rfl) ?_; ((with_reducible refine w_m hS ?_ ?_ ?_ ?_ ?_ (fun x hx => ?_)); (focus decide); (focus (first | decide | omega)); (focus omega); (focus (first | decide | omega)); (focus (first | decide | (simp only [ml]; omega)))))); (try simp (disch := omega) only [Int.reduceToNat, tn_c, tn8, tn8i, tn5, tn5z, tn6, tn6z, tn1, u3_ne, u3_eq, u3_ni, u3_nk, er 103 _ (by decide)] at hx); subst hx)
    refine w_ite (fun m1 => ?_) (fun z => w_ret (pk z))
    have mle := ((hQ.1 q hq).2.2.1.2.1 m1).2.2.2
    ((first | ((with_reducible refine w_s hS ?_ ?_ ?_ (fun x hx => ?_)); (focus decide); (focus (first | decide | omega)); (focus (first | decide | (simp only [sl]; omega)))) | ((with_reducible refine w_m hS ?_ ?_ ?_ ?_ ?_ (fun x hx => ?_)); (focus decide); (focus (first | decide | omega)); (focus omega); (focus (first | decide | omega)); (focus (first | decide | (simp only [ml]; omega)))) | (with_reducible refine w_k (by simp (disch := omega) only [w32_id]; exact rfl) ?_; ((with_reducible refine w_s hS ?_ ?_ ?_ (fun x hx => ?_)); (focus decide); (focus (first | decide | omega)); (focus (first | decide | (simp only [sl]; omega))))) | (with_reducible refine w_k (by simp (disch := omega) only [w32_id]; exact rfl) ?_; ((with_reducible refine w_m hS ?_ ?_ ?_ ?_ ?_ (fun x hx => ?_)); (focus decide); (focus (first | decide | omega)); (focus omega); (focus (first | decide | omega)); (focus (first | decide | (simp only [ml]; omega)))))); (try simp (disch := omega) only [Int.reduceToNat, tn_c, tn8, tn8i, tn5, tn5z, tn6, tn6z, tn1, u3_ne, u3_eq, u3_ni, u3_nk, f_100_13 hF1] at hx); subst hx)
    ((first | ((with_reducible refine w_s hS ?_ ?_ ?_ (fun x hx => ?_)); (focus decide); (focus (first | decide | omega)); (focus (first | decide | (simp only [sl]; omega)))) | ((with_reducible refine w_m hS ?_ ?_ ?_ ?_ ?_ (fun x hx => ?_)); (focus decide); (focus (first | decide | omega)); (focus omega); (focus (first | decide | omega)); (focus (first | decide | (simp only [ml]; omega)))) | (with_reducible refine w_k (by simp (disch := omega) only [w32_id]; exact rfl) ?_; ((with_reducible refine w_s hS ?_ ?_ ?_ (fun x hx => ?_)); (focus decide); (focus (first | decide | omega)); (focus (first | decide | (simp only [sl]; omega))))) | (with_reducible refine w_k (by simp (disch := omega) only [w32_id]; exact rfl) ?_; ((with_reducible refine w_m hS ?_ ?_ ?_ ?_ ?_ (fun x hx => ?_)); (focus decide); (focus (first | decide | omega)); (focus omega); (focus (first | decide | omega)); (focus (first | decide | (simp only [ml]; omega)))))); (try simp (disch := omega) only [Int.reduceToNat, tn_c, tn8, tn8i, tn5, tn5z, tn6, tn6z, tn1, u3_ne, u3_eq, u3_ni, u3_nk, er 113 _ (by decide), en] at hx); subst hx)
    refine w_ite (fun z => ?_) (fun z => w_ret (pf m1 (by omega)))
    ((first | ((with_reducible refine w_s hS ?_ ?_ ?_ (fun x hx => ?_)); (focus decide); (focus (first | decide | omega)); (focus (first | decide | (simp only [sl]; omega)))) | ((with_reducible refine w_m hS ?_ ?_ ?_ ?_ ?_ (fun x hx => ?_)); (focus decide); (focus (first | decide | omega)); (focus omega); (focus (first | decide | omega)); (focus (first | decide | (simp only [ml]; omega)))) | (with_reducible refine w_k (by simp (disch := omega) only [w32_id]; exact rfl) ?_; ((with_reducible refine w_s hS ?_ ?_ ?_ (fun x hx => ?_)); (focus decide); (focus (first | decide | omega)); (focus (first | decide | (simp only [sl]; omega))))) | (with_reducible refine w_k (by simp (disch := omega) only [w32_id]; exact rfl) ?_; ((with_reducible refine w_m hS ?_ ?_ ?_ ?_ ?_ (fun x hx => ?_)); (focus decide); (focus (first | decide | omega)); (focus omega); (focus (first | decide | omega)); (focus (first | decide | (simp only [ml]; omega)))))); (try simp (disch := omega) only [Int.reduceToNat, tn_c, tn8, tn8i, tn5, tn5z, tn6, tn6z, tn1, u3_ne, u3_eq, u3_ni, u3_nk, f_100_13 hF1] at hx); subst hx)
    ((first | ((with_reducible refine w_s hS ?_ ?_ ?_ (fun x hx => ?_)); (focus decide); (focus (first | decide | omega)); (focus (first | decide | (simp only [sl]; omega)))) | ((with_reducible refine w_m hS ?_ ?_ ?_ ?_ ?_ (fun x hx => ?_)); (focus decide); (focus (first | decide | omega)); (focus omega); (focus (first | decide | omega)); (focus (first | decide | (simp only [ml]; omega)))) | (with_reducible refine w_k (by simp (disch := omega) only [w32_id]; exact rfl) ?_; ((with_reducible refine w_s hS ?_ ?_ ?_ (fun x hx => ?_)); (focus decide); (focus (first | decide | omega)); (focus (first | decide | (simp only [sl]; omega))))) | (with_reducible refine w_k (by simp (disch := omega) only [w32_id]; exact rfl) ?_; ((with_reducible refine w_m hS ?_ ?_ ?_ ?_ ?_ (fun x hx => ?_)); (focus decide); (focus (first | decide | omega)); (focus omega); (focus (first | decide | omega)); (focus (first | decide | (simp only [ml]; omega)))))); (try simp (disch := omega) only [Int.reduceToNat, tn_c, tn8, tn8i, tn5, tn5z, tn6, tn6z, tn1, u3_ne, u3_eq, u3_ni, u3_nk, er 113 _ (by decide), en] at hx); subst hx)
    rw [w8 (by omega) (by omega)]
    ((first | ((with_reducible refine w_s hS ?_ ?_ ?_ (fun x hx => ?_)); (focus decide); (focus (first | decide | omega)); (focus (first | decide | (simp only [sl]; omega)))) | ((with_reducible refine w_m hS ?_ ?_ ?_ ?_ ?_ (fun x hx => ?_)); (focus decide); (focus (first | decide | omega)); (focus omega); (focus (first | decide | omega)); (focus (first | decide | (simp only [ml]; omega)))) | (with_reducible refine w_k (by simp (disch := omega) only [w32_id]; exact rfl) ?_; ((with_reducible refine w_s hS ?_ ?_ ?_ (fun x hx => ?_)); (focus decide); (focus (first | decide | omega)); (focus (first | decide | (simp only [sl]; omega))))) | (with_reducible refine w_k (by simp (disch := omega) only [w32_id]; exact rfl) ?_; ((with_reducible refine w_m hS ?_ ?_ ?_ ?_ ?_ (fun x hx => ?_)); (focus decide); (focus (first | decide | omega)); (focus omega); (focus (first | decide | omega)); (focus (first | decide | (simp only [ml]; omega)))))); (try simp (disch := omega) only [Int.reduceToNat, tn_c, tn8, tn8i, tn5, tn5z, tn6, tn6z, tn1, u3_ne, u3_eq, u3_ni, u3_nk, f_100_10 hF1] at hx); subst hx)
    refine w_ss hS (by decide) (by omega) (by simp only [sl]; omega) ?_
    rw [tn_c]
    ((first | ((with_reducible refine w_s hS ?_ ?_ ?_ (fun x hx => ?_)); (focus decide); (focus (first | decide | omega)); (focus (first | decide | (simp only [sl]; omega)))) | ((with_reducible refine w_m hS ?_ ?_ ?_ ?_ ?_ (fun x hx => ?_)); (focus decide); (focus (first | decide | omega)); (focus omega); (focus (first | decide | omega)); (focus (first | decide | (simp only [ml]; omega)))) | (with_reducible refine w_k (by simp (disch := omega) only [w32_id]; exact rfl) ?_; ((with_reducible refine w_s hS ?_ ?_ ?_ (fun x hx => ?_)); (focus decide); (focus (first | decide | omega)); (focus (first | decide | (simp only [sl]; omega))))) | (with_reducible refine w_k (by simp (disch := omega) only [w32_id]; exact rfl) ?_; ((with_reducible refine w_m hS ?_ ?_ ?_ ?_ ?_ (fun x hx => ?_)); (focus decide); (focus (first | decide | omega)); (focus omega); (focus (first | decide | omega)); (focus (first | decide | (simp only [ml]; omega)))))); (try simp (disch := omega) only [Int.reduceToNat, tn_c, tn8, tn8i, tn5, tn5z, tn6, tn6z, tn1, u3_ne, u3_eq, u3_ni, u3_nk, u3_ne, f_100_11 hF1] at hx); subst hx)
    refine w_ss hS (by decide) (by omega) (by simp only [sl]; omega) ?_
    rw [tn_c]
    ((first | ((with_reducible refine w_s hS ?_ ?_ ?_ (fun x hx => ?_)); (focus decide); (focus (first | decide | omega)); (focus (first | decide | (simp only [sl]; omega)))) | ((with_reducible refine w_m hS ?_ ?_ ?_ ?_ ?_ (fun x hx => ?_)); (focus decide); (focus (first | decide | omega)); (focus omega); (focus (first | decide | omega)); (focus (first | decide | (simp only [ml]; omega)))) | (with_reducible refine w_k (by simp (disch := omega) only [w32_id]; exact rfl) ?_; ((with_reducible refine w_s hS ?_ ?_ ?_ (fun x hx => ?_)); (focus decide); (focus (first | decide | omega)); (focus (first | decide | (simp only [sl]; omega))))) | (with_reducible refine w_k (by simp (disch := omega) only [w32_id]; exact rfl) ?_; ((with_reducible refine w_m hS ?_ ?_ ?_ ?_ ?_ (fun x hx => ?_)); (focus decide); (focus (first | decide | omega)); (focus omega); (focus (first | decide | omega)); (focus (first | decide | (simp only [ml]; omega)))))); (try simp (disch := omega) only [Int.reduceToNat, tn_c, tn8, tn8i, tn5, tn5z, tn6, tn6z, tn1, u3_ne, u3_eq, u3_ni, u3_nk, u3_ne, f_100_12 hF1] at hx); subst hx)
    refine w_ss hS (by decide) (by omega) (by simp only [sl]; omega) ?_
    rw [tn_c]
    ((first | ((with_reducible refine w_s hS ?_ ?_ ?_ (fun x hx => ?_)); (focus decide); (focus (first | decide | omega)); (focus (first | decide | (simp only [sl]; omega)))) | ((with_reducible refine w_m hS ?_ ?_ ?_ ?_ ?_ (fun x hx => ?_)); (focus decide); (focus (first | decide | omega)); (focus omega); (focus (first | decide | omega)); (focus (first | decide | (simp only [ml]; omega)))) | (with_reducible refine w_k (by simp (disch := omega) only [w32_id]; exact rfl) ?_; ((with_reducible refine w_s hS ?_ ?_ ?_ (fun x hx => ?_)); (focus decide); (focus (first | decide | omega)); (focus (first | decide | (simp only [sl]; omega))))) | (with_reducible refine w_k (by simp (disch := omega) only [w32_id]; exact rfl) ?_; ((with_reducible refine w_m hS ?_ ?_ ?_ ?_ ?_ (fun x hx => ?_)); (focus decide); (focus (first | decide | omega)); (focus omega); (focus (first | decide | omega)); (focus (first | decide | (simp only [ml]; omega)))))); (try simp (disch := omega) only [Int.reduceToNat, tn_c, tn8, tn8i, tn5, tn5z, tn6, tn6z, tn1, u3_ne, u3_eq, u3_ni, u3_nk, u3_ne, f_100_13 hF1] at hx); subst hx)
    ((first | ((with_reducible refine w_s hS ?_ ?_ ?_ (fun x hx => ?_)); (focus decide); (focus (first | decide | omega)); (focus (first | decide | (simp only [sl]; omega)))) | ((with_reducible refine w_m hS ?_ ?_ ?_ ?_ ?_ (fun x hx => ?_)); (focus decide); (focus (first | decide | omega)); (focus omega); (focus (first | decide | omega)); (focus (first | decide | (simp only [ml]; omega)))) | (with_reducible refine w_k (by simp (disch := omega) only [w32_id]; exact rfl) ?_; ((with_reducible refine w_s hS ?_ ?_ ?_ (fun x hx => ?_)); (focus decide); (focus (first | decide | omega)); (focus (first | decide | (simp only [sl]; omega))))) | (with_reducible refine w_k (by simp (disch := omega) only [w32_id]; exact rfl) ?_; ((with_reducible refine w_m hS ?_ ?_ ?_ ?_ ?_ (fun x hx => ?_)); (focus decide); (focus (first | decide | omega)); (focus omega); (focus (first | decide | omega)); (focus (first | decide | (simp only [ml]; omega)))))); (try simp (disch := omega) only [Int.reduceToNat, tn_c, tn8, tn8i, tn5, tn5z, tn6, tn6z, tn1, u3_ne, u3_eq, u3_ni, u3_nk, u3_ne, er 113 _ (by decide), en] at hx); subst hx)
    refine w_ss hS (by decide) (by omega) (by simp only [sl]; omega) ?_
    rw [tn_c, ws1 (by omega)]
    show Wp ((g_X9_codeNumber 0 (q : Int) c (rwr V1 q n lo hi c, R)).bind _) P
    have sm2 : same V1 (rwr V1 q n lo hi c) LRx := by
      unfold rwr
      exact ((((same.rf V1 _).u ⟨(110, none), by decide, rfl, Or.inl rfl⟩).u ⟨(111, none), by decide, rfl, Or.inl rfl⟩).u ⟨(112, none), by decide, rfl, Or.inl rfl⟩).u ⟨(113, none), by decide, rfl, Or.inl rfl⟩
    have hF2 := cg_RF sm2 rfl hF1
    have e109 : ∀ k, rwr V1 q n lo hi c 109 0 k = V 109 0 k := fun k => by rw [rwr_o (by decide)]; exact er 109 _ (by decide)
    have e108 : ∀ k, rwr V1 q n lo hi c 108 0 k = V 108 0 k := fun k => by rw [rwr_o (by decide)]; exact er 108 _ (by decide)
    have e113 : rwr V1 q n lo hi c 113 0 q = ((n + 1 : Nat) : Int) := rwr_f.2.2.2
    generalize hW : rwr V1 q n lo hi c = W at *
    refine w_codeNumber0 hS hF2 (by omega) (by rw [e109]; omega) (fun j hj ej => ?_) (fun hn => ?_)
    · rw [e109] at hj
      rw [e108] at ej
      refine w_ite (fun _ => ?_) (fun w => absurd (show (j : Int) ≥ 0 by omega) w)
      ((first | ((with_reducible refine w_s hS ?_ ?_ ?_ (fun x hx => ?_)); (focus decide); (focus (first | decide | omega)); (focus (first | decide | (simp only [sl]; omega)))) | ((with_reducible refine w_m hS ?_ ?_ ?_ ?_ ?_ (fun x hx => ?_)); (focus decide); (focus (first | decide | omega)); (focus omega); (focus (first | decide | omega)); (focus (first | decide | (simp only [ml]; omega)))) | (with_reducible refine w_k (by simp (disch := omega) only [w32_id]; exact rfl) ?_; ((with_reducible refine w_s hS ?_ ?_ ?_ (fun x hx => ?_)); (focus decide); (focus (first | decide | omega)); (focus (first | decide | (simp only [sl]; omega))))) | (with_reducible refine w_k (by simp (disch := omega) only [w32_id]; exact rfl) ?_; ((with_reducible refine w_m hS ?_ ?_ ?_ ?_ ?_ (fun x hx => ?_)); (focus decide); (focus (first | decide | omega)); (focus omega); (focus (first | decide | omega)); (focus (first | decide | (simp only [ml]; omega)))))); (try simp (disch := omega) only [Int.reduceToNat, tn_c, tn8, tn8i, tn5, tn5z, tn6, tn6z, tn1, u3_ne, u3_eq, u3_ni, u3_nk, f_100_13 hF2] at hx); subst hx)
      ((first | ((with_reducible refine w_s hS ?_ ?_ ?_ (fun x hx => ?_)); (focus decide); (focus (first | decide | omega)); (focus (first | decide | (simp only [sl]; omega)))) | ((with_reducible refine w_m hS ?_ ?_ ?_ ?_ ?_ (fun x hx => ?_)); (focus decide); (focus (first | decide | omega)); (focus omega); (focus (first | decide | omega)); (focus (first | decide | (simp only [ml]; omega)))) | (with_reducible refine w_k (by simp (disch := omega) only [w32_id]; exact rfl) ?_; ((with_reducible refine w_s hS ?_ ?_ ?_ (fun x hx => ?_)); (focus decide); (focus (first | decide | omega)); (focus (first | decide | (simp only [sl]; omega))))) | (with_reducible refine w_k (by simp (disch := omega) only [w32_id]; exact rfl) ?_; ((with_reducible refine w_m hS ?_ ?_ ?_ ?_ ?_ (fun x hx => ?_)); (focus decide); (focus (first | decide | omega)); (focus omega); (focus (first | decide | omega)); (focus (first | decide | (simp only [ml]; omega)))))); (try simp (disch := omega) only [Int.reduceToNat, tn_c, tn8, tn8i, tn5, tn5z, tn6, tn6z, tn1, u3_ne, u3_eq, u3_ni, u3_nk, e113] at hx); subst hx)
      exact w_ret (p1 m1 (by omega) ⟨j, by omega, ej⟩)
    · have hn : ∀ j : Nat, j < m → V 108 0 (8 * q + j) ≠ c := by
        intro j hj
        have := hn j (by rw [e109]; omega)
        rw [e108] at this; exact this
      refine w_ite (fun w => absurd (show (-1 : Int) ≥ 0 from w) (by decide)) (fun _ => ?_)
      ((first | ((with_reducible refine w_s hS ?_ ?_ ?_ (fun x hx => ?_)); (focus decide); (focus (first | decide | omega)); (focus (first | decide | (simp only [sl]; omega)))) | ((with_reducible refine w_m hS ?_ ?_ ?_ ?_ ?_ (fun x hx => ?_)); (focus decide); (focus (first | decide | omega)); (focus omega); (focus (first | decide | omega)); (focus (first | decide | (simp only [ml]; omega)))) | (with_reducible refine w_k (by simp (disch := omega) only [w32_id]; exact rfl) ?_; ((with_reducible refine w_s hS ?_ ?_ ?_ (fun x hx => ?_)); (focus decide); (focus (first | decide | omega)); (focus (first | decide | (simp only [sl]; omega))))) | (with_reducible refine w_k (by simp (disch := omega) only [w32_id]; exact rfl) ?_; ((with_reducible refine w_m hS ?_ ?_ ?_ ?_ ?_ (fun x hx => ?_)); (focus decide); (focus (first | decide | omega)); (focus omega); (focus (first | decide | omega)); (focus (first | decide | (simp only [ml]; omega)))))); (try simp (disch := omega) only [Int.reduceToNat, tn_c, tn8, tn8i, tn5, tn5z, tn6, tn6z, tn1, u3_ne, u3_eq, u3_ni, u3_nk, f_100_8 hF2] at hx); subst hx)
      ((first | ((with_reducible refine w_s hS ?_ ?_ ?_ (fun x hx => ?_)); (focus decide); (focus (first | decide | omega)); (focus (first | decide | (simp only [sl]; omega)))) | ((with_reducible refine w_m hS ?_ ?_ ?_ ?_ ?_ (fun x hx => ?_)); (focus decide); (focus (first | decide | omega)); (focus omega); (focus (first | decide | omega)); (focus (first | decide | (simp only [ml]; omega)))) | (with_reducible refine w_k (by simp (disch := omega) only [w32_id]; exact rfl) ?_; ((with_reducible refine w_s hS ?_ ?_ ?_ (fun x hx => ?_)); (focus decide); (focus (first | decide | omega)); (focus (first | decide | (simp only [sl]; omega))))) | (with_reducible refine w_k (by simp (disch := omega) only [w32_id]; exact rfl) ?_; ((with_reducible refine w_m hS ?_ ?_ ?_ ?_ ?_ (fun x hx => ?_)); (focus decide); (focus (first | decide | omega)); (focus omega); (focus (first | decide | omega)); (focus (first | decide | (simp only [ml]; omega)))))); (try simp (disch := omega) only [Int.reduceToNat, tn_c, tn8, tn8i, tn5, tn5z, tn6, tn6z, tn1, u3_ne, u3_eq, u3_ni, u3_nk, f_100_9 hF2] at hx); subst hx)
      ((first | ((with_reducible refine w_s hS ?_ ?_ ?_ (fun x hx => ?_)); (focus decide); (focus (first | decide | omega)); (focus (first | decide | (simp only [sl]; omega)))) | ((with_reducible refine w_m hS ?_ ?_ ?_ ?_ ?_ (fun x hx => ?_)); (focus decide); (focus (first | decide | omega)); (focus omega); (focus (first | decide | omega)); (focus (first | decide | (simp only [ml]; omega)))) | (with_reducible refine w_k (by simp (disch := omega) only [w32_id]; exact rfl) ?_; ((with_reducible refine w_s hS ?_ ?_ ?_ (fun x hx => ?_)); (focus decide); (focus (first | decide | omega)); (focus (first | decide | (simp only [sl]; omega))))) | (with_reducible refine w_k (by simp (disch := omega) only [w32_id]; exact rfl) ?_; ((with_reducible refine w_m hS ?_ ?_ ?_ ?_ ?_ (fun x hx => ?_)); (focus decide); (focus (first | decide | omega)); (focus omega); (focus (first | decide | omega)); (focus (first | decide | (simp only [ml]; omega)))))); (try simp (disch := omega) only [Int.reduceToNat, tn_c, tn8, tn8i, tn5, tn5z, tn6, tn6z, tn1, u3_ne, u3_eq, u3_ni, u3_nk, e109, em] at hx); subst hx)
      rw [w8 (by omega) (by omega)]
      refine w_ss hS (by decide) (by omega) (by simp only [sl]; omega) ?_
      rw [tn_c]
      ((first | ((with_reducible refine w_s hS ?_ ?_ ?_ (fun x hx => ?_)); (focus decide); (focus (first | decide | omega)); (focus (first | decide | (simp only [sl]; omega)))) | ((with_reducible refine w_m hS ?_ ?_ ?_ ?_ ?_ (fun x hx => ?_)); (focus decide); (focus (first | decide | omega)); (focus omega); (focus (first | decide | omega)); (focus (first | decide | (simp only [ml]; omega)))) | (with_reducible refine w_k (by simp (disch := omega) only [w32_id]; exact rfl) ?_; ((with_reducible refine w_s hS ?_ ?_ ?_ (fun x hx => ?_)); (focus decide); (focus (first | decide | omega)); (focus (first | decide | (simp only [sl]; omega))))) | (with_reducible refine w_k (by simp (disch := omega) only [w32_id]; exact rfl) ?_; ((with_reducible refine w_m hS ?_ ?_ ?_ ?_ ?_ (fun x hx => ?_)); (focus decide); (focus (first | decide | omega)); (focus omega); (focus (first | decide | omega)); (focus (first | decide | (simp only [ml]; omega)))))); (try simp (disch := omega) only [Int.reduceToNat, tn_c, tn8, tn8i, tn5, tn5z, tn6, tn6z, tn1, u3_ne, u3_eq, u3_ni, u3_nk, u3_ne, f_100_9 hF2] at hx); subst hx)
      ((first | ((with_reducible refine w_s hS ?_ ?_ ?_ (fun x hx => ?_)); (focus decide); (focus (first | decide | omega)); (focus (first | decide | (simp only [sl]; omega)))) | ((with_reducible refine w_m hS ?_ ?_ ?_ ?_ ?_ (fun x hx => ?_)); (focus decide); (focus (first | decide | omega)); (focus omega); (focus (first | decide | omega)); (focus (first | decide | (simp only [ml]; omega)))) | (with_reducible refine w_k (by simp (disch := omega) only [w32_id]; exact rfl) ?_; ((with_reducible refine w_s hS ?_ ?_ ?_ (fun x hx => ?_)); (focus decide); (focus (first | decide | omega)); (focus (first | decide | (simp only [sl]; omega))))) | (with_reducible refine w_k (by simp (disch := omega) only [w32_id]; exact rfl) ?_; ((with_reducible refine w_m hS ?_ ?_ ?_ ?_ ?_ (fun x hx => ?_)); (focus decide); (focus (first | decide | omega)); (focus omega); (focus (first | decide | omega)); (focus (first | decide | (simp only [ml]; omega)))))); (try simp (disch := omega) only [Int.reduceToNat, tn_c, tn8, tn8i, tn5, tn5z, tn6, tn6z, tn1, u3_ne, u3_eq, u3_ni, u3_nk, u3_ne, e109, em] at hx); subst hx)
      refine w_ss hS (by decide) (by omega) (by simp only [sl]; omega) ?_
      rw [tn_c, ws1 (by omega)]
      ((first | ((with_reducible refine w_s hS ?_ ?_ ?_ (fun x hx => ?_)); (focus decide); (focus (first | decide | omega)); (focus (first | decide | (simp only [sl]; omega)))) | ((with_reducible refine w_m hS ?_ ?_ ?_ ?_ ?_ (fun x hx => ?_)); (focus decide); (focus (first | decide | omega)); (focus omega); (focus (first | decide | omega)); (focus (first | decide | (simp only [ml]; omega)))) | (with_reducible refine w_k (by simp (disch := omega) only [w32_id]; exact rfl) ?_; ((with_reducible refine w_s hS ?_ ?_ ?_ (fun x hx => ?_)); (focus decide); (focus (first | decide | omega)); (focus (first | decide | (simp only [sl]; omega))))) | (with_reducible refine w_k (by simp (disch := omega) only [w32_id]; exact rfl) ?_; ((with_reducible refine w_m hS ?_ ?_ ?_ ?_ ?_ (fun x hx => ?_)); (focus decide); (focus (first | decide | omega)); (focus omega); (focus (first | decide | omega)); (focus (first | decide | (simp only [ml]; omega)))))); (try simp (disch := omega) only [Int.reduceToNat, tn_c, tn8, tn8i, tn5, tn5z, tn6, tn6z, tn1, u3_ne, u3_eq, u3_ni, u3_nk, u3_ne, f_100_13 hF2] at hx); subst hx)
      ((first | ((with_reducible refine w_s hS ?_ ?_ ?_ (fun x hx => ?_)); (focus decide); (focus (first | decide | omega)); (focus (first | decide | (simp only [sl]; omega)))) | ((with_reducible refine w_m hS ?_ ?_ ?_ ?_ ?_ (fun x hx => ?_)); (focus decide); (focus (first | decide | omega)); (focus omega); (focus (first | decide | omega)); (focus (first | decide | (simp only [ml]; omega)))) | (with_reducible refine w_k (by simp (disch := omega) only [w32_id]; exact rfl) ?_; ((with_reducible refine w_s hS ?_ ?_ ?_ (fun x hx => ?_)); (focus decide); (focus (first | decide | omega)); (focus (first | decide | (simp only [sl]; omega))))) | (with_reducible refine w_k (by simp (disch := omega) only [w32_id]; exact rfl) ?_; ((with_reducible refine w_m hS ?_ ?_ ?_ ?_ ?_ (fun x hx => ?_)); (focus decide); (focus (first | decide | omega)); (focus omega); (focus (first | decide | omega)); (focus (first | decide | (simp only [ml]; omega)))))); (try simp (disch := omega) only [Int.reduceToNat, tn_c, tn8, tn8i, tn5, tn5z, tn6, tn6z, tn1, u3_ne, u3_eq, u3_ni, u3_nk, u3_ne, e113] at hx); subst hx)
      exact w_ret (p0 m1 (by omega) hn)
  ((first | ((with_reducible refine w_s hS ?_ ?_ ?_ (fun x hx => ?_)); (focus decide); (focus (first | decide | omega)); (focus (first | decide | (simp only [sl]; omega)))) | ((with_reducible refine w_m hS ?_ ?_ ?_ ?_ ?_ (fun x hx => ?_)); (focus decide); (focus (first | decide | omega)); (focus omega); (focus (first | decide | omega)); (focus (first | decide | (simp only [ml]; omega)))) | (with_reducible refine w_k (by simp (disch := omega) only [w32_id]; exact rfl) ?_; ((with_reducible refine w_s hS ?_ ?_ ?_ (fun x hx => ?_)); (focus decide); (focus (first | decide | omega)); (focus (first | decide | (simp only [sl]; omega))))) | (with_reducible refine w_k (by simp (disch := omega) only [w32_id]; exact rfl) ?_; ((with_reducible refine w_m hS ?_ ?_ ?_ ?_ ?_ (fun x hx => ?_)); (focus decide); (focus (first | decide | omega)); (focus omega); (focus (first | decide | omega)); (focus (first | decide | (simp only [ml]; omega)))))); (try simp (disch := omega) only [Int.reduceToNat, tn_c, tn8, tn8i, tn5, tn5z, tn6, tn6z, tn1, u3_ne, u3_eq, u3_ni, u3_nk, e2] at hx); subst hx)
  refine w_ite (fun m1 => ?_) (fun z => w_ret (gate hF n1 (fun _ _ _ => rfl) (fun _ => ⟨rfl, hI⟩) (fun w => absurd w z) (fun w => absurd w z) (fun w => absurd w z)))
  ((first | ((with_reducible refine w_s hS ?_ ?_ ?_ (fun x hx => ?_)); (focus decide); (focus (first | decide | omega)); (focus (first | decide | (simp only [sl]; omega)))) | ((with_reducible refine w_m hS ?_ ?_ ?_ ?_ ?_ (fun x hx => ?_)); (focus decide); (focus (first | decide | omega)); (focus omega); (focus (first | decide | omega)); (focus (first | decide | (simp only [ml]; omega)))) | (with_reducible refine w_k (by simp (disch := omega) only [w32_id]; exact rfl) ?_; ((with_reducible refine w_s hS ?_ ?_ ?_ (fun x hx => ?_)); (focus decide); (focus (first | decide | omega)); (focus (first | decide | (simp only [sl]; omega))))) | (with_reducible refine w_k (by simp (disch := omega) only [w32_id]; exact rfl) ?_; ((with_reducible refine w_m hS ?_ ?_ ?_ ?_ ?_ (fun x hx => ?_)); (focus decide); (focus (first | decide | omega)); (focus omega); (focus (first | decide | omega)); (focus (first | decide | (simp only [ml]; omega)))))); (try simp (disch := omega) only [Int.reduceToNat, tn_c, tn8, tn8i, tn5, tn5z, tn6, tn6z, tn1, u3_ne, u3_eq, u3_ni, u3_nk, e9, en] at hx); subst hx)
  refine w_ite (fun n8 => ?_) (fun z => w_ret (gate hF n1 (fun _ _ _ => rfl) (fun w => absurd m1 w) (fun _ _ => ⟨rfl, hI⟩) (fun _ w => by omega) (fun _ w => by omega)))
  have mle := ((hQ.1 q hq).2.2.1.2.1 m1).2.2.2
  have hcc := (hQ.1 q hq).2.1
  refine w_addRow hI hq m1 en (by omega) em (fun hj => ?_) (fun hn => ?_)
  · -- the code is there
    have sm1 : same V (rwc V q n lo hi c) LRx := by
      unfold rwc
      exact ((((same.rf V _).u ⟨(22, none), by decide, rfl, Or.inl rfl⟩).u ⟨(23, none), by decide, rfl, Or.inl rfl⟩).u ⟨(24, none), by decide, rfl, Or.inl rfl⟩).u ⟨(20, some 9), by decide, rfl, Or.inr rfl⟩
    obtain ⟨f1, f2, f3, f4⟩ := rwc_f (V := V) (q := q) (n := n) (lo := lo) (hi := hi) (c := c)
    have fo : ∀ r, (r ≠ 20 ∧ r ≠ 22 ∧ r ≠ 23 ∧ r ≠ 24) → ∀ i k, rwc V q n lo hi c r i k = V r i k := fun r h i k => rwc_o h
    generalize rwc V q n lo hi c = V1 at *
    refine w_unsetAll hS (cg_RF sm1 rfl hF) b30 hq (by rw [fo 0 (by decide)]; exact n4) (fun k hk => by rw [fo 5 (by decide)]; exact l_5 hL hk) (fun V2 sm2 hs2 => ?_)
    have e2 : ∀ r, r ≠ 30 → ∀ i k, V2 r i k = V1 r i k := fun r hr i k => sm2 r i k (fun ⟨e, he, hk⟩ => by simp at he; subst he; omega)
    have sm02 : same V V2 LRx := sm1.tr (sm2.mono (by decide))
    rw [f4]
    refine gate (cg_RF sm02 rfl hF) (by rw [sm02.f 100 0 rfl]; exact n1) (fun r k hr => by rw [e2 r (by omega), fo r (by omega)]) (fun w => absurd m1 w) (fun _ w => by omega) (fun _ _ _ => ⟨rfl, ?_⟩) (fun _ _ w => by obtain ⟨j, hj1, hj2⟩ := hj; exact absurd hj2 (w j hj1))
    have sm3 : same V2 (rwr V2 q n lo hi c) LRx := by
      unfold rwr
      exact ((((same.rf V2 _).u ⟨(110, none), by decide, rfl, Or.inl rfl⟩).u ⟨(111, none), by decide, rfl, Or.inl rfl⟩).u ⟨(112, none), by decide, rfl, Or.inl rfl⟩).u ⟨(113, none), by decide, rfl, Or.inl rfl⟩
    obtain ⟨g1, g2, g3, g4⟩ := rwr_f (V := V2) (q := q) (n := n) (lo := lo) (hi := hi) (c := c)
    have go : ∀ r, (r ≠ 110 ∧ r ≠ 111 ∧ r ≠ 112 ∧ r ≠ 113) → ∀ i k, rwr V2 q n lo hi c r i k = V2 r i k := fun r h i k => rwr_o h
    show INV IT (rwr V2 q n lo hi c) R
    generalize rwr V2 q n lo hi c = V3 at *
    have al : ∀ r, r ∉ [20, 22, 23, 24, 30, 110, 111, 112, 113] → ∀ i k, V3 r i k = V r i k := by
      intro r hr i k
      simp only [List.mem_cons, List.mem_nil_iff, or_false, not_or] at hr
      rw [go r (by omega), e2 r (by omega), fo r (by omega)]
    refine INV_row (lo := lo) (hi := hi) (c := c) hI (sm02.tr sm3) hq m1 en (by omega) (fun i k h => ?_) ?_ (fun i k h => ?_) ?_ ?_ (fun k h => ?_) g2 (fun k h => ⟨?_, al 109 (by decide) _ _⟩) g4 (fun i k _ => al 21 (by decide) _ _) (fun k _ => al 108 (by decide) _ _) (fun i _ => al 108 (by decide) _ _) ?_ ?_ ?_ ?_ (fun h hh => ?_)
    · rw [go 22 (by decide), go 23 (by decide), go 24 (by decide), e2 22 (by decide), e2 23 (by decide), e2 24 (by decide)]; exact f1 i k h
    · rw [go 22 (by decide), go 23 (by decide), go 24 (by decide), e2 22 (by decide), e2 23 (by decide), e2 24 (by decide)]; exact f2
    · rw [go 20 (by decide), e2 20 (by decide)]; exact f3 i k (by omega)
    · rw [go 20 (by decide), e2 20 (by decide)]; exact f4
    · rw [go 20 (by decide), e2 20 (by decide), f3 _ _ (Or.inr (by decide)), al 109 (by decide)]; exact e5
    · obtain ⟨x, y, z⟩ := g1 k h
      rw [x, y, z, e2 110 (by decide), e2 111 (by decide), e2 112 (by decide), fo 110 (by decide), fo 111 (by decide), fo 112 (by decide)]; exact ⟨rfl, rfl, rfl⟩
    · rw [g3 k h, e2 113 (by decide), fo 113 (by decide)]
    · rw [al 109 (by decide)]; exact Int.le_refl _
    · rw [al 109 (by decide)]; omega
    · simp only [IQc, al 109 (by decide), al 108 (by decide), al 21 (by decide)]; exact hcc
    · obtain ⟨j, hj1, hj2⟩ := hj
      exact ⟨j, by rw [al 109 (by decide)]; omega, by rw [al 108 (by decide)]; exact hj2⟩
    · rw [go 30 (by decide), hs2 h hh, fo 30 (by decide), f3 _ _ (Or.inr (by decide))]
  · -- the code is new
    have sm1 : same V (u3 (u3 (rwc V q n lo hi c) 21 q m c) 20 q 5 ((m + 1 : Nat) : Int)) LRx := by
      unfold rwc
      exact (((((((same.rf V _).u ⟨(22, none), by decide, rfl, Or.inl rfl⟩).u ⟨(23, none), by decide, rfl, Or.inl rfl⟩).u ⟨(24, none), by decide, rfl, Or.inl rfl⟩).u ⟨(20, some 9), by decide, rfl, Or.inr rfl⟩).u ⟨(21, none), by decide, rfl, Or.inl rfl⟩).u ⟨(20, some 5), by decide, rfl, Or.inr rfl⟩)
    obtain ⟨f1, f2, f3, f4⟩ := rwc_f (V := V) (q := q) (n := n) (lo := lo) (hi := hi) (c := c)
    have fo : ∀ r, (r ≠ 20 ∧ r ≠ 21 ∧ r ≠ 22 ∧ r ≠ 23 ∧ r ≠ 24) → ∀ i k, u3 (u3 (rwc V q n lo hi c) 21 q m c) 20 q 5 ((m + 1 : Nat) : Int) r i k = V r i k := fun r h i k => by rw [u3_ne h.1, u3_ne h.2.1]; exact rwc_o (by omega)
    have h1 : ∀ i k, (i ≠ q ∨ k ≠ n) → u3 (u3 (rwc V q n lo hi c) 21 q m c) 20 q 5 ((m + 1 : Nat) : Int) 22 i k = V 22 i k ∧ u3 (u3 (rwc V q n lo hi c) 21 q m c) 20 q 5 ((m + 1 : Nat) : Int) 23 i k = V 23 i k ∧ u3 (u3 (rwc V q n lo hi c) 21 q m c) 20 q 5 ((m + 1 : Nat) : Int) 24 i k = V 24 i k := fun i k h => by
      rw [u3_ne (by decide), u3_ne (by decide), u3_ne (by decide), u3_ne (by decide), u3_ne (by decide), u3_ne (by decide)]; exact f1 i k h
    have h2 : u3 (u3 (rwc V q n lo hi c) 21 q m c) 20 q 5 ((m + 1 : Nat) : Int) 22 q n = lo ∧ u3 (u3 (rwc V q n lo hi c) 21 q m c) 20 q 5 ((m + 1 : Nat) : Int) 23 q n = hi ∧ u3 (u3 (rwc V q n lo hi c) 21 q m c) 20 q 5 ((m + 1 : Nat) : Int) 24 q n = c := by
      rw [u3_ne (by decide), u3_ne (by decide), u3_ne (by decide), u3_ne (by decide), u3_ne (by decide), u3_ne (by decide)]; exact f2
    have h3 : ∀ i k, (i ≠ q ∨ (k ≠ 5 ∧ k ≠ 9)) → u3 (u3 (rwc V q n lo hi c) 21 q m c) 20 q 5 ((m + 1 : Nat) : Int) 20 i k = V 20 i k := fun i k h => by
      rcases h with h | h
      · rw [u3_ni h, u3_ne (by decide)]; exact f3 i k (Or.inl h)
      · rw [u3_nk h.1, u3_ne (by decide)]; exact f3 i k (Or.inr h.2)
    have h4 : u3 (u3 (rwc V q n lo hi c) 21 q m c) 20 q 5 ((m + 1 : Nat) : Int) 20 q 9 = ((n + 1 : Nat) : Int) := by rw [u3_nk (by decide), u3_ne (by decide)]; exact f4
    have h5 : u3 (u3 (rwc V q n lo hi c) 21 q m c) 20 q 5 ((m + 1 : Nat) : Int) 20 q 5 = ((m + 1 : Nat) : Int) := u3_eq
    have h6 : ∀ i k, (i ≠ q ∨ k ≠ m) → u3 (u3 (rwc V q n lo hi c) 21 q m c) 20 q 5 ((m + 1 : Nat) : Int) 21 i k = V 21 i k := fun i k h => by
      rw [u3_ne (by decide)]
      rcases h with h | h
      · rw [u3_ni h]; exact rwc_o (by decide)
      · rw [u3_nk h]; exact rwc_o (by decide)
    have h7 : u3 (u3 (rwc V q n lo hi c) 21 q m c) 20 q 5 ((m + 1 : Nat) : Int) 21 q m = c := by rw [u3_ne (by decide), u3_eq]
    generalize u3 (u3 (rwc V q n lo hi c) 21 q m c) 20 q 5 ((m + 1 : Nat) : Int) = V1 at *
    refine w_unsetAll hS (cg_RF sm1 rfl hF) b30 hq (by rw [fo 0 (by decide)]; exact n4) (fun k hk => by rw [fo 5 (by decide)]; exact l_5 hL hk) (fun V2 sm2 hs2 => ?_)
    have e2 : ∀ r, r ≠ 30 → ∀ i k, V2 r i k = V1 r i k := fun r hr i k => sm2 r i k (fun ⟨e, he, hk⟩ => by simp at he; subst he; omega)
    have sm02 : same V V2 LRx := sm1.tr (sm2.mono (by decide))
    rw [h4]
    refine gate (cg_RF sm02 rfl hF) (by rw [sm02.f 100 0 rfl]; exact n1) (fun r k hr => by rw [e2 r (by omega), fo r (by omega)]) (fun w => absurd m1 w) (fun _ w => by omega) (fun _ _ ⟨j, hj1, hj2⟩ => absurd hj2 (hn j hj1)) (fun _ _ _ => ⟨rfl, ?_⟩)
    have sm3 : same V2 (u3 (u3 (rwr V2 q n lo hi c) 108 0 (8 * q + m) c) 109 0 q ((m + 1 : Nat) : Int)) LRx := by
      unfold rwr
      exact ((((((same.rf V2 _).u ⟨(110, none), by decide, rfl, Or.inl rfl⟩).u ⟨(111, none), by decide, rfl, Or.inl rfl⟩).u ⟨(112, none), by decide, rfl, Or.inl rfl⟩).u ⟨(113, none), by decide, rfl, Or.inl rfl⟩).u ⟨(108, none), by decide, rfl, Or.inl rfl⟩).u ⟨(109, none), by decide, rfl, Or.inl rfl⟩
    obtain ⟨g1, g2, g3, g4⟩ := rwr_f (V := V2) (q := q) (n := n) (lo := lo) (hi := hi) (c := c)
    have go : ∀ r, (r ≠ 108 ∧ r ≠ 109) → ∀ i k, u3 (u3 (rwr V2 q n lo hi c) 108 0 (8 * q + m) c) 109 0 q ((m + 1 : Nat) : Int) r i k = rwr V2 q n lo hi c r i k := fun r h i k => by rw [u3_ne h.2, u3_ne h.1]
    have g5 : ∀ k, k ≠ 8 * q + m → u3 (u3 (rwr V2 q n lo hi c) 108 0 (8 * q + m) c) 109 0 q ((m + 1 : Nat) : Int) 108 0 k = V 108 0 k := fun k h => by
      rw [u3_ne (by decide), u3_nk h, rwr_o (by decide), e2 108 (by decide), fo 108 (by decide)]
    have g6 : u3 (u3 (rwr V2 q n lo hi c) 108 0 (8 * q + m) c) 109 0 q ((m + 1 : Nat) : Int) 108 0 (8 * q + m) = c := by rw [u3_ne (by decide), u3_eq]
    have g7 : ∀ k, k ≠ q → u3 (u3 (rwr V2 q n lo hi c) 108 0 (8 * q + m) c) 109 0 q ((m + 1 : Nat) : Int) 109 0 k = V 109 0 k := fun k h => by
      rw [u3_nk h, u3_ne (by decide), rwr_o (by decide), e2 109 (by decide), fo 109 (by decide)]
    have g8 : u3 (u3 (rwr V2 q n lo hi c) 108 0 (8 * q + m) c) 109 0 q ((m + 1 : Nat) : Int) 109 0 q = ((m + 1 : Nat) : Int) := u3_eq
    have gx : ∀ r, (r ≠ 108 ∧ r ≠ 109 ∧ r ≠ 110 ∧ r ≠ 111 ∧ r ≠ 112 ∧ r ≠ 113) → ∀ i k, u3 (u3 (rwr V2 q n lo hi c) 108 0 (8 * q + m) c) 109 0 q ((m + 1 : Nat) : Int) r i k = V2 r i k := fun r h i k => by rw [go r (by omega)]; exact rwr_o (by omega)
    have k1 : ∀ k, k ≠ 8 * q + n → u3 (u3 (rwr V2 q n lo hi c) 108 0 (8 * q + m) c) 109 0 q ((m + 1 : Nat) : Int) 110 0 k = V 110 0 k ∧ u3 (u3 (rwr V2 q n lo hi c) 108 0 (8 * q + m) c) 109 0 q ((m + 1 : Nat) : Int) 111 0 k = V 111 0 k ∧ u3 (u3 (rwr V2 q n lo hi c) 108 0 (8 * q + m) c) 109 0 q ((m + 1 : Nat) : Int) 112 0 k = V 112 0 k := fun k h => by
      obtain ⟨x, y, z⟩ := g1 k h
      rw [go 110 (by decide), go 111 (by decide), go 112 (by decide), x, y, z, e2 110 (by decide), e2 111 (by decide), e2 112 (by decide), fo 110 (by decide), fo 111 (by decide), fo 112 (by decide)]; exact ⟨rfl, rfl, rfl⟩
    have k2 : u3 (u3 (rwr V2 q n lo hi c) 108 0 (8 * q + m) c) 109 0 q ((m + 1 : Nat) : Int) 110 0 (8 * q + n) = lo ∧ u3 (u3 (rwr V2 q n lo hi c) 108 0 (8 * q + m) c) 109 0 q ((m + 1 : Nat) : Int) 111 0 (8 * q + n) = hi ∧ u3 (u3 (rwr V2 q n lo hi c) 108 0 (8 * q + m) c) 109 0 q ((m + 1 : Nat) : Int) 112 0 (8 * q + n) = c := by
      rw [go 110 (by decide), go 111 (by decide), go 112 (by decide)]; exact g2
    have k3 : ∀ k, k ≠ q → u3 (u3 (rwr V2 q n lo hi c) 108 0 (8 * q + m) c) 109 0 q ((m + 1 : Nat) : Int) 113 0 k = V 113 0 k := fun k h => by
      rw [go 113 (by decide), g3 k h, e2 113 (by decide), fo 113 (by decide)]
    have k4 : u3 (u3 (rwr V2 q n lo hi c) 108 0 (8 * q + m) c) 109 0 q ((m + 1 : Nat) : Int) 113 0 q = ((n + 1 : Nat) : Int) := by rw [go 113 (by decide)]; exact g4
    show INV IT (u3 (u3 (rwr V2 q n lo hi c) 108 0 (8 * q + m) c) 109 0 q ((m + 1 : Nat) : Int)) R
    generalize u3 (u3 (rwr V2 q n lo hi c) 108 0 (8 * q + m) c) 109 0 q ((m + 1 : Nat) : Int) = V3 at *
    have l : ∀ r, (r ≠ 108 ∧ r ≠ 109 ∧ r ≠ 110 ∧ r ≠ 111 ∧ r ≠ 112 ∧ r ≠ 113 ∧ r ≠ 30) → ∀ i k, V3 r i k = V1 r i k := fun r h i k => by rw [gx r (by omega), e2 r (by omega)]
    refine INV_row (lo := lo) (hi := hi) (c := c) hI (sm02.tr sm3) hq m1 en (by omega) (fun i k h => ?_) ?_ (fun i k h => ?_) ?_ ?_ k1 k2 (fun k h => ⟨k3 k h, g7 k h⟩) k4 (fun i k h => ?_) (fun k h => g5 k (by omega)) (fun i h => g5 _ (by omega)) ?_ ?_ ⟨fun i h => ?_, fun i j hij h => ?_⟩ ⟨m, by rw [g8]; omega, g6⟩ (fun h hh => ?_)
    · rw [l 22 (by decide), l 23 (by decide), l 24 (by decide)]; exact h1 i k h
    · rw [l 22 (by decide), l 23 (by decide), l 24 (by decide)]; exact h2
    · rw [l 20 (by decide)]; exact h3 i k h
    · rw [l 20 (by decide)]; exact h4
    · rw [l 20 (by decide), h5, g8]
    · rw [l 21 (by decide)]; exact h6 i k (Or.inl h)
    · rw [g8]; omega
    · rw [g8]; omega
    · rw [g8] at h
      by_cases e : i = m
      · subst e; rw [l 21 (by decide), h7, g6]; exact ⟨rfl, by omega, by omega⟩
      · rw [l 21 (by decide), h6 _ _ (Or.inr e), g5 _ (by omega)]; exact hcc.1 i (by omega)
    · rw [g8] at h
      rw [g5 (8 * q + i) (by omega)]
      by_cases e : j = m
      · subst e; rw [g6]; exact hn i hij
      · rw [g5 _ (by omega)]; exact hcc.2 i j hij (by omega)
    · rw [gx 30 (by decide), hs2 h hh, fo 30 (by decide), h3 _ _ (Or.inr (by decide))]
end Row
