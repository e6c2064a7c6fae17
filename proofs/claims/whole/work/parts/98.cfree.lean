section CFree
variable {V : GV} {R : GR} {Q : Int → GS → Prop}
def tabh (V : GV) (m n : Nat) (two : Int) (hh : Nat → Int) : Prop := (1 ≤ m ∧ m ≤ 9 ∧ 1 ≤ n ∧ n ≤ 9) ∧ (V 7 0 0 = (m : Int) ∧ V 7 0 1 = (n : Int) ∧ V 7 0 2 = two ∧ (two = 0 ∨ two = 1)) ∧ (∀ k, k < m * n → hh k = 0 ∨ hh k = 1) ∧
  (∀ i, i < m → 0 ≤ V 12 0 i ∧ V 12 0 i < (2 ^ n : Nat) ∧ ∀ j, j < n → (bt (V 12 0 i) j ↔ hh (i * n + j) = 1)) ∧ V 7 0 8 = wsm hh (m * n)
def hel (hh : Nat → Int) (n : Nat) (a b : Nat) : Prop := b < n ∧ hh (a * n + b) = 1
def rwb (V : GV) (o : Nat) : Nat := (V 12 0 o).toNat
theorem hcnt_w : ∀ {k : Nat}, hcnt V k = wsm (V 142 0) k
  | 0 => rfl
  | k + 1 => by unfold hcnt wsm; rw [hcnt_w]
theorem tab_h {m n : Nat} (ht : tab V m n) : tabh V m n (V 100 0 36) (V 142 0) := by
  obtain ⟨d, ⟨e0, _, e1, _⟩, ⟨e2, e3⟩, c3, c4, c8⟩ := ht
  exact ⟨d, ⟨e0, e1, e2, by omega⟩, fun k hk => (c3 k hk).2.2.2.2.2.2.2, c4, by rw [c8, hcnt_w]⟩
variable {m n : Nat} {two : Int} {hh : Nat → Int}
theorem tab_row {o : Nat} (ht : tabh V m n two hh) (ho : o < m) : V 12 0 o = ((rwb V o : Nat) : Int) ∧ rwb V o < 2 ^ n ∧ ∀ c, (rwb V o).testBit c = true ↔ (c < n ∧ hh (o * n + c) = 1) := by
  obtain ⟨a, b, c⟩ := ht.2.2.2.1 o ho
  have e : V 12 0 o = ((rwb V o : Nat) : Int) := by unfold rwb; omega
  have l : rwb V o < 2 ^ n := by unfold rwb; omega
  refine ⟨e, l, fun p => ⟨fun h => ?_, fun h => ?_⟩⟩
  · have hp := tb_lt l h
    exact ⟨hp, (c p hp).mp (by rw [e]; exact bt_tb.mpr h)⟩
  · have := (c p h.1).mpr h.2
    rw [e] at this
    exact bt_tb.mp this
theorem tab_hrw (ht : tabh V m n two hh) : hrw (hel hh n) (rwb V) m := fun a b ha => ((tab_row ht ha).2.2 b).symm
theorem shr_tb {T j : Nat} (h : T < 1024) (hj : j < 10) : i_and (i_shr (T : Int) (j : Int)) 1 = 0 ↔ ¬ T.testBit j = true := by
  rw [i_shr_all T h j hj, Nat.testBit_eq_decide_div_mod_eq, decide_eq_true_eq]
theorem w_isHeldh {i j : Nat} {f : Int × GS → GO} (hS : SH R) (hF : RF V R) (ht : tabh V m n two hh) (hi : i < m) (hj : j < n) (k1 : hh (i * n + j) = 1 → Wp (f (1, (V, R))) Q) (k0 : hh (i * n + j) = 0 → Wp (f (0, (V, R))) Q) : Wp ((g_X7_isHeld 0 (i : Int) (j : Int) (V, R)).bind f) Q := by
  obtain ⟨⟨m1, m9, n1, n9⟩, _, c3, _, _⟩ := id ht
  have p9 := pow_le9 n (by omega)
  obtain ⟨ei, li, bi⟩ := tab_row ht hi
  have mn := mn_lt m9 n9 hi hj
  have hv := c3 _ mn.1
  refine w_bind ?_
  unfold g_X7_isHeld
  refine w_gv (by omega) ?_
  ((first | ((with_reducible refine w_s hS ?_ ?_ ?_ (fun x hx => ?_)); (focus decide); (focus (first | decide | omega)); (focus (first | decide | (simp only [sl]; omega)))) | ((with_reducible refine w_m hS ?_ ?_ ?_ ?_ ?_ (fun x hx => ?_)); (focus decide); (focus (first | decide | omega)); (focus omega); (focus (first | decide | omega)); (focus (first | decide | (simp only [ml]; omega)))) | (with_reducible refine w_k (by simp (disch := omega) only [w32_id]; exact rfl) ?_; ((with_reducible refine w_s hS ?_ ?_ ?_ (fun x hx => ?_)); (focus decide); (focus (first | decide | omega)); (focus (first | decide | (simp only [sl]; omega))))) | (with_reducible refine w_k (by simp (disch := omega) only [w32_id]; exact rfl) ?_; ((with_reducible refine w_m hS ?_ ?_ ?_ ?_ ?_ (fun x hx => ?_)); (focus decide); (focus (first | decide | omega)); (focus omega); (focus (first | decide | omega)); (focus (first | decide | (simp only [ml]; omega)))))); (try simp (disch := omega) only [Int.reduceToNat, tn_c, tn8, tn8i, tn5, tn5z, tn6, tn6z, tn1, u3_ne, u3_eq, u3_ni, u3_nk, f_7_7 hF] at hx); subst hx)
  ((first | ((with_reducible refine w_s hS ?_ ?_ ?_ (fun x hx => ?_)); (focus decide); (focus (first | decide | omega)); (focus (first | decide | (simp only [sl]; omega)))) | ((with_reducible refine w_m hS ?_ ?_ ?_ ?_ ?_ (fun x hx => ?_)); (focus decide); (focus (first | decide | omega)); (focus omega); (focus (first | decide | omega)); (focus (first | decide | (simp only [ml]; omega)))) | (with_reducible refine w_k (by simp (disch := omega) only [w32_id]; exact rfl) ?_; ((with_reducible refine w_s hS ?_ ?_ ?_ (fun x hx => ?_)); (focus decide); (focus (first | decide | omega)); (focus (first | decide | (simp only [sl]; omega))))) | (with_reducible refine w_k (by simp (disch := omega) only [w32_id]; exact rfl) ?_; ((with_reducible refine w_m hS ?_ ?_ ?_ ?_ ?_ (fun x hx => ?_)); (focus decide); (focus (first | decide | omega)); (focus omega); (focus (first | decide | omega)); (focus (first | decide | (simp only [ml]; omega)))))); (try simp (disch := omega) only [Int.reduceToNat, tn_c, tn8, tn8i, tn5, tn5z, tn6, tn6z, tn1, u3_ne, u3_eq, u3_ni, u3_nk, ei] at hx); subst hx)
  refine w_ite (fun z => w_ret (k0 ?_)) (fun z => w_ret (k1 ?_))
  · rw [shr_tb (by omega) (by omega)] at z
    exact hv.resolve_right (fun y => z ((bi j).mpr ⟨hj, y⟩))
  · rw [shr_tb (by omega) (by omega)] at z
    exact ((bi j).mp (Classical.byContradiction z)).2
theorem w_free2 {i j : Nat} {f : Int × GS → GO} (hS : SH R) (hF : RF V R) (ht : tabh V m n two hh) (h2 : two = 1) (hi : i < m) (hj : j < n)
  (k1 : rch (hel hh n) m i j j → Wp (f (1, (V, R))) Q) (k0 : ¬ rch (hel hh n) m i j j → Wp (f (0, (V, R))) Q) : Wp ((g_X7_isFree 0 (i : Int) (j : Int) (V, R)).bind f) Q := by
  obtain ⟨⟨m1, m9, n1, n9⟩, ⟨e0, e1, e2, _⟩, _⟩ := id ht
  have hH := tab_hrw ht
  have p9 := pow_le9 n (by omega)
  obtain ⟨ei, li, bi⟩ := tab_row ht hi
  refine w_bind ?_
  unfold g_X7_isFree
  refine w_gv (by omega) ?_
  ((first | ((with_reducible refine w_s hS ?_ ?_ ?_ (fun x hx => ?_)); (focus decide); (focus (first | decide | omega)); (focus (first | decide | (simp only [sl]; omega)))) | ((with_reducible refine w_m hS ?_ ?_ ?_ ?_ ?_ (fun x hx => ?_)); (focus decide); (focus (first | decide | omega)); (focus omega); (focus (first | decide | omega)); (focus (first | decide | (simp only [ml]; omega)))) | (with_reducible refine w_k (by simp (disch := omega) only [w32_id]; exact rfl) ?_; ((with_reducible refine w_s hS ?_ ?_ ?_ (fun x hx => ?_)); (focus decide); (focus (first | decide | omega)); (focus (first | decide | (simp only [sl]; omega))))) | (with_reducible refine w_k (by simp (disch := omega) only [w32_id]; exact rfl) ?_; ((with_reducible refine w_m hS ?_ ?_ ?_ ?_ ?_ (fun x hx => ?_)); (focus decide); (focus (first | decide | omega)); (focus omega); (focus (first | decide | omega)); (focus (first | decide | (simp only [ml]; omega)))))); (try simp (disch := omega) only [Int.reduceToNat, tn_c, tn8, tn8i, tn5, tn5z, tn6, tn6z, tn1, u3_ne, u3_eq, u3_ni, u3_nk, e2, h2] at hx); subst hx)
  refine w_ite (fun _ => ?_) (fun z => absurd (show (1 : Int) ≠ 0 by decide) z)
  ((first | ((with_reducible refine w_s hS ?_ ?_ ?_ (fun x hx => ?_)); (focus decide); (focus (first | decide | omega)); (focus (first | decide | (simp only [sl]; omega)))) | ((with_reducible refine w_m hS ?_ ?_ ?_ ?_ ?_ (fun x hx => ?_)); (focus decide); (focus (first | decide | omega)); (focus omega); (focus (first | decide | omega)); (focus (first | decide | (simp only [ml]; omega)))) | (with_reducible refine w_k (by simp (disch := omega) only [w32_id]; exact rfl) ?_; ((with_reducible refine w_s hS ?_ ?_ ?_ (fun x hx => ?_)); (focus decide); (focus (first | decide | omega)); (focus (first | decide | (simp only [sl]; omega))))) | (with_reducible refine w_k (by simp (disch := omega) only [w32_id]; exact rfl) ?_; ((with_reducible refine w_m hS ?_ ?_ ?_ ?_ ?_ (fun x hx => ?_)); (focus decide); (focus (first | decide | omega)); (focus omega); (focus (first | decide | omega)); (focus (first | decide | (simp only [ml]; omega)))))); (try simp (disch := omega) only [Int.reduceToNat, tn_c, tn8, tn8i, tn5, tn5z, tn6, tn6z, tn1, u3_ne, u3_eq, u3_ni, u3_nk, f_7_7 hF] at hx); subst hx)
  ((first | ((with_reducible refine w_s hS ?_ ?_ ?_ (fun x hx => ?_)); (focus decide); (focus (first | decide | omega)); (focus (first | decide | (simp only [sl]; omega)))) | ((with_reducible refine w_m hS ?_ ?_ ?_ ?_ ?_ (fun x hx => ?_)); (focus decide); (focus (first | decide | omega)); (focus omega); (focus (first | decide | omega)); (focus (first | decide | (simp only [ml]; omega)))) | (with_reducible refine w_k (by simp (disch := omega) only [w32_id]; exact rfl) ?_; ((with_reducible refine w_s hS ?_ ?_ ?_ (fun x hx => ?_)); (focus decide); (focus (first | decide | omega)); (focus (first | decide | (simp only [sl]; omega))))) | (with_reducible refine w_k (by simp (disch := omega) only [w32_id]; exact rfl) ?_; ((with_reducible refine w_m hS ?_ ?_ ?_ ?_ ?_ (fun x hx => ?_)); (focus decide); (focus (first | decide | omega)); (focus omega); (focus (first | decide | omega)); (focus (first | decide | (simp only [ml]; omega)))))); (try simp (disch := omega) only [Int.reduceToNat, tn_c, tn8, tn8i, tn5, tn5z, tn6, tn6z, tn1, u3_ne, u3_eq, u3_ni, u3_nk, ei] at hx); subst hx)
  rw [but_all (rwb V i) (by omega) j (by omega)]
  have b1 := but_le (a := rwb V i) (j := j)
  have b2 := but_tb (rwb V i) (by omega) j (by omega)
  generalize (if rwb V i / 2 ^ j % 2 = 1 then rwb V i - 2 ^ j else rwb V i) = T0 at b1 b2
  have u0 : rou (hel hh n) (rwb V) m n i j 0 T0 := by
    refine rou_0 hH hi (by omega) (fun p => ⟨fun h => ?_, fun h => ?_⟩)
    · exact (b2 p (by have := tb_lt (a := T0) (n := n) (by omega) h; omega)).mp h
    · exact (b2 p (by have := tb_lt (a := rwb V i) (n := n) (by omega) h.1; omega)).mpr h
  refine w_for2 m (fun t a G => G = (V, R) ∧ ∃ T : Nat, a = (T : Int) ∧ rou (hel hh n) (rwb V) m n i j t T) ?_ (i := 0) (by omega) (by omega) ⟨rfl, T0, rfl, u0⟩
  rintro t a G htm ⟨rfl, B, rfl, hu⟩ self ih
  have tm := rou_m hi hu
  unfold glX7_isFree_37
  ((first | ((with_reducible refine w_s hS ?_ ?_ ?_ (fun x hx => ?_)); (focus decide); (focus (first | decide | omega)); (focus (first | decide | (simp only [sl]; omega)))) | ((with_reducible refine w_m hS ?_ ?_ ?_ ?_ ?_ (fun x hx => ?_)); (focus decide); (focus (first | decide | omega)); (focus omega); (focus (first | decide | omega)); (focus (first | decide | (simp only [ml]; omega)))) | (with_reducible refine w_k (by simp (disch := omega) only [w32_id]; exact rfl) ?_; ((with_reducible refine w_s hS ?_ ?_ ?_ (fun x hx => ?_)); (focus decide); (focus (first | decide | omega)); (focus (first | decide | (simp only [sl]; omega))))) | (with_reducible refine w_k (by simp (disch := omega) only [w32_id]; exact rfl) ?_; ((with_reducible refine w_m hS ?_ ?_ ?_ ?_ ?_ (fun x hx => ?_)); (focus decide); (focus (first | decide | omega)); (focus omega); (focus (first | decide | omega)); (focus (first | decide | (simp only [ml]; omega)))))); (try simp (disch := omega) only [Int.reduceToNat, tn_c, tn8, tn8i, tn5, tn5z, tn6, tn6z, tn1, u3_ne, u3_eq, u3_ni, u3_nk, e0] at hx); subst hx)
  refine w_ite (fun z => absurd z (by omega)) (fun _ => ?_)
  refine w_for2 m (fun o a G => G = (V, R) ∧ ∃ T : Nat, a = (T : Int) ∧ rndx (hel hh n) (rwb V) m n i j t B o T) ?_ (i := 0) (by omega) (by omega) ⟨rfl, B, rfl, rou_rnd hu⟩
  rintro o a G hom ⟨rfl, T, rfl, hr⟩ self2 ih2
  have lT := hr.1
  unfold glX7_isFree_52 gjX7_isFree_89
  ((first | ((with_reducible refine w_s hS ?_ ?_ ?_ (fun x hx => ?_)); (focus decide); (focus (first | decide | omega)); (focus (first | decide | (simp only [sl]; omega)))) | ((with_reducible refine w_m hS ?_ ?_ ?_ ?_ ?_ (fun x hx => ?_)); (focus decide); (focus (first | decide | omega)); (focus omega); (focus (first | decide | omega)); (focus (first | decide | (simp only [ml]; omega)))) | (with_reducible refine w_k (by simp (disch := omega) only [w32_id]; exact rfl) ?_; ((with_reducible refine w_s hS ?_ ?_ ?_ (fun x hx => ?_)); (focus decide); (focus (first | decide | omega)); (focus (first | decide | (simp only [sl]; omega))))) | (with_reducible refine w_k (by simp (disch := omega) only [w32_id]; exact rfl) ?_; ((with_reducible refine w_m hS ?_ ?_ ?_ ?_ ?_ (fun x hx => ?_)); (focus decide); (focus (first | decide | omega)); (focus omega); (focus (first | decide | omega)); (focus (first | decide | (simp only [ml]; omega)))))); (try simp (disch := omega) only [Int.reduceToNat, tn_c, tn8, tn8i, tn5, tn5z, tn6, tn6z, tn1, u3_ne, u3_eq, u3_ni, u3_nk, e0] at hx); subst hx)
  refine w_ite (fun hx => ?_) (fun hx => ?_)
  · have eo : o = m := by omega
    subst eo
    refine w_ite (fun z => ?_) (fun z => w_ret (k1 ?_))
    · rw [shr_tb (by omega) (by omega)] at z
      refine w_ite (fun y => ?_) (fun y => w_ret (k0 (rnd_0 hH hu hr (by omega) z)))
      exact ih _ _ tm ⟨rfl, T, rfl, rnd_n hu hr (by omega)⟩
    · rw [shr_tb (by omega) (by omega)] at z
      exact hr.2.2.1 j (Classical.byContradiction z)
  · have ho : o < m := by omega
    obtain ⟨eo, lo, bo⟩ := tab_row ht ho
    refine w_ite (fun z => ?_) (fun z => ?_)
    · exact ih2 _ _ ho ⟨rfl, T, rfl, rnd_i hr (Or.inl (by omega))⟩
    · ((first | ((with_reducible refine w_s hS ?_ ?_ ?_ (fun x hx => ?_)); (focus decide); (focus (first | decide | omega)); (focus (first | decide | (simp only [sl]; omega)))) | ((with_reducible refine w_m hS ?_ ?_ ?_ ?_ ?_ (fun x hx => ?_)); (focus decide); (focus (first | decide | omega)); (focus omega); (focus (first | decide | omega)); (focus (first | decide | (simp only [ml]; omega)))) | (with_reducible refine w_k (by simp (disch := omega) only [w32_id]; exact rfl) ?_; ((with_reducible refine w_s hS ?_ ?_ ?_ (fun x hx => ?_)); (focus decide); (focus (first | decide | omega)); (focus (first | decide | (simp only [sl]; omega))))) | (with_reducible refine w_k (by simp (disch := omega) only [w32_id]; exact rfl) ?_; ((with_reducible refine w_m hS ?_ ?_ ?_ ?_ ?_ (fun x hx => ?_)); (focus decide); (focus (first | decide | omega)); (focus omega); (focus (first | decide | omega)); (focus (first | decide | (simp only [ml]; omega)))))); (try simp (disch := omega) only [Int.reduceToNat, tn_c, tn8, tn8i, tn5, tn5z, tn6, tn6z, tn1, u3_ne, u3_eq, u3_ni, u3_nk, f_7_7 hF] at hx); subst hx)
      ((first | ((with_reducible refine w_s hS ?_ ?_ ?_ (fun x hx => ?_)); (focus decide); (focus (first | decide | omega)); (focus (first | decide | (simp only [sl]; omega)))) | ((with_reducible refine w_m hS ?_ ?_ ?_ ?_ ?_ (fun x hx => ?_)); (focus decide); (focus (first | decide | omega)); (focus omega); (focus (first | decide | omega)); (focus (first | decide | (simp only [ml]; omega)))) | (with_reducible refine w_k (by simp (disch := omega) only [w32_id]; exact rfl) ?_; ((with_reducible refine w_s hS ?_ ?_ ?_ (fun x hx => ?_)); (focus decide); (focus (first | decide | omega)); (focus (first | decide | (simp only [sl]; omega))))) | (with_reducible refine w_k (by simp (disch := omega) only [w32_id]; exact rfl) ?_; ((with_reducible refine w_m hS ?_ ?_ ?_ ?_ ?_ (fun x hx => ?_)); (focus decide); (focus (first | decide | omega)); (focus omega); (focus (first | decide | omega)); (focus (first | decide | (simp only [ml]; omega)))))); (try simp (disch := omega) only [Int.reduceToNat, tn_c, tn8, tn8i, tn5, tn5z, tn6, tn6z, tn1, u3_ne, u3_eq, u3_ni, u3_nk, eo] at hx); subst hx)
      rw [i_and_nat (by omega) (by omega)]
      refine w_ite (fun y => ?_) (fun y => ?_)
      · exact ih2 _ _ ho ⟨rfl, T, rfl, rnd_i hr (Or.inr (by omega))⟩
      · ((first | ((with_reducible refine w_s hS ?_ ?_ ?_ (fun x hx => ?_)); (focus decide); (focus (first | decide | omega)); (focus (first | decide | (simp only [sl]; omega)))) | ((with_reducible refine w_m hS ?_ ?_ ?_ ?_ ?_ (fun x hx => ?_)); (focus decide); (focus (first | decide | omega)); (focus omega); (focus (first | decide | omega)); (focus (first | decide | (simp only [ml]; omega)))) | (with_reducible refine w_k (by simp (disch := omega) only [w32_id]; exact rfl) ?_; ((with_reducible refine w_s hS ?_ ?_ ?_ (fun x hx => ?_)); (focus decide); (focus (first | decide | omega)); (focus (first | decide | (simp only [sl]; omega))))) | (with_reducible refine w_k (by simp (disch := omega) only [w32_id]; exact rfl) ?_; ((with_reducible refine w_m hS ?_ ?_ ?_ ?_ ?_ (fun x hx => ?_)); (focus decide); (focus (first | decide | omega)); (focus omega); (focus (first | decide | omega)); (focus (first | decide | (simp only [ml]; omega)))))); (try simp (disch := omega) only [Int.reduceToNat, tn_c, tn8, tn8i, tn5, tn5z, tn6, tn6z, tn1, u3_ne, u3_eq, u3_ni, u3_nk, f_7_7 hF] at hx); subst hx)
        ((first | ((with_reducible refine w_s hS ?_ ?_ ?_ (fun x hx => ?_)); (focus decide); (focus (first | decide | omega)); (focus (first | decide | (simp only [sl]; omega)))) | ((with_reducible refine w_m hS ?_ ?_ ?_ ?_ ?_ (fun x hx => ?_)); (focus decide); (focus (first | decide | omega)); (focus omega); (focus (first | decide | omega)); (focus (first | decide | (simp only [ml]; omega)))) | (with_reducible refine w_k (by simp (disch := omega) only [w32_id]; exact rfl) ?_; ((with_reducible refine w_s hS ?_ ?_ ?_ (fun x hx => ?_)); (focus decide); (focus (first | decide | omega)); (focus (first | decide | (simp only [sl]; omega))))) | (with_reducible refine w_k (by simp (disch := omega) only [w32_id]; exact rfl) ?_; ((with_reducible refine w_m hS ?_ ?_ ?_ ?_ ?_ (fun x hx => ?_)); (focus decide); (focus (first | decide | omega)); (focus omega); (focus (first | decide | omega)); (focus (first | decide | (simp only [ml]; omega)))))); (try simp (disch := omega) only [Int.reduceToNat, tn_c, tn8, tn8i, tn5, tn5z, tn6, tn6z, tn1, u3_ne, u3_eq, u3_ni, u3_nk, eo] at hx); subst hx)
        rw [i_or_nat (by omega) (by omega)]
        exact ih2 _ _ ho ⟨rfl, _, rfl, rnd_s hH hu hr lo ho (by omega) (by omega)⟩
def fol (two : Int) (hh : Nat → Int) (m n i j : Nat) : Prop := hh (i * n + j) = 1 ∧ (two = 1 → ¬ rch (hel hh n) m i j j) ∧ (two = 0 → wsm hh (m * n) = 1)
theorem wsm_nn {k : Nat} (h : ∀ i, i < k → hh i = 0 ∨ hh i = 1) : 0 ≤ wsm hh k ∧ wsm hh k ≤ (k : Int) := by
  induction k with
  | zero => unfold wsm; omega
  | succ k ih => have := ih (fun i hi => h i (by omega)); have := h k (by omega); unfold wsm; omega
theorem wsm_ge {k j : Nat} (hj : j < k) (h : ∀ i, i < k → hh i = 0 ∨ hh i = 1) (h1 : hh j = 1) : 1 ≤ wsm hh k := by
  have := wsm_one (w := hh) hj (fun i hi => by have := h i hi; omega)
  omega
theorem w_free {i j : Nat} {f : Int × GS → GO} (hS : SH R) (hF : RF V R) (ht : tabh V m n two hh) (hi : i < m) (hj : j < n) (hh1 : hh (i * n + j) = 1)
  (k1 : ¬ fol two hh m n i j → Wp (f (1, (V, R))) Q) (k0 : fol two hh m n i j → Wp (f (0, (V, R))) Q) : Wp ((g_X7_isFree 0 (i : Int) (j : Int) (V, R)).bind f) Q := by
  obtain ⟨⟨m1, m9, n1, n9⟩, ⟨e0, e1, e2, h36⟩, c3, _, e8⟩ := id ht
  have mn := mn_lt m9 n9 hi hj
  by_cases h2 : two = 1
  · exact w_free2 hS hF ht h2 hi hj (fun h => k1 (fun z => z.2.1 h2 h)) (fun h => k0 ⟨hh1, fun _ => h, fun z => absurd z (by omega)⟩)
  · have h0 : two = 0 := by omega
    have ge := wsm_ge mn.1 c3 hh1
    refine w_bind ?_
    unfold g_X7_isFree
    refine w_gv (by omega) ?_
    ((first | ((with_reducible refine w_s hS ?_ ?_ ?_ (fun x hx => ?_)); (focus decide); (focus (first | decide | omega)); (focus (first | decide | (simp only [sl]; omega)))) | ((with_reducible refine w_m hS ?_ ?_ ?_ ?_ ?_ (fun x hx => ?_)); (focus decide); (focus (first | decide | omega)); (focus omega); (focus (first | decide | omega)); (focus (first | decide | (simp only [ml]; omega)))) | (with_reducible refine w_k (by simp (disch := omega) only [w32_id]; exact rfl) ?_; ((with_reducible refine w_s hS ?_ ?_ ?_ (fun x hx => ?_)); (focus decide); (focus (first | decide | omega)); (focus (first | decide | (simp only [sl]; omega))))) | (with_reducible refine w_k (by simp (disch := omega) only [w32_id]; exact rfl) ?_; ((with_reducible refine w_m hS ?_ ?_ ?_ ?_ ?_ (fun x hx => ?_)); (focus decide); (focus (first | decide | omega)); (focus omega); (focus (first | decide | omega)); (focus (first | decide | (simp only [ml]; omega)))))); (try simp (disch := omega) only [Int.reduceToNat, tn_c, tn8, tn8i, tn5, tn5z, tn6, tn6z, tn1, u3_ne, u3_eq, u3_ni, u3_nk, e2, h0] at hx); subst hx)
    refine w_ite (fun z => absurd rfl z) (fun _ => ?_)
    ((first | ((with_reducible refine w_s hS ?_ ?_ ?_ (fun x hx => ?_)); (focus decide); (focus (first | decide | omega)); (focus (first | decide | (simp only [sl]; omega)))) | ((with_reducible refine w_m hS ?_ ?_ ?_ ?_ ?_ (fun x hx => ?_)); (focus decide); (focus (first | decide | omega)); (focus omega); (focus (first | decide | omega)); (focus (first | decide | (simp only [ml]; omega)))) | (with_reducible refine w_k (by simp (disch := omega) only [w32_id]; exact rfl) ?_; ((with_reducible refine w_s hS ?_ ?_ ?_ (fun x hx => ?_)); (focus decide); (focus (first | decide | omega)); (focus (first | decide | (simp only [sl]; omega))))) | (with_reducible refine w_k (by simp (disch := omega) only [w32_id]; exact rfl) ?_; ((with_reducible refine w_m hS ?_ ?_ ?_ ?_ ?_ (fun x hx => ?_)); (focus decide); (focus (first | decide | omega)); (focus omega); (focus (first | decide | omega)); (focus (first | decide | (simp only [ml]; omega)))))); (try simp (disch := omega) only [Int.reduceToNat, tn_c, tn8, tn8i, tn5, tn5z, tn6, tn6z, tn1, u3_ne, u3_eq, u3_ni, u3_nk, e8] at hx); subst hx)
    refine w_ite (fun z => w_ret (k0 ⟨hh1, fun y => absurd y h2, fun _ => by omega⟩)) (fun z => w_ret (k1 (fun y => ?_)))
    have := y.2.2 h0
    omega
def ffs (two : Int) (hh : Nat → Int) (m n : Nat) (r : Int) : Prop := (r = -1 ∧ ∀ i j, i < m → j < n → ¬ fol two hh m n i j) ∨ (∃ i j : Nat, i < m ∧ j < n ∧ r = ((i * n + j : Nat) : Int) ∧ fol two hh m n i j ∧ ∀ a b, a < m → b < n → a * n + b < i * n + j → ¬ fol two hh m n a b)
theorem ij_un {n i j a b : Nat} (hj : j < n) (hb : b < n) (h : i * n + j = a * n + b) : i = a ∧ j = b := by
  have h1 : (i * n + j) / n = i := by rw [Nat.mul_comm, Nat.mul_add_div (by omega), Nat.div_eq_of_lt hj]; omega
  have h2 : (a * n + b) / n = a := by rw [Nat.mul_comm, Nat.mul_add_div (by omega), Nat.div_eq_of_lt hb]; omega
  have e : i = a := by rw [← h1, ← h2, h]
  subst e
  exact ⟨rfl, by omega⟩
theorem ij_lt {n i j a b : Nat} (hj : j < n) (h : a * n + b < i * n + j) : a ≤ i := by
  have : ¬ i < a := by
    intro z
    have h1 : (i + 1) * n ≤ a * n := Nat.mul_le_mul_right n z
    rw [Nat.add_mul] at h1
    omega
  omega
theorem ffs_un {r r' : Int} (h : ffs two hh m n r) (h' : ffs two hh m n r') : r = r' := by
  rcases h with ⟨e, h⟩ | ⟨i, j, hi, hj, e, hf, hl⟩ <;> rcases h' with ⟨e', h'⟩ | ⟨a, b, ha, hb, e', hf', hl'⟩
  · rw [e, e']
  · exact absurd hf' (h a b ha hb)
  · exact absurd hf (h' i j hi hj)
  · rcases Nat.lt_trichotomy (i * n + j) (a * n + b) with l | l | l
    · exact absurd hf (hl' i j hi hj l)
    · rw [e, e', l]
    · exact absurd hf' (hl a b ha hb l)
theorem w_cff {f : Int × GS → GO} (hS : SH R) (hF : RF V R) (ht : tabh V m n two hh) (K : ∀ r, ffs two hh m n r → Wp (f (r, (V, R))) Q) : Wp ((g_X7_firstFollowing 0 (V, R)).bind f) Q := by
  obtain ⟨⟨m1, m9, n1, n9⟩, ⟨e0, e1, _⟩, _⟩ := id ht
  refine w_bind ?_
  unfold g_X7_firstFollowing
  refine w_gv (by omega) ?_
  refine w_for m (fun i G => G = (V, R) ∧ ∀ a b, a < i → b < n → ¬ fol two hh m n a b) ?_ (i := 0) (by omega) (by omega) ⟨rfl, fun a b h => absurd h (by omega)⟩
  rintro i G hi ⟨rfl, hn⟩ self ih
  unfold glX7_firstFollowing_2
  ((first | ((with_reducible refine w_s hS ?_ ?_ ?_ (fun x hx => ?_)); (focus decide); (focus (first | decide | omega)); (focus (first | decide | (simp only [sl]; omega)))) | ((with_reducible refine w_m hS ?_ ?_ ?_ ?_ ?_ (fun x hx => ?_)); (focus decide); (focus (first | decide | omega)); (focus omega); (focus (first | decide | omega)); (focus (first | decide | (simp only [ml]; omega)))) | (with_reducible refine w_k (by simp (disch := omega) only [w32_id]; exact rfl) ?_; ((with_reducible refine w_s hS ?_ ?_ ?_ (fun x hx => ?_)); (focus decide); (focus (first | decide | omega)); (focus (first | decide | (simp only [sl]; omega))))) | (with_reducible refine w_k (by simp (disch := omega) only [w32_id]; exact rfl) ?_; ((with_reducible refine w_m hS ?_ ?_ ?_ ?_ ?_ (fun x hx => ?_)); (focus decide); (focus (first | decide | omega)); (focus omega); (focus (first | decide | omega)); (focus (first | decide | (simp only [ml]; omega)))))); (try simp (disch := omega) only [Int.reduceToNat, tn_c, tn8, tn8i, tn5, tn5z, tn6, tn6z, tn1, u3_ne, u3_eq, u3_ni, u3_nk, e0] at hx); subst hx)
  refine w_ite (fun hx => w_ret (K _ (Or.inl ⟨rfl, fun a b ha hb => hn a b (by omega) hb⟩))) (fun hx => ?_)
  have him : i < m := by omega
  refine w_for n (fun j G => G = (V, R) ∧ ∀ b, b < j → ¬ fol two hh m n i b) ?_ (i := 0) (by omega) (by omega) ⟨rfl, fun b h => absurd h (by omega)⟩
  rintro j G hj ⟨rfl, hn2⟩ self2 ih2
  unfold glX7_firstFollowing_12 gjX7_firstFollowing_45
  ((first | ((with_reducible refine w_s hS ?_ ?_ ?_ (fun x hx => ?_)); (focus decide); (focus (first | decide | omega)); (focus (first | decide | (simp only [sl]; omega)))) | ((with_reducible refine w_m hS ?_ ?_ ?_ ?_ ?_ (fun x hx => ?_)); (focus decide); (focus (first | decide | omega)); (focus omega); (focus (first | decide | omega)); (focus (first | decide | (simp only [ml]; omega)))) | (with_reducible refine w_k (by simp (disch := omega) only [w32_id]; exact rfl) ?_; ((with_reducible refine w_s hS ?_ ?_ ?_ (fun x hx => ?_)); (focus decide); (focus (first | decide | omega)); (focus (first | decide | (simp only [sl]; omega))))) | (with_reducible refine w_k (by simp (disch := omega) only [w32_id]; exact rfl) ?_; ((with_reducible refine w_m hS ?_ ?_ ?_ ?_ ?_ (fun x hx => ?_)); (focus decide); (focus (first | decide | omega)); (focus omega); (focus (first | decide | omega)); (focus (first | decide | (simp only [ml]; omega)))))); (try simp (disch := omega) only [Int.reduceToNat, tn_c, tn8, tn8i, tn5, tn5z, tn6, tn6z, tn1, u3_ne, u3_eq, u3_ni, u3_nk, e1] at hx); subst hx)
  refine w_ite (fun hy => ?_) (fun hy => ?_)
  · refine ih _ him ⟨rfl, fun a b ha hb => ?_⟩
    by_cases e : a = i
    · subst e; exact hn2 b (by omega)
    · exact hn a b (by omega) hb
  · have hjn : j < n := by omega
    have mn := mn_lt m9 n9 him hjn
    have skip : ¬ fol two hh m n i j → Wp (self2 (w32 ((j : Int) + 1)) (V, R)) (fun r G => Wp (f (r, G)) Q) := by
      intro z
      refine ih2 _ hjn ⟨rfl, fun b hb => ?_⟩
      by_cases e : b = j
      · subst e; exact z
      · exact hn2 b (by omega)
    refine w_isHeldh hS hF ht him hjn (fun hh1 => ?_) (fun hh1 => ?_)
    · refine w_ite (fun z => absurd (show (1 : Int) = 0 from z) (by decide)) (fun _ => ?_)
      refine w_free hS hF ht him hjn hh1 (fun z => ?_) (fun z => ?_)
      · exact w_ite (fun _ => skip z) (fun y => absurd (show (1 : Int) ≠ 0 by decide) y)
      · refine w_ite (fun y => absurd rfl y) (fun _ => ?_)
        refine w_atn hS e1 (by omega) ?_
        refine w_ret (K _ (Or.inr ⟨i, j, him, hjn, rfl, z, fun a b ha hb hl => ?_⟩))
        have := ij_lt hjn hl
        by_cases e : a = i
        · subst e; exact hn2 b (by omega)
        · exact hn a b (by omega) hb
    · exact w_ite (fun _ => skip (fun z => by have := z.1; omega)) (fun y => absurd rfl y)
end CFree
