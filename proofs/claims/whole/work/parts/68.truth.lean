section Cls
variable {V : GV} {R : GR} {T : GV → Prop} {Q : Int → GS → Prop}
theorem l_and1 (a : Int) : l_and a 1 = 0 ∨ l_and a 1 = 1 := by
  unfold l_and
  have e : (Int64.ofInt a &&& Int64.ofInt 1) = Int64.ofBitVec ((Int64.ofInt a).toBitVec &&& 1#64) := by
    apply Int64.toBitVec.inj
    rw [Int64.toBitVec_and]
    rfl
  rw [e]
  show ((Int64.ofInt a).toBitVec &&& 1#64).toInt = 0 ∨ ((Int64.ofInt a).toBitVec &&& 1#64).toInt = 1
  have l : ((Int64.ofInt a).toBitVec &&& 1#64).toNat = (Int64.ofInt a).toBitVec.toNat % 2 := by
    rw [BitVec.toNat_and]
    exact Nat.and_one_is_mod _
  rw [BitVec.toInt_eq_toNat_of_lt (by omega), l]
  omega
theorem w_fits {c s p : Nat} {t : Int} {f : Int × GS → GO} (hS : SH R) (hC : IC V R) (hc : c < rC R 40) (s0 : V 119 0 c = 0) (ht : t = if V 101 0 (V 121 0 c).toNat = 1 then 1 else 0)
  (k1 : askf V s c p → Wp (f (1, (V, R))) Q) (k0 : ¬ askf V s c p → Wp (f (0, (V, R))) Q) : Wp ((g_X0_fits (c : Int) (V 32 s (5 * (V 121 0 c).toNat + p)) (V 33 s (5 * (V 121 0 c).toNat + p)) t (V, R)).bind f) Q := by
  obtain ⟨⟨e0, a0, a3⟩, ⟨e1, q0, q1⟩, e3, _, st, sk⟩ := (hC c hc).2.2.2.2.2.1 s0
  unfold askf at k1 k0
  generalize V 32 s (5 * (V 121 0 c).toNat + p) = v at *
  generalize V 33 s (5 * (V 121 0 c).toNat + p) = r at *
  refine w_bind ?_
  unfold g_X0_fits
  refine w_gv (by omega) ?_
  ((first | ((with_reducible refine w_s hS ?_ ?_ ?_ (fun x hx => ?_)); (focus decide); (focus (first | decide | omega)); (focus (first | decide | (simp only [sl]; omega)))) | ((with_reducible refine w_m hS ?_ ?_ ?_ ?_ ?_ (fun x hx => ?_)); (focus decide); (focus (first | decide | omega)); (focus omega); (focus (first | decide | omega)); (focus (first | decide | (simp only [ml]; omega)))) | (with_reducible refine w_k (by simp (disch := omega) only [w32_id]; exact rfl) ?_; ((with_reducible refine w_s hS ?_ ?_ ?_ (fun x hx => ?_)); (focus decide); (focus (first | decide | omega)); (focus (first | decide | (simp only [sl]; omega))))) | (with_reducible refine w_k (by simp (disch := omega) only [w32_id]; exact rfl) ?_; ((with_reducible refine w_m hS ?_ ?_ ?_ ?_ ?_ (fun x hx => ?_)); (focus decide); (focus (first | decide | omega)); (focus omega); (focus (first | decide | omega)); (focus (first | decide | (simp only [ml]; omega)))))); (try simp (disch := omega) only [Int.reduceToNat, tn_c, tn8, tn8i, tn5, tn5z, tn6, tn6z, tn1, u3_ne, u3_eq, u3_ni, u3_nk, e0] at hx); subst hx)
  refine w_ite (fun h3 => ?_) (fun h3 => ?_)
  · rw [if_neg h3] at k1 k0
    refine w_ite (fun hr => ?_) (fun hr => w_ret (k0 (fun z => hr z.1)))
    ((first | ((with_reducible refine w_s hS ?_ ?_ ?_ (fun x hx => ?_)); (focus decide); (focus (first | decide | omega)); (focus (first | decide | (simp only [sl]; omega)))) | ((with_reducible refine w_m hS ?_ ?_ ?_ ?_ ?_ (fun x hx => ?_)); (focus decide); (focus (first | decide | omega)); (focus omega); (focus (first | decide | omega)); (focus (first | decide | (simp only [ml]; omega)))) | (with_reducible refine w_k (by simp (disch := omega) only [w32_id]; exact rfl) ?_; ((with_reducible refine w_s hS ?_ ?_ ?_ (fun x hx => ?_)); (focus decide); (focus (first | decide | omega)); (focus (first | decide | (simp only [sl]; omega))))) | (with_reducible refine w_k (by simp (disch := omega) only [w32_id]; exact rfl) ?_; ((with_reducible refine w_m hS ?_ ?_ ?_ ?_ ?_ (fun x hx => ?_)); (focus decide); (focus (first | decide | omega)); (focus omega); (focus (first | decide | omega)); (focus (first | decide | (simp only [ml]; omega)))))); (try simp (disch := omega) only [Int.reduceToNat, tn_c, tn8, tn8i, tn5, tn5z, tn6, tn6z, tn1, u3_ne, u3_eq, u3_ni, u3_nk, e0] at hx); subst hx)
    refine w_ite (fun h1 => ?_) (fun h1 => ?_)
    · rw [if_neg h1] at k1 k0
      ((first | ((with_reducible refine w_s hS ?_ ?_ ?_ (fun x hx => ?_)); (focus decide); (focus (first | decide | omega)); (focus (first | decide | (simp only [sl]; omega)))) | ((with_reducible refine w_m hS ?_ ?_ ?_ ?_ ?_ (fun x hx => ?_)); (focus decide); (focus (first | decide | omega)); (focus omega); (focus (first | decide | omega)); (focus (first | decide | (simp only [ml]; omega)))) | (with_reducible refine w_k (by simp (disch := omega) only [w32_id]; exact rfl) ?_; ((with_reducible refine w_s hS ?_ ?_ ?_ (fun x hx => ?_)); (focus decide); (focus (first | decide | omega)); (focus (first | decide | (simp only [sl]; omega))))) | (with_reducible refine w_k (by simp (disch := omega) only [w32_id]; exact rfl) ?_; ((with_reducible refine w_m hS ?_ ?_ ?_ ?_ ?_ (fun x hx => ?_)); (focus decide); (focus (first | decide | omega)); (focus omega); (focus (first | decide | omega)); (focus (first | decide | (simp only [ml]; omega)))))); (try simp (disch := omega) only [Int.reduceToNat, tn_c, tn8, tn8i, tn5, tn5z, tn6, tn6z, tn1, u3_ne, u3_eq, u3_ni, u3_nk, e0] at hx); subst hx)
      refine w_ite (fun h2 => ?_) (fun h2 => ?_)
      · rw [if_neg h2] at k1 k0
        refine w_ite (fun h5 => ?_) (fun h5 => ?_)
        · have n1 : V 101 0 (V 121 0 c).toNat ≠ 1 := fun z => by rw [if_pos z] at ht; omega
          rw [if_neg n1] at k1 k0
          ((first | ((with_reducible refine w_s hS ?_ ?_ ?_ (fun x hx => ?_)); (focus decide); (focus (first | decide | omega)); (focus (first | decide | (simp only [sl]; omega)))) | ((with_reducible refine w_m hS ?_ ?_ ?_ ?_ ?_ (fun x hx => ?_)); (focus decide); (focus (first | decide | omega)); (focus omega); (focus (first | decide | omega)); (focus (first | decide | (simp only [ml]; omega)))) | (with_reducible refine w_k (by simp (disch := omega) only [w32_id]; exact rfl) ?_; ((with_reducible refine w_s hS ?_ ?_ ?_ (fun x hx => ?_)); (focus decide); (focus (first | decide | omega)); (focus (first | decide | (simp only [sl]; omega))))) | (with_reducible refine w_k (by simp (disch := omega) only [w32_id]; exact rfl) ?_; ((with_reducible refine w_m hS ?_ ?_ ?_ ?_ ?_ (fun x hx => ?_)); (focus decide); (focus (first | decide | omega)); (focus omega); (focus (first | decide | omega)); (focus (first | decide | (simp only [ml]; omega)))))); (try simp (disch := omega) only [Int.reduceToNat, tn_c, tn8, tn8i, tn5, tn5z, tn6, tn6z, tn1, u3_ne, u3_eq, u3_ni, u3_nk, e3] at hx); subst hx)
          refine w_ite (fun h6 => w_ret (k0 (fun z => ?_))) (fun h6 => w_ret (k1 ⟨hr, ?_⟩))
          · rw [lc_ne] at h6; exact h6 z.2
          · rw [lc_ne] at h6; omega
        · have n1 : V 101 0 (V 121 0 c).toNat = 1 := Decidable.byContradiction fun z => by rw [if_neg z] at ht; omega
          rw [if_pos n1] at k1 k0
          have := st n1 (by have := sk (by omega); omega)
          ((first | ((with_reducible refine w_s hS ?_ ?_ ?_ (fun x hx => ?_)); (focus decide); (focus (first | decide | omega)); (focus (first | decide | (simp only [sl]; omega)))) | ((with_reducible refine w_m hS ?_ ?_ ?_ ?_ ?_ (fun x hx => ?_)); (focus decide); (focus (first | decide | omega)); (focus omega); (focus (first | decide | omega)); (focus (first | decide | (simp only [ml]; omega)))) | (with_reducible refine w_k (by simp (disch := omega) only [w32_id]; exact rfl) ?_; ((with_reducible refine w_s hS ?_ ?_ ?_ (fun x hx => ?_)); (focus decide); (focus (first | decide | omega)); (focus (first | decide | (simp only [sl]; omega))))) | (with_reducible refine w_k (by simp (disch := omega) only [w32_id]; exact rfl) ?_; ((with_reducible refine w_m hS ?_ ?_ ?_ ?_ ?_ (fun x hx => ?_)); (focus decide); (focus (first | decide | omega)); (focus omega); (focus (first | decide | omega)); (focus (first | decide | (simp only [ml]; omega)))))); (try simp (disch := omega) only [Int.reduceToNat, tn_c, tn8, tn8i, tn5, tn5z, tn6, tn6z, tn1, u3_ne, u3_eq, u3_ni, u3_nk, e3] at hx); subst hx)
          rw [w32_id (by omega) (by omega)]
          refine w_ite (fun h6 => w_ret (k0 (fun z => ?_))) (fun h6 => w_ret (k1 ⟨hr, ?_⟩))
          · rw [lc_eq] at h6; exact z.2 h6
          · rw [lc_eq] at h6; exact h6
      · rw [if_pos (by omega)] at k1 k0
        ((first | ((with_reducible refine w_s hS ?_ ?_ ?_ (fun x hx => ?_)); (focus decide); (focus (first | decide | omega)); (focus (first | decide | (simp only [sl]; omega)))) | ((with_reducible refine w_m hS ?_ ?_ ?_ ?_ ?_ (fun x hx => ?_)); (focus decide); (focus (first | decide | omega)); (focus omega); (focus (first | decide | omega)); (focus (first | decide | (simp only [ml]; omega)))) | (with_reducible refine w_k (by simp (disch := omega) only [w32_id]; exact rfl) ?_; ((with_reducible refine w_s hS ?_ ?_ ?_ (fun x hx => ?_)); (focus decide); (focus (first | decide | omega)); (focus (first | decide | (simp only [sl]; omega))))) | (with_reducible refine w_k (by simp (disch := omega) only [w32_id]; exact rfl) ?_; ((with_reducible refine w_m hS ?_ ?_ ?_ ?_ ?_ (fun x hx => ?_)); (focus decide); (focus (first | decide | omega)); (focus omega); (focus (first | decide | omega)); (focus (first | decide | (simp only [ml]; omega)))))); (try simp (disch := omega) only [Int.reduceToNat, tn_c, tn8, tn8i, tn5, tn5z, tn6, tn6z, tn1, u3_ne, u3_eq, u3_ni, u3_nk, e3] at hx); subst hx)
        refine w_ite (fun h6 => w_ret (k0 (fun z => ?_))) (fun h6 => w_ret (k1 ⟨hr, ?_⟩))
        · rw [lc_le] at h6; omega
        · rw [lc_le] at h6; omega
    · rw [if_pos (by omega)] at k1 k0
      ((first | ((with_reducible refine w_s hS ?_ ?_ ?_ (fun x hx => ?_)); (focus decide); (focus (first | decide | omega)); (focus (first | decide | (simp only [sl]; omega)))) | ((with_reducible refine w_m hS ?_ ?_ ?_ ?_ ?_ (fun x hx => ?_)); (focus decide); (focus (first | decide | omega)); (focus omega); (focus (first | decide | omega)); (focus (first | decide | (simp only [ml]; omega)))) | (with_reducible refine w_k (by simp (disch := omega) only [w32_id]; exact rfl) ?_; ((with_reducible refine w_s hS ?_ ?_ ?_ (fun x hx => ?_)); (focus decide); (focus (first | decide | omega)); (focus (first | decide | (simp only [sl]; omega))))) | (with_reducible refine w_k (by simp (disch := omega) only [w32_id]; exact rfl) ?_; ((with_reducible refine w_m hS ?_ ?_ ?_ ?_ ?_ (fun x hx => ?_)); (focus decide); (focus (first | decide | omega)); (focus omega); (focus (first | decide | omega)); (focus (first | decide | (simp only [ml]; omega)))))); (try simp (disch := omega) only [Int.reduceToNat, tn_c, tn8, tn8i, tn5, tn5z, tn6, tn6z, tn1, u3_ne, u3_eq, u3_ni, u3_nk, e3] at hx); subst hx)
      refine w_ite (fun h6 => w_ret (k0 (fun z => ?_))) (fun h6 => w_ret (k1 ⟨hr, ?_⟩))
      · rw [lc_ge] at h6; omega
      · rw [lc_ge] at h6; omega
  · rw [if_pos (by omega)] at k1 k0
    exact w_ite (fun hr => w_ret (k0 (fun z => z hr))) (fun hr => w_ret (k1 hr))
def bits (T : Int) (n : Nat) (P : Nat → Prop) : Prop := 0 ≤ T ∧ T < ((2 ^ n : Nat) : Int) ∧ ∀ p, p < n → (bt T p ↔ P p)
theorem pow_le5 : ∀ n : Nat, n < 6 → 2 ^ n ≤ 32 := by decide
theorem w_bitsOfAsk {h c s n : Nat} (hI : INV T V R) (hh : h < rC R 30) (hc : c < rC R 40) (s0 : V 119 0 c = 0) (es : (V 30 h 0).toNat = s) (hk : shk V R s 120) (en : plc V s (V 125 0 c) = (n : Int)) {f : Int × GS → GO}
  (k : ∀ T, bits T (plc V s (V 125 0 c)).toNat (askf V s c) → Wp (f (T, (V, R))) Q) : Wp ((g_X3_bitsOfAsk 0 (s : Int) (c : Int) (n : Int) (V, R)).bind f) Q := by
  have hS := hI.SH
  have hF := hI.RF
  have hQ := hI.IQ
  have hp := hI.pers hh
  rw [es] at hp
  have hn := hI.IN.1.1
  have hpl := plc_c hI.IC hp hc
  obtain ⟨_, ⟨e1, q0, q1⟩, _⟩ := (hI.IC c hc).2.2.2.2.2.1 s0
  obtain ⟨q, eq⟩ : ∃ q : Nat, V 121 0 c = (q : Int) := ⟨(V 121 0 c).toNat, by omega⟩
  obtain ⟨⟨⟨e0, _, _⟩, _⟩, _⟩ := hQ.1 q (by omega)
  have A : ∀ t : Int, t = (if V 101 0 (V 121 0 c).toNat = 1 then 1 else 0) → Wp (gjX3_bitsOfAsk_21 (s : Int) (c : Int) (n : Int) t (V, R)) (fun r G => Wp (f (r, G)) Q) := by
    intro t ht
    unfold gjX3_bitsOfAsk_21
    refine w_for2 n (fun i a G => G = (V, R) ∧ ∃ T : Nat, a = (T : Int) ∧ T < 2 ^ i ∧ ∀ p, p < i → (T.testBit p = true ↔ askf V s c p)) ?_ (i := 0) (by omega) (by omega) ⟨rfl, 0, rfl, by decide, fun p hp => absurd hp (by omega)⟩
    rintro i a G hi ⟨rfl, T, rfl, hT, hb⟩ self ih
    unfold glX3_bitsOfAsk_29 gjX3_bitsOfAsk_78
    refine w_ite (fun hx => w_ret (k _ ?_)) (fun hx => ?_)
    · have ei : i = n := by omega
      subst ei
      rw [en, tn_c]
      exact ⟨by omega, by omega, fun p hp => bt_tb.trans (hb p hp)⟩
    · ((first | ((with_reducible refine w_s hS ?_ ?_ ?_ (fun x hx => ?_)); (focus decide); (focus (first | decide | omega)); (focus (first | decide | (simp only [sl]; omega)))) | ((with_reducible refine w_m hS ?_ ?_ ?_ ?_ ?_ (fun x hx => ?_)); (focus decide); (focus (first | decide | omega)); (focus omega); (focus (first | decide | omega)); (focus (first | decide | (simp only [ml]; omega)))) | (with_reducible refine w_k (by simp (disch := omega) only [w32_id]; exact rfl) ?_; ((with_reducible refine w_s hS ?_ ?_ ?_ (fun x hx => ?_)); (focus decide); (focus (first | decide | omega)); (focus (first | decide | (simp only [sl]; omega))))) | (with_reducible refine w_k (by simp (disch := omega) only [w32_id]; exact rfl) ?_; ((with_reducible refine w_m hS ?_ ?_ ?_ ?_ ?_ (fun x hx => ?_)); (focus decide); (focus (first | decide | omega)); (focus omega); (focus (first | decide | omega)); (focus (first | decide | (simp only [ml]; omega)))))); (try simp (disch := omega) only [Int.reduceToNat, tn_c, tn8, tn8i, tn5, tn5z, tn6, tn6z, tn1, u3_ne, u3_eq, u3_ni, u3_nk, e1, eq] at hx); subst hx)
      refine w_spot (by omega) (by omega) ?_
      refine w_31 hS hk (Or.inl rfl) ?_
      refine w_32 hk (by omega) ?_
      refine w_31 hS hk (Or.inr rfl) ?_
      refine w_33 hk (by omega) ?_
      dsimp only
      have F := w_fits (V := V) (R := R) (Q := fun r G => Wp (f (r, G)) Q) (c := c) (s := s) (p := i) (t := t) (f := fun z7 => if z7.1 = 0 then self (T : Int) (w32 ((i : Int) + 1)) z7.2 else self (i_or (T : Int) (i_shl 1 (i : Int))) (w32 ((i : Int) + 1)) z7.2) hS hI.IC hc s0 ht ?_ ?_
      · rw [eq, tn_c] at F; exact F
      · intro ask
        refine w_ite (fun z => absurd (show (1 : Int) = 0 from z) (by decide)) (fun _ => ?_)
        have p2 : 2 ^ i ≤ 16 := Nat.pow_le_pow_right (n := 2) (by decide) (show i ≤ 4 by omega)
        rw [i_shl_nat i (by omega), i_or_nat (by omega) (by omega)]
        refine ih _ _ (by omega) ⟨rfl, T ||| 2 ^ i, rfl, Nat.or_lt_two_pow (by rw [Nat.pow_succ]; omega) (by rw [Nat.pow_succ]; omega), fun p hp => ?_⟩
        rw [Nat.testBit_or, Nat.testBit_two_pow]
        by_cases e : p = i
        · subst e; simp only [decide_true, Bool.or_true, true_iff]; exact ask
        · rw [decide_eq_false (by omega), Bool.or_false]; exact hb p (by omega)
      · intro ask
        refine w_ite (fun _ => ?_) (fun z => absurd rfl z)
        refine ih _ _ (by omega) ⟨rfl, T, rfl, by rw [Nat.pow_succ]; omega, fun p hp => ?_⟩
        by_cases e : p = i
        · subst e
          rw [Nat.testBit_lt_two_pow hT]
          constructor
          · intro z; exact absurd z (by decide)
          · intro z; exact absurd z ask
        · exact hb p (by omega)
  refine w_bind ?_
  unfold g_X3_bitsOfAsk
  refine w_gv (by omega) ?_
  ((first | ((with_reducible refine w_s hS ?_ ?_ ?_ (fun x hx => ?_)); (focus decide); (focus (first | decide | omega)); (focus (first | decide | (simp only [sl]; omega)))) | ((with_reducible refine w_m hS ?_ ?_ ?_ ?_ ?_ (fun x hx => ?_)); (focus decide); (focus (first | decide | omega)); (focus omega); (focus (first | decide | omega)); (focus (first | decide | (simp only [ml]; omega)))) | (with_reducible refine w_k (by simp (disch := omega) only [w32_id]; exact rfl) ?_; ((with_reducible refine w_s hS ?_ ?_ ?_ (fun x hx => ?_)); (focus decide); (focus (first | decide | omega)); (focus (first | decide | (simp only [sl]; omega))))) | (with_reducible refine w_k (by simp (disch := omega) only [w32_id]; exact rfl) ?_; ((with_reducible refine w_m hS ?_ ?_ ?_ ?_ ?_ (fun x hx => ?_)); (focus decide); (focus (first | decide | omega)); (focus omega); (focus (first | decide | omega)); (focus (first | decide | (simp only [ml]; omega)))))); (try simp (disch := omega) only [Int.reduceToNat, tn_c, tn8, tn8i, tn5, tn5z, tn6, tn6z, tn1, u3_ne, u3_eq, u3_ni, u3_nk, f_1_0 hF] at hx); subst hx)
  ((first | ((with_reducible refine w_s hS ?_ ?_ ?_ (fun x hx => ?_)); (focus decide); (focus (first | decide | omega)); (focus (first | decide | (simp only [sl]; omega)))) | ((with_reducible refine w_m hS ?_ ?_ ?_ ?_ ?_ (fun x hx => ?_)); (focus decide); (focus (first | decide | omega)); (focus omega); (focus (first | decide | omega)); (focus (first | decide | (simp only [ml]; omega)))) | (with_reducible refine w_k (by simp (disch := omega) only [w32_id]; exact rfl) ?_; ((with_reducible refine w_s hS ?_ ?_ ?_ (fun x hx => ?_)); (focus decide); (focus (first | decide | omega)); (focus (first | decide | (simp only [sl]; omega))))) | (with_reducible refine w_k (by simp (disch := omega) only [w32_id]; exact rfl) ?_; ((with_reducible refine w_m hS ?_ ?_ ?_ ?_ ?_ (fun x hx => ?_)); (focus decide); (focus (first | decide | omega)); (focus omega); (focus (first | decide | omega)); (focus (first | decide | (simp only [ml]; omega)))))); (try simp (disch := omega) only [Int.reduceToNat, tn_c, tn8, tn8i, tn5, tn5z, tn6, tn6z, tn1, u3_ne, u3_eq, u3_ni, u3_nk, e1, eq] at hx); subst hx)
  ((first | ((with_reducible refine w_s hS ?_ ?_ ?_ (fun x hx => ?_)); (focus decide); (focus (first | decide | omega)); (focus (first | decide | (simp only [sl]; omega)))) | ((with_reducible refine w_m hS ?_ ?_ ?_ ?_ ?_ (fun x hx => ?_)); (focus decide); (focus (first | decide | omega)); (focus omega); (focus (first | decide | omega)); (focus (first | decide | (simp only [ml]; omega)))) | (with_reducible refine w_k (by simp (disch := omega) only [w32_id]; exact rfl) ?_; ((with_reducible refine w_s hS ?_ ?_ ?_ (fun x hx => ?_)); (focus decide); (focus (first | decide | omega)); (focus (first | decide | (simp only [sl]; omega))))) | (with_reducible refine w_k (by simp (disch := omega) only [w32_id]; exact rfl) ?_; ((with_reducible refine w_m hS ?_ ?_ ?_ ?_ ?_ (fun x hx => ?_)); (focus decide); (focus (first | decide | omega)); (focus omega); (focus (first | decide | omega)); (focus (first | decide | (simp only [ml]; omega)))))); (try simp (disch := omega) only [Int.reduceToNat, tn_c, tn8, tn8i, tn5, tn5z, tn6, tn6z, tn1, u3_ne, u3_eq, u3_ni, u3_nk, l_2 hI.IL] at hx); subst hx)
  ((first | ((with_reducible refine w_s hS ?_ ?_ ?_ (fun x hx => ?_)); (focus decide); (focus (first | decide | omega)); (focus (first | decide | (simp only [sl]; omega)))) | ((with_reducible refine w_m hS ?_ ?_ ?_ ?_ ?_ (fun x hx => ?_)); (focus decide); (focus (first | decide | omega)); (focus omega); (focus (first | decide | omega)); (focus (first | decide | (simp only [ml]; omega)))) | (with_reducible refine w_k (by simp (disch := omega) only [w32_id]; exact rfl) ?_; ((with_reducible refine w_s hS ?_ ?_ ?_ (fun x hx => ?_)); (focus decide); (focus (first | decide | omega)); (focus (first | decide | (simp only [sl]; omega))))) | (with_reducible refine w_k (by simp (disch := omega) only [w32_id]; exact rfl) ?_; ((with_reducible refine w_m hS ?_ ?_ ?_ ?_ ?_ (fun x hx => ?_)); (focus decide); (focus (first | decide | omega)); (focus omega); (focus (first | decide | omega)); (focus (first | decide | (simp only [ml]; omega)))))); (try simp (disch := omega) only [Int.reduceToNat, tn_c, tn8, tn8i, tn5, tn5z, tn6, tn6z, tn1, u3_ne, u3_eq, u3_ni, u3_nk, e0] at hx); subst hx)
  rw [eq, tn_c] at A
  exact w_ite (fun z => A 0 (by rw [if_neg z])) (fun z => A 1 (by rw [if_pos (by omega)]))
theorem bits.cg {T : Int} {n : Nat} {P P' : Nat → Prop} (h : bits T n P) (e : ∀ p, p < n → (P p ↔ P' p)) : bits T n P' := ⟨h.1, h.2.1, fun p hp => (h.2.2 p hp).trans (e p hp)⟩
theorem w_spread {h c n : Nat} {r : Int} {f : Int × GS → GO} (hI : INV T V R) (hh : h < rC R 30) (hc : c < rC R 40) (hn : n < 6) (hr : V 125 0 c = -1 ∨ V 125 0 c = r) (en : plc V (V 30 h 0).toNat r = (n : Int)) (hl : LEc V (V 30 h 0).toNat h c)
  (k : ∀ T, bits T n (so V h c) → Wp (f (T, (V, R))) Q) : Wp ((g_X3_spread 0 (h : Int) (c : Int) (w32 (i_shl 1 (n : Int) - 1)) (V, R)).bind f) Q := by
  have hS := hI.SH
  have hF := hI.RF
  have s34 := hS.2.2.2.2.2.2.1
  obtain ⟨_, hh40, hc60, _⟩ := hI.IN.1
  have e4 := (hI.IC c hc).1.1
  refine w_bind ?_
  unfold g_X3_spread
  refine w_gv (by omega) ?_
  ((first | ((with_reducible refine w_s hS ?_ ?_ ?_ (fun x hx => ?_)); (focus decide); (focus (first | decide | omega)); (focus (first | decide | (simp only [sl]; omega)))) | ((with_reducible refine w_m hS ?_ ?_ ?_ ?_ ?_ (fun x hx => ?_)); (focus decide); (focus (first | decide | omega)); (focus omega); (focus (first | decide | omega)); (focus (first | decide | (simp only [ml]; omega)))) | (with_reducible refine w_k (by simp (disch := omega) only [w32_id]; exact rfl) ?_; ((with_reducible refine w_s hS ?_ ?_ ?_ (fun x hx => ?_)); (focus decide); (focus (first | decide | omega)); (focus (first | decide | (simp only [sl]; omega))))) | (with_reducible refine w_k (by simp (disch := omega) only [w32_id]; exact rfl) ?_; ((with_reducible refine w_m hS ?_ ?_ ?_ ?_ ?_ (fun x hx => ?_)); (focus decide); (focus (first | decide | omega)); (focus omega); (focus (first | decide | omega)); (focus (first | decide | (simp only [ml]; omega)))))); (try simp (disch := omega) only [Int.reduceToNat, tn_c, tn8, tn8i, tn5, tn5z, tn6, tn6z, tn1, u3_ne, u3_eq, u3_ni, u3_nk, f_1_2 hF] at hx); subst hx)
  ((first | ((with_reducible refine w_s hS ?_ ?_ ?_ (fun x hx => ?_)); (focus decide); (focus (first | decide | omega)); (focus (first | decide | (simp only [sl]; omega)))) | ((with_reducible refine w_m hS ?_ ?_ ?_ ?_ ?_ (fun x hx => ?_)); (focus decide); (focus (first | decide | omega)); (focus omega); (focus (first | decide | omega)); (focus (first | decide | (simp only [ml]; omega)))) | (with_reducible refine w_k (by simp (disch := omega) only [w32_id]; exact rfl) ?_; ((with_reducible refine w_s hS ?_ ?_ ?_ (fun x hx => ?_)); (focus decide); (focus (first | decide | omega)); (focus (first | decide | (simp only [sl]; omega))))) | (with_reducible refine w_k (by simp (disch := omega) only [w32_id]; exact rfl) ?_; ((with_reducible refine w_m hS ?_ ?_ ?_ ?_ ?_ (fun x hx => ?_)); (focus decide); (focus (first | decide | omega)); (focus omega); (focus (first | decide | omega)); (focus (first | decide | (simp only [ml]; omega)))))); (try simp (disch := omega) only [Int.reduceToNat, tn_c, tn8, tn8i, tn5, tn5z, tn6, tn6z, tn1, u3_ne, u3_eq, u3_ni, u3_nk, l_3 hI.IL] at hx); subst hx)
  ((first | ((with_reducible refine w_s hS ?_ ?_ ?_ (fun x hx => ?_)); (focus decide); (focus (first | decide | omega)); (focus (first | decide | (simp only [sl]; omega)))) | ((with_reducible refine w_m hS ?_ ?_ ?_ ?_ ?_ (fun x hx => ?_)); (focus decide); (focus (first | decide | omega)); (focus omega); (focus (first | decide | omega)); (focus (first | decide | (simp only [ml]; omega)))) | (with_reducible refine w_k (by simp (disch := omega) only [w32_id]; exact rfl) ?_; ((with_reducible refine w_s hS ?_ ?_ ?_ (fun x hx => ?_)); (focus decide); (focus (first | decide | omega)); (focus (first | decide | (simp only [sl]; omega))))) | (with_reducible refine w_k (by simp (disch := omega) only [w32_id]; exact rfl) ?_; ((with_reducible refine w_m hS ?_ ?_ ?_ ?_ ?_ (fun x hx => ?_)); (focus decide); (focus (first | decide | omega)); (focus omega); (focus (first | decide | omega)); (focus (first | decide | (simp only [ml]; omega)))))); (try simp (disch := omega) only [Int.reduceToNat, tn_c, tn8, tn8i, tn5, tn5z, tn6, tn6z, tn1, u3_ne, u3_eq, u3_ni, u3_nk, e4] at hx); subst hx)
  obtain ⟨l0, l1, l2⟩ := hl
  refine w_ite (fun t => ?_) (fun t => ?_)
  · have e1 : (plc V (V 30 h 0).toNat (V 125 0 c)).toNat = 1 := by rw [t]; rfl
    rw [e1] at l1
    rw [all_nat n (by omega)]
    ((first | ((with_reducible refine w_s hS ?_ ?_ ?_ (fun x hx => ?_)); (focus decide); (focus (first | decide | omega)); (focus (first | decide | (simp only [sl]; omega)))) | ((with_reducible refine w_m hS ?_ ?_ ?_ ?_ ?_ (fun x hx => ?_)); (focus decide); (focus (first | decide | omega)); (focus omega); (focus (first | decide | omega)); (focus (first | decide | (simp only [ml]; omega)))) | (with_reducible refine w_k (by simp (disch := omega) only [w32_id]; exact rfl) ?_; ((with_reducible refine w_s hS ?_ ?_ ?_ (fun x hx => ?_)); (focus decide); (focus (first | decide | omega)); (focus (first | decide | (simp only [sl]; omega))))) | (with_reducible refine w_k (by simp (disch := omega) only [w32_id]; exact rfl) ?_; ((with_reducible refine w_m hS ?_ ?_ ?_ ?_ ?_ (fun x hx => ?_)); (focus decide); (focus (first | decide | omega)); (focus omega); (focus (first | decide | omega)); (focus (first | decide | (simp only [ml]; omega)))))); (try simp (disch := omega) only [Int.reduceToNat, tn_c, tn8, tn8i, tn5, tn5z, tn6, tn6z, tn1, u3_ne, u3_eq, u3_ni, u3_nk, f_30_1 hF] at hx); subst hx)
    ((first | ((with_reducible refine w_s hS ?_ ?_ ?_ (fun x hx => ?_)); (focus decide); (focus (first | decide | omega)); (focus (first | decide | (simp only [sl]; omega)))) | ((with_reducible refine w_m hS ?_ ?_ ?_ ?_ ?_ (fun x hx => ?_)); (focus decide); (focus (first | decide | omega)); (focus omega); (focus (first | decide | omega)); (focus (first | decide | (simp only [ml]; omega)))) | (with_reducible refine w_k (by simp (disch := omega) only [w32_id]; exact rfl) ?_; ((with_reducible refine w_s hS ?_ ?_ ?_ (fun x hx => ?_)); (focus decide); (focus (first | decide | omega)); (focus (first | decide | (simp only [sl]; omega))))) | (with_reducible refine w_k (by simp (disch := omega) only [w32_id]; exact rfl) ?_; ((with_reducible refine w_m hS ?_ ?_ ?_ ?_ ?_ (fun x hx => ?_)); (focus decide); (focus (first | decide | omega)); (focus omega); (focus (first | decide | omega)); (focus (first | decide | (simp only [ml]; omega)))))); (try simp (disch := omega) only [Int.reduceToNat, tn_c, tn8, tn8i, tn5, tn5z, tn6, tn6z, tn1, u3_ne, u3_eq, u3_ni, u3_nk, t] at hx); subst hx)
    have p1 : 1 ≤ 2 ^ n := Nat.pos_of_ne_zero (by have := Nat.two_pow_pos n; omega)
    refine w_ite (fun z => w_ret (k _ ⟨by omega, by omega, fun p hp => ?_⟩)) (fun z => w_ret (k _ ⟨by omega, by omega, fun p hp => ?_⟩))
    · have e : V 34 h c = 1 := by omega
      unfold so
      rw [if_pos t, e, bt_tb, Nat.testBit_two_pow_sub_one]
      simp only [decide_eq_true hp, true_iff]
      unfold bt; decide
    · have e : V 34 h c = 0 := by omega
      unfold so
      rw [if_pos t, e]
      unfold bt
      simp
  · have e : V 125 0 c = r := by omega
    rw [e, en, tn_c] at l1
    ((first | ((with_reducible refine w_s hS ?_ ?_ ?_ (fun x hx => ?_)); (focus decide); (focus (first | decide | omega)); (focus (first | decide | (simp only [sl]; omega)))) | ((with_reducible refine w_m hS ?_ ?_ ?_ ?_ ?_ (fun x hx => ?_)); (focus decide); (focus (first | decide | omega)); (focus omega); (focus (first | decide | omega)); (focus (first | decide | (simp only [ml]; omega)))) | (with_reducible refine w_k (by simp (disch := omega) only [w32_id]; exact rfl) ?_; ((with_reducible refine w_s hS ?_ ?_ ?_ (fun x hx => ?_)); (focus decide); (focus (first | decide | omega)); (focus (first | decide | (simp only [sl]; omega))))) | (with_reducible refine w_k (by simp (disch := omega) only [w32_id]; exact rfl) ?_; ((with_reducible refine w_m hS ?_ ?_ ?_ ?_ ?_ (fun x hx => ?_)); (focus decide); (focus (first | decide | omega)); (focus omega); (focus (first | decide | omega)); (focus (first | decide | (simp only [ml]; omega)))))); (try simp (disch := omega) only [Int.reduceToNat, tn_c, tn8, tn8i, tn5, tn5z, tn6, tn6z, tn1, u3_ne, u3_eq, u3_ni, u3_nk, f_30_1 hF] at hx); subst hx)
    ((first | ((with_reducible refine w_s hS ?_ ?_ ?_ (fun x hx => ?_)); (focus decide); (focus (first | decide | omega)); (focus (first | decide | (simp only [sl]; omega)))) | ((with_reducible refine w_m hS ?_ ?_ ?_ ?_ ?_ (fun x hx => ?_)); (focus decide); (focus (first | decide | omega)); (focus omega); (focus (first | decide | omega)); (focus (first | decide | (simp only [ml]; omega)))) | (with_reducible refine w_k (by simp (disch := omega) only [w32_id]; exact rfl) ?_; ((with_reducible refine w_s hS ?_ ?_ ?_ (fun x hx => ?_)); (focus decide); (focus (first | decide | omega)); (focus (first | decide | (simp only [sl]; omega))))) | (with_reducible refine w_k (by simp (disch := omega) only [w32_id]; exact rfl) ?_; ((with_reducible refine w_m hS ?_ ?_ ?_ ?_ ?_ (fun x hx => ?_)); (focus decide); (focus (first | decide | omega)); (focus omega); (focus (first | decide | omega)); (focus (first | decide | (simp only [ml]; omega)))))); (try simp (disch := omega) only [Int.reduceToNat, tn_c, tn8, tn8i, tn5, tn5z, tn6, tn6z, tn1, u3_ne, u3_eq, u3_ni, u3_nk, e] at hx); subst hx)
    refine w_ret (k _ ⟨l0, l1, fun p hp => ?_⟩)
    unfold so
    rw [if_neg t]
end Cls
