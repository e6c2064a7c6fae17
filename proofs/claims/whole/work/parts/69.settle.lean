section Cls
variable {V : GV} {R : GR} {T : GV → Prop} {Q : Int → GS → Prop}
theorem bits_and {A B : Int} {n : Nat} {P P' : Nat → Prop} (hn : n < 6) (ha : bits A n P) (hb : bits B n P') : bits (i_and A B) n (fun p => P p ∧ P' p) := by
  obtain ⟨a0, a1, a2⟩ := ha
  obtain ⟨b0, b1, b2⟩ := hb
  obtain ⟨a, rfl⟩ : ∃ a : Nat, A = (a : Int) := ⟨A.toNat, by omega⟩
  obtain ⟨b, rfl⟩ : ∃ b : Nat, B = (b : Int) := ⟨B.toNat, by omega⟩
  have := pow_le5 n hn
  rw [i_and_nat (by omega) (by omega)]
  have l : a &&& b ≤ a := Nat.and_le_left
  refine ⟨by omega, by omega, fun p hp => ?_⟩
  rw [bt_tb, Nat.testBit_and, Bool.and_eq_true, ← bt_tb, ← bt_tb, a2 p hp, b2 p hp]
theorem bits_or {A B : Int} {n : Nat} {P P' : Nat → Prop} (hn : n < 6) (ha : bits A n P) (hb : bits B n P') : bits (i_or A B) n (fun p => P p ∨ P' p) := by
  obtain ⟨a0, a1, a2⟩ := ha
  obtain ⟨b0, b1, b2⟩ := hb
  obtain ⟨a, rfl⟩ : ∃ a : Nat, A = (a : Int) := ⟨A.toNat, by omega⟩
  obtain ⟨b, rfl⟩ : ∃ b : Nat, B = (b : Int) := ⟨B.toNat, by omega⟩
  have := pow_le5 n hn
  rw [i_or_nat (by omega) (by omega)]
  have l : a ||| b < 2 ^ n := Nat.or_lt_two_pow (by omega) (by omega)
  refine ⟨by omega, by omega, fun p hp => ?_⟩
  rw [bt_tb, Nat.testBit_or, Bool.or_eq_true, ← bt_tb, ← bt_tb, a2 p hp, b2 p hp]
theorem LE_u34 {h j c : Nat} {B : Int} (hI : INV T V R) (hh : h < rC R 30) (hj : (j : Int) < V 100 0 29) (e4 : V 4 0 j = 24 + (c : Int)) (hc : c < rC R 40) (hb : bits B (plc V (V 30 h 0).toNat (V 125 0 c)).toNat (conf V (V 30 h 0).toNat h c)) : stp V (u3 V 34 h c B) h j ∧ LE (u3 V 34 h c B) h j := by
  have hs : stp V (u3 V 34 h c B) h j := (stp.rf V h j).u (Or.inr ⟨by omega, rfl, rfl, by omega⟩)
  refine ⟨hs, ?_⟩
  have e0 : ∀ r i k, r ≠ 34 → u3 V 34 h c B r i k = V r i k := fun r i k h => u3_ne h
  have eo : ∀ a, a ≠ c → u3 V 34 h c B 34 h a = V 34 h a := fun a h => u3_nk h
  have ec : u3 V 34 h c B 34 h c = B := u3_eq
  generalize hV : u3 V 34 h c B = V' at *
  obtain ⟨_, _, _, hso, _, c0, cn, c12, c3, c4⟩ := hI.IC c hc
  unfold LE
  rw [e0 4 _ _ (by decide), e4, e0 30 _ _ (by decide)]
  refine ⟨fun h => absurd h (by omega), fun _ => ?_⟩
  rw [show ((24 : Int) + (c : Int) - 24).toNat = c by omega]
  unfold LEc
  rw [ec, e0 125 _ _ (by decide)]
  have ep : ∀ r, plc V' (V 30 h 0).toNat r = plc V (V 30 h 0).toNat r := by intro r; unfold plc; rw [e0 32 _ _ (by decide)]
  rw [ep]
  refine ⟨hb.1, hb.2.1, fun p hp => (hb.2.2 p hp).trans ?_⟩
  unfold conf
  rw [e0 119 _ _ (by decide), e0 123 _ _ (by decide), e0 124 _ _ (by decide), e0 120 _ _ (by decide), ep, e0 125 _ _ (by decide)]
  by_cases s0 : V 119 0 c = 0
  · rw [if_pos s0, if_pos s0]
    unfold askf
    rw [e0 120 _ _ (by decide), e0 121 _ _ (by decide), e0 122 _ _ (by decide), e0 101 _ _ (by decide), e0 32 _ _ (by decide), e0 33 _ _ (by decide)]
  · rw [if_neg s0, if_neg s0]
    obtain ⟨_, _, a0, a1⟩ := cn s0
    have sA : so V' h (V 123 0 c).toNat p ↔ so V h (V 123 0 c).toNat p := by
      unfold so; rw [e0 125 _ _ (by decide), eo _ (by omega)]
    rw [eo _ (show (V 123 0 c).toNat ≠ c by omega), sA]
    have sB : V 119 0 c = 1 ∨ V 119 0 c = 2 → (so V' h (V 124 0 c).toNat p ↔ so V h (V 124 0 c).toNat p) := by
      intro s12
      obtain ⟨_, x0, x1, _⟩ := c12 s12
      unfold so; rw [e0 125 _ _ (by decide), eo _ (by omega)]
    by_cases s1 : V 119 0 c = 1
    · rw [if_pos s1, if_pos s1, sB (Or.inl s1)]
    · rw [if_neg s1, if_neg s1]
      by_cases s2 : V 119 0 c = 2
      · rw [if_pos s2, if_pos s2, sB (Or.inr s2)]
      · rw [if_neg s2, if_neg s2]
theorem w_makeTruths {h j c : Nat} (hI : INV T V R) (hh : h < rC R 30) (hj : (j : Int) < V 100 0 29) (e4 : V 4 0 j = 24 + (c : Int)) (hl : ∀ i, i < j → LE V h i) {f : Int × GS → GO}
  (k : ∀ V', stp V V' h j → LE V' h j → Wp (f (0, (V', R))) Q) : Wp ((g_X3_makeTruths 0 (h : Int) (c : Int) (V, R)).bind f) Q := by
  have hS := hI.SH
  have hF := hI.RF
  have hC := hI.IC
  have hn := hI.IN.1.1
  obtain ⟨_, hh40, hc60, _⟩ := hI.IN.1
  obtain ⟨_, t1, b0, ba, bb⟩ := (hI.IOO.1 j hj).2 (by omega)
  rw [e4] at t1 b0 ba bb
  rw [show ((24 : Int) + (c : Int) - 24).toNat = c by omega] at b0 ba bb
  have hc : c < rC R 40 := by omega
  obtain ⟨s, e30, es, hk⟩ := hI.sht hh
  have s34 := hS.2.2.2.2.2.2.1
  have hp := hI.pers hh
  rw [es] at hp
  have hpl := plc_c hC hp hc
  have ere := (hC c hc).1.1
  obtain ⟨_, _, _, hso, _, c0, cn, c12, c3, c4⟩ := hC c hc
  have hro : V 125 0 c = -1 ∨ ∃ m : Nat, V 125 0 c = (m : Int) ∧ m < 24 ∧ 5 * m < 120 := by
    by_cases e : V 125 0 c = -1
    · exact Or.inl e
    · obtain ⟨r, er, hr, _⟩ := hC.re hc e
      exact Or.inr ⟨r, er, by omega, by omega⟩
  obtain ⟨n, en⟩ : ∃ n : Nat, plc V s (V 125 0 c) = (n : Int) := ⟨(plc V s (V 125 0 c)).toNat, by omega⟩
  have fin : ∀ T, bits T n (conf V s h c) → Wp (f (0, (u3 V 34 h c T, R))) Q := by
    intro T hT
    obtain ⟨h1, h2⟩ := LE_u34 hI hh hj e4 hc (B := T) (by rw [es, en, tn_c]; exact hT)
    exact k _ h1 h2
  refine w_bind ?_
  unfold g_X3_makeTruths
  refine w_gv (by omega) ?_
  ((first | ((with_reducible refine w_s hS ?_ ?_ ?_ (fun x hx => ?_)); (focus decide); (focus (first | decide | omega)); (focus (first | decide | (simp only [sl]; omega)))) | ((with_reducible refine w_m hS ?_ ?_ ?_ ?_ ?_ (fun x hx => ?_)); (focus decide); (focus (first | decide | omega)); (focus omega); (focus (first | decide | omega)); (focus (first | decide | (simp only [ml]; omega)))) | (with_reducible refine w_k (by simp (disch := omega) only [w32_id]; exact rfl) ?_; ((with_reducible refine w_s hS ?_ ?_ ?_ (fun x hx => ?_)); (focus decide); (focus (first | decide | omega)); (focus (first | decide | (simp only [sl]; omega))))) | (with_reducible refine w_k (by simp (disch := omega) only [w32_id]; exact rfl) ?_; ((with_reducible refine w_m hS ?_ ?_ ?_ ?_ ?_ (fun x hx => ?_)); (focus decide); (focus (first | decide | omega)); (focus omega); (focus (first | decide | omega)); (focus (first | decide | (simp only [ml]; omega)))))); (try simp (disch := omega) only [Int.reduceToNat, tn_c, tn8, tn8i, tn5, tn5z, tn6, tn6z, tn1, u3_ne, u3_eq, u3_ni, u3_nk, f_1_2 hF] at hx); subst hx)
  ((first | ((with_reducible refine w_s hS ?_ ?_ ?_ (fun x hx => ?_)); (focus decide); (focus (first | decide | omega)); (focus (first | decide | (simp only [sl]; omega)))) | ((with_reducible refine w_m hS ?_ ?_ ?_ ?_ ?_ (fun x hx => ?_)); (focus decide); (focus (first | decide | omega)); (focus omega); (focus (first | decide | omega)); (focus (first | decide | (simp only [ml]; omega)))) | (with_reducible refine w_k (by simp (disch := omega) only [w32_id]; exact rfl) ?_; ((with_reducible refine w_s hS ?_ ?_ ?_ (fun x hx => ?_)); (focus decide); (focus (first | decide | omega)); (focus (first | decide | (simp only [sl]; omega))))) | (with_reducible refine w_k (by simp (disch := omega) only [w32_id]; exact rfl) ?_; ((with_reducible refine w_m hS ?_ ?_ ?_ ?_ ?_ (fun x hx => ?_)); (focus decide); (focus (first | decide | omega)); (focus omega); (focus (first | decide | omega)); (focus (first | decide | (simp only [ml]; omega)))))); (try simp (disch := omega) only [Int.reduceToNat, tn_c, tn8, tn8i, tn5, tn5z, tn6, tn6z, tn1, u3_ne, u3_eq, u3_ni, u3_nk, l_3 hI.IL] at hx); subst hx)
  ((first | ((with_reducible refine w_s hS ?_ ?_ ?_ (fun x hx => ?_)); (focus decide); (focus (first | decide | omega)); (focus (first | decide | (simp only [sl]; omega)))) | ((with_reducible refine w_m hS ?_ ?_ ?_ ?_ ?_ (fun x hx => ?_)); (focus decide); (focus (first | decide | omega)); (focus omega); (focus (first | decide | omega)); (focus (first | decide | (simp only [ml]; omega)))) | (with_reducible refine w_k (by simp (disch := omega) only [w32_id]; exact rfl) ?_; ((with_reducible refine w_s hS ?_ ?_ ?_ (fun x hx => ?_)); (focus decide); (focus (first | decide | omega)); (focus (first | decide | (simp only [sl]; omega))))) | (with_reducible refine w_k (by simp (disch := omega) only [w32_id]; exact rfl) ?_; ((with_reducible refine w_m hS ?_ ?_ ?_ ?_ ?_ (fun x hx => ?_)); (focus decide); (focus (first | decide | omega)); (focus omega); (focus (first | decide | omega)); (focus (first | decide | (simp only [ml]; omega)))))); (try simp (disch := omega) only [Int.reduceToNat, tn_c, tn8, tn8i, tn5, tn5z, tn6, tn6z, tn1, u3_ne, u3_eq, u3_ni, u3_nk, e30] at hx); subst hx)
  ((first | ((with_reducible refine w_s hS ?_ ?_ ?_ (fun x hx => ?_)); (focus decide); (focus (first | decide | omega)); (focus (first | decide | (simp only [sl]; omega)))) | ((with_reducible refine w_m hS ?_ ?_ ?_ ?_ ?_ (fun x hx => ?_)); (focus decide); (focus (first | decide | omega)); (focus omega); (focus (first | decide | omega)); (focus (first | decide | (simp only [ml]; omega)))) | (with_reducible refine w_k (by simp (disch := omega) only [w32_id]; exact rfl) ?_; ((with_reducible refine w_s hS ?_ ?_ ?_ (fun x hx => ?_)); (focus decide); (focus (first | decide | omega)); (focus (first | decide | (simp only [sl]; omega))))) | (with_reducible refine w_k (by simp (disch := omega) only [w32_id]; exact rfl) ?_; ((with_reducible refine w_m hS ?_ ?_ ?_ ?_ ?_ (fun x hx => ?_)); (focus decide); (focus (first | decide | omega)); (focus omega); (focus (first | decide | omega)); (focus (first | decide | (simp only [ml]; omega)))))); (try simp (disch := omega) only [Int.reduceToNat, tn_c, tn8, tn8i, tn5, tn5z, tn6, tn6z, tn1, u3_ne, u3_eq, u3_ni, u3_nk, ere] at hx); subst hx)
  refine w_placesOf hS hk hro hpl.1 hpl.2 ?_
  dsimp only
  rw [en]
  by_cases s0 : V 119 0 c = 0
  · obtain ⟨⟨e0, a0, a3⟩, _⟩ := c0 s0
    ((first | ((with_reducible refine w_s hS ?_ ?_ ?_ (fun x hx => ?_)); (focus decide); (focus (first | decide | omega)); (focus (first | decide | (simp only [sl]; omega)))) | ((with_reducible refine w_m hS ?_ ?_ ?_ ?_ ?_ (fun x hx => ?_)); (focus decide); (focus (first | decide | omega)); (focus omega); (focus (first | decide | omega)); (focus (first | decide | (simp only [ml]; omega)))) | (with_reducible refine w_k (by simp (disch := omega) only [w32_id]; exact rfl) ?_; ((with_reducible refine w_s hS ?_ ?_ ?_ (fun x hx => ?_)); (focus decide); (focus (first | decide | omega)); (focus (first | decide | (simp only [sl]; omega))))) | (with_reducible refine w_k (by simp (disch := omega) only [w32_id]; exact rfl) ?_; ((with_reducible refine w_m hS ?_ ?_ ?_ ?_ ?_ (fun x hx => ?_)); (focus decide); (focus (first | decide | omega)); (focus omega); (focus (first | decide | omega)); (focus (first | decide | (simp only [ml]; omega)))))); (try simp (disch := omega) only [Int.reduceToNat, tn_c, tn8, tn8i, tn5, tn5z, tn6, tn6z, tn1, u3_ne, u3_eq, u3_ni, u3_nk, e0] at hx); subst hx)
    refine w_ite (fun _ => ?_) (fun z => absurd (show V 120 0 c < 4 ∨ 7 < V 120 0 c by omega) z)
    ((first | ((with_reducible refine w_s hS ?_ ?_ ?_ (fun x hx => ?_)); (focus decide); (focus (first | decide | omega)); (focus (first | decide | (simp only [sl]; omega)))) | ((with_reducible refine w_m hS ?_ ?_ ?_ ?_ ?_ (fun x hx => ?_)); (focus decide); (focus (first | decide | omega)); (focus omega); (focus (first | decide | omega)); (focus (first | decide | (simp only [ml]; omega)))) | (with_reducible refine w_k (by simp (disch := omega) only [w32_id]; exact rfl) ?_; ((with_reducible refine w_s hS ?_ ?_ ?_ (fun x hx => ?_)); (focus decide); (focus (first | decide | omega)); (focus (first | decide | (simp only [sl]; omega))))) | (with_reducible refine w_k (by simp (disch := omega) only [w32_id]; exact rfl) ?_; ((with_reducible refine w_m hS ?_ ?_ ?_ ?_ ?_ (fun x hx => ?_)); (focus decide); (focus (first | decide | omega)); (focus omega); (focus (first | decide | omega)); (focus (first | decide | (simp only [ml]; omega)))))); (try simp (disch := omega) only [Int.reduceToNat, tn_c, tn8, tn8i, tn5, tn5z, tn6, tn6z, tn1, u3_ne, u3_eq, u3_ni, u3_nk, f_30_1 hF] at hx); subst hx)
    ((first | ((with_reducible refine w_s hS ?_ ?_ ?_ (fun x hx => ?_)); (focus decide); (focus (first | decide | omega)); (focus (first | decide | (simp only [sl]; omega)))) | ((with_reducible refine w_m hS ?_ ?_ ?_ ?_ ?_ (fun x hx => ?_)); (focus decide); (focus (first | decide | omega)); (focus omega); (focus (first | decide | omega)); (focus (first | decide | (simp only [ml]; omega)))) | (with_reducible refine w_k (by simp (disch := omega) only [w32_id]; exact rfl) ?_; ((with_reducible refine w_s hS ?_ ?_ ?_ (fun x hx => ?_)); (focus decide); (focus (first | decide | omega)); (focus (first | decide | (simp only [sl]; omega))))) | (with_reducible refine w_k (by simp (disch := omega) only [w32_id]; exact rfl) ?_; ((with_reducible refine w_m hS ?_ ?_ ?_ ?_ ?_ (fun x hx => ?_)); (focus decide); (focus (first | decide | omega)); (focus omega); (focus (first | decide | omega)); (focus (first | decide | (simp only [ml]; omega)))))); (try simp (disch := omega) only [Int.reduceToNat, tn_c, tn8, tn8i, tn5, tn5z, tn6, tn6z, tn1, u3_ne, u3_eq, u3_ni, u3_nk, e30] at hx); subst hx)
    refine w_bitsOfAsk hI hh hc s0 es hk en (fun T hT => ?_)
    rw [en, tn_c] at hT
    refine w_ms hS (by decide) (by omega) (by omega) (by omega) (by simp only [ml]; omega) ?_
    rw [tn_c, tn_c]
    exact w_ret (fin T (hT.cg (fun p hp => by unfold conf; rw [if_pos s0])))
  · obtain ⟨e0, e1, a0, a1⟩ := cn s0
    obtain ⟨a, ea⟩ : ∃ a : Nat, V 123 0 c = (a : Int) := ⟨(V 123 0 c).toNat, by omega⟩
    rw [ea] at e1 a1
    have ha : a < rC R 40 := by omega
    have ba := ba s0
    rw [ea] at ba
    have hla := LEc_bef hI hj es hl ba
    ((first | ((with_reducible refine w_s hS ?_ ?_ ?_ (fun x hx => ?_)); (focus decide); (focus (first | decide | omega)); (focus (first | decide | (simp only [sl]; omega)))) | ((with_reducible refine w_m hS ?_ ?_ ?_ ?_ ?_ (fun x hx => ?_)); (focus decide); (focus (first | decide | omega)); (focus omega); (focus (first | decide | omega)); (focus (first | decide | (simp only [ml]; omega)))) | (with_reducible refine w_k (by simp (disch := omega) only [w32_id]; exact rfl) ?_; ((with_reducible refine w_s hS ?_ ?_ ?_ (fun x hx => ?_)); (focus decide); (focus (first | decide | omega)); (focus (first | decide | (simp only [sl]; omega))))) | (with_reducible refine w_k (by simp (disch := omega) only [w32_id]; exact rfl) ?_; ((with_reducible refine w_m hS ?_ ?_ ?_ ?_ ?_ (fun x hx => ?_)); (focus decide); (focus (first | decide | omega)); (focus omega); (focus (first | decide | omega)); (focus (first | decide | (simp only [ml]; omega)))))); (try simp (disch := omega) only [Int.reduceToNat, tn_c, tn8, tn8i, tn5, tn5z, tn6, tn6z, tn1, u3_ne, u3_eq, u3_ni, u3_nk, e0] at hx); subst hx)
    refine w_ite (fun z => absurd z (by omega)) (fun _ => ?_)
    have cf : ∀ p, conf V s h c p ↔ (if V 119 0 c = 1 then so V h a p ∧ so V h (V 124 0 c).toNat p else if V 119 0 c = 2 then so V h a p ∨ so V h (V 124 0 c).toNat p else if V 119 0 c = 3 then ¬ so V h a p else V 120 0 c ≤ cnt (V 34 h a) (plc V s (V 125 0 a)).toNat) := by
      intro p
      unfold conf
      rw [if_neg s0, ea, tn_c]
    refine w_sw4 (by omega) (fun ek => ?_) (fun ek => ?_) (fun ek => ?_) (fun ek => ?_)
    · have s1 : V 119 0 c = 1 := by omega
      obtain ⟨e2, x0, x1, ra, rb⟩ := c12 (Or.inl s1)
      obtain ⟨b, eb⟩ : ∃ b : Nat, V 124 0 c = (b : Int) := ⟨(V 124 0 c).toNat, by omega⟩
      rw [eb] at e2 x1 rb
      rw [tn_c] at rb
      rw [ea, tn_c] at ra
      have bb := bb (Or.inl s1)
      rw [eb] at bb
      have hlb := LEc_bef hI hj es hl bb
      rw [← es] at hla hlb
      ((first | ((with_reducible refine w_s hS ?_ ?_ ?_ (fun x hx => ?_)); (focus decide); (focus (first | decide | omega)); (focus (first | decide | (simp only [sl]; omega)))) | ((with_reducible refine w_m hS ?_ ?_ ?_ ?_ ?_ (fun x hx => ?_)); (focus decide); (focus (first | decide | omega)); (focus omega); (focus (first | decide | omega)); (focus (first | decide | (simp only [ml]; omega)))) | (with_reducible refine w_k (by simp (disch := omega) only [w32_id]; exact rfl) ?_; ((with_reducible refine w_s hS ?_ ?_ ?_ (fun x hx => ?_)); (focus decide); (focus (first | decide | omega)); (focus (first | decide | (simp only [sl]; omega))))) | (with_reducible refine w_k (by simp (disch := omega) only [w32_id]; exact rfl) ?_; ((with_reducible refine w_m hS ?_ ?_ ?_ ?_ ?_ (fun x hx => ?_)); (focus decide); (focus (first | decide | omega)); (focus omega); (focus (first | decide | omega)); (focus (first | decide | (simp only [ml]; omega)))))); (try simp (disch := omega) only [Int.reduceToNat, tn_c, tn8, tn8i, tn5, tn5z, tn6, tn6z, tn1, u3_ne, u3_eq, u3_ni, u3_nk, f_30_1 hF] at hx); subst hx)
      ((first | ((with_reducible refine w_s hS ?_ ?_ ?_ (fun x hx => ?_)); (focus decide); (focus (first | decide | omega)); (focus (first | decide | (simp only [sl]; omega)))) | ((with_reducible refine w_m hS ?_ ?_ ?_ ?_ ?_ (fun x hx => ?_)); (focus decide); (focus (first | decide | omega)); (focus omega); (focus (first | decide | omega)); (focus (first | decide | (simp only [ml]; omega)))) | (with_reducible refine w_k (by simp (disch := omega) only [w32_id]; exact rfl) ?_; ((with_reducible refine w_s hS ?_ ?_ ?_ (fun x hx => ?_)); (focus decide); (focus (first | decide | omega)); (focus (first | decide | (simp only [sl]; omega))))) | (with_reducible refine w_k (by simp (disch := omega) only [w32_id]; exact rfl) ?_; ((with_reducible refine w_m hS ?_ ?_ ?_ ?_ ?_ (fun x hx => ?_)); (focus decide); (focus (first | decide | omega)); (focus omega); (focus (first | decide | omega)); (focus (first | decide | (simp only [ml]; omega)))))); (try simp (disch := omega) only [Int.reduceToNat, tn_c, tn8, tn8i, tn5, tn5z, tn6, tn6z, tn1, u3_ne, u3_eq, u3_ni, u3_nk, e1] at hx); subst hx)
      refine w_spread hI hh ha (by omega) ra (by rw [es, en]) hla (fun T hT => ?_)
      ((first | ((with_reducible refine w_s hS ?_ ?_ ?_ (fun x hx => ?_)); (focus decide); (focus (first | decide | omega)); (focus (first | decide | (simp only [sl]; omega)))) | ((with_reducible refine w_m hS ?_ ?_ ?_ ?_ ?_ (fun x hx => ?_)); (focus decide); (focus (first | decide | omega)); (focus omega); (focus (first | decide | omega)); (focus (first | decide | (simp only [ml]; omega)))) | (with_reducible refine w_k (by simp (disch := omega) only [w32_id]; exact rfl) ?_; ((with_reducible refine w_s hS ?_ ?_ ?_ (fun x hx => ?_)); (focus decide); (focus (first | decide | omega)); (focus (first | decide | (simp only [sl]; omega))))) | (with_reducible refine w_k (by simp (disch := omega) only [w32_id]; exact rfl) ?_; ((with_reducible refine w_m hS ?_ ?_ ?_ ?_ ?_ (fun x hx => ?_)); (focus decide); (focus (first | decide | omega)); (focus omega); (focus (first | decide | omega)); (focus (first | decide | (simp only [ml]; omega)))))); (try simp (disch := omega) only [Int.reduceToNat, tn_c, tn8, tn8i, tn5, tn5z, tn6, tn6z, tn1, u3_ne, u3_eq, u3_ni, u3_nk, e2] at hx); subst hx)
      refine w_spread hI hh (by omega) (by omega) rb (by rw [es, en]) hlb (fun T' hT' => ?_)
      refine w_ms hS (by decide) (by omega) (by omega) (by omega) (by simp only [ml]; omega) ?_
      rw [tn_c, tn_c]
      refine w_ret (fin _ ((bits_and (by omega) hT hT').cg (fun p hp => ?_)))
      rw [cf, if_pos s1, eb, tn_c]
    · have s2 : V 119 0 c = 2 := by omega
      obtain ⟨e2, x0, x1, ra, rb⟩ := c12 (Or.inr s2)
      obtain ⟨b, eb⟩ : ∃ b : Nat, V 124 0 c = (b : Int) := ⟨(V 124 0 c).toNat, by omega⟩
      rw [eb] at e2 x1 rb
      rw [tn_c] at rb
      rw [ea, tn_c] at ra
      have bb := bb (Or.inr s2)
      rw [eb] at bb
      have hlb := LEc_bef hI hj es hl bb
      rw [← es] at hla hlb
      ((first | ((with_reducible refine w_s hS ?_ ?_ ?_ (fun x hx => ?_)); (focus decide); (focus (first | decide | omega)); (focus (first | decide | (simp only [sl]; omega)))) | ((with_reducible refine w_m hS ?_ ?_ ?_ ?_ ?_ (fun x hx => ?_)); (focus decide); (focus (first | decide | omega)); (focus omega); (focus (first | decide | omega)); (focus (first | decide | (simp only [ml]; omega)))) | (with_reducible refine w_k (by simp (disch := omega) only [w32_id]; exact rfl) ?_; ((with_reducible refine w_s hS ?_ ?_ ?_ (fun x hx => ?_)); (focus decide); (focus (first | decide | omega)); (focus (first | decide | (simp only [sl]; omega))))) | (with_reducible refine w_k (by simp (disch := omega) only [w32_id]; exact rfl) ?_; ((with_reducible refine w_m hS ?_ ?_ ?_ ?_ ?_ (fun x hx => ?_)); (focus decide); (focus (first | decide | omega)); (focus omega); (focus (first | decide | omega)); (focus (first | decide | (simp only [ml]; omega)))))); (try simp (disch := omega) only [Int.reduceToNat, tn_c, tn8, tn8i, tn5, tn5z, tn6, tn6z, tn1, u3_ne, u3_eq, u3_ni, u3_nk, f_30_1 hF] at hx); subst hx)
      ((first | ((with_reducible refine w_s hS ?_ ?_ ?_ (fun x hx => ?_)); (focus decide); (focus (first | decide | omega)); (focus (first | decide | (simp only [sl]; omega)))) | ((with_reducible refine w_m hS ?_ ?_ ?_ ?_ ?_ (fun x hx => ?_)); (focus decide); (focus (first | decide | omega)); (focus omega); (focus (first | decide | omega)); (focus (first | decide | (simp only [ml]; omega)))) | (with_reducible refine w_k (by simp (disch := omega) only [w32_id]; exact rfl) ?_; ((with_reducible refine w_s hS ?_ ?_ ?_ (fun x hx => ?_)); (focus decide); (focus (first | decide | omega)); (focus (first | decide | (simp only [sl]; omega))))) | (with_reducible refine w_k (by simp (disch := omega) only [w32_id]; exact rfl) ?_; ((with_reducible refine w_m hS ?_ ?_ ?_ ?_ ?_ (fun x hx => ?_)); (focus decide); (focus (first | decide | omega)); (focus omega); (focus (first | decide | omega)); (focus (first | decide | (simp only [ml]; omega)))))); (try simp (disch := omega) only [Int.reduceToNat, tn_c, tn8, tn8i, tn5, tn5z, tn6, tn6z, tn1, u3_ne, u3_eq, u3_ni, u3_nk, e1] at hx); subst hx)
      refine w_spread hI hh ha (by omega) ra (by rw [es, en]) hla (fun T hT => ?_)
      ((first | ((with_reducible refine w_s hS ?_ ?_ ?_ (fun x hx => ?_)); (focus decide); (focus (first | decide | omega)); (focus (first | decide | (simp only [sl]; omega)))) | ((with_reducible refine w_m hS ?_ ?_ ?_ ?_ ?_ (fun x hx => ?_)); (focus decide); (focus (first | decide | omega)); (focus omega); (focus (first | decide | omega)); (focus (first | decide | (simp only [ml]; omega)))) | (with_reducible refine w_k (by simp (disch := omega) only [w32_id]; exact rfl) ?_; ((with_reducible refine w_s hS ?_ ?_ ?_ (fun x hx => ?_)); (focus decide); (focus (first | decide | omega)); (focus (first | decide | (simp only [sl]; omega))))) | (with_reducible refine w_k (by simp (disch := omega) only [w32_id]; exact rfl) ?_; ((with_reducible refine w_m hS ?_ ?_ ?_ ?_ ?_ (fun x hx => ?_)); (focus decide); (focus (first | decide | omega)); (focus omega); (focus (first | decide | omega)); (focus (first | decide | (simp only [ml]; omega)))))); (try simp (disch := omega) only [Int.reduceToNat, tn_c, tn8, tn8i, tn5, tn5z, tn6, tn6z, tn1, u3_ne, u3_eq, u3_ni, u3_nk, e2] at hx); subst hx)
      refine w_spread hI hh (by omega) (by omega) rb (by rw [es, en]) hlb (fun T' hT' => ?_)
      refine w_ms hS (by decide) (by omega) (by omega) (by omega) (by simp only [ml]; omega) ?_
      rw [tn_c, tn_c]
      refine w_ret (fin _ ((bits_or (by omega) hT hT').cg (fun p hp => ?_)))
      rw [cf, if_neg (by omega), if_pos s2, eb, tn_c]
    · have s3 : V 119 0 c = 3 := by omega
      have rc := c3 s3
      rw [ea, tn_c] at rc
      obtain ⟨l0, l1, l2⟩ := hla
      rw [← rc, en, tn_c] at l1
      ((first | ((with_reducible refine w_s hS ?_ ?_ ?_ (fun x hx => ?_)); (focus decide); (focus (first | decide | omega)); (focus (first | decide | (simp only [sl]; omega)))) | ((with_reducible refine w_m hS ?_ ?_ ?_ ?_ ?_ (fun x hx => ?_)); (focus decide); (focus (first | decide | omega)); (focus omega); (focus (first | decide | omega)); (focus (first | decide | (simp only [ml]; omega)))) | (with_reducible refine w_k (by simp (disch := omega) only [w32_id]; exact rfl) ?_; ((with_reducible refine w_s hS ?_ ?_ ?_ (fun x hx => ?_)); (focus decide); (focus (first | decide | omega)); (focus (first | decide | (simp only [sl]; omega))))) | (with_reducible refine w_k (by simp (disch := omega) only [w32_id]; exact rfl) ?_; ((with_reducible refine w_m hS ?_ ?_ ?_ ?_ ?_ (fun x hx => ?_)); (focus decide); (focus (first | decide | omega)); (focus omega); (focus (first | decide | omega)); (focus (first | decide | (simp only [ml]; omega)))))); (try simp (disch := omega) only [Int.reduceToNat, tn_c, tn8, tn8i, tn5, tn5z, tn6, tn6z, tn1, u3_ne, u3_eq, u3_ni, u3_nk, f_30_1 hF] at hx); subst hx)
      ((first | ((with_reducible refine w_s hS ?_ ?_ ?_ (fun x hx => ?_)); (focus decide); (focus (first | decide | omega)); (focus (first | decide | (simp only [sl]; omega)))) | ((with_reducible refine w_m hS ?_ ?_ ?_ ?_ ?_ (fun x hx => ?_)); (focus decide); (focus (first | decide | omega)); (focus omega); (focus (first | decide | omega)); (focus (first | decide | (simp only [ml]; omega)))) | (with_reducible refine w_k (by simp (disch := omega) only [w32_id]; exact rfl) ?_; ((with_reducible refine w_s hS ?_ ?_ ?_ (fun x hx => ?_)); (focus decide); (focus (first | decide | omega)); (focus (first | decide | (simp only [sl]; omega))))) | (with_reducible refine w_k (by simp (disch := omega) only [w32_id]; exact rfl) ?_; ((with_reducible refine w_m hS ?_ ?_ ?_ ?_ ?_ (fun x hx => ?_)); (focus decide); (focus (first | decide | omega)); (focus omega); (focus (first | decide | omega)); (focus (first | decide | (simp only [ml]; omega)))))); (try simp (disch := omega) only [Int.reduceToNat, tn_c, tn8, tn8i, tn5, tn5z, tn6, tn6z, tn1, u3_ne, u3_eq, u3_ni, u3_nk, f_30_1 hF] at hx); subst hx)
      ((first | ((with_reducible refine w_s hS ?_ ?_ ?_ (fun x hx => ?_)); (focus decide); (focus (first | decide | omega)); (focus (first | decide | (simp only [sl]; omega)))) | ((with_reducible refine w_m hS ?_ ?_ ?_ ?_ ?_ (fun x hx => ?_)); (focus decide); (focus (first | decide | omega)); (focus omega); (focus (first | decide | omega)); (focus (first | decide | (simp only [ml]; omega)))) | (with_reducible refine w_k (by simp (disch := omega) only [w32_id]; exact rfl) ?_; ((with_reducible refine w_s hS ?_ ?_ ?_ (fun x hx => ?_)); (focus decide); (focus (first | decide | omega)); (focus (first | decide | (simp only [sl]; omega))))) | (with_reducible refine w_k (by simp (disch := omega) only [w32_id]; exact rfl) ?_; ((with_reducible refine w_m hS ?_ ?_ ?_ ?_ ?_ (fun x hx => ?_)); (focus decide); (focus (first | decide | omega)); (focus omega); (focus (first | decide | omega)); (focus (first | decide | (simp only [ml]; omega)))))); (try simp (disch := omega) only [Int.reduceToNat, tn_c, tn8, tn8i, tn5, tn5z, tn6, tn6z, tn1, u3_ne, u3_eq, u3_ni, u3_nk, e1] at hx); subst hx)
      ((first | ((with_reducible refine w_s hS ?_ ?_ ?_ (fun x hx => ?_)); (focus decide); (focus (first | decide | omega)); (focus (first | decide | (simp only [sl]; omega)))) | ((with_reducible refine w_m hS ?_ ?_ ?_ ?_ ?_ (fun x hx => ?_)); (focus decide); (focus (first | decide | omega)); (focus omega); (focus (first | decide | omega)); (focus (first | decide | (simp only [ml]; omega)))) | (with_reducible refine w_k (by simp (disch := omega) only [w32_id]; exact rfl) ?_; ((with_reducible refine w_s hS ?_ ?_ ?_ (fun x hx => ?_)); (focus decide); (focus (first | decide | omega)); (focus (first | decide | (simp only [sl]; omega))))) | (with_reducible refine w_k (by simp (disch := omega) only [w32_id]; exact rfl) ?_; ((with_reducible refine w_m hS ?_ ?_ ?_ ?_ ?_ (fun x hx => ?_)); (focus decide); (focus (first | decide | omega)); (focus omega); (focus (first | decide | omega)); (focus (first | decide | (simp only [ml]; omega)))))); (try simp (disch := omega) only [Int.reduceToNat, tn_c, tn8, tn8i, tn5, tn5z, tn6, tn6z, tn1, u3_ne, u3_eq, u3_ni, u3_nk, ea] at hx); subst hx)
      refine w_ms hS (by decide) (by omega) (by omega) (by omega) (by simp only [ml]; omega) ?_
      rw [tn_c, tn_c]
      obtain ⟨T, eT⟩ : ∃ T : Nat, V 34 h a = (T : Int) := ⟨(V 34 h a).toNat, by omega⟩
      have := pow_le5 n (by omega)
      rw [eT] at l1
      obtain ⟨x, y, z⟩ := not_all n (by omega) T (by omega)
      rw [all_nat n (by omega), eT]
      refine w_ret (fin _ ⟨x, y, fun p hp => ?_⟩)
      rw [cf, if_neg (by omega), if_neg (by omega), if_pos s3]
      unfold so bt
      rw [eT]
      by_cases t : V 125 0 a = -1
      · rw [if_pos t]
        have n1 : n = 1 := by rw [← rc] at t; rw [t] at en; unfold plc at en; rw [if_pos rfl] at en; omega
        have : p = 0 := by omega
        subst this
        exact z 0 hp
      · rw [if_neg t]; exact z p hp
    · have s4 : V 119 0 c = 4 := by omega
      obtain ⟨e3, v0, v5, rt, ra⟩ := c4 s4
      rw [ea, tn_c] at ra
      obtain ⟨l0, l1, l2⟩ := hla
      have pa := plc_c hC hp ha
      have n1 : n = 1 := by rw [rt] at en; unfold plc at en; rw [if_pos rfl] at en; omega
      subst n1
      ((first | ((with_reducible refine w_s hS ?_ ?_ ?_ (fun x hx => ?_)); (focus decide); (focus (first | decide | omega)); (focus (first | decide | (simp only [sl]; omega)))) | ((with_reducible refine w_m hS ?_ ?_ ?_ ?_ ?_ (fun x hx => ?_)); (focus decide); (focus (first | decide | omega)); (focus omega); (focus (first | decide | omega)); (focus (first | decide | (simp only [ml]; omega)))) | (with_reducible refine w_k (by simp (disch := omega) only [w32_id]; exact rfl) ?_; ((with_reducible refine w_s hS ?_ ?_ ?_ (fun x hx => ?_)); (focus decide); (focus (first | decide | omega)); (focus (first | decide | (simp only [sl]; omega))))) | (with_reducible refine w_k (by simp (disch := omega) only [w32_id]; exact rfl) ?_; ((with_reducible refine w_m hS ?_ ?_ ?_ ?_ ?_ (fun x hx => ?_)); (focus decide); (focus (first | decide | omega)); (focus omega); (focus (first | decide | omega)); (focus (first | decide | (simp only [ml]; omega)))))); (try simp (disch := omega) only [Int.reduceToNat, tn_c, tn8, tn8i, tn5, tn5z, tn6, tn6z, tn1, u3_ne, u3_eq, u3_ni, u3_nk, f_30_1 hF] at hx); subst hx)
      ((first | ((with_reducible refine w_s hS ?_ ?_ ?_ (fun x hx => ?_)); (focus decide); (focus (first | decide | omega)); (focus (first | decide | (simp only [sl]; omega)))) | ((with_reducible refine w_m hS ?_ ?_ ?_ ?_ ?_ (fun x hx => ?_)); (focus decide); (focus (first | decide | omega)); (focus omega); (focus (first | decide | omega)); (focus (first | decide | (simp only [ml]; omega)))) | (with_reducible refine w_k (by simp (disch := omega) only [w32_id]; exact rfl) ?_; ((with_reducible refine w_s hS ?_ ?_ ?_ (fun x hx => ?_)); (focus decide); (focus (first | decide | omega)); (focus (first | decide | (simp only [sl]; omega))))) | (with_reducible refine w_k (by simp (disch := omega) only [w32_id]; exact rfl) ?_; ((with_reducible refine w_m hS ?_ ?_ ?_ ?_ ?_ (fun x hx => ?_)); (focus decide); (focus (first | decide | omega)); (focus omega); (focus (first | decide | omega)); (focus (first | decide | (simp only [ml]; omega)))))); (try simp (disch := omega) only [Int.reduceToNat, tn_c, tn8, tn8i, tn5, tn5z, tn6, tn6z, tn1, u3_ne, u3_eq, u3_ni, u3_nk, f_30_1 hF] at hx); subst hx)
      ((first | ((with_reducible refine w_s hS ?_ ?_ ?_ (fun x hx => ?_)); (focus decide); (focus (first | decide | omega)); (focus (first | decide | (simp only [sl]; omega)))) | ((with_reducible refine w_m hS ?_ ?_ ?_ ?_ ?_ (fun x hx => ?_)); (focus decide); (focus (first | decide | omega)); (focus omega); (focus (first | decide | omega)); (focus (first | decide | (simp only [ml]; omega)))) | (with_reducible refine w_k (by simp (disch := omega) only [w32_id]; exact rfl) ?_; ((with_reducible refine w_s hS ?_ ?_ ?_ (fun x hx => ?_)); (focus decide); (focus (first | decide | omega)); (focus (first | decide | (simp only [sl]; omega))))) | (with_reducible refine w_k (by simp (disch := omega) only [w32_id]; exact rfl) ?_; ((with_reducible refine w_m hS ?_ ?_ ?_ ?_ ?_ (fun x hx => ?_)); (focus decide); (focus (first | decide | omega)); (focus omega); (focus (first | decide | omega)); (focus (first | decide | (simp only [ml]; omega)))))); (try simp (disch := omega) only [Int.reduceToNat, tn_c, tn8, tn8i, tn5, tn5z, tn6, tn6z, tn1, u3_ne, u3_eq, u3_ni, u3_nk, e1] at hx); subst hx)
      ((first | ((with_reducible refine w_s hS ?_ ?_ ?_ (fun x hx => ?_)); (focus decide); (focus (first | decide | omega)); (focus (first | decide | (simp only [sl]; omega)))) | ((with_reducible refine w_m hS ?_ ?_ ?_ ?_ ?_ (fun x hx => ?_)); (focus decide); (focus (first | decide | omega)); (focus omega); (focus (first | decide | omega)); (focus (first | decide | (simp only [ml]; omega)))) | (with_reducible refine w_k (by simp (disch := omega) only [w32_id]; exact rfl) ?_; ((with_reducible refine w_s hS ?_ ?_ ?_ (fun x hx => ?_)); (focus decide); (focus (first | decide | omega)); (focus (first | decide | (simp only [sl]; omega))))) | (with_reducible refine w_k (by simp (disch := omega) only [w32_id]; exact rfl) ?_; ((with_reducible refine w_m hS ?_ ?_ ?_ ?_ ?_ (fun x hx => ?_)); (focus decide); (focus (first | decide | omega)); (focus omega); (focus (first | decide | omega)); (focus (first | decide | (simp only [ml]; omega)))))); (try simp (disch := omega) only [Int.reduceToNat, tn_c, tn8, tn8i, tn5, tn5z, tn6, tn6z, tn1, u3_ne, u3_eq, u3_ni, u3_nk, ea] at hx); subst hx)
      refine bc_w (m := (plc V s (V 125 0 a)).toNat) (by omega) l0 l1 ?_
      ((first | ((with_reducible refine w_s hS ?_ ?_ ?_ (fun x hx => ?_)); (focus decide); (focus (first | decide | omega)); (focus (first | decide | (simp only [sl]; omega)))) | ((with_reducible refine w_m hS ?_ ?_ ?_ ?_ ?_ (fun x hx => ?_)); (focus decide); (focus (first | decide | omega)); (focus omega); (focus (first | decide | omega)); (focus (first | decide | (simp only [ml]; omega)))) | (with_reducible refine w_k (by simp (disch := omega) only [w32_id]; exact rfl) ?_; ((with_reducible refine w_s hS ?_ ?_ ?_ (fun x hx => ?_)); (focus decide); (focus (first | decide | omega)); (focus (first | decide | (simp only [sl]; omega))))) | (with_reducible refine w_k (by simp (disch := omega) only [w32_id]; exact rfl) ?_; ((with_reducible refine w_m hS ?_ ?_ ?_ ?_ ?_ (fun x hx => ?_)); (focus decide); (focus (first | decide | omega)); (focus omega); (focus (first | decide | omega)); (focus (first | decide | (simp only [ml]; omega)))))); (try simp (disch := omega) only [Int.reduceToNat, tn_c, tn8, tn8i, tn5, tn5z, tn6, tn6z, tn1, u3_ne, u3_eq, u3_ni, u3_nk, e3] at hx); subst hx)
      unfold gjX3_makeTruths_182
      refine w_ite (fun z => ?_) (fun z => ?_)
      · rw [lc_lt] at z
        refine w_ms hS (by decide) (by omega) (by omega) (by omega) (by simp only [ml]; omega) ?_
        rw [tn_c, tn_c]
        refine w_ret (fin _ ⟨by omega, by decide, fun p hp => ?_⟩)
        rw [cf, if_neg (by omega), if_neg (by omega), if_neg (by omega)]
        have : p = 0 := by omega
        subst this
        refine ⟨fun w => absurd w (by unfold bt; decide), fun w => absurd w (by omega)⟩
      · rw [lc_lt] at z
        refine w_ms hS (by decide) (by omega) (by omega) (by omega) (by simp only [ml]; omega) ?_
        rw [tn_c, tn_c]
        refine w_ret (fin _ ⟨by omega, by decide, fun p hp => ?_⟩)
        rw [cf, if_neg (by omega), if_neg (by omega), if_neg (by omega)]
        have : p = 0 := by omega
        subst this
        refine ⟨fun w => by omega, fun w => by unfold bt; decide⟩
end Cls
