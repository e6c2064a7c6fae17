section Cls
variable {V : GV} {R : GR} {T : GV → Prop} {Q : Int → GS → Prop}
theorem sumv_nn {s b : Nat} : ∀ n : Nat, 0 ≤ (sumv V s b n).2
  | 0 => by unfold sumv; omega
  | n + 1 => by
    have := sumv_nn (s := s) (b := b) n
    unfold sumv
    by_cases c : V 33 s (5 * b + n) = 0
    · rw [if_pos c]; show 0 ≤ (sumv V s b n).2 + 1; omega
    · rw [if_neg c]; exact this
theorem LE_top {h j q s : Nat} (hI : INV T V R) (hh : h < rC R 30) (hj : (j : Int) < V 100 0 29) (e4 : V 4 0 j = (q : Int)) (hq : q < rC R 20) (es : (V 30 h 0).toNat = s) {v r : Int}
  (h2 : V 103 0 q = 2 → v = cnt (V 34 h (V 105 0 q).toNat) (V 32 s (5 * (V 104 0 q).toNat)).toNat ∧ r = 0)
  (h3 : V 103 0 q = 3 → (v, r) = sumr V q (sumv V s (V 104 0 q).toNat (V 32 s (5 * (V 102 0 (V 104 0 q).toNat).toNat)).toNat)) (m1 : V 103 0 q ≠ 1) : stp V (putv V s (5 * q) v r) h j ∧ LE (putv V s (5 * q) v r) h j := by
  have hn := hI.IN.1.1
  have hs : stp V (putv V s (5 * q) v r) h j := (stp.rf V h j).put (p := 0) e4 (by omega) es (by omega)
  have sm := hs.same
  have hQ := hI.IQ
  refine ⟨hs, ?_⟩
  unfold LE
  rw [sm.r 4 rfl, e4, sm.f 30 0 rfl, es]
  refine ⟨fun _ => ?_, fun h => absurd h (by omega)⟩
  rw [tn_c]
  unfold LEq
  rw [sm.r 103 rfl, putv_32, putv_33]
  refine ⟨fun m => absurd m m1, fun m => ?_, fun m => ?_⟩
  · obtain ⟨_, c0, c1, b0, b1, rb, _, _⟩ := (hQ.1 q hq).2.2.2.2.1 m
    obtain ⟨r', er, hr, k5⟩ := hI.IC.re (c := (V 105 0 q).toNat) (by omega) (by omega)
    rw [sm.r 105 rfl, sm.r 104 rfl, putv_o (Or.inl ⟨by decide, by decide⟩), putv_o (Or.inr (Or.inr (by omega)))]
    exact h2 m
  · obtain ⟨_, b0, b1, rb, _, _⟩ := (hQ.1 q hq).2.2.2.2.2 m
    obtain ⟨r', er, hr1, hr, k5, m0, _⟩ := hQ.ro (q := (V 104 0 q).toNat) (by omega) (by omega)
    rw [sm.r 104 rfl, sm.r 102 rfl, er, tn_c, putv_o (Or.inr (Or.inr (by omega))), sumr_cg (sm.r 101 rfl _ _)]
    have h3 := h3 m
    rw [er, tn_c] at h3
    have hp := hI.pers hh r' hr k5
    rw [es] at hp
    rw [sumv_cg5 (V := V) (fun p hp => ⟨putv_o (Or.inr (Or.inr (by omega))), putv_o (Or.inr (Or.inr (by omega)))⟩) (by omega)]
    exact h3
theorem w_makeSum {h j q s : Nat} (hI : INV T V R) (hh : h < rC R 30) (hj : (j : Int) < V 100 0 29) (e4 : V 4 0 j = (q : Int)) (hq : q < rC R 20) (m3 : V 103 0 q = 3) (es : (V 30 h 0).toNat = s) (hk : shk V R s 120) {f : Int × GS → GO}
  (k : ∀ V', stp V V' h j → LE V' h j → Wp (f (0, (V', R))) Q) : Wp ((g_X3_makeSum 0 (s : Int) (q : Int) (V, R)).bind f) Q := by
  have hS := hI.SH
  have hF := hI.RF
  have hQ := hI.IQ
  have hp := hI.pers hh
  rw [es] at hp
  have hn := hI.IN.1.1
  obtain ⟨⟨⟨e0, _, _⟩, _⟩, _⟩ := hQ.1 q hq
  obtain ⟨e3, b0, b1, rb, r1, _⟩ := (hQ.1 q hq).2.2.2.2.2 m3
  obtain ⟨b, eb⟩ : ∃ b : Nat, V 104 0 q = (b : Int) := ⟨(V 104 0 q).toNat, by omega⟩
  rw [eb] at e3 b1 rb
  rw [tn_c] at rb
  obtain ⟨r', er, hr1, hr, k5, m0, _⟩ := hQ.ro (q := b) (by omega) (by omega)
  obtain ⟨⟨_, ⟨e1b, _, _⟩, _⟩, _⟩ := hQ.1 b (by omega)
  obtain ⟨p0, p5⟩ := hp r' hr k5
  obtain ⟨n, en⟩ : ∃ n : Nat, V 32 s (5 * r') = (n : Int) := ⟨(V 32 s (5 * r')).toNat, by omega⟩
  have fin : ∀ v r, (v, r) = sumr V q (sumv V s b n) → Wp (f (0, (putv V s (5 * q) v r, R))) Q := by
    intro v r e
    obtain ⟨h1, h2⟩ := LE_top hI hh hj e4 hq es (v := v) (r := r) (fun m => absurd m (by omega)) (fun _ => by rw [eb, tn_c, er, tn_c, en, tn_c]; exact e) (by omega)
    exact k _ h1 h2
  refine w_bind ?_
  unfold g_X3_makeSum
  refine w_gv (by omega) ?_
  ((first | ((with_reducible refine w_s hS ?_ ?_ ?_ (fun x hx => ?_)); (focus decide); (focus (first | decide | omega)); (focus (first | decide | (simp only [sl]; omega)))) | ((with_reducible refine w_m hS ?_ ?_ ?_ ?_ ?_ (fun x hx => ?_)); (focus decide); (focus (first | decide | omega)); (focus omega); (focus (first | decide | omega)); (focus (first | decide | (simp only [ml]; omega)))) | (with_reducible refine w_k (by simp (disch := omega) only [w32_id]; exact rfl) ?_; ((with_reducible refine w_s hS ?_ ?_ ?_ (fun x hx => ?_)); (focus decide); (focus (first | decide | omega)); (focus (first | decide | (simp only [sl]; omega))))) | (with_reducible refine w_k (by simp (disch := omega) only [w32_id]; exact rfl) ?_; ((with_reducible refine w_m hS ?_ ?_ ?_ ?_ ?_ (fun x hx => ?_)); (focus decide); (focus (first | decide | omega)); (focus omega); (focus (first | decide | omega)); (focus (first | decide | (simp only [ml]; omega)))))); (try simp (disch := omega) only [Int.reduceToNat, tn_c, tn8, tn8i, tn5, tn5z, tn6, tn6z, tn1, u3_ne, u3_eq, u3_ni, u3_nk, f_1_0 hF] at hx); subst hx)
  ((first | ((with_reducible refine w_s hS ?_ ?_ ?_ (fun x hx => ?_)); (focus decide); (focus (first | decide | omega)); (focus (first | decide | (simp only [sl]; omega)))) | ((with_reducible refine w_m hS ?_ ?_ ?_ ?_ ?_ (fun x hx => ?_)); (focus decide); (focus (first | decide | omega)); (focus omega); (focus (first | decide | omega)); (focus (first | decide | (simp only [ml]; omega)))) | (with_reducible refine w_k (by simp (disch := omega) only [w32_id]; exact rfl) ?_; ((with_reducible refine w_s hS ?_ ?_ ?_ (fun x hx => ?_)); (focus decide); (focus (first | decide | omega)); (focus (first | decide | (simp only [sl]; omega))))) | (with_reducible refine w_k (by simp (disch := omega) only [w32_id]; exact rfl) ?_; ((with_reducible refine w_m hS ?_ ?_ ?_ ?_ ?_ (fun x hx => ?_)); (focus decide); (focus (first | decide | omega)); (focus omega); (focus (first | decide | omega)); (focus (first | decide | (simp only [ml]; omega)))))); (try simp (disch := omega) only [Int.reduceToNat, tn_c, tn8, tn8i, tn5, tn5z, tn6, tn6z, tn1, u3_ne, u3_eq, u3_ni, u3_nk, l_2 hI.IL] at hx); subst hx)
  ((first | ((with_reducible refine w_s hS ?_ ?_ ?_ (fun x hx => ?_)); (focus decide); (focus (first | decide | omega)); (focus (first | decide | (simp only [sl]; omega)))) | ((with_reducible refine w_m hS ?_ ?_ ?_ ?_ ?_ (fun x hx => ?_)); (focus decide); (focus (first | decide | omega)); (focus omega); (focus (first | decide | omega)); (focus (first | decide | (simp only [ml]; omega)))) | (with_reducible refine w_k (by simp (disch := omega) only [w32_id]; exact rfl) ?_; ((with_reducible refine w_s hS ?_ ?_ ?_ (fun x hx => ?_)); (focus decide); (focus (first | decide | omega)); (focus (first | decide | (simp only [sl]; omega))))) | (with_reducible refine w_k (by simp (disch := omega) only [w32_id]; exact rfl) ?_; ((with_reducible refine w_m hS ?_ ?_ ?_ ?_ ?_ (fun x hx => ?_)); (focus decide); (focus (first | decide | omega)); (focus omega); (focus (first | decide | omega)); (focus (first | decide | (simp only [ml]; omega)))))); (try simp (disch := omega) only [Int.reduceToNat, tn_c, tn8, tn8i, tn5, tn5z, tn6, tn6z, tn1, u3_ne, u3_eq, u3_ni, u3_nk, f_1_0 hF] at hx); subst hx)
  ((first | ((with_reducible refine w_s hS ?_ ?_ ?_ (fun x hx => ?_)); (focus decide); (focus (first | decide | omega)); (focus (first | decide | (simp only [sl]; omega)))) | ((with_reducible refine w_m hS ?_ ?_ ?_ ?_ ?_ (fun x hx => ?_)); (focus decide); (focus (first | decide | omega)); (focus omega); (focus (first | decide | omega)); (focus (first | decide | (simp only [ml]; omega)))) | (with_reducible refine w_k (by simp (disch := omega) only [w32_id]; exact rfl) ?_; ((with_reducible refine w_s hS ?_ ?_ ?_ (fun x hx => ?_)); (focus decide); (focus (first | decide | omega)); (focus (first | decide | (simp only [sl]; omega))))) | (with_reducible refine w_k (by simp (disch := omega) only [w32_id]; exact rfl) ?_; ((with_reducible refine w_m hS ?_ ?_ ?_ ?_ ?_ (fun x hx => ?_)); (focus decide); (focus (first | decide | omega)); (focus omega); (focus (first | decide | omega)); (focus (first | decide | (simp only [ml]; omega)))))); (try simp (disch := omega) only [Int.reduceToNat, tn_c, tn8, tn8i, tn5, tn5z, tn6, tn6z, tn1, u3_ne, u3_eq, u3_ni, u3_nk, e3] at hx); subst hx)
  ((first | ((with_reducible refine w_s hS ?_ ?_ ?_ (fun x hx => ?_)); (focus decide); (focus (first | decide | omega)); (focus (first | decide | (simp only [sl]; omega)))) | ((with_reducible refine w_m hS ?_ ?_ ?_ ?_ ?_ (fun x hx => ?_)); (focus decide); (focus (first | decide | omega)); (focus omega); (focus (first | decide | omega)); (focus (first | decide | (simp only [ml]; omega)))) | (with_reducible refine w_k (by simp (disch := omega) only [w32_id]; exact rfl) ?_; ((with_reducible refine w_s hS ?_ ?_ ?_ (fun x hx => ?_)); (focus decide); (focus (first | decide | omega)); (focus (first | decide | (simp only [sl]; omega))))) | (with_reducible refine w_k (by simp (disch := omega) only [w32_id]; exact rfl) ?_; ((with_reducible refine w_m hS ?_ ?_ ?_ ?_ ?_ (fun x hx => ?_)); (focus decide); (focus (first | decide | omega)); (focus omega); (focus (first | decide | omega)); (focus (first | decide | (simp only [ml]; omega)))))); (try simp (disch := omega) only [Int.reduceToNat, tn_c, tn8, tn8i, tn5, tn5z, tn6, tn6z, tn1, u3_ne, u3_eq, u3_ni, u3_nk, l_2 hI.IL] at hx); subst hx)
  ((first | ((with_reducible refine w_s hS ?_ ?_ ?_ (fun x hx => ?_)); (focus decide); (focus (first | decide | omega)); (focus (first | decide | (simp only [sl]; omega)))) | ((with_reducible refine w_m hS ?_ ?_ ?_ ?_ ?_ (fun x hx => ?_)); (focus decide); (focus (first | decide | omega)); (focus omega); (focus (first | decide | omega)); (focus (first | decide | (simp only [ml]; omega)))) | (with_reducible refine w_k (by simp (disch := omega) only [w32_id]; exact rfl) ?_; ((with_reducible refine w_s hS ?_ ?_ ?_ (fun x hx => ?_)); (focus decide); (focus (first | decide | omega)); (focus (first | decide | (simp only [sl]; omega))))) | (with_reducible refine w_k (by simp (disch := omega) only [w32_id]; exact rfl) ?_; ((with_reducible refine w_m hS ?_ ?_ ?_ ?_ ?_ (fun x hx => ?_)); (focus decide); (focus (first | decide | omega)); (focus omega); (focus (first | decide | omega)); (focus (first | decide | (simp only [ml]; omega)))))); (try simp (disch := omega) only [Int.reduceToNat, tn_c, tn8, tn8i, tn5, tn5z, tn6, tn6z, tn1, u3_ne, u3_eq, u3_ni, u3_nk, e1b, er] at hx); subst hx)
  refine w_persons hS hk (by omega) (by omega) p0 p5 ?_
  dsimp only
  rw [en]
  refine w_for3 n (fun i a c G => G = (V, R) ∧ a = (sumv V s b i).1 ∧ c = if (sumv V s b i).2 = 0 then 1 else 0) ?_ (i := 0) (by omega) (by omega) ⟨rfl, rfl, rfl⟩
  rintro i a c G hi ⟨rfl, ea, ec⟩ self ih
  unfold glX3_makeSum_34 gjX3_makeSum_80
  refine w_ite (fun hc => ?_) (fun hc => ?_)
  · have ei : i = n := by omega
    subst ei
    have nn := sumv_nn (V := V) (s := s) (b := b) i
    have A : ∀ s0 : Int, s0 = (if V 101 0 q = 2 ∧ (sumv V s b i).1 ≠ w32 (sumv V s b i).1 then 1 else 0) → Wp (gjX3_makeSum_109 (s : Int) (q : Int) a c s0 (V, R)) (fun r G => Wp (f (r, G)) Q) := by
      intro s0 e
      unfold gjX3_makeSum_109 gjX3_makeSum_121
      refine w_ite (fun h1 => ?_) (fun h1 => w_ite (fun h2 => ?_) (fun h2 => ?_))
      · refine w_spotn (by omega) ?_
        refine w_lack hS hk (by omega) ?_
        refine w_ret (fin _ _ ?_)
        unfold sumr
        rw [if_pos]
        refine Or.inl (Decidable.byContradiction fun z => h1 ?_)
        rw [ec, if_neg z]
      · refine w_spotn (by omega) ?_
        refine w_put hS hk (by omega) ?_
        refine w_ret (fin _ _ ?_)
        unfold sumr
        rw [if_neg, ea]
        rintro (z | z)
        · rw [if_pos z] at ec; omega
        · rw [if_pos z] at e; omega
      · refine w_spotn (by omega) ?_
        refine w_lack hS hk (by omega) ?_
        refine w_ret (fin _ _ ?_)
        unfold sumr
        rw [if_pos]
        refine Or.inr (Decidable.byContradiction fun z => h2 ?_)
        rw [e, if_neg z]
    unfold gjX3_makeSum_108
    ((first | ((with_reducible refine w_s hS ?_ ?_ ?_ (fun x hx => ?_)); (focus decide); (focus (first | decide | omega)); (focus (first | decide | (simp only [sl]; omega)))) | ((with_reducible refine w_m hS ?_ ?_ ?_ ?_ ?_ (fun x hx => ?_)); (focus decide); (focus (first | decide | omega)); (focus omega); (focus (first | decide | omega)); (focus (first | decide | (simp only [ml]; omega)))) | (with_reducible refine w_k (by simp (disch := omega) only [w32_id]; exact rfl) ?_; ((with_reducible refine w_s hS ?_ ?_ ?_ (fun x hx => ?_)); (focus decide); (focus (first | decide | omega)); (focus (first | decide | (simp only [sl]; omega))))) | (with_reducible refine w_k (by simp (disch := omega) only [w32_id]; exact rfl) ?_; ((with_reducible refine w_m hS ?_ ?_ ?_ ?_ ?_ (fun x hx => ?_)); (focus decide); (focus (first | decide | omega)); (focus omega); (focus (first | decide | omega)); (focus (first | decide | (simp only [ml]; omega)))))); (try simp (disch := omega) only [Int.reduceToNat, tn_c, tn8, tn8i, tn5, tn5z, tn6, tn6z, tn1, u3_ne, u3_eq, u3_ni, u3_nk, e0] at hx); subst hx)
    refine w_ite (fun h1 => A 0 ?_) (fun h1 => w_ite (fun h2 => A 0 ?_) (fun h2 => A 1 ?_))
    · rw [if_neg (fun z => h1 z.1)]
    · rw [lc_eq, ea] at h2; rw [if_neg (fun z => z.2 h2)]
    · rw [lc_eq, ea] at h2; rw [if_pos ⟨by omega, h2⟩]
  · ((first | ((with_reducible refine w_s hS ?_ ?_ ?_ (fun x hx => ?_)); (focus decide); (focus (first | decide | omega)); (focus (first | decide | (simp only [sl]; omega)))) | ((with_reducible refine w_m hS ?_ ?_ ?_ ?_ ?_ (fun x hx => ?_)); (focus decide); (focus (first | decide | omega)); (focus omega); (focus (first | decide | omega)); (focus (first | decide | (simp only [ml]; omega)))) | (with_reducible refine w_k (by simp (disch := omega) only [w32_id]; exact rfl) ?_; ((with_reducible refine w_s hS ?_ ?_ ?_ (fun x hx => ?_)); (focus decide); (focus (first | decide | omega)); (focus (first | decide | (simp only [sl]; omega))))) | (with_reducible refine w_k (by simp (disch := omega) only [w32_id]; exact rfl) ?_; ((with_reducible refine w_m hS ?_ ?_ ?_ ?_ ?_ (fun x hx => ?_)); (focus decide); (focus (first | decide | omega)); (focus omega); (focus (first | decide | omega)); (focus (first | decide | (simp only [ml]; omega)))))); (try simp (disch := omega) only [Int.reduceToNat, tn_c, tn8, tn8i, tn5, tn5z, tn6, tn6z, tn1, u3_ne, u3_eq, u3_ni, u3_nk, e3] at hx); subst hx)
    refine w_spot (by omega) (by omega) ?_
    refine w_31 hS hk (Or.inr rfl) ?_
    refine w_33 hk (by omega) ?_
    refine w_ite (fun h0 => ?_) (fun h0 => ?_)
    · refine w_31 hS hk (Or.inl rfl) ?_
      refine w_32 hk (by omega) ?_
      refine ih _ _ _ (by omega) ⟨rfl, ?_, ?_⟩
      · unfold sumv; rw [if_pos h0, ea]
      · have nn := sumv_nn (V := V) (s := s) (b := b) i
        unfold sumv; rw [if_pos h0, if_neg]
        show ¬ (sumv V s b i).2 + 1 = 0
        omega
    · refine ih _ _ _ (by omega) ⟨rfl, ?_, ?_⟩
      · unfold sumv; rw [if_neg h0, ea]
      · unfold sumv; rw [if_neg h0, ec]
theorem LEc_bef {h j c s : Nat} (hI : INV T V R) (hj : (j : Int) < V 100 0 29) (es : (V 30 h 0).toNat = s) (hl : ∀ i, i < j → LE V h i) (hb : bef V j (24 + (c : Int))) : LEc V s h c := by
  obtain ⟨i, hi, e⟩ := hb
  have := (hl i hi).2 (by omega)
  rw [es, show (V 4 0 i - 24).toNat = c by omega] at this
  exact this
theorem w_makeHowMany {h j q : Nat} (hI : INV T V R) (hh : h < rC R 30) (hj : (j : Int) < V 100 0 29) (e4 : V 4 0 j = (q : Int)) (hq : q < rC R 20) (m2 : V 103 0 q = 2) (hl : ∀ i, i < j → LE V h i) {f : Int × GS → GO}
  (k : ∀ V', stp V V' h j → LE V' h j → Wp (f (0, (V', R))) Q) : Wp ((g_X3_makeHowMany 0 (h : Int) (q : Int) (V, R)).bind f) Q := by
  have hS := hI.SH
  have hF := hI.RF
  have hQ := hI.IQ
  have hn := hI.IN.1.1
  obtain ⟨_, hh40, hc60, _⟩ := hI.IN.1
  obtain ⟨_, t0, t1, mk, _, b2, _⟩ := (hI.IOO.1 j hj).1 (by omega)
  rw [e4] at t1 mk b2
  rw [tn_c] at mk b2
  obtain ⟨s, e30, es, hk⟩ := hI.sht hh
  have s34 := hS.2.2.2.2.2.2.1
  obtain ⟨e3, c0, c1, b0, b1, rb, _, _⟩ := (hQ.1 q hq).2.2.2.2.1 m2
  obtain ⟨c, ec⟩ : ∃ c : Nat, V 105 0 q = (c : Int) := ⟨(V 105 0 q).toNat, by omega⟩
  rw [ec] at e3 c1 rb
  rw [tn_c] at rb
  have b2 := b2 m2
  rw [ec] at b2
  obtain ⟨T0, T1, _⟩ := LEc_bef hI hj es hl b2
  have hp := hI.pers hh
  rw [es] at hp
  have pc := plc_c hI.IC hp (c := c) (by omega)
  refine w_bind ?_
  unfold g_X3_makeHowMany
  refine w_gv (by omega) ?_
  ((first | ((with_reducible refine w_s hS ?_ ?_ ?_ (fun x hx => ?_)); (focus decide); (focus (first | decide | omega)); (focus (first | decide | (simp only [sl]; omega)))) | ((with_reducible refine w_m hS ?_ ?_ ?_ ?_ ?_ (fun x hx => ?_)); (focus decide); (focus (first | decide | omega)); (focus omega); (focus (first | decide | omega)); (focus (first | decide | (simp only [ml]; omega)))) | (with_reducible refine w_k (by simp (disch := omega) only [w32_id]; exact rfl) ?_; ((with_reducible refine w_s hS ?_ ?_ ?_ (fun x hx => ?_)); (focus decide); (focus (first | decide | omega)); (focus (first | decide | (simp only [sl]; omega))))) | (with_reducible refine w_k (by simp (disch := omega) only [w32_id]; exact rfl) ?_; ((with_reducible refine w_m hS ?_ ?_ ?_ ?_ ?_ (fun x hx => ?_)); (focus decide); (focus (first | decide | omega)); (focus omega); (focus (first | decide | omega)); (focus (first | decide | (simp only [ml]; omega)))))); (try simp (disch := omega) only [Int.reduceToNat, tn_c, tn8, tn8i, tn5, tn5z, tn6, tn6z, tn1, u3_ne, u3_eq, u3_ni, u3_nk, e30] at hx); subst hx)
  refine w_spotn (by omega) ?_
  ((first | ((with_reducible refine w_s hS ?_ ?_ ?_ (fun x hx => ?_)); (focus decide); (focus (first | decide | omega)); (focus (first | decide | (simp only [sl]; omega)))) | ((with_reducible refine w_m hS ?_ ?_ ?_ ?_ ?_ (fun x hx => ?_)); (focus decide); (focus (first | decide | omega)); (focus omega); (focus (first | decide | omega)); (focus (first | decide | (simp only [ml]; omega)))) | (with_reducible refine w_k (by simp (disch := omega) only [w32_id]; exact rfl) ?_; ((with_reducible refine w_s hS ?_ ?_ ?_ (fun x hx => ?_)); (focus decide); (focus (first | decide | omega)); (focus (first | decide | (simp only [sl]; omega))))) | (with_reducible refine w_k (by simp (disch := omega) only [w32_id]; exact rfl) ?_; ((with_reducible refine w_m hS ?_ ?_ ?_ ?_ ?_ (fun x hx => ?_)); (focus decide); (focus (first | decide | omega)); (focus omega); (focus (first | decide | omega)); (focus (first | decide | (simp only [ml]; omega)))))); (try simp (disch := omega) only [Int.reduceToNat, tn_c, tn8, tn8i, tn5, tn5z, tn6, tn6z, tn1, u3_ne, u3_eq, u3_ni, u3_nk, f_30_1 hF] at hx); subst hx)
  ((first | ((with_reducible refine w_s hS ?_ ?_ ?_ (fun x hx => ?_)); (focus decide); (focus (first | decide | omega)); (focus (first | decide | (simp only [sl]; omega)))) | ((with_reducible refine w_m hS ?_ ?_ ?_ ?_ ?_ (fun x hx => ?_)); (focus decide); (focus (first | decide | omega)); (focus omega); (focus (first | decide | omega)); (focus (first | decide | (simp only [ml]; omega)))) | (with_reducible refine w_k (by simp (disch := omega) only [w32_id]; exact rfl) ?_; ((with_reducible refine w_s hS ?_ ?_ ?_ (fun x hx => ?_)); (focus decide); (focus (first | decide | omega)); (focus (first | decide | (simp only [sl]; omega))))) | (with_reducible refine w_k (by simp (disch := omega) only [w32_id]; exact rfl) ?_; ((with_reducible refine w_m hS ?_ ?_ ?_ ?_ ?_ (fun x hx => ?_)); (focus decide); (focus (first | decide | omega)); (focus omega); (focus (first | decide | omega)); (focus (first | decide | (simp only [ml]; omega)))))); (try simp (disch := omega) only [Int.reduceToNat, tn_c, tn8, tn8i, tn5, tn5z, tn6, tn6z, tn1, u3_ne, u3_eq, u3_ni, u3_nk, f_1_0 hF] at hx); subst hx)
  ((first | ((with_reducible refine w_s hS ?_ ?_ ?_ (fun x hx => ?_)); (focus decide); (focus (first | decide | omega)); (focus (first | decide | (simp only [sl]; omega)))) | ((with_reducible refine w_m hS ?_ ?_ ?_ ?_ ?_ (fun x hx => ?_)); (focus decide); (focus (first | decide | omega)); (focus omega); (focus (first | decide | omega)); (focus (first | decide | (simp only [ml]; omega)))) | (with_reducible refine w_k (by simp (disch := omega) only [w32_id]; exact rfl) ?_; ((with_reducible refine w_s hS ?_ ?_ ?_ (fun x hx => ?_)); (focus decide); (focus (first | decide | omega)); (focus (first | decide | (simp only [sl]; omega))))) | (with_reducible refine w_k (by simp (disch := omega) only [w32_id]; exact rfl) ?_; ((with_reducible refine w_m hS ?_ ?_ ?_ ?_ ?_ (fun x hx => ?_)); (focus decide); (focus (first | decide | omega)); (focus omega); (focus (first | decide | omega)); (focus (first | decide | (simp only [ml]; omega)))))); (try simp (disch := omega) only [Int.reduceToNat, tn_c, tn8, tn8i, tn5, tn5z, tn6, tn6z, tn1, u3_ne, u3_eq, u3_ni, u3_nk, l_2 hI.IL] at hx); subst hx)
  ((first | ((with_reducible refine w_s hS ?_ ?_ ?_ (fun x hx => ?_)); (focus decide); (focus (first | decide | omega)); (focus (first | decide | (simp only [sl]; omega)))) | ((with_reducible refine w_m hS ?_ ?_ ?_ ?_ ?_ (fun x hx => ?_)); (focus decide); (focus (first | decide | omega)); (focus omega); (focus (first | decide | omega)); (focus (first | decide | (simp only [ml]; omega)))) | (with_reducible refine w_k (by simp (disch := omega) only [w32_id]; exact rfl) ?_; ((with_reducible refine w_s hS ?_ ?_ ?_ (fun x hx => ?_)); (focus decide); (focus (first | decide | omega)); (focus (first | decide | (simp only [sl]; omega))))) | (with_reducible refine w_k (by simp (disch := omega) only [w32_id]; exact rfl) ?_; ((with_reducible refine w_m hS ?_ ?_ ?_ ?_ ?_ (fun x hx => ?_)); (focus decide); (focus (first | decide | omega)); (focus omega); (focus (first | decide | omega)); (focus (first | decide | (simp only [ml]; omega)))))); (try simp (disch := omega) only [Int.reduceToNat, tn_c, tn8, tn8i, tn5, tn5z, tn6, tn6z, tn1, u3_ne, u3_eq, u3_ni, u3_nk, e3] at hx); subst hx)
  ((first | ((with_reducible refine w_s hS ?_ ?_ ?_ (fun x hx => ?_)); (focus decide); (focus (first | decide | omega)); (focus (first | decide | (simp only [sl]; omega)))) | ((with_reducible refine w_m hS ?_ ?_ ?_ ?_ ?_ (fun x hx => ?_)); (focus decide); (focus (first | decide | omega)); (focus omega); (focus (first | decide | omega)); (focus (first | decide | (simp only [ml]; omega)))) | (with_reducible refine w_k (by simp (disch := omega) only [w32_id]; exact rfl) ?_; ((with_reducible refine w_s hS ?_ ?_ ?_ (fun x hx => ?_)); (focus decide); (focus (first | decide | omega)); (focus (first | decide | (simp only [sl]; omega))))) | (with_reducible refine w_k (by simp (disch := omega) only [w32_id]; exact rfl) ?_; ((with_reducible refine w_m hS ?_ ?_ ?_ ?_ ?_ (fun x hx => ?_)); (focus decide); (focus (first | decide | omega)); (focus omega); (focus (first | decide | omega)); (focus (first | decide | (simp only [ml]; omega)))))); (try simp (disch := omega) only [Int.reduceToNat, tn_c, tn8, tn8i, tn5, tn5z, tn6, tn6z, tn1, u3_ne, u3_eq, u3_ni, u3_nk, rb] at hx); subst hx)
  refine bc_w (m := (plc V s (V 125 0 c)).toNat) (by omega) T0 T1 ?_
  refine w_put hS hk (by omega) ?_
  obtain ⟨h1, h2⟩ := LE_top hI hh hj e4 hq es (v := cnt (V 34 h c) (plc V s (V 125 0 c)).toNat) (r := 0) (fun m => ⟨by
    rw [ec, tn_c, rb]; unfold plc; rw [if_neg (by omega)], rfl⟩) (fun m => absurd m (by omega)) (by omega)
  exact w_ret (k _ h1 h2)
end Cls
