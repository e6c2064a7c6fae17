section Cls
variable {V : GV} {R : GR} {T : GV → Prop} {Q : Int → GS → Prop}
theorem INV.sht (hI : INV T V R) {h : Nat} (hh : h < rC R 30) : ∃ s : Nat, V 30 h 0 = (s : Int) ∧ (V 30 h 0).toNat = s ∧ shk V R s 120 := by
  obtain ⟨a, b, c, d⟩ := hI.IHs.1 h hh
  obtain ⟨_, _, _, _, _, e2, e3, _⟩ := hI.SH.2.2
  refine ⟨(V 30 h 0).toNat, by omega, rfl, by omega, by omega, by omega, c, d, f_31_0 hI.RF (by omega), f_31_1 hI.RF (by omega)⟩
theorem w_rowAround {q : Nat} {v : Int} {f : Int × GS → GO} (hS : SH R) (hF : RF V R) (hQ : IQ V R) (hq : q < rC R 20) (m1 : V 103 0 q = 1) (k : Wp (f (rowf V q v (V 113 0 q).toNat 0, (V, R))) Q) : Wp ((g_X5_rowAround (q : Int) v (V, R)).bind f) Q := by
  obtain ⟨_, _, _, _, ⟨e9, c0, c8⟩, _⟩ := (hQ.1 q hq).1
  obtain ⟨hr, hl, _⟩ := (hQ.1 q hq).2.2.1
  obtain ⟨l22, l23, l24, _⟩ := hl m1
  obtain ⟨s21, s22, s23, s24, _⟩ := hS.2.2
  refine w_bind ?_
  unfold g_X5_rowAround
  refine w_gv (by omega) ?_
  refine w_for (V 113 0 q).toNat (fun i G => G = (V, R) ∧ rowf V q v (V 113 0 q).toNat 0 = rowf V q v ((V 113 0 q).toNat - i) i) ?_ (i := 0) (by omega) (by omega) ⟨rfl, rfl⟩
  rintro i G hi ⟨rfl, ei⟩ self ih
  unfold glX5_rowAround_2 gjX5_rowAround_34
  ((first | ((with_reducible refine w_s hS ?_ ?_ ?_ (fun x hx => ?_)); (focus decide); (focus (first | decide | omega)); (focus (first | decide | (simp only [sl]; omega)))) | ((with_reducible refine w_m hS ?_ ?_ ?_ ?_ ?_ (fun x hx => ?_)); (focus decide); (focus (first | decide | omega)); (focus omega); (focus (first | decide | omega)); (focus (first | decide | (simp only [ml]; omega)))) | (with_reducible refine w_k (by simp (disch := omega) only [w32_id]; exact rfl) ?_; ((with_reducible refine w_s hS ?_ ?_ ?_ (fun x hx => ?_)); (focus decide); (focus (first | decide | omega)); (focus (first | decide | (simp only [sl]; omega))))) | (with_reducible refine w_k (by simp (disch := omega) only [w32_id]; exact rfl) ?_; ((with_reducible refine w_m hS ?_ ?_ ?_ ?_ ?_ (fun x hx => ?_)); (focus decide); (focus (first | decide | omega)); (focus omega); (focus (first | decide | omega)); (focus (first | decide | (simp only [ml]; omega)))))); (try simp (disch := omega) only [Int.reduceToNat, tn_c, tn8, tn8i, tn5, tn5z, tn6, tn6z, tn1, u3_ne, u3_eq, u3_ni, u3_nk, e9] at hx); subst hx)
  refine w_ite (fun hc => w_ret ?_) (fun hc => ?_)
  · have e : rowf V q v (V 113 0 q).toNat 0 = -1 := by
      rw [ei, show (V 113 0 q).toNat - i = 0 by omega]; rfl
    rw [e] at k; exact k
  obtain ⟨a, b, _⟩ := hr i (by omega)
  have er : rowf V q v ((V 113 0 q).toNat - i) i = if V 110 0 (8 * q + i) ≤ v ∧ v ≤ V 111 0 (8 * q + i) then (i : Int) else rowf V q v ((V 113 0 q).toNat - (i + 1)) (i + 1) := by
    rw [show (V 113 0 q).toNat - i = ((V 113 0 q).toNat - (i + 1)) + 1 by omega]; rfl
  ((first | ((with_reducible refine w_s hS ?_ ?_ ?_ (fun x hx => ?_)); (focus decide); (focus (first | decide | omega)); (focus (first | decide | (simp only [sl]; omega)))) | ((with_reducible refine w_m hS ?_ ?_ ?_ ?_ ?_ (fun x hx => ?_)); (focus decide); (focus (first | decide | omega)); (focus omega); (focus (first | decide | omega)); (focus (first | decide | (simp only [ml]; omega)))) | (with_reducible refine w_k (by simp (disch := omega) only [w32_id]; exact rfl) ?_; ((with_reducible refine w_s hS ?_ ?_ ?_ (fun x hx => ?_)); (focus decide); (focus (first | decide | omega)); (focus (first | decide | (simp only [sl]; omega))))) | (with_reducible refine w_k (by simp (disch := omega) only [w32_id]; exact rfl) ?_; ((with_reducible refine w_m hS ?_ ?_ ?_ ?_ ?_ (fun x hx => ?_)); (focus decide); (focus (first | decide | omega)); (focus omega); (focus (first | decide | omega)); (focus (first | decide | (simp only [ml]; omega)))))); (try simp (disch := omega) only [Int.reduceToNat, tn_c, tn8, tn8i, tn5, tn5z, tn6, tn6z, tn1, u3_ne, u3_eq, u3_ni, u3_nk, f_20_6 hF] at hx); subst hx)
  (((with_reducible refine w_gl ?_ ?_ ?_ ?_ (fun x hx => ?_)); (focus omega); (focus (simp (disch := omega) only [tn_c, l22, a]; omega)); (focus omega); (focus (simp (disch := omega) only [tn_c, l22, a]; omega))); (try simp (disch := omega) only [Int.reduceToNat, tn_c, tn8, tn8i, tn5, tn5z, tn6, tn6z, tn1, u3_ne, u3_eq, u3_ni, u3_nk, l22, a] at hx); subst hx)
  refine w_ite (fun hd => ?_) (fun hd => ?_)
  · rw [gt_iff_lt, ← gt_iff_lt, lc_gt] at hd
    exact ih _ (by omega) ⟨rfl, by rw [ei, er, if_neg (by omega)]⟩
  rw [lc_gt] at hd
  ((first | ((with_reducible refine w_s hS ?_ ?_ ?_ (fun x hx => ?_)); (focus decide); (focus (first | decide | omega)); (focus (first | decide | (simp only [sl]; omega)))) | ((with_reducible refine w_m hS ?_ ?_ ?_ ?_ ?_ (fun x hx => ?_)); (focus decide); (focus (first | decide | omega)); (focus omega); (focus (first | decide | omega)); (focus (first | decide | (simp only [ml]; omega)))) | (with_reducible refine w_k (by simp (disch := omega) only [w32_id]; exact rfl) ?_; ((with_reducible refine w_s hS ?_ ?_ ?_ (fun x hx => ?_)); (focus decide); (focus (first | decide | omega)); (focus (first | decide | (simp only [sl]; omega))))) | (with_reducible refine w_k (by simp (disch := omega) only [w32_id]; exact rfl) ?_; ((with_reducible refine w_m hS ?_ ?_ ?_ ?_ ?_ (fun x hx => ?_)); (focus decide); (focus (first | decide | omega)); (focus omega); (focus (first | decide | omega)); (focus (first | decide | (simp only [ml]; omega)))))); (try simp (disch := omega) only [Int.reduceToNat, tn_c, tn8, tn8i, tn5, tn5z, tn6, tn6z, tn1, u3_ne, u3_eq, u3_ni, u3_nk, f_20_7 hF] at hx); subst hx)
  (((with_reducible refine w_gl ?_ ?_ ?_ ?_ (fun x hx => ?_)); (focus omega); (focus (simp (disch := omega) only [tn_c, l23, b]; omega)); (focus omega); (focus (simp (disch := omega) only [tn_c, l23, b]; omega))); (try simp (disch := omega) only [Int.reduceToNat, tn_c, tn8, tn8i, tn5, tn5z, tn6, tn6z, tn1, u3_ne, u3_eq, u3_ni, u3_nk, l23, b] at hx); subst hx)
  refine w_ite (fun hd' => ?_) (fun hd' => w_ret ?_)
  · rw [lc_gt] at hd'
    exact ih _ (by omega) ⟨rfl, by rw [ei, er, if_neg (by omega)]⟩
  · rw [lc_gt] at hd'
    rw [ei, er, if_pos (by omega)] at k; exact k
theorem putv_o {s k : Nat} {v r : Int} {r' i' k' : Nat} (h : (r' ≠ 32 ∧ r' ≠ 33) ∨ i' ≠ s ∨ k' ≠ k) : putv V s k v r r' i' k' = V r' i' k' := by
  unfold putv
  rcases h with ⟨h1, h2⟩ | h | h
  · rw [u3_ne h2, u3_ne h1]
  · rw [u3_ni h, u3_ni h]
  · rw [u3_nk h, u3_nk h]
theorem putv_32 {s k : Nat} {v r : Int} : putv V s k v r 32 s k = v := by
  unfold putv; rw [u3_ne (by decide), u3_eq]
theorem putv_33 {s k : Nat} {v r : Int} : putv V s k v r 33 s k = r := by
  unfold putv; rw [u3_eq]
theorem stp.put {V' : GV} {h j q p s : Nat} {v r : Int} (hs : stp V V' h j) (e4 : V 4 0 j = (q : Int)) (hq : q < 24) (es : (V 30 h 0).toNat = s) (hp : p < 5) : stp V (putv V' s (5 * q + p) v r) h j := by
  unfold putv
  refine (hs.u ?_).u ?_
  · exact Or.inl ⟨by omega, Or.inl rfl, es.symm, p, hp, by rw [e4]; omega⟩
  · exact Or.inl ⟨by omega, Or.inr rfl, es.symm, p, hp, by rw [e4]; omega⟩
theorem w_makeMapped {h j q s : Nat} (hI : INV T V R) (hh : h < rC R 30) (hj : (j : Int) < V 100 0 29) (e4 : V 4 0 j = (q : Int)) (hq : q < rC R 20) (m1 : V 103 0 q = 1) (es : (V 30 h 0).toNat = s) (hk : shk V R s 120) {f : Int × GS → GO}
  (k : ∀ V', stp V V' h j → LE V' h j → Wp (f (0, (V', R))) Q) : Wp ((g_X3_makeMapped 0 (s : Int) (q : Int) (V, R)).bind f) Q := by
  have hS := hI.SH
  have hF := hI.RF
  have hQ := hI.IQ
  have hp := hI.pers hh
  rw [es] at hp
  have hn := hI.IN.1.1
  have hpl := plc_q hQ hp hq
  obtain ⟨⟨_, ⟨e1, _, _⟩, _⟩, _⟩ := hQ.1 q hq
  obtain ⟨e3, b0, b1, k0, rb⟩ := (hQ.1 q hq).2.2.2.1 m1
  obtain ⟨b, eb⟩ : ∃ b : Nat, V 104 0 q = (b : Int) := ⟨(V 104 0 q).toNat, by omega⟩
  rw [eb] at e3 b1
  refine w_bind ?_
  unfold g_X3_makeMapped
  refine w_gv (by omega) ?_
  ((first | ((with_reducible refine w_s hS ?_ ?_ ?_ (fun x hx => ?_)); (focus decide); (focus (first | decide | omega)); (focus (first | decide | (simp only [sl]; omega)))) | ((with_reducible refine w_m hS ?_ ?_ ?_ ?_ ?_ (fun x hx => ?_)); (focus decide); (focus (first | decide | omega)); (focus omega); (focus (first | decide | omega)); (focus (first | decide | (simp only [ml]; omega)))) | (with_reducible refine w_k (by simp (disch := omega) only [w32_id]; exact rfl) ?_; ((with_reducible refine w_s hS ?_ ?_ ?_ (fun x hx => ?_)); (focus decide); (focus (first | decide | omega)); (focus (first | decide | (simp only [sl]; omega))))) | (with_reducible refine w_k (by simp (disch := omega) only [w32_id]; exact rfl) ?_; ((with_reducible refine w_m hS ?_ ?_ ?_ ?_ ?_ (fun x hx => ?_)); (focus decide); (focus (first | decide | omega)); (focus omega); (focus (first | decide | omega)); (focus (first | decide | (simp only [ml]; omega)))))); (try simp (disch := omega) only [Int.reduceToNat, tn_c, tn8, tn8i, tn5, tn5z, tn6, tn6z, tn1, u3_ne, u3_eq, u3_ni, u3_nk, f_1_0 hF] at hx); subst hx)
  ((first | ((with_reducible refine w_s hS ?_ ?_ ?_ (fun x hx => ?_)); (focus decide); (focus (first | decide | omega)); (focus (first | decide | (simp only [sl]; omega)))) | ((with_reducible refine w_m hS ?_ ?_ ?_ ?_ ?_ (fun x hx => ?_)); (focus decide); (focus (first | decide | omega)); (focus omega); (focus (first | decide | omega)); (focus (first | decide | (simp only [ml]; omega)))) | (with_reducible refine w_k (by simp (disch := omega) only [w32_id]; exact rfl) ?_; ((with_reducible refine w_s hS ?_ ?_ ?_ (fun x hx => ?_)); (focus decide); (focus (first | decide | omega)); (focus (first | decide | (simp only [sl]; omega))))) | (with_reducible refine w_k (by simp (disch := omega) only [w32_id]; exact rfl) ?_; ((with_reducible refine w_m hS ?_ ?_ ?_ ?_ ?_ (fun x hx => ?_)); (focus decide); (focus (first | decide | omega)); (focus omega); (focus (first | decide | omega)); (focus (first | decide | (simp only [ml]; omega)))))); (try simp (disch := omega) only [Int.reduceToNat, tn_c, tn8, tn8i, tn5, tn5z, tn6, tn6z, tn1, u3_ne, u3_eq, u3_ni, u3_nk, l_2 hI.IL] at hx); subst hx)
  ((first | ((with_reducible refine w_s hS ?_ ?_ ?_ (fun x hx => ?_)); (focus decide); (focus (first | decide | omega)); (focus (first | decide | (simp only [sl]; omega)))) | ((with_reducible refine w_m hS ?_ ?_ ?_ ?_ ?_ (fun x hx => ?_)); (focus decide); (focus (first | decide | omega)); (focus omega); (focus (first | decide | omega)); (focus (first | decide | (simp only [ml]; omega)))) | (with_reducible refine w_k (by simp (disch := omega) only [w32_id]; exact rfl) ?_; ((with_reducible refine w_s hS ?_ ?_ ?_ (fun x hx => ?_)); (focus decide); (focus (first | decide | omega)); (focus (first | decide | (simp only [sl]; omega))))) | (with_reducible refine w_k (by simp (disch := omega) only [w32_id]; exact rfl) ?_; ((with_reducible refine w_m hS ?_ ?_ ?_ ?_ ?_ (fun x hx => ?_)); (focus decide); (focus (first | decide | omega)); (focus omega); (focus (first | decide | omega)); (focus (first | decide | (simp only [ml]; omega)))))); (try simp (disch := omega) only [Int.reduceToNat, tn_c, tn8, tn8i, tn5, tn5z, tn6, tn6z, tn1, u3_ne, u3_eq, u3_ni, u3_nk, e1] at hx); subst hx)
  have hro : V 102 0 q = -1 ∨ ∃ m : Nat, V 102 0 q = (m : Int) ∧ m < 24 ∧ 5 * m < 120 := by
    by_cases e : V 102 0 q = -1
    · exact Or.inl e
    · obtain ⟨r, er, _, hr, _⟩ := hQ.ro hq e
      exact Or.inr ⟨r, er, by omega, by omega⟩
  refine w_placesOf hS hk hro hpl.1 hpl.2 ?_
  obtain ⟨n, en⟩ : ∃ n : Nat, plc V s (V 102 0 q) = (n : Int) := ⟨(plc V s (V 102 0 q)).toNat, by omega⟩
  dsimp only
  refine w_for n (fun i G => ∃ V', G = (V', R) ∧ stp V V' h j ∧ ∀ p, p < i → (V' 32 s (5 * q + p), V' 33 s (5 * q + p)) = mapv V q (V 32 s (5 * b + p)) (V 33 s (5 * b + p))) ?_ (i := 0) (by omega) (by omega) ⟨V, rfl, stp.rf V h j, fun p hp => absurd hp (by omega)⟩
  rintro i G hi ⟨V', rfl, hs, hv⟩ self ih
  have sm := hs.same
  have hk' := hk.cg (V' := V') (sm.r 31 rfl)
  have hF' := cg_RF sm rfl hF
  have e20 := sm.r 20 rfl
  have eB : ∀ p, p < 5 → V' 32 s (5 * b + p) = V 32 s (5 * b + p) ∧ V' 33 s (5 * b + p) = V 33 s (5 * b + p) := by
    intro p hp
    constructor
    all_goals
      refine hs _ _ _ (fun ht => ?_)
      obtain ⟨t, p', et, _, _, _, ek, _⟩ := tgt.m hI hj ht (by decide)
      omega
  unfold glX3_makeMapped_20 gjX3_makeMapped_115
  rw [en]
  refine w_ite (fun hc => w_ret ?_) (fun hc => ?_)
  · have ei : i = n := by omega
    subst ei
    refine k V' hs ?_
    unfold LE
    rw [sm.r 4 rfl, e4, sm.f 30 0 rfl, es]
    refine ⟨fun _ => ?_, fun h => absurd h (by omega)⟩
    rw [tn_c]
    unfold LEq
    rw [sm.r 103 rfl, sm.r 102 rfl, sm.r 104 rfl, m1, eb, tn_c]
    refine ⟨fun _ p hpp => ?_, fun h => absurd h (by omega), fun h => absurd h (by omega)⟩
    have ep : plc V' s (V 102 0 q) = plc V s (V 102 0 q) := by
      unfold plc
      by_cases e : V 102 0 q = -1
      · rw [if_pos e, if_pos e]
      · obtain ⟨r, er, _, hr, k5, m0, _⟩ := hQ.ro hq e
        rw [if_neg e, if_neg e, er, tn_c]
        exact (hs.told hI hj (Or.inl m0)).z.1
    rw [ep, en] at hpp
    rw [hv p (by omega), (eB p (by omega)).1, (eB p (by omega)).2]
    exact (mapv_cg (by have := (hQ.1 q hq).1.2.2.2.2.1; omega) ⟨sm.r 113 rfl _ _, fun _ _ => ⟨sm.r 110 rfl _ _, sm.r 111 rfl _ _, sm.r 112 rfl _ _⟩⟩).symm
  have hi5 : i < 5 := by omega
  ((first | ((with_reducible refine w_s hS ?_ ?_ ?_ (fun x hx => ?_)); (focus decide); (focus (first | decide | omega)); (focus (first | decide | (simp only [sl]; omega)))) | ((with_reducible refine w_m hS ?_ ?_ ?_ ?_ ?_ (fun x hx => ?_)); (focus decide); (focus (first | decide | omega)); (focus omega); (focus (first | decide | omega)); (focus (first | decide | (simp only [ml]; omega)))) | (with_reducible refine w_k (by simp (disch := omega) only [w32_id]; exact rfl) ?_; ((with_reducible refine w_s hS ?_ ?_ ?_ (fun x hx => ?_)); (focus decide); (focus (first | decide | omega)); (focus (first | decide | (simp only [sl]; omega))))) | (with_reducible refine w_k (by simp (disch := omega) only [w32_id]; exact rfl) ?_; ((with_reducible refine w_m hS ?_ ?_ ?_ ?_ ?_ (fun x hx => ?_)); (focus decide); (focus (first | decide | omega)); (focus omega); (focus (first | decide | omega)); (focus (first | decide | (simp only [ml]; omega)))))); (try simp (disch := omega) only [Int.reduceToNat, tn_c, tn8, tn8i, tn5, tn5z, tn6, tn6z, tn1, u3_ne, u3_eq, u3_ni, u3_nk, e20, e3] at hx); subst hx)
  refine w_spot (by omega) hi5 ?_
  refine w_spot (by omega) hi5 ?_
  refine w_31 hS hk' (Or.inl rfl) ?_
  refine w_32 hk' (by omega) ?_
  refine w_rowAround hS hF' (cg_IQ sm rfl hQ) hq (by rw [sm.r 103 rfl]; exact m1) ?_
  refine w_31 hS hk' (Or.inr rfl) ?_
  refine w_33 hk' (by omega) ?_
  dsimp only
  rw [(eB i hi5).1, (eB i hi5).2]
  have erow : rowf V' q (V 32 s (5 * b + i)) (V' 113 0 q).toNat 0 = rowf V q (V 32 s (5 * b + i)) (V 113 0 q).toNat 0 := by
    rw [sm.r 113 rfl]; exact rowf_cg (sm.r 110 rfl) (sm.r 111 rfl)
  rw [erow]
  have next : ∀ v r, (v, r) = mapv V q (V 32 s (5 * b + i)) (V 33 s (5 * b + i)) → Wp (self (w32 ((i : Int) + 1)) (putv V' s (5 * q + i) v r, R)) (fun r G => Wp (f (r, G)) Q) := by
    intro v r e
    refine ih _ (by omega) ⟨_, rfl, hs.put e4 (by omega) es hi5, fun p hp => ?_⟩
    by_cases ep : p = i
    · subst ep; rw [putv_32, putv_33]; exact e
    · rw [putv_o (Or.inr (Or.inr (by omega))), putv_o (Or.inr (Or.inr (by omega)))]
      exact hv p (by omega)
  refine w_ite (fun h0 => ?_) (fun h0 => ?_)
  · refine w_ite (fun hr => ?_) (fun hr => ?_)
    · obtain ⟨hr', hl, _⟩ := (hQ.1 q hq).2.2.1
      obtain ⟨_, _, l24, _⟩ := hl m1
      obtain ⟨s21, s22, s23, s24, _⟩ := hS.2.2
      rcases rowf_lt (V := V) (q := q) (v := V 32 s (5 * b + i)) (k := (V 113 0 q).toNat) (i := 0) with h | h
      · exact absurd h hr
      obtain ⟨t, et⟩ : ∃ t : Nat, rowf V q (V 32 s (5 * b + i)) (V 113 0 q).toNat 0 = (t : Int) := ⟨_, (Int.toNat_of_nonneg (by omega)).symm⟩
      rw [et] at h ⊢
      have h8 := (hQ.1 q hq).1.2.2.2.2.1
      ((first | ((with_reducible refine w_s hS ?_ ?_ ?_ (fun x hx => ?_)); (focus decide); (focus (first | decide | omega)); (focus (first | decide | (simp only [sl]; omega)))) | ((with_reducible refine w_m hS ?_ ?_ ?_ ?_ ?_ (fun x hx => ?_)); (focus decide); (focus (first | decide | omega)); (focus omega); (focus (first | decide | omega)); (focus (first | decide | (simp only [ml]; omega)))) | (with_reducible refine w_k (by simp (disch := omega) only [w32_id]; exact rfl) ?_; ((with_reducible refine w_s hS ?_ ?_ ?_ (fun x hx => ?_)); (focus decide); (focus (first | decide | omega)); (focus (first | decide | (simp only [sl]; omega))))) | (with_reducible refine w_k (by simp (disch := omega) only [w32_id]; exact rfl) ?_; ((with_reducible refine w_m hS ?_ ?_ ?_ ?_ ?_ (fun x hx => ?_)); (focus decide); (focus (first | decide | omega)); (focus omega); (focus (first | decide | omega)); (focus (first | decide | (simp only [ml]; omega)))))); (try simp (disch := omega) only [Int.reduceToNat, tn_c, tn8, tn8i, tn5, tn5z, tn6, tn6z, tn1, u3_ne, u3_eq, u3_ni, u3_nk, f_20_8 hF'] at hx); subst hx)
      (((with_reducible refine w_gl ?_ ?_ ?_ ?_ (fun x hx => ?_)); (focus omega); (focus (simp (disch := omega) only [tn_c, l24, sm.r 24 rfl, (hr' t (by omega)).2.2]; omega)); (focus omega); (focus (simp (disch := omega) only [tn_c, l24, sm.r 24 rfl, (hr' t (by omega)).2.2]; omega))); (try simp (disch := omega) only [Int.reduceToNat, tn_c, tn8, tn8i, tn5, tn5z, tn6, tn6z, tn1, u3_ne, u3_eq, u3_ni, u3_nk, l24, sm.r 24 rfl, (hr' t (by omega)).2.2] at hx); subst hx)
      refine w_put hS hk' (by omega) ?_
      refine next _ _ ?_
      unfold mapv
      rw [et, if_neg (by omega), if_neg (by omega), tn_c]
    · refine w_lack hS hk' (by omega) ?_
      refine next _ _ ?_
      unfold mapv
      rw [if_neg (by omega), if_pos (by omega)]
  · refine w_31 hS hk' (Or.inr rfl) ?_
    refine w_33 hk' (by omega) ?_
    rw [(eB i hi5).2]
    refine w_lack hS hk' (by omega) ?_
    refine next _ _ ?_
    unfold mapv
    rw [if_pos h0]
end Cls
