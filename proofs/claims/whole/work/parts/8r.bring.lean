section Merge
variable {V : GV} {R : GR} {Q : Int → GS → Prop}
theorem w_bringBack {W0 : GV} {e h s t n : Nat} {f : Int × GS → GO} (hI : INV IT V R) (he : e < rC R 50) (hh : h < rN R 51 e) (es : V 30 h 0 = (s : Int)) (et : V 51 e h = (t : Int)) (en : V 50 e 1 = (n : Int)) (hn : n ≤ rC R 20) (hst : s ≠ t) (hs : shk V R s 120) (ht : shk V R t (5 * n)) (ar : AR V t 133 134 (5760 * e + 144 * h) n) (hh30 : h < rC R 30)
  (w0 : ∀ r i k, (r ≠ 32 ∧ r ≠ 33 ∧ (r ≠ 30 ∨ k ≠ 2)) → W0 r i k = V r i k) (ws : ∀ k, W0 32 s k = V 32 s k ∧ W0 33 s k = V 33 s k ∧ W0 32 t k = V 32 t k ∧ W0 33 t k = V 33 t k)
  (K : ∀ W, (∀ r i k, ¬ ((r = 32 ∨ r = 33) ∧ i = s) → W r i k = W0 r i k) → (∀ q p, p < 5 → (tk V n s t q p → W 32 s (5 * q + p) = V 32 t (5 * q + p) ∧ W 33 s (5 * q + p) = 0) ∧ (¬ tk V n s t q p → W 32 s (5 * q + p) = V 32 s (5 * q + p) ∧ W 33 s (5 * q + p) = V 33 s (5 * q + p))) → Wp (f (((mgh V n s t).length : Int), (W, R))) Q) : Wp ((g_X8_bringBack 0 (e : Int) (h : Int) (W0, R)).bind f) Q := by
  have hS := hI.SH
  have hF := hI.RF
  have hL := hI.IL
  have hQ := hI.IQ
  obtain ⟨b20, b30, b40, b50⟩ := hI.IN.1
  have hpers := hI.pers hh30
  have es' : (V 30 h 0).toNat = s := by omega
  rw [es'] at hpers
  have st32 : t < rC R 31 := ht.1
  have w0a : ∀ r i k, (r ≠ 32 ∧ r ≠ 33 ∧ r ≠ 30) → W0 r i k = V r i k := fun r i k h => w0 r i k ⟨h.1, h.2.1, Or.inl h.2.2⟩
  refine w_bind ?_
  unfold g_X8_bringBack
  refine w_gv (by omega) ?_
  ((first | ((with_reducible refine w_s hS ?_ ?_ ?_ (fun x hx => ?_)); (focus decide); (focus (first | decide | omega)); (focus (first | decide | (simp only [sl]; omega)))) | ((with_reducible refine w_m hS ?_ ?_ ?_ ?_ ?_ (fun x hx => ?_)); (focus decide); (focus (first | decide | omega)); (focus omega); (focus (first | decide | omega)); (focus (first | decide | (simp only [ml]; omega)))) | (with_reducible refine w_k (by simp (disch := omega) only [w32_id]; exact rfl) ?_; ((with_reducible refine w_s hS ?_ ?_ ?_ (fun x hx => ?_)); (focus decide); (focus (first | decide | omega)); (focus (first | decide | (simp only [sl]; omega))))) | (with_reducible refine w_k (by simp (disch := omega) only [w32_id]; exact rfl) ?_; ((with_reducible refine w_m hS ?_ ?_ ?_ ?_ ?_ (fun x hx => ?_)); (focus decide); (focus (first | decide | omega)); (focus omega); (focus (first | decide | omega)); (focus (first | decide | (simp only [ml]; omega)))))); (try simp (disch := omega) only [Int.reduceToNat, tn_c, tn8, tn8i, tn5, tn5z, tn6, tn6z, tn1, u3_ne, u3_eq, u3_ni, u3_nk, w0a 0 _ _ (by decide), f_0_1 hF] at hx); subst hx)
  ((first | ((with_reducible refine w_s hS ?_ ?_ ?_ (fun x hx => ?_)); (focus decide); (focus (first | decide | omega)); (focus (first | decide | (simp only [sl]; omega)))) | ((with_reducible refine w_m hS ?_ ?_ ?_ ?_ ?_ (fun x hx => ?_)); (focus decide); (focus (first | decide | omega)); (focus omega); (focus (first | decide | omega)); (focus (first | decide | (simp only [ml]; omega)))) | (with_reducible refine w_k (by simp (disch := omega) only [w32_id]; exact rfl) ?_; ((with_reducible refine w_s hS ?_ ?_ ?_ (fun x hx => ?_)); (focus decide); (focus (first | decide | omega)); (focus (first | decide | (simp only [sl]; omega))))) | (with_reducible refine w_k (by simp (disch := omega) only [w32_id]; exact rfl) ?_; ((with_reducible refine w_m hS ?_ ?_ ?_ ?_ ?_ (fun x hx => ?_)); (focus decide); (focus (first | decide | omega)); (focus omega); (focus (first | decide | omega)); (focus (first | decide | (simp only [ml]; omega)))))); (try simp (disch := omega) only [Int.reduceToNat, tn_c, tn8, tn8i, tn5, tn5z, tn6, tn6z, tn1, u3_ne, u3_eq, u3_ni, u3_nk, w0a 5 _ _ (by decide), l_5 hL] at hx); subst hx)
  ((first | ((with_reducible refine w_s hS ?_ ?_ ?_ (fun x hx => ?_)); (focus decide); (focus (first | decide | omega)); (focus (first | decide | (simp only [sl]; omega)))) | ((with_reducible refine w_m hS ?_ ?_ ?_ ?_ ?_ (fun x hx => ?_)); (focus decide); (focus (first | decide | omega)); (focus omega); (focus (first | decide | omega)); (focus (first | decide | (simp only [ml]; omega)))) | (with_reducible refine w_k (by simp (disch := omega) only [w32_id]; exact rfl) ?_; ((with_reducible refine w_s hS ?_ ?_ ?_ (fun x hx => ?_)); (focus decide); (focus (first | decide | omega)); (focus (first | decide | (simp only [sl]; omega))))) | (with_reducible refine w_k (by simp (disch := omega) only [w32_id]; exact rfl) ?_; ((with_reducible refine w_m hS ?_ ?_ ?_ ?_ ?_ (fun x hx => ?_)); (focus decide); (focus (first | decide | omega)); (focus omega); (focus (first | decide | omega)); (focus (first | decide | (simp only [ml]; omega)))))); (try simp (disch := omega) only [Int.reduceToNat, tn_c, tn8, tn8i, tn5, tn5z, tn6, tn6z, tn1, u3_ne, u3_eq, u3_ni, u3_nk, w0 30 _ 0 (by decide), es] at hx); subst hx)
  ((first | ((with_reducible refine w_s hS ?_ ?_ ?_ (fun x hx => ?_)); (focus decide); (focus (first | decide | omega)); (focus (first | decide | (simp only [sl]; omega)))) | ((with_reducible refine w_m hS ?_ ?_ ?_ ?_ ?_ (fun x hx => ?_)); (focus decide); (focus (first | decide | omega)); (focus omega); (focus (first | decide | omega)); (focus (first | decide | (simp only [ml]; omega)))) | (with_reducible refine w_k (by simp (disch := omega) only [w32_id]; exact rfl) ?_; ((with_reducible refine w_s hS ?_ ?_ ?_ (fun x hx => ?_)); (focus decide); (focus (first | decide | omega)); (focus (first | decide | (simp only [sl]; omega))))) | (with_reducible refine w_k (by simp (disch := omega) only [w32_id]; exact rfl) ?_; ((with_reducible refine w_m hS ?_ ?_ ?_ ?_ ?_ (fun x hx => ?_)); (focus decide); (focus (first | decide | omega)); (focus omega); (focus (first | decide | omega)); (focus (first | decide | (simp only [ml]; omega)))))); (try simp (disch := omega) only [Int.reduceToNat, tn_c, tn8, tn8i, tn5, tn5z, tn6, tn6z, tn1, u3_ne, u3_eq, u3_ni, u3_nk, w0a 50 _ _ (by decide), f_50_0 hF] at hx); subst hx)
  refine w_51 hS he hh ?_
  rw [w0a 51 _ _ (by decide), et]
  -- a state in the course of it
  have J0 : ∀ W : GV, (∀ r i k, ¬ ((r = 32 ∨ r = 33) ∧ i = s) → W r i k = W0 r i k) → (∀ r i k, (r ≠ 32 ∧ r ≠ 33 ∧ (r ≠ 30 ∨ k ≠ 2)) → W r i k = V r i k) ∧ ∀ k, W 32 t k = V 32 t k ∧ W 33 t k = V 33 t k := by
    intro W fr
    refine ⟨fun r i k h => ?_, fun k => ?_⟩
    · rw [fr r i k (fun z => by rcases z.1 with y | y; exact h.1 y; exact h.2.1 y)]; exact w0 r i k h
    · rw [fr 32 t k (fun z => hst z.2.symm), fr 33 t k (fun z => hst z.2.symm)]; exact (ws k).2.2
  -- numbers of persons stay
  have keep : ∀ {j p : Nat} (W : GV), (∀ q p', p' < 5 → ¬ ((q < j ∨ (q = j ∧ p' < p)) ∧ tk V n s t q p') → W 32 s (5 * q + p') = V 32 s (5 * q + p') ∧ W 33 s (5 * q + p') = V 33 s (5 * q + p')) → ∀ q, q < rC R 20 → plc W s (V 102 0 q) = plc V s (V 102 0 q) := by
    intro j p W h3 q hq
    unfold plc
    by_cases z : V 102 0 q = -1
    · rw [if_pos z, if_pos z]
    · obtain ⟨r, er, _, hr, k5, m0, rt⟩ := hQ.ro hq z
      rw [if_neg z, if_neg z, er, tn_c]
      refine (h3 r 0 (by omega) (fun y => ?_)).1
      have ok := (((hI.IA h hh30).1 r hr m0).1 rt)
      rw [es'] at ok
      have := y.2.2.2.2.1
      rw [Nat.add_zero, ok.2.1] at this
      exact this (ok.2.2.2.2.2.2.1 k5).1
  refine w_for2 n (fun j a G => ∃ W, G = (W, R) ∧ (∀ r i k, ¬ ((r = 32 ∨ r = 33) ∧ i = s) → W r i k = W0 r i k) ∧ (∀ q p', p' < 5 → ((q < j ∨ (q = j ∧ p' < 0)) ∧ tk V n s t q p') → W 32 s (5 * q + p') = V 32 t (5 * q + p') ∧ W 33 s (5 * q + p') = 0) ∧ (∀ q p', p' < 5 → ¬ ((q < j ∨ (q = j ∧ p' < 0)) ∧ tk V n s t q p') → W 32 s (5 * q + p') = V 32 s (5 * q + p') ∧ W 33 s (5 * q + p') = V 33 s (5 * q + p')) ∧ a = ((lst (mgq V n s t) j).length : Int)) ?_ (i := 0) (by omega) (by omega) ⟨W0, rfl, fun _ _ _ _ => rfl, fun q p' _ z => by omega, fun q p' _ _ => ⟨(ws _).1, (ws _).2.1⟩, rfl⟩
  rintro j a G hj ⟨W, rfl, fr, h2, h3, ea⟩ self ih
  obtain ⟨wv, wt⟩ := J0 W fr
  have wva : ∀ r i k, (r ≠ 32 ∧ r ≠ 33 ∧ r ≠ 30) → W r i k = V r i k := fun r i k h => wv r i k ⟨h.1, h.2.1, Or.inl h.2.2⟩
  have hF' : RF W R := by
    refine ⟨fun e he => ?_, fun e he i hi => ?_⟩
    · rw [wv e.1 0 e.2 ((by decide : ∀ e, e ∈ RL0 → e.1 ≠ 32 ∧ e.1 ≠ 33 ∧ (e.1 ≠ 30 ∨ e.2 ≠ 2)) e he)]; exact hF.1 e he
    · rw [wv e.1 i e.2 ((by decide : ∀ e, e ∈ RL1 → e.1 ≠ 32 ∧ e.1 ≠ 33 ∧ (e.1 ≠ 30 ∨ e.2 ≠ 2)) e he)]; exact hF.2 e he i hi
  have l1 := lst_len (F := mgq V n s t) (m := 5) (n := j) (fun q _ => mgq_len)
  unfold glX8_bringBack_24 gjX8_bringBack_115
  ((first | ((with_reducible refine w_s hS ?_ ?_ ?_ (fun x hx => ?_)); (focus decide); (focus (first | decide | omega)); (focus (first | decide | (simp only [sl]; omega)))) | ((with_reducible refine w_m hS ?_ ?_ ?_ ?_ ?_ (fun x hx => ?_)); (focus decide); (focus (first | decide | omega)); (focus omega); (focus (first | decide | omega)); (focus (first | decide | (simp only [ml]; omega)))) | (with_reducible refine w_k (by simp (disch := omega) only [w32_id]; exact rfl) ?_; ((with_reducible refine w_s hS ?_ ?_ ?_ (fun x hx => ?_)); (focus decide); (focus (first | decide | omega)); (focus (first | decide | (simp only [sl]; omega))))) | (with_reducible refine w_k (by simp (disch := omega) only [w32_id]; exact rfl) ?_; ((with_reducible refine w_m hS ?_ ?_ ?_ ?_ ?_ (fun x hx => ?_)); (focus decide); (focus (first | decide | omega)); (focus omega); (focus (first | decide | omega)); (focus (first | decide | (simp only [ml]; omega)))))); (try simp (disch := omega) only [Int.reduceToNat, tn_c, tn8, tn8i, tn5, tn5z, tn6, tn6z, tn1, u3_ne, u3_eq, u3_ni, u3_nk, wva 50 _ _ (by decide), en] at hx); subst hx)
  refine w_ite (fun hx => w_ret ?_) (fun hx => ?_)
  · have ej : j = n := by omega
    subst ej
    rw [ea]
    refine K W fr (fun q p hp => ⟨fun z => h2 q p hp ⟨Or.inl z.1, z⟩, fun z => h3 q p hp (fun y => z y.2)⟩)
  · have hj : j < n := by omega
    have hj20 : j < rC R 20 := by omega
    obtain ⟨_, ⟨e1, _, _⟩, ⟨e2, _, _⟩, _⟩ := (hQ.1 j hj20).1
    ((first | ((with_reducible refine w_s hS ?_ ?_ ?_ (fun x hx => ?_)); (focus decide); (focus (first | decide | omega)); (focus (first | decide | (simp only [sl]; omega)))) | ((with_reducible refine w_m hS ?_ ?_ ?_ ?_ ?_ (fun x hx => ?_)); (focus decide); (focus (first | decide | omega)); (focus omega); (focus (first | decide | omega)); (focus (first | decide | (simp only [ml]; omega)))) | (with_reducible refine w_k (by simp (disch := omega) only [w32_id]; exact rfl) ?_; ((with_reducible refine w_s hS ?_ ?_ ?_ (fun x hx => ?_)); (focus decide); (focus (first | decide | omega)); (focus (first | decide | (simp only [sl]; omega))))) | (with_reducible refine w_k (by simp (disch := omega) only [w32_id]; exact rfl) ?_; ((with_reducible refine w_m hS ?_ ?_ ?_ ?_ ?_ (fun x hx => ?_)); (focus decide); (focus (first | decide | omega)); (focus omega); (focus (first | decide | omega)); (focus (first | decide | (simp only [ml]; omega)))))); (try simp (disch := omega) only [Int.reduceToNat, tn_c, tn8, tn8i, tn5, tn5z, tn6, tn6z, tn1, u3_ne, u3_eq, u3_ni, u3_nk, f_0_0 hF'] at hx); subst hx)
    ((first | ((with_reducible refine w_s hS ?_ ?_ ?_ (fun x hx => ?_)); (focus decide); (focus (first | decide | omega)); (focus (first | decide | (simp only [sl]; omega)))) | ((with_reducible refine w_m hS ?_ ?_ ?_ ?_ ?_ (fun x hx => ?_)); (focus decide); (focus (first | decide | omega)); (focus omega); (focus (first | decide | omega)); (focus (first | decide | (simp only [ml]; omega)))) | (with_reducible refine w_k (by simp (disch := omega) only [w32_id]; exact rfl) ?_; ((with_reducible refine w_s hS ?_ ?_ ?_ (fun x hx => ?_)); (focus decide); (focus (first | decide | omega)); (focus (first | decide | (simp only [sl]; omega))))) | (with_reducible refine w_k (by simp (disch := omega) only [w32_id]; exact rfl) ?_; ((with_reducible refine w_m hS ?_ ?_ ?_ ?_ ?_ (fun x hx => ?_)); (focus decide); (focus (first | decide | omega)); (focus omega); (focus (first | decide | omega)); (focus (first | decide | (simp only [ml]; omega)))))); (try simp (disch := omega) only [Int.reduceToNat, tn_c, tn8, tn8i, tn5, tn5z, tn6, tn6z, tn1, u3_ne, u3_eq, u3_ni, u3_nk, wva 1 _ _ (by decide), f_1_0 hF] at hx); subst hx)
    ((first | ((with_reducible refine w_s hS ?_ ?_ ?_ (fun x hx => ?_)); (focus decide); (focus (first | decide | omega)); (focus (first | decide | (simp only [sl]; omega)))) | ((with_reducible refine w_m hS ?_ ?_ ?_ ?_ ?_ (fun x hx => ?_)); (focus decide); (focus (first | decide | omega)); (focus omega); (focus (first | decide | omega)); (focus (first | decide | (simp only [ml]; omega)))) | (with_reducible refine w_k (by simp (disch := omega) only [w32_id]; exact rfl) ?_; ((with_reducible refine w_s hS ?_ ?_ ?_ (fun x hx => ?_)); (focus decide); (focus (first | decide | omega)); (focus (first | decide | (simp only [sl]; omega))))) | (with_reducible refine w_k (by simp (disch := omega) only [w32_id]; exact rfl) ?_; ((with_reducible refine w_m hS ?_ ?_ ?_ ?_ ?_ (fun x hx => ?_)); (focus decide); (focus (first | decide | omega)); (focus omega); (focus (first | decide | omega)); (focus (first | decide | (simp only [ml]; omega)))))); (try simp (disch := omega) only [Int.reduceToNat, tn_c, tn8, tn8i, tn5, tn5z, tn6, tn6z, tn1, u3_ne, u3_eq, u3_ni, u3_nk, wva 2 _ _ (by decide), l_2 hL] at hx); subst hx)
    ((first | ((with_reducible refine w_s hS ?_ ?_ ?_ (fun x hx => ?_)); (focus decide); (focus (first | decide | omega)); (focus (first | decide | (simp only [sl]; omega)))) | ((with_reducible refine w_m hS ?_ ?_ ?_ ?_ ?_ (fun x hx => ?_)); (focus decide); (focus (first | decide | omega)); (focus omega); (focus (first | decide | omega)); (focus (first | decide | (simp only [ml]; omega)))) | (with_reducible refine w_k (by simp (disch := omega) only [w32_id]; exact rfl) ?_; ((with_reducible refine w_s hS ?_ ?_ ?_ (fun x hx => ?_)); (focus decide); (focus (first | decide | omega)); (focus (first | decide | (simp only [sl]; omega))))) | (with_reducible refine w_k (by simp (disch := omega) only [w32_id]; exact rfl) ?_; ((with_reducible refine w_m hS ?_ ?_ ?_ ?_ ?_ (fun x hx => ?_)); (focus decide); (focus (first | decide | omega)); (focus omega); (focus (first | decide | omega)); (focus (first | decide | (simp only [ml]; omega)))))); (try simp (disch := omega) only [Int.reduceToNat, tn_c, tn8, tn8i, tn5, tn5z, tn6, tn6z, tn1, u3_ne, u3_eq, u3_ni, u3_nk, wva 20 _ _ (by decide), e2] at hx); subst hx)
    refine w_ite (fun m0 => ?_) (fun m0 => ?_)
    · ((first | ((with_reducible refine w_s hS ?_ ?_ ?_ (fun x hx => ?_)); (focus decide); (focus (first | decide | omega)); (focus (first | decide | (simp only [sl]; omega)))) | ((with_reducible refine w_m hS ?_ ?_ ?_ ?_ ?_ (fun x hx => ?_)); (focus decide); (focus (first | decide | omega)); (focus omega); (focus (first | decide | omega)); (focus (first | decide | (simp only [ml]; omega)))) | (with_reducible refine w_k (by simp (disch := omega) only [w32_id]; exact rfl) ?_; ((with_reducible refine w_s hS ?_ ?_ ?_ (fun x hx => ?_)); (focus decide); (focus (first | decide | omega)); (focus (first | decide | (simp only [sl]; omega))))) | (with_reducible refine w_k (by simp (disch := omega) only [w32_id]; exact rfl) ?_; ((with_reducible refine w_m hS ?_ ?_ ?_ ?_ ?_ (fun x hx => ?_)); (focus decide); (focus (first | decide | omega)); (focus omega); (focus (first | decide | omega)); (focus (first | decide | (simp only [ml]; omega)))))); (try simp (disch := omega) only [Int.reduceToNat, tn_c, tn8, tn8i, tn5, tn5z, tn6, tn6z, tn1, u3_ne, u3_eq, u3_ni, u3_nk, wva 20 _ _ (by decide), e1] at hx); subst hx)
      have pls := plc_q hQ hpers hj20
      have plt := eplc hI ar hn hj
      have ep : plc W s (V 102 0 j) = plc V s (V 102 0 j) := keep W h3 j hj20
      have ept : plc W t (V 102 0 j) = plc V t (V 102 0 j) := by unfold plc; rw [(wt _).1]
      have hk' := hs.cg (V' := W) (fun i k => wva 31 i k (by decide))
      have hkt' := ht.cg (V' := W) (fun i k => wva 31 i k (by decide))
      refine w_placesOf hS hk' (hI.roq hj20 (by omega)) (by rw [ep]; exact pls.1) (by rw [ep]; exact pls.2) ?_
      dsimp only
      ((first | ((with_reducible refine w_s hS ?_ ?_ ?_ (fun x hx => ?_)); (focus decide); (focus (first | decide | omega)); (focus (first | decide | (simp only [sl]; omega)))) | ((with_reducible refine w_m hS ?_ ?_ ?_ ?_ ?_ (fun x hx => ?_)); (focus decide); (focus (first | decide | omega)); (focus omega); (focus (first | decide | omega)); (focus (first | decide | (simp only [ml]; omega)))) | (with_reducible refine w_k (by simp (disch := omega) only [w32_id]; exact rfl) ?_; ((with_reducible refine w_s hS ?_ ?_ ?_ (fun x hx => ?_)); (focus decide); (focus (first | decide | omega)); (focus (first | decide | (simp only [sl]; omega))))) | (with_reducible refine w_k (by simp (disch := omega) only [w32_id]; exact rfl) ?_; ((with_reducible refine w_m hS ?_ ?_ ?_ ?_ ?_ (fun x hx => ?_)); (focus decide); (focus (first | decide | omega)); (focus omega); (focus (first | decide | omega)); (focus (first | decide | (simp only [ml]; omega)))))); (try simp (disch := omega) only [Int.reduceToNat, tn_c, tn8, tn8i, tn5, tn5z, tn6, tn6z, tn1, u3_ne, u3_eq, u3_ni, u3_nk, wva 20 _ _ (by decide), e1] at hx); subst hx)
      refine w_placesOf hS hkt' (hI.roq hj20 (by omega)) (by rw [ept]; exact plt.1) (by rw [ept]; exact plt.2) ?_
      dsimp only
      rw [ep, ept]
      obtain ⟨w, ew⟩ : ∃ w : Nat, imin (plc V s (V 102 0 j)) (plc V t (V 102 0 j)) = (w : Int) := ⟨(imin (plc V s (V 102 0 j)) (plc V t (V 102 0 j))).toNat, by unfold imin; by_cases c : plc V t (V 102 0 j) < plc V s (V 102 0 j); rw [if_pos c]; omega; rw [if_neg c]; omega⟩
      have iw : ∀ p : Nat, p < w ↔ ((p : Int) < plc V s (V 102 0 j) ∧ (p : Int) < plc V t (V 102 0 j)) := by
        intro p
        unfold imin at ew
        by_cases c : plc V t (V 102 0 j) < plc V s (V 102 0 j)
        · rw [if_pos c] at ew; omega
        · rw [if_neg c] at ew; omega
      have w5 : w ≤ 5 := by
        unfold imin at ew
        by_cases c : plc V t (V 102 0 j) < plc V s (V 102 0 j)
        · rw [if_pos c] at ew; omega
        · rw [if_neg c] at ew; omega
      rw [ew]
      refine w_for2 w (fun p a G => ∃ U, G = (U, R) ∧ (∀ r i k, ¬ ((r = 32 ∨ r = 33) ∧ i = s) → U r i k = W0 r i k) ∧ (∀ q p', p' < 5 → ((q < j ∨ (q = j ∧ p' < p)) ∧ tk V n s t q p') → U 32 s (5 * q + p') = V 32 t (5 * q + p') ∧ U 33 s (5 * q + p') = 0) ∧ (∀ q p', p' < 5 → ¬ ((q < j ∨ (q = j ∧ p' < p)) ∧ tk V n s t q p') → U 32 s (5 * q + p') = V 32 s (5 * q + p') ∧ U 33 s (5 * q + p') = V 33 s (5 * q + p')) ∧ a = ((lst (mgq V n s t) j ++ lst (fun p => one (tk V n s t j p) (0, 0, 0)) p).length : Int)) ?_ (i := 0) (by omega) (by omega) ⟨W, rfl, fr, h2, h3, by
        show a = ((lst (mgq V n s t) j ++ []).length : Int)
        rw [List.append_nil]; exact ea⟩
      rintro p a G hp ⟨U, rfl, fru, u2, u3', eau⟩ self' ih'
      obtain ⟨uv, ut⟩ := J0 U fru
      have uva : ∀ r i k, (r ≠ 32 ∧ r ≠ 33 ∧ r ≠ 30) → U r i k = V r i k := fun r i k h => uv r i k ⟨h.1, h.2.1, Or.inl h.2.2⟩
      have hku := hs.cg (V' := U) (fun i k => uva 31 i k (by decide))
      have hktu := ht.cg (V' := U) (fun i k => uva 31 i k (by decide))
      have l2 := lst_len (F := fun p => one (tk V n s t j p) (0, 0, 0)) (m := 1) (n := p) (fun i _ => one_len)
      unfold glX8_bringBack_83 gjX8_bringBack_115 gjX8_bringBack_109
      refine w_ite (fun hx' => ?_) (fun hx' => ?_)
      · have epw : p = w := by omega
        subst epw
        refine ih _ _ hj ⟨U, rfl, fru, fun q p' hp' z => ?_, fun q p' hp' z => u3' q p' hp' (fun y => z ⟨by omega, y.2⟩), ?_⟩
        · refine u2 q p' hp' ⟨?_, z.2⟩
          by_cases eq : q = j
          · subst eq; exact Or.inr ⟨rfl, (iw p').mpr z.2.2.2.1⟩
          · omega
        · rw [eau]
          have : mgq V n s t j = lst (fun p => one (tk V n s t j p) (0, 0, 0)) p := lst_rest w5 (fun i h1 _ => one_f (fun z => by have := (iw i).mpr z.2.2.1; omega))
          show _ = ((lst (mgq V n s t) j ++ mgq V n s t j).length : Int)
          rw [this]
      · have hpw : p < w := by omega
        have hpp := (iw p).mp hpw
        refine w_spot (by omega) (by omega) ?_
        have v33 := (u3' j p (by omega) (fun z => by omega))
        refine w_takeFrom hS hku hktu (by omega) (by omega) (fun y => ?_) (fun y => ?_)
        · have hit : tk V n s t j p := ⟨hj, m0, hpp, by rw [← v33.2]; exact y.1, by rw [← (ut _).2]; exact y.2⟩
          rw [(ut _).1]
          refine w_ite (fun z => absurd (show (1 : Int) = 0 from z) (by decide)) (fun _ => ?_)
          refine ih' _ _ hpw ⟨_, rfl, fun r i k h => ?_, fun q p' hp' z => ?_, fun q p' hp' z => ?_, ?_⟩
          · rw [putv_o ?_]
            · exact fru r i k h
            · by_cases ei : i = s
              · exact Or.inl ⟨fun z => h ⟨Or.inl z, ei⟩, fun z => h ⟨Or.inr z, ei⟩⟩
              · exact Or.inr (Or.inl ei)
          · by_cases eq : q = j ∧ p' = p
            · obtain ⟨rfl, rfl⟩ := eq
              rw [putv_32, putv_33]; exact ⟨rfl, rfl⟩
            · rw [putv_o (Or.inr (Or.inr (by omega))), putv_o (Or.inr (Or.inr (by omega)))]
              exact u2 q p' hp' ⟨by omega, z.2⟩
          · by_cases eq : q = j ∧ p' = p
            · obtain ⟨rfl, rfl⟩ := eq
              exact absurd ⟨Or.inr ⟨rfl, Nat.lt_succ_self _⟩, hit⟩ z
            · rw [putv_o (Or.inr (Or.inr (by omega))), putv_o (Or.inr (Or.inr (by omega)))]
              exact u3' q p' hp' (fun v => z ⟨by omega, v.2⟩)
          · rw [List.length_append] at eau
            rw [eau, w32_id (by omega) (by omega)]
            show _ = ((lst (mgq V n s t) j ++ (lst _ p ++ one _ _)).length : Int)
            rw [one_t hit, List.length_append, List.length_append]
            simp only [List.length_cons, List.length_nil]
            omega
        · have miss : ¬ tk V n s t j p := fun z => y ⟨by rw [v33.2]; exact z.2.2.2.1, by rw [(ut _).2]; exact z.2.2.2.2⟩
          refine w_ite (fun _ => ?_) (fun z => absurd rfl z)
          refine ih' _ _ hpw ⟨U, rfl, fru, fun q p' hp' z => ?_, fun q p' hp' z => u3' q p' hp' (fun v => z ⟨by omega, v.2⟩), ?_⟩
          · refine u2 q p' hp' ⟨?_, z.2⟩
            by_cases eq : q = j ∧ p' = p
            · obtain ⟨rfl, rfl⟩ := eq; exact absurd z.2 miss
            · omega
          · rw [eau]
            show _ = ((lst (mgq V n s t) j ++ (lst _ p ++ one _ _)).length : Int)
            rw [one_f miss, List.append_nil]
    · have none : ∀ p, ¬ tk V n s t j p := fun p z => m0 z.2.1
      refine ih _ _ hj ⟨W, rfl, fr, fun q p' hp' z => ?_, fun q p' hp' z => h3 q p' hp' (fun y => z ⟨by omega, y.2⟩), ?_⟩
      · refine h2 q p' hp' ⟨?_, z.2⟩
        by_cases eq : q = j
        · subst eq; exact absurd z.2 (none p')
        · omega
      · rw [ea]
        show _ = ((lst (mgq V n s t) j ++ mgq V n s t j).length : Int)
        have : mgq V n s t j = [] := lst_nil (fun p _ => one_f (none p))
        rw [this, List.append_nil]
end Merge
