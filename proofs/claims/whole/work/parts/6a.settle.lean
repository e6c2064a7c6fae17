section Cls
variable {V : GV} {R : GR} {T : GV → Prop} {Q : Int → GS → Prop}
def stl (V V' : GV) (h : Nat) : Prop := ∀ r i k, ¬ (((r = 32 ∨ r = 33) ∧ i = (V 30 h 0).toNat ∧ ∃ q p, V 103 0 q ≠ 0 ∧ p < 5 ∧ k = 5 * q + p) ∨ (r = 34 ∧ i = h) ∨ (r = 30 ∧ i = h ∧ k = 2)) → V' r i k = V r i k
def LT : PL' := [(32, none), (33, none), (34, none), (30, some 2)]
theorem stl.same {V' : GV} {h : Nat} (hs : stl V V' h) : same V V' LT := by
  intro r i k hn
  refine hs r i k (fun ht => hn ?_)
  rcases ht with ⟨e, _⟩ | ⟨e, _⟩ | ⟨e, _, e'⟩
  · rcases e with rfl | rfl
    · exact ⟨(32, none), by decide, rfl, Or.inl rfl⟩
    · exact ⟨(33, none), by decide, rfl, Or.inl rfl⟩
  · subst e; exact ⟨(34, none), by decide, rfl, Or.inl rfl⟩
  · subst e e'; exact ⟨(30, some 2), by decide, rfl, Or.inr rfl⟩
theorem INV.stepOf (hI : INV T V R) {h j r i k : Nat} (hj : (j : Int) < V 100 0 29) (ht : tgt V h j r i k) : ((r = 32 ∨ r = 33) ∧ i = (V 30 h 0).toNat ∧ ∃ q p, V 103 0 q ≠ 0 ∧ p < 5 ∧ k = 5 * q + p) ∨ (r = 34 ∧ i = h) ∨ (r = 30 ∧ i = h ∧ k = 2) := by
  rcases ht with ⟨lt, e, ei, p, hp, ek⟩ | ⟨_, e, ei, _⟩
  · obtain ⟨_, t0, t1, mk, _⟩ := (hI.IOO.1 j hj).1 lt
    exact Or.inl ⟨e, ei, _, p, mk, hp, ek⟩
  · exact Or.inr (Or.inl ⟨e, ei⟩)
theorem INV_done {h : Nat} (hI : INV T V R) (hh : h < rC R 30) (hl : ∀ j : Nat, (j : Int) < V 100 0 29 → LE V h j) : INV T (u3 V 30 h 2 (V 100 0 29)) R := by
  have sm : same V (u3 V 30 h 2 (V 100 0 29)) [(30, some 2)] := (same.rf V _).u ⟨(30, some 2), by decide, rfl, Or.inr rfl⟩
  have e2 : ∀ g, g ≠ h → u3 V 30 h 2 (V 100 0 29) 30 g 2 = V 30 g 2 := fun g hg => u3_ni hg
  have e2' : u3 V 30 h 2 (V 100 0 29) 30 h 2 = V 100 0 29 := u3_eq
  generalize u3 V 30 h 2 (V 100 0 29) = V' at *
  refine ⟨⟨hI.SH, cg_RF sm rfl hI.RF, cg_IN sm rfl hI.IN, cg_IL sm rfl hI.IL, hI.IR⟩, cg_IQ sm rfl hI.IQ, cg_IC sm rfl hI.IC, cg_IOO sm rfl hI.IOO, cg_IHs sm rfl hI.IHs, cg_IA sm rfl hI.IA, cg_IW sm rfl hI.IW, ?_, cg_IE sm rfl hI.IE, cg_T sm rfl hI.TT⟩
  have lec : ∀ g j, LE V g j → LE V' g j := by
    intro g j
    unfold LE
    simp only [LEq, LEc, conf, so, askf, mapv, sumr, plc, rowf_cg (sm.r 110 rfl) (sm.r 111 rfl), sumv_cg (sm.r 32 rfl) (sm.r 33 rfl), sm.r 4 rfl, sm.f 30 0 rfl, sm.r 32 rfl, sm.r 33 rfl, sm.r 34 rfl, sm.r 101 rfl, sm.r 102 rfl, sm.r 103 rfl, sm.r 104 rfl, sm.r 105 rfl, sm.r 112 rfl, sm.r 113 rfl, sm.r 119 rfl, sm.r 120 rfl, sm.r 121 rfl, sm.r 122 rfl, sm.r 123 rfl, sm.r 124 rfl, sm.r 125 rfl]
    exact id
  intro g hg
  obtain ⟨a, b, c⟩ := hI.IS g hg
  unfold IS1
  rw [sm.f 100 29 rfl]
  by_cases e : g = h
  · subst e
    rw [e2']
    exact ⟨hI.IN.2.2.2.1, Int.le_refl _, fun j hj => lec g j (hl j hj)⟩
  · rw [e2 g e]
    exact ⟨a, b, fun j hj => lec g j (c j hj)⟩
theorem w_settle {h : Nat} (hI : INV T V R) (hh : h < rC R 30) {f : Int × GS → GO} (k : ∀ V', stl V V' h → INV T V' R → V' 30 h 2 = V' 100 0 29 → Wp (f (0, (V', R))) Q) : Wp ((g_X3_settle 0 (h : Int) (V, R)).bind f) Q := by
  have hS := hI.SH
  obtain ⟨hn, hh40, hc60, _⟩ := hI.IN.1
  obtain ⟨o1, o2, o3⟩ := hI.IN.2.2
  obtain ⟨t0, t1, tl⟩ := hI.IS h hh
  obtain ⟨i0, ei0⟩ : ∃ i : Nat, V 30 h 2 = (i : Int) := ⟨_, (Int.toNat_of_nonneg t0).symm⟩
  obtain ⟨n, en⟩ : ∃ n : Nat, V 100 0 29 = (n : Int) := ⟨_, (Int.toNat_of_nonneg o2).symm⟩
  rw [ei0, en] at t1
  rw [ei0] at tl
  refine w_bind ?_
  unfold g_X3_settle
  refine w_gv (by omega) ?_
  ((first | ((with_reducible refine w_s hS ?_ ?_ ?_ (fun x hx => ?_)); (focus decide); (focus (first | decide | omega)); (focus (first | decide | (simp only [sl]; omega)))) | ((with_reducible refine w_m hS ?_ ?_ ?_ ?_ ?_ (fun x hx => ?_)); (focus decide); (focus (first | decide | omega)); (focus omega); (focus (first | decide | omega)); (focus (first | decide | (simp only [ml]; omega)))) | (with_reducible refine w_k (by simp (disch := omega) only [w32_id]; exact rfl) ?_; ((with_reducible refine w_s hS ?_ ?_ ?_ (fun x hx => ?_)); (focus decide); (focus (first | decide | omega)); (focus (first | decide | (simp only [sl]; omega))))) | (with_reducible refine w_k (by simp (disch := omega) only [w32_id]; exact rfl) ?_; ((with_reducible refine w_m hS ?_ ?_ ?_ ?_ ?_ (fun x hx => ?_)); (focus decide); (focus (first | decide | omega)); (focus omega); (focus (first | decide | omega)); (focus (first | decide | (simp only [ml]; omega)))))); (try simp (disch := omega) only [Int.reduceToNat, tn_c, tn8, tn8i, tn5, tn5z, tn6, tn6z, tn1, u3_ne, u3_eq, u3_ni, u3_nk, ei0] at hx); subst hx)
  refine w_for n (fun i G => i0 ≤ i ∧ ∃ V', G = (V', R) ∧ INV T V' R ∧ stl V V' h ∧ V' 30 h 2 = (i0 : Int) ∧ ∀ j, j < i → LE V' h j) ?_ (by omega) (by omega) ⟨Nat.le_refl _, V, rfl, hI, fun _ _ _ _ => rfl, ei0, fun j hj => tl j (by omega)⟩
  rintro i G hi ⟨hi0, V', rfl, hI', hs, e2, hl⟩ self ih
  have sm := hs.same
  have eo : V' 100 0 29 = (n : Int) := by rw [sm.f 100 29 rfl, en]
  have e15 : V' 1 0 5 = (n : Int) := by rw [sm.f 1 5 rfl, o1, en]
  have hF' := hI'.RF
  unfold glX3_settle_5 gjX3_settle_94
  ((first | ((with_reducible refine w_s hS ?_ ?_ ?_ (fun x hx => ?_)); (focus decide); (focus (first | decide | omega)); (focus (first | decide | (simp only [sl]; omega)))) | ((with_reducible refine w_m hS ?_ ?_ ?_ ?_ ?_ (fun x hx => ?_)); (focus decide); (focus (first | decide | omega)); (focus omega); (focus (first | decide | omega)); (focus (first | decide | (simp only [ml]; omega)))) | (with_reducible refine w_k (by simp (disch := omega) only [w32_id]; exact rfl) ?_; ((with_reducible refine w_s hS ?_ ?_ ?_ (fun x hx => ?_)); (focus decide); (focus (first | decide | omega)); (focus (first | decide | (simp only [sl]; omega))))) | (with_reducible refine w_k (by simp (disch := omega) only [w32_id]; exact rfl) ?_; ((with_reducible refine w_m hS ?_ ?_ ?_ ?_ ?_ (fun x hx => ?_)); (focus decide); (focus (first | decide | omega)); (focus omega); (focus (first | decide | omega)); (focus (first | decide | (simp only [ml]; omega)))))); (try simp (disch := omega) only [Int.reduceToNat, tn_c, tn8, tn8i, tn5, tn5z, tn6, tn6z, tn1, u3_ne, u3_eq, u3_ni, u3_nk, e15] at hx); subst hx)
  refine w_ite (fun hc => ?_) (fun hc => ?_)
  · have : i = n := by omega
    subst this
    ((first | ((with_reducible refine w_s hS ?_ ?_ ?_ (fun x hx => ?_)); (focus decide); (focus (first | decide | omega)); (focus (first | decide | (simp only [sl]; omega)))) | ((with_reducible refine w_m hS ?_ ?_ ?_ ?_ ?_ (fun x hx => ?_)); (focus decide); (focus (first | decide | omega)); (focus omega); (focus (first | decide | omega)); (focus (first | decide | (simp only [ml]; omega)))) | (with_reducible refine w_k (by simp (disch := omega) only [w32_id]; exact rfl) ?_; ((with_reducible refine w_s hS ?_ ?_ ?_ (fun x hx => ?_)); (focus decide); (focus (first | decide | omega)); (focus (first | decide | (simp only [sl]; omega))))) | (with_reducible refine w_k (by simp (disch := omega) only [w32_id]; exact rfl) ?_; ((with_reducible refine w_m hS ?_ ?_ ?_ ?_ ?_ (fun x hx => ?_)); (focus decide); (focus (first | decide | omega)); (focus omega); (focus (first | decide | omega)); (focus (first | decide | (simp only [ml]; omega)))))); (try simp (disch := omega) only [Int.reduceToNat, tn_c, tn8, tn8i, tn5, tn5z, tn6, tn6z, tn1, u3_ne, u3_eq, u3_ni, u3_nk, e15] at hx); subst hx)
    refine w_ms hS (by decide) (by omega) (by omega) (by omega) (by decide) ?_
    rw [tn_c]
    have hd := INV_done hI' hh (fun j hj => hl j (by omega))
    rw [eo] at hd
    refine w_ret (k _ ?_ hd ?_)
    · intro r i k hn
      have h3 : ¬ (r = 30 ∧ i = h ∧ k = 2) := fun z => hn (Or.inr (Or.inr z))
      exact (if_neg h3).trans (hs r i k hn)
    · show u3 V' 30 h 2 (i : Int) 30 h 2 = u3 V' 30 h 2 (i : Int) 100 0 29
      rw [u3_eq, u3_ne (by decide), eo]
  · have hj' : (i : Int) < V' 100 0 29 := by omega
    have next : ∀ V'', stp V' V'' h i → LE V'' h i → Wp (self (w32 ((i : Int) + 1)) (V'', R)) (fun r G => Wp (f (r, G)) Q) := by
      intro V'' h1 h2
      refine ih _ (by omega) ⟨by omega, V'', rfl, INV_stp hI' hh hj' (by omega) h1, fun r i' k' hn => ?_, ?_, fun j hj => ?_⟩
      · rw [h1 r i' k' (fun ht => hn ?_), hs r i' k' hn]
        have := hI'.stepOf hj' ht
        rw [sm.f 30 0 rfl] at this
        simp only [sm.r 103 rfl] at this
        exact this
      · rw [h1.same.f 30 2 rfl, e2]
      · by_cases e : j = i
        · subst e; exact h2
        · exact LE_stp hI' hh hj' h1 hh (by omega) (Or.inr (by omega)) (hl j (by omega))
    ((first | ((with_reducible refine w_s hS ?_ ?_ ?_ (fun x hx => ?_)); (focus decide); (focus (first | decide | omega)); (focus (first | decide | (simp only [sl]; omega)))) | ((with_reducible refine w_m hS ?_ ?_ ?_ ?_ ?_ (fun x hx => ?_)); (focus decide); (focus (first | decide | omega)); (focus omega); (focus (first | decide | omega)); (focus (first | decide | (simp only [ml]; omega)))) | (with_reducible refine w_k (by simp (disch := omega) only [w32_id]; exact rfl) ?_; ((with_reducible refine w_s hS ?_ ?_ ?_ (fun x hx => ?_)); (focus decide); (focus (first | decide | omega)); (focus (first | decide | (simp only [sl]; omega))))) | (with_reducible refine w_k (by simp (disch := omega) only [w32_id]; exact rfl) ?_; ((with_reducible refine w_m hS ?_ ?_ ?_ ?_ ?_ (fun x hx => ?_)); (focus decide); (focus (first | decide | omega)); (focus omega); (focus (first | decide | omega)); (focus (first | decide | (simp only [ml]; omega)))))); (try simp (disch := omega) only [Int.reduceToNat, tn_c, tn8, tn8i, tn5, tn5z, tn6, tn6z, tn1, u3_ne, u3_eq, u3_ni, u3_nk, f_1_4 hF'] at hx); subst hx)
    ((first | ((with_reducible refine w_s hS ?_ ?_ ?_ (fun x hx => ?_)); (focus decide); (focus (first | decide | omega)); (focus (first | decide | (simp only [sl]; omega)))) | ((with_reducible refine w_m hS ?_ ?_ ?_ ?_ ?_ (fun x hx => ?_)); (focus decide); (focus (first | decide | omega)); (focus omega); (focus (first | decide | omega)); (focus (first | decide | (simp only [ml]; omega)))) | (with_reducible refine w_k (by simp (disch := omega) only [w32_id]; exact rfl) ?_; ((with_reducible refine w_s hS ?_ ?_ ?_ (fun x hx => ?_)); (focus decide); (focus (first | decide | omega)); (focus (first | decide | (simp only [sl]; omega))))) | (with_reducible refine w_k (by simp (disch := omega) only [w32_id]; exact rfl) ?_; ((with_reducible refine w_m hS ?_ ?_ ?_ ?_ ?_ (fun x hx => ?_)); (focus decide); (focus (first | decide | omega)); (focus omega); (focus (first | decide | omega)); (focus (first | decide | (simp only [ml]; omega)))))); (try simp (disch := omega) only [Int.reduceToNat, tn_c, tn8, tn8i, tn5, tn5z, tn6, tn6z, tn1, u3_ne, u3_eq, u3_ni, u3_nk, hF'] at hx); subst hx)
    refine w_ite (fun hg => ?_) (fun hg => ?_)
    · obtain ⟨_, t0, t1, mk, _⟩ := (hI'.IOO.1 i hj').1 (by omega)
      obtain ⟨q, eq⟩ : ∃ q : Nat, V' 4 0 i = (q : Int) := ⟨(V' 4 0 i).toNat, by omega⟩
      rw [eq] at t1
      have hq : q < rC R 20 := by omega
      obtain ⟨s, e30, es, hk⟩ := hI'.sht hh
      obtain ⟨⟨_, _, ⟨em, n0, n3⟩, _⟩, _⟩ := hI'.IQ.1 q hq
      rw [eq]
      ((first | ((with_reducible refine w_s hS ?_ ?_ ?_ (fun x hx => ?_)); (focus decide); (focus (first | decide | omega)); (focus (first | decide | (simp only [sl]; omega)))) | ((with_reducible refine w_m hS ?_ ?_ ?_ ?_ ?_ (fun x hx => ?_)); (focus decide); (focus (first | decide | omega)); (focus omega); (focus (first | decide | omega)); (focus (first | decide | (simp only [ml]; omega)))) | (with_reducible refine w_k (by simp (disch := omega) only [w32_id]; exact rfl) ?_; ((with_reducible refine w_s hS ?_ ?_ ?_ (fun x hx => ?_)); (focus decide); (focus (first | decide | omega)); (focus (first | decide | (simp only [sl]; omega))))) | (with_reducible refine w_k (by simp (disch := omega) only [w32_id]; exact rfl) ?_; ((with_reducible refine w_m hS ?_ ?_ ?_ ?_ ?_ (fun x hx => ?_)); (focus decide); (focus (first | decide | omega)); (focus omega); (focus (first | decide | omega)); (focus (first | decide | (simp only [ml]; omega)))))); (try simp (disch := omega) only [Int.reduceToNat, tn_c, tn8, tn8i, tn5, tn5z, tn6, tn6z, tn1, u3_ne, u3_eq, u3_ni, u3_nk, f_1_0 hF'] at hx); subst hx)
      ((first | ((with_reducible refine w_s hS ?_ ?_ ?_ (fun x hx => ?_)); (focus decide); (focus (first | decide | omega)); (focus (first | decide | (simp only [sl]; omega)))) | ((with_reducible refine w_m hS ?_ ?_ ?_ ?_ ?_ (fun x hx => ?_)); (focus decide); (focus (first | decide | omega)); (focus omega); (focus (first | decide | omega)); (focus (first | decide | (simp only [ml]; omega)))) | (with_reducible refine w_k (by simp (disch := omega) only [w32_id]; exact rfl) ?_; ((with_reducible refine w_s hS ?_ ?_ ?_ (fun x hx => ?_)); (focus decide); (focus (first | decide | omega)); (focus (first | decide | (simp only [sl]; omega))))) | (with_reducible refine w_k (by simp (disch := omega) only [w32_id]; exact rfl) ?_; ((with_reducible refine w_m hS ?_ ?_ ?_ ?_ ?_ (fun x hx => ?_)); (focus decide); (focus (first | decide | omega)); (focus omega); (focus (first | decide | omega)); (focus (first | decide | (simp only [ml]; omega)))))); (try simp (disch := omega) only [Int.reduceToNat, tn_c, tn8, tn8i, tn5, tn5z, tn6, tn6z, tn1, u3_ne, u3_eq, u3_ni, u3_nk, l_2 hI'.IL] at hx); subst hx)
      ((first | ((with_reducible refine w_s hS ?_ ?_ ?_ (fun x hx => ?_)); (focus decide); (focus (first | decide | omega)); (focus (first | decide | (simp only [sl]; omega)))) | ((with_reducible refine w_m hS ?_ ?_ ?_ ?_ ?_ (fun x hx => ?_)); (focus decide); (focus (first | decide | omega)); (focus omega); (focus (first | decide | omega)); (focus (first | decide | (simp only [ml]; omega)))) | (with_reducible refine w_k (by simp (disch := omega) only [w32_id]; exact rfl) ?_; ((with_reducible refine w_s hS ?_ ?_ ?_ (fun x hx => ?_)); (focus decide); (focus (first | decide | omega)); (focus (first | decide | (simp only [sl]; omega))))) | (with_reducible refine w_k (by simp (disch := omega) only [w32_id]; exact rfl) ?_; ((with_reducible refine w_m hS ?_ ?_ ?_ ?_ ?_ (fun x hx => ?_)); (focus decide); (focus (first | decide | omega)); (focus omega); (focus (first | decide | omega)); (focus (first | decide | (simp only [ml]; omega)))))); (try simp (disch := omega) only [Int.reduceToNat, tn_c, tn8, tn8i, tn5, tn5z, tn6, tn6z, tn1, u3_ne, u3_eq, u3_ni, u3_nk, em] at hx); subst hx)
      refine w_ite (fun m1 => ?_) (fun m1 => ?_)
      · ((first | ((with_reducible refine w_s hS ?_ ?_ ?_ (fun x hx => ?_)); (focus decide); (focus (first | decide | omega)); (focus (first | decide | (simp only [sl]; omega)))) | ((with_reducible refine w_m hS ?_ ?_ ?_ ?_ ?_ (fun x hx => ?_)); (focus decide); (focus (first | decide | omega)); (focus omega); (focus (first | decide | omega)); (focus (first | decide | (simp only [ml]; omega)))) | (with_reducible refine w_k (by simp (disch := omega) only [w32_id]; exact rfl) ?_; ((with_reducible refine w_s hS ?_ ?_ ?_ (fun x hx => ?_)); (focus decide); (focus (first | decide | omega)); (focus (first | decide | (simp only [sl]; omega))))) | (with_reducible refine w_k (by simp (disch := omega) only [w32_id]; exact rfl) ?_; ((with_reducible refine w_m hS ?_ ?_ ?_ ?_ ?_ (fun x hx => ?_)); (focus decide); (focus (first | decide | omega)); (focus omega); (focus (first | decide | omega)); (focus (first | decide | (simp only [ml]; omega)))))); (try simp (disch := omega) only [Int.reduceToNat, tn_c, tn8, tn8i, tn5, tn5z, tn6, tn6z, tn1, u3_ne, u3_eq, u3_ni, u3_nk, f_1_0 hF'] at hx); subst hx)
        ((first | ((with_reducible refine w_s hS ?_ ?_ ?_ (fun x hx => ?_)); (focus decide); (focus (first | decide | omega)); (focus (first | decide | (simp only [sl]; omega)))) | ((with_reducible refine w_m hS ?_ ?_ ?_ ?_ ?_ (fun x hx => ?_)); (focus decide); (focus (first | decide | omega)); (focus omega); (focus (first | decide | omega)); (focus (first | decide | (simp only [ml]; omega)))) | (with_reducible refine w_k (by simp (disch := omega) only [w32_id]; exact rfl) ?_; ((with_reducible refine w_s hS ?_ ?_ ?_ (fun x hx => ?_)); (focus decide); (focus (first | decide | omega)); (focus (first | decide | (simp only [sl]; omega))))) | (with_reducible refine w_k (by simp (disch := omega) only [w32_id]; exact rfl) ?_; ((with_reducible refine w_m hS ?_ ?_ ?_ ?_ ?_ (fun x hx => ?_)); (focus decide); (focus (first | decide | omega)); (focus omega); (focus (first | decide | omega)); (focus (first | decide | (simp only [ml]; omega)))))); (try simp (disch := omega) only [Int.reduceToNat, tn_c, tn8, tn8i, tn5, tn5z, tn6, tn6z, tn1, u3_ne, u3_eq, u3_ni, u3_nk, l_2 hI'.IL] at hx); subst hx)
        ((first | ((with_reducible refine w_s hS ?_ ?_ ?_ (fun x hx => ?_)); (focus decide); (focus (first | decide | omega)); (focus (first | decide | (simp only [sl]; omega)))) | ((with_reducible refine w_m hS ?_ ?_ ?_ ?_ ?_ (fun x hx => ?_)); (focus decide); (focus (first | decide | omega)); (focus omega); (focus (first | decide | omega)); (focus (first | decide | (simp only [ml]; omega)))) | (with_reducible refine w_k (by simp (disch := omega) only [w32_id]; exact rfl) ?_; ((with_reducible refine w_s hS ?_ ?_ ?_ (fun x hx => ?_)); (focus decide); (focus (first | decide | omega)); (focus (first | decide | (simp only [sl]; omega))))) | (with_reducible refine w_k (by simp (disch := omega) only [w32_id]; exact rfl) ?_; ((with_reducible refine w_m hS ?_ ?_ ?_ ?_ ?_ (fun x hx => ?_)); (focus decide); (focus (first | decide | omega)); (focus omega); (focus (first | decide | omega)); (focus (first | decide | (simp only [ml]; omega)))))); (try simp (disch := omega) only [Int.reduceToNat, tn_c, tn8, tn8i, tn5, tn5z, tn6, tn6z, tn1, u3_ne, u3_eq, u3_ni, u3_nk, em] at hx); subst hx)
        refine w_ite (fun m3 => ?_) (fun m3 => ?_)
        · exact w_makeHowMany hI' hh hj' eq hq (by rw [eq, tn_c] at mk; omega) (fun j hj => hl j hj) (fun V'' h1 h2 => next V'' h1 h2)
        · ((first | ((with_reducible refine w_s hS ?_ ?_ ?_ (fun x hx => ?_)); (focus decide); (focus (first | decide | omega)); (focus (first | decide | (simp only [sl]; omega)))) | ((with_reducible refine w_m hS ?_ ?_ ?_ ?_ ?_ (fun x hx => ?_)); (focus decide); (focus (first | decide | omega)); (focus omega); (focus (first | decide | omega)); (focus (first | decide | (simp only [ml]; omega)))) | (with_reducible refine w_k (by simp (disch := omega) only [w32_id]; exact rfl) ?_; ((with_reducible refine w_s hS ?_ ?_ ?_ (fun x hx => ?_)); (focus decide); (focus (first | decide | omega)); (focus (first | decide | (simp only [sl]; omega))))) | (with_reducible refine w_k (by simp (disch := omega) only [w32_id]; exact rfl) ?_; ((with_reducible refine w_m hS ?_ ?_ ?_ ?_ ?_ (fun x hx => ?_)); (focus decide); (focus (first | decide | omega)); (focus omega); (focus (first | decide | omega)); (focus (first | decide | (simp only [ml]; omega)))))); (try simp (disch := omega) only [Int.reduceToNat, tn_c, tn8, tn8i, tn5, tn5z, tn6, tn6z, tn1, u3_ne, u3_eq, u3_ni, u3_nk, e30] at hx); subst hx)
          exact w_makeSum hI' hh hj' eq hq (by omega) es hk (fun V'' h1 h2 => next V'' h1 h2)
      · ((first | ((with_reducible refine w_s hS ?_ ?_ ?_ (fun x hx => ?_)); (focus decide); (focus (first | decide | omega)); (focus (first | decide | (simp only [sl]; omega)))) | ((with_reducible refine w_m hS ?_ ?_ ?_ ?_ ?_ (fun x hx => ?_)); (focus decide); (focus (first | decide | omega)); (focus omega); (focus (first | decide | omega)); (focus (first | decide | (simp only [ml]; omega)))) | (with_reducible refine w_k (by simp (disch := omega) only [w32_id]; exact rfl) ?_; ((with_reducible refine w_s hS ?_ ?_ ?_ (fun x hx => ?_)); (focus decide); (focus (first | decide | omega)); (focus (first | decide | (simp only [sl]; omega))))) | (with_reducible refine w_k (by simp (disch := omega) only [w32_id]; exact rfl) ?_; ((with_reducible refine w_m hS ?_ ?_ ?_ ?_ ?_ (fun x hx => ?_)); (focus decide); (focus (first | decide | omega)); (focus omega); (focus (first | decide | omega)); (focus (first | decide | (simp only [ml]; omega)))))); (try simp (disch := omega) only [Int.reduceToNat, tn_c, tn8, tn8i, tn5, tn5z, tn6, tn6z, tn1, u3_ne, u3_eq, u3_ni, u3_nk, e30] at hx); subst hx)
        exact w_makeMapped hI' hh hj' eq hq (by omega) es hk (fun V'' h1 h2 => next V'' h1 h2)
    · obtain ⟨c, ec⟩ : ∃ c : Nat, V' 4 0 i = 24 + (c : Int) := ⟨(V' 4 0 i - 24).toNat, by omega⟩
      have := ((hI'.IOO.1 i hj').2 (by omega)).2.1
      rw [w32_id (by omega) (by omega), show V' 4 0 i - 24 = (c : Int) by omega]
      exact w_makeTruths hI' hh hj' ec (fun j hj => hl j hj) (fun V'' h1 h2 => next V'' h1 h2)
end Cls
