section Ref
variable {V : GV} {R : GR} {T : GV → Prop} {Q : Int → GS → Prop}
def NOW (V : GV) (R : GR) (h : Nat) : Prop := (∀ q, q < rC R 20 → nq V (V 30 h 0).toNat q) ∧ (∀ c, c < rC R 40 → nc V (V 30 h 0).toNat h c)
theorem w_workOut {h : Nat} (hI : INV T V R) (hh : h < rC R 30) (hd : V 30 h 2 = V 100 0 29) {f : Int × GS → GO} (k : ∀ V', same V V' LN → INV T V' R → NOW V' R h → Wp (f (0, (V', R))) Q) : Wp ((g_X9_workOut 0 (h : Int) (V, R)).bind f) Q := by
  have hS := hI.SH
  obtain ⟨hn, hh40, hc60, _⟩ := hI.IN.1
  obtain ⟨o1, o2, o3⟩ := hI.IN.2.2
  have eq0 := hI.IN.2.1.1
  obtain ⟨n, en⟩ : ∃ n : Nat, V 100 0 29 = (n : Int) := ⟨_, (Int.toNat_of_nonneg o2).symm⟩
  obtain ⟨s, e30, es, hk⟩ := hI.sht hh
  have hle : ∀ j, j < n → (j : Int) < V 100 0 29 ∧ LE V h j := fun j hj => ⟨by omega, (hI.IS h hh).2.2 j (by omega)⟩
  have hpers := hI.pers hh
  rw [es] at hpers
  have hok : ∀ q, q < rC R 20 → okr V s q := by
    intro q hq
    refine okr_all hI hh es hle (q + 1) q (by omega) hq ?_
    by_cases m0 : V 103 0 q = 0
    · exact Or.inl m0
    · obtain ⟨j, hj, ej⟩ := hI.IOO.2.2.1 q hq m0
      exact Or.inr ⟨j, by omega, ej⟩
  refine w_bind ?_
  unfold g_X9_workOut
  refine w_gv (by omega) ?_
  refine w_for (rC R 20) (fun i G => ∃ V', G = (V', R) ∧ same V V' LN ∧ ∀ q, q < i → V 103 0 q = 0 → ∀ t, t < 6 → V' 143 0 (6 * q + t) = V 115 0 (144 * h + 6 * q + t) ∧ V' 144 0 (6 * q + t) = V 116 0 (144 * h + 6 * q + t)) ?_ (i := 0) (by omega) (by omega) ⟨V, rfl, same.rf V _, fun q hq => absurd hq (by omega)⟩
  rintro i G hi ⟨V', rfl, sm, hv⟩ self ih
  have hI' := hI.now sm
  have hF' := hI'.RF
  unfold glX9_workOut_2
  ((first | ((with_reducible refine w_s hS ?_ ?_ ?_ (fun x hx => ?_)); (focus decide); (focus (first | decide | omega)); (focus (first | decide | (simp only [sl]; omega)))) | ((with_reducible refine w_m hS ?_ ?_ ?_ ?_ ?_ (fun x hx => ?_)); (focus decide); (focus (first | decide | omega)); (focus omega); (focus (first | decide | omega)); (focus (first | decide | (simp only [ml]; omega)))) | (with_reducible refine w_k (by simp (disch := omega) only [w32_id]; exact rfl) ?_; ((with_reducible refine w_s hS ?_ ?_ ?_ (fun x hx => ?_)); (focus decide); (focus (first | decide | omega)); (focus (first | decide | (simp only [sl]; omega))))) | (with_reducible refine w_k (by simp (disch := omega) only [w32_id]; exact rfl) ?_; ((with_reducible refine w_m hS ?_ ?_ ?_ ?_ ?_ (fun x hx => ?_)); (focus decide); (focus (first | decide | omega)); (focus omega); (focus (first | decide | omega)); (focus (first | decide | (simp only [ml]; omega)))))); (try simp (disch := omega) only [Int.reduceToNat, tn_c, tn8, tn8i, tn5, tn5z, tn6, tn6z, tn1, u3_ne, u3_eq, u3_ni, u3_nk, sm.f 100 0 rfl, eq0] at hx); subst hx)
  refine w_ite (fun hc => ?_) (fun hc => ?_)
  · -- the steps
    refine w_for n (fun j G => ∃ V', G = (V', R) ∧ same V V' LN ∧ (∀ q, q < rC R 20 → V 103 0 q = 0 → nq V' s q) ∧ ∀ i, i < j → (∀ q : Nat, V 4 0 i = (q : Int) → q < 24 → nq V' s q) ∧ (∀ c : Nat, V 4 0 i = 24 + (c : Int) → nc V' s h c)) ?_ (i := 0) (by omega) (by omega) ⟨V', rfl, sm, fun q hq m0 => ?_, fun i hi => absurd hi (by omega)⟩
    · rintro j G hj ⟨V', rfl, sm, hvt, hvs⟩ self ih
      have hI' := hI.now sm
      have hF' := hI'.RF
      have es' : (V' 30 h 0).toNat = s := by rw [sm.f 30 0 rfl]; exact es
      have eplc : ∀ r, plc V' s r = plc V s r := by intro r; unfold plc; rw [sm.r 32 rfl]
      have p5 : ∀ q, q < rC R 20 → plc V' s (V' 102 0 q) ≤ 5 := by intro q hq; rw [eplc, sm.r 102 rfl]; exact (plc_q hI.IQ hpers hq).2
      have p5c : ∀ q, q < rC R 40 → plc V' s (V' 125 0 q) ≤ 5 := by intro q hq; rw [eplc, sm.r 125 rfl]; exact (plc_c hI.IC hpers hq).2
      have okr' : ∀ q, q < rC R 20 → okr V' s q := by
        intro q hq p hp
        rw [eplc, sm.r 102 rfl] at hp
        rw [sm.r 32 rfl, sm.r 33 rfl, sm.r 102 rfl]
        exact hok q hq p hp
      have lec : LE V' h j ↔ LE V h j := by
        simp only [LE, LEq, LEc, conf, so, askf, mapv, sumr, plc, rowf_cg (sm.r 110 rfl) (sm.r 111 rfl), sumv_cg (sm.r 32 rfl) (sm.r 33 rfl), sm.r 4 rfl, sm.f 30 0 rfl, sm.r 32 rfl, sm.r 33 rfl, sm.r 34 rfl, sm.r 101 rfl, sm.r 102 rfl, sm.r 103 rfl, sm.r 104 rfl, sm.r 105 rfl, sm.r 112 rfl, sm.r 113 rfl, sm.r 119 rfl, sm.r 120 rfl, sm.r 121 rfl, sm.r 122 rfl, sm.r 123 rfl, sm.r 124 rfl, sm.r 125 rfl]
      unfold glX9_workOut_69 gjX9_workOut_116
      ((first | ((with_reducible refine w_s hS ?_ ?_ ?_ (fun x hx => ?_)); (focus decide); (focus (first | decide | omega)); (focus (first | decide | (simp only [sl]; omega)))) | ((with_reducible refine w_m hS ?_ ?_ ?_ ?_ ?_ (fun x hx => ?_)); (focus decide); (focus (first | decide | omega)); (focus omega); (focus (first | decide | omega)); (focus (first | decide | (simp only [ml]; omega)))) | (with_reducible refine w_k (by simp (disch := omega) only [w32_id]; exact rfl) ?_; ((with_reducible refine w_s hS ?_ ?_ ?_ (fun x hx => ?_)); (focus decide); (focus (first | decide | omega)); (focus (first | decide | (simp only [sl]; omega))))) | (with_reducible refine w_k (by simp (disch := omega) only [w32_id]; exact rfl) ?_; ((with_reducible refine w_m hS ?_ ?_ ?_ ?_ ?_ (fun x hx => ?_)); (focus decide); (focus (first | decide | omega)); (focus omega); (focus (first | decide | omega)); (focus (first | decide | (simp only [ml]; omega)))))); (try simp (disch := omega) only [Int.reduceToNat, tn_c, tn8, tn8i, tn5, tn5z, tn6, tn6z, tn1, u3_ne, u3_eq, u3_ni, u3_nk, sm.f 100 29 rfl, en] at hx); subst hx)
      refine w_ite (fun hx => w_ret (k V' sm hI' ?_)) (fun hx => ?_)
      · have ej : j = n := by omega
        subst ej
        unfold NOW
        rw [es']
        refine ⟨fun q hq => ?_, fun c hc => ?_⟩
        · by_cases m0 : V 103 0 q = 0
          · exact hvt q hq m0
          · obtain ⟨i, hi, ei⟩ := hI.IOO.2.2.1 q hq m0
            exact (hvs i (by omega)).1 q ei (by omega)
        · obtain ⟨i, hi, ei⟩ := hI.IOO.2.2.2 c hc
          exact (hvs i (by omega)).2 c ei
      · have hjo : (j : Int) < V 100 0 29 := by omega
        have hl := lec.mpr (hle j (by omega)).2
        have O := hI.IOO.1 j hjo
        ((first | ((with_reducible refine w_s hS ?_ ?_ ?_ (fun x hx => ?_)); (focus decide); (focus (first | decide | omega)); (focus (first | decide | (simp only [sl]; omega)))) | ((with_reducible refine w_m hS ?_ ?_ ?_ ?_ ?_ (fun x hx => ?_)); (focus decide); (focus (first | decide | omega)); (focus omega); (focus (first | decide | omega)); (focus (first | decide | (simp only [ml]; omega)))) | (with_reducible refine w_k (by simp (disch := omega) only [w32_id]; exact rfl) ?_; ((with_reducible refine w_s hS ?_ ?_ ?_ (fun x hx => ?_)); (focus decide); (focus (first | decide | omega)); (focus (first | decide | (simp only [sl]; omega))))) | (with_reducible refine w_k (by simp (disch := omega) only [w32_id]; exact rfl) ?_; ((with_reducible refine w_m hS ?_ ?_ ?_ ?_ ?_ (fun x hx => ?_)); (focus decide); (focus (first | decide | omega)); (focus omega); (focus (first | decide | omega)); (focus (first | decide | (simp only [ml]; omega)))))); (try simp (disch := omega) only [Int.reduceToNat, tn_c, tn8, tn8i, tn5, tn5z, tn6, tn6z, tn1, u3_ne, u3_eq, u3_ni, u3_nk, f_100_28 hF'] at hx); subst hx)
        ((first | ((with_reducible refine w_s hS ?_ ?_ ?_ (fun x hx => ?_)); (focus decide); (focus (first | decide | omega)); (focus (first | decide | (simp only [sl]; omega)))) | ((with_reducible refine w_m hS ?_ ?_ ?_ ?_ ?_ (fun x hx => ?_)); (focus decide); (focus (first | decide | omega)); (focus omega); (focus (first | decide | omega)); (focus (first | decide | (simp only [ml]; omega)))) | (with_reducible refine w_k (by simp (disch := omega) only [w32_id]; exact rfl) ?_; ((with_reducible refine w_s hS ?_ ?_ ?_ (fun x hx => ?_)); (focus decide); (focus (first | decide | omega)); (focus (first | decide | (simp only [sl]; omega))))) | (with_reducible refine w_k (by simp (disch := omega) only [w32_id]; exact rfl) ?_; ((with_reducible refine w_m hS ?_ ?_ ?_ ?_ ?_ (fun x hx => ?_)); (focus decide); (focus (first | decide | omega)); (focus omega); (focus (first | decide | omega)); (focus (first | decide | (simp only [ml]; omega)))))); (try simp (disch := omega) only [Int.reduceToNat, tn_c, tn8, tn8i, tn5, tn5z, tn6, tn6z, tn1, u3_ne, u3_eq, u3_ni, u3_nk, sm.r 128 rfl] at hx); subst hx)
        by_cases lt : V 4 0 j < 24
        · obtain ⟨e128, t0, t1, mk, _, b2, b13⟩ := O.1 lt
          refine w_ite (fun z => absurd z (by omega)) (fun _ => ?_)
          ((first | ((with_reducible refine w_s hS ?_ ?_ ?_ (fun x hx => ?_)); (focus decide); (focus (first | decide | omega)); (focus (first | decide | (simp only [sl]; omega)))) | ((with_reducible refine w_m hS ?_ ?_ ?_ ?_ ?_ (fun x hx => ?_)); (focus decide); (focus (first | decide | omega)); (focus omega); (focus (first | decide | omega)); (focus (first | decide | (simp only [ml]; omega)))) | (with_reducible refine w_k (by simp (disch := omega) only [w32_id]; exact rfl) ?_; ((with_reducible refine w_s hS ?_ ?_ ?_ (fun x hx => ?_)); (focus decide); (focus (first | decide | omega)); (focus (first | decide | (simp only [sl]; omega))))) | (with_reducible refine w_k (by simp (disch := omega) only [w32_id]; exact rfl) ?_; ((with_reducible refine w_m hS ?_ ?_ ?_ ?_ ?_ (fun x hx => ?_)); (focus decide); (focus (first | decide | omega)); (focus omega); (focus (first | decide | omega)); (focus (first | decide | (simp only [ml]; omega)))))); (try simp (disch := omega) only [Int.reduceToNat, tn_c, tn8, tn8i, tn5, tn5z, tn6, tn6z, tn1, u3_ne, u3_eq, u3_ni, u3_nk, f_100_28 hF'] at hx); subst hx)
          ((first | ((with_reducible refine w_s hS ?_ ?_ ?_ (fun x hx => ?_)); (focus decide); (focus (first | decide | omega)); (focus (first | decide | (simp only [sl]; omega)))) | ((with_reducible refine w_m hS ?_ ?_ ?_ ?_ ?_ (fun x hx => ?_)); (focus decide); (focus (first | decide | omega)); (focus omega); (focus (first | decide | omega)); (focus (first | decide | (simp only [ml]; omega)))) | (with_reducible refine w_k (by simp (disch := omega) only [w32_id]; exact rfl) ?_; ((with_reducible refine w_s hS ?_ ?_ ?_ (fun x hx => ?_)); (focus decide); (focus (first | decide | omega)); (focus (first | decide | (simp only [sl]; omega))))) | (with_reducible refine w_k (by simp (disch := omega) only [w32_id]; exact rfl) ?_; ((with_reducible refine w_m hS ?_ ?_ ?_ ?_ ?_ (fun x hx => ?_)); (focus decide); (focus (first | decide | omega)); (focus omega); (focus (first | decide | omega)); (focus (first | decide | (simp only [ml]; omega)))))); (try simp (disch := omega) only [Int.reduceToNat, tn_c, tn8, tn8i, tn5, tn5z, tn6, tn6z, tn1, u3_ne, u3_eq, u3_ni, u3_nk, sm.r 128 rfl] at hx); subst hx)
          obtain ⟨q, eq⟩ : ∃ q : Nat, V 4 0 j = (q : Int) := ⟨(V 4 0 j).toNat, by omega⟩
          rw [eq] at t1 mk b2 b13
          rw [tn_c] at mk b2 b13
          have hq : q < rC R 20 := by omega
          have hl := hl.1 (by rw [sm.r 4 rfl]; exact lt)
          rw [es', sm.r 4 rfl, eq, tn_c] at hl
          rw [e128, eq]
          have next : ∀ V'', tq V' V'' q → nq V'' s q → Wp (self (w32 ((j : Int) + 1)) (V'', R)) (fun r G => Wp (f (r, G)) Q) := by
            intro V'' ht hnq
            have sm' := ht.same
            refine ih _ (by omega) ⟨V'', rfl, sm.tr sm', fun q' hq' m0 => ?_, fun i hi => ⟨fun q' e hq' => ?_, fun c e => ?_⟩⟩
            · refine nq_cg sm' (fun t ht' => ?_) (p5 q' hq') (hvt q' hq' m0)
              have : q' ≠ q := fun z => by subst z; exact mk m0
              exact ⟨ht _ _ _ (by omega), ht _ _ _ (by omega)⟩
            · by_cases e' : q' = q
              · subst e'; exact hnq
              · have hi' : i < j := by
                  refine Nat.lt_of_le_of_ne (by omega) (fun z => ?_)
                  subst z; omega
                have q20 : q' < rC R 20 := by
                  have := ((hI.IOO.1 i (by omega)).1 (by omega)).2.2.1
                  omega
                refine nq_cg sm' (fun t ht' => ⟨ht _ _ _ (by omega), ht _ _ _ (by omega)⟩) (p5 q' q20) ((hvs i hi').1 q' e hq')
            · have hi' : i < j := by
                refine Nat.lt_of_le_of_ne (by omega) (fun z => ?_)
                subst z; omega
              have c40 : c < rC R 40 := by
                have := ((hI.IOO.1 i (by omega)).2 (by omega)).2.1
                omega
              exact nc_cg sm' (fun t ht' => ht _ _ _ (by omega)) (p5c c c40) ((hvs i hi').2 c e)
          obtain ⟨_, _, ⟨_, m0, m3⟩, _⟩ := (hI.IQ.1 q hq).1
          have e103 := sm.r 103 rfl 0 q
          have nb : V 103 0 q ≠ 2 → ∀ b : Nat, V' 104 0 q = (b : Int) → b < q → nq V' s b := by
            intro m2 b eb hbq
            rw [sm.r 104 rfl] at eb
            by_cases mb : V 103 0 b = 0
            · exact hvt b (by omega) mb
            · have := b13 m2
              rw [eb, tn_c] at this
              obtain ⟨i, hi, ei⟩ := this mb
              exact (hvs i hi).1 b ei (by omega)
          by_cases m1 : V 103 0 q = 1
          · refine w_makeAt1 hI' hh es' hq (by rw [e103]; exact m1) hl (fun b eb => ?_) (fun V'' h1 h2 => next V'' h1 h2)
            have := ((hI.IQ.1 q hq).2.2.2.1 m1).2.2.1
            have eb' := eb
            rw [sm.r 104 rfl] at eb'
            exact ⟨nb (by omega) b eb (by omega), okr' b (by omega)⟩
          · by_cases m2 : V 103 0 q = 2
            · refine w_makeAt2 hI' hh es' hq (by rw [e103]; exact m2) hl (fun c ec => ?_) (fun V'' h1 h2 => next V'' h1 h2)
              rw [sm.r 105 rfl] at ec
              have := b2 m2
              rw [ec] at this
              obtain ⟨i, hi, ei⟩ := this
              exact (hvs i hi).2 c ei
            · refine w_makeAt3 hI' hh es' hq (by rw [e103]; omega) hl (fun b eb => ?_) (fun V'' h1 h2 => next V'' h1 h2)
              have := ((hI.IQ.1 q hq).2.2.2.2.2 (by omega)).2.2.1
              have eb' := eb
              rw [sm.r 104 rfl] at eb'
              exact nb m2 b eb (by omega)
        · obtain ⟨e128, t1, b0, ba, bb⟩ := O.2 (by omega)
          refine w_ite (fun _ => ?_) (fun z => absurd (show V 128 0 j ≥ 100 by omega) z)
          ((first | ((with_reducible refine w_s hS ?_ ?_ ?_ (fun x hx => ?_)); (focus decide); (focus (first | decide | omega)); (focus (first | decide | (simp only [sl]; omega)))) | ((with_reducible refine w_m hS ?_ ?_ ?_ ?_ ?_ (fun x hx => ?_)); (focus decide); (focus (first | decide | omega)); (focus omega); (focus (first | decide | omega)); (focus (first | decide | (simp only [ml]; omega)))) | (with_reducible refine w_k (by simp (disch := omega) only [w32_id]; exact rfl) ?_; ((with_reducible refine w_s hS ?_ ?_ ?_ (fun x hx => ?_)); (focus decide); (focus (first | decide | omega)); (focus (first | decide | (simp only [sl]; omega))))) | (with_reducible refine w_k (by simp (disch := omega) only [w32_id]; exact rfl) ?_; ((with_reducible refine w_m hS ?_ ?_ ?_ ?_ ?_ (fun x hx => ?_)); (focus decide); (focus (first | decide | omega)); (focus omega); (focus (first | decide | omega)); (focus (first | decide | (simp only [ml]; omega)))))); (try simp (disch := omega) only [Int.reduceToNat, tn_c, tn8, tn8i, tn5, tn5z, tn6, tn6z, tn1, u3_ne, u3_eq, u3_ni, u3_nk, f_100_28 hF'] at hx); subst hx)
          ((first | ((with_reducible refine w_s hS ?_ ?_ ?_ (fun x hx => ?_)); (focus decide); (focus (first | decide | omega)); (focus (first | decide | (simp only [sl]; omega)))) | ((with_reducible refine w_m hS ?_ ?_ ?_ ?_ ?_ (fun x hx => ?_)); (focus decide); (focus (first | decide | omega)); (focus omega); (focus (first | decide | omega)); (focus (first | decide | (simp only [ml]; omega)))) | (with_reducible refine w_k (by simp (disch := omega) only [w32_id]; exact rfl) ?_; ((with_reducible refine w_s hS ?_ ?_ ?_ (fun x hx => ?_)); (focus decide); (focus (first | decide | omega)); (focus (first | decide | (simp only [sl]; omega))))) | (with_reducible refine w_k (by simp (disch := omega) only [w32_id]; exact rfl) ?_; ((with_reducible refine w_m hS ?_ ?_ ?_ ?_ ?_ (fun x hx => ?_)); (focus decide); (focus (first | decide | omega)); (focus omega); (focus (first | decide | omega)); (focus (first | decide | (simp only [ml]; omega)))))); (try simp (disch := omega) only [Int.reduceToNat, tn_c, tn8, tn8i, tn5, tn5z, tn6, tn6z, tn1, u3_ne, u3_eq, u3_ni, u3_nk, sm.r 128 rfl] at hx); subst hx)
          obtain ⟨c, ec⟩ : ∃ c : Nat, V 4 0 j = 24 + (c : Int) := ⟨(V 4 0 j - 24).toNat, by omega⟩
          rw [ec] at t1 b0 ba bb
          rw [show ((24 : Int) + (c : Int) - 24).toNat = c by omega] at b0 ba bb
          have hc : c < rC R 40 := by omega
          have hl := hl.2 (by rw [sm.r 4 rfl]; omega)
          rw [es', sm.r 4 rfl, ec, show ((24 : Int) + (c : Int) - 24).toNat = c by omega] at hl
          rw [e128, ec, w32_id (by omega) (by omega), show (24 : Int) + (c : Int) + 76 - 100 = (c : Int) by omega]
          have next : ∀ V'', tc V' V'' c → nc V'' s h c → Wp (self (w32 ((j : Int) + 1)) (V'', R)) (fun r G => Wp (f (r, G)) Q) := by
            intro V'' ht hnc
            have sm' := ht.same
            refine ih _ (by omega) ⟨V'', rfl, sm.tr sm', fun q' hq' m0 => ?_, fun i hi => ⟨fun q' e hq' => ?_, fun c' e => ?_⟩⟩
            · exact nq_cg sm' (fun t ht' => ⟨ht _ _ _ (by omega), ht _ _ _ (by omega)⟩) (p5 q' hq') (hvt q' hq' m0)
            · have hi' : i < j := by
                refine Nat.lt_of_le_of_ne (by omega) (fun z => ?_)
                subst z; omega
              have q20 : q' < rC R 20 := by
                have := ((hI.IOO.1 i (by omega)).1 (by omega)).2.2.1
                omega
              exact nq_cg sm' (fun t ht' => ⟨ht _ _ _ (by omega), ht _ _ _ (by omega)⟩) (p5 q' q20) ((hvs i hi').1 q' e hq')
            · by_cases e' : c' = c
              · subst e'; exact hnc
              · have hi' : i < j := by
                  refine Nat.lt_of_le_of_ne (by omega) (fun z => ?_)
                  subst z; omega
                have c40 : c' < rC R 40 := by
                  have := ((hI.IOO.1 i (by omega)).2 (by omega)).2.1
                  omega
                exact nc_cg sm' (fun t ht' => ht _ _ _ (by omega)) (p5c c' c40) ((hvs i hi').2 c' e)
          have e119 := sm.r 119 rfl 0 c
          have na : ∀ a : Nat, V 119 0 c ≠ 0 → V' 123 0 c = (a : Int) → nc V' s h a := by
            intro a s0 ea
            rw [sm.r 123 rfl] at ea
            have := ba s0
            rw [ea] at this
            obtain ⟨i, hi, ei⟩ := this
            exact (hvs i hi).2 a ei
          by_cases s4 : V 119 0 c = 4
          · exact w_sayAt4 hI' hh es' hc (by rw [e119]; exact s4) hl (fun a ea => na a (by omega) ea) (fun V'' h1 h2 => next V'' h1 h2)
          · refine w_sayAt0 hI' hh es' hc (by rw [e119]; exact s4) hl (fun q s0 eq => ?_) (fun a s0 ea => na a (by rw [e119] at s0; exact s0) ea) (fun b s12 eb => ?_) (fun V'' h1 h2 => next V'' h1 h2)
            · rw [e119] at s0
              rw [sm.r 121 rfl] at eq
              have qb := ((hI.IC c hc).2.2.2.2.2.1 s0).2.1.2.2
              refine ⟨?_, okr' q (by omega)⟩
              by_cases m0 : V 103 0 q = 0
              · exact hvt q (by omega) m0
              · have := b0 s0
                rw [eq, tn_c] at this
                obtain ⟨i, hi, ei⟩ := this m0
                exact (hvs i hi).1 q ei (by omega)
            · rw [e119] at s12
              rw [sm.r 124 rfl] at eb
              have := bb s12
              rw [eb] at this
              obtain ⟨i, hi, ei⟩ := this
              exact (hvs i hi).2 b ei
    · -- told answers
      intro p hp
      have hvq := hv q (by omega) m0
      have eplc : ∀ r, plc V' s r = plc V s r := by intro r; unfold plc; rw [sm.r 32 rfl]
      rw [eplc, sm.r 102 rfl] at hp
      rw [sm.r 102 rfl, sm.r 32 rfl, sm.r 33 rfl]
      have A := (hI.IA h hh).1 q hq m0
      rw [es] at A
      unfold slot
      by_cases t : V 102 0 q = -1
      · rw [t] at hp
        have : p = 0 := by unfold plc at hp; rw [if_pos rfl] at hp; omega
        subst this
        rw [if_pos t, (hvq 0 (by omega)).1, (hvq 0 (by omega)).2]
        exact ⟨(A.1 t).1.symm, (A.1 t).2.1.symm⟩
      · obtain ⟨r, er, _⟩ := hI.IQ.ro hq t
        have := (plc_q hI.IQ hpers hq).2
        obtain ⟨e1, e2, _⟩ := A.2 (by omega) p (by omega)
        rw [if_neg t, (hvq (p + 1) (by omega)).1, (hvq (p + 1) (by omega)).2]
        exact ⟨e1.symm, e2.symm⟩
  · -- the slots of one question
    have hi20 : i < rC R 20 := by omega
    refine w_for 6 (fun t G => ∃ V'', G = (V'', R) ∧ same V V'' LN ∧ (∀ q, q < i → V 103 0 q = 0 → ∀ t, t < 6 → V'' 143 0 (6 * q + t) = V 115 0 (144 * h + 6 * q + t) ∧ V'' 144 0 (6 * q + t) = V 116 0 (144 * h + 6 * q + t)) ∧ ∀ t', t' < t → V'' 143 0 (6 * i + t') = V 115 0 (144 * h + 6 * i + t') ∧ V'' 144 0 (6 * i + t') = V 116 0 (144 * h + 6 * i + t')) ?_ (i := 0) (by omega) (by omega) ⟨V', rfl, sm, hv, fun t ht => absurd ht (by omega)⟩
    rintro t G ht ⟨V'', rfl, sm, hv, hvi⟩ self' ih'
    have hI' := hI.now sm
    have hF' := hI'.RF
    unfold glX9_workOut_12 gjX9_workOut_61
    refine w_ite (fun hx => ?_) (fun hx => ?_)
    · refine ih _ (by omega) ⟨V'', rfl, sm, fun q hq m0 t ht => ?_⟩
      by_cases e : q = i
      · subst e; exact hvi t (by omega)
      · exact hv q (by omega) m0 t ht
    · ((first | ((with_reducible refine w_s hS ?_ ?_ ?_ (fun x hx => ?_)); (focus decide); (focus (first | decide | omega)); (focus (first | decide | (simp only [sl]; omega)))) | ((with_reducible refine w_m hS ?_ ?_ ?_ ?_ ?_ (fun x hx => ?_)); (focus decide); (focus (first | decide | omega)); (focus omega); (focus (first | decide | omega)); (focus (first | decide | (simp only [ml]; omega)))) | (with_reducible refine w_k (by simp (disch := omega) only [w32_id]; exact rfl) ?_; ((with_reducible refine w_s hS ?_ ?_ ?_ (fun x hx => ?_)); (focus decide); (focus (first | decide | omega)); (focus (first | decide | (simp only [sl]; omega))))) | (with_reducible refine w_k (by simp (disch := omega) only [w32_id]; exact rfl) ?_; ((with_reducible refine w_m hS ?_ ?_ ?_ ?_ ?_ (fun x hx => ?_)); (focus decide); (focus (first | decide | omega)); (focus omega); (focus (first | decide | omega)); (focus (first | decide | (simp only [ml]; omega)))))); (try simp (disch := omega) only [Int.reduceToNat, tn_c, tn8, tn8i, tn5, tn5z, tn6, tn6z, tn1, u3_ne, u3_eq, u3_ni, u3_nk, f_100_3 hF'] at hx); subst hx)
      ((first | ((with_reducible refine w_s hS ?_ ?_ ?_ (fun x hx => ?_)); (focus decide); (focus (first | decide | omega)); (focus (first | decide | (simp only [sl]; omega)))) | ((with_reducible refine w_m hS ?_ ?_ ?_ ?_ ?_ (fun x hx => ?_)); (focus decide); (focus (first | decide | omega)); (focus omega); (focus (first | decide | omega)); (focus (first | decide | (simp only [ml]; omega)))) | (with_reducible refine w_k (by simp (disch := omega) only [w32_id]; exact rfl) ?_; ((with_reducible refine w_s hS ?_ ?_ ?_ (fun x hx => ?_)); (focus decide); (focus (first | decide | omega)); (focus (first | decide | (simp only [sl]; omega))))) | (with_reducible refine w_k (by simp (disch := omega) only [w32_id]; exact rfl) ?_; ((with_reducible refine w_m hS ?_ ?_ ?_ ?_ ?_ (fun x hx => ?_)); (focus decide); (focus (first | decide | omega)); (focus omega); (focus (first | decide | omega)); (focus (first | decide | (simp only [ml]; omega)))))); (try simp (disch := omega) only [Int.reduceToNat, tn_c, tn8, tn8i, tn5, tn5z, tn6, tn6z, tn1, u3_ne, u3_eq, u3_ni, u3_nk, sm.r 103 rfl] at hx); subst hx)
      refine w_ite (fun hm => ?_) (fun hm => ?_)
      · refine ih _ (by omega) ⟨V'', rfl, sm, fun q hq m0 t ht => ?_⟩
        by_cases e : q = i
        · subst e; exact absurd m0 hm
        · exact hv q (by omega) m0 t ht
      · ((first | ((with_reducible refine w_s hS ?_ ?_ ?_ (fun x hx => ?_)); (focus decide); (focus (first | decide | omega)); (focus (first | decide | (simp only [sl]; omega)))) | ((with_reducible refine w_m hS ?_ ?_ ?_ ?_ ?_ (fun x hx => ?_)); (focus decide); (focus (first | decide | omega)); (focus omega); (focus (first | decide | omega)); (focus (first | decide | (simp only [ml]; omega)))) | (with_reducible refine w_k (by simp (disch := omega) only [w32_id]; exact rfl) ?_; ((with_reducible refine w_s hS ?_ ?_ ?_ (fun x hx => ?_)); (focus decide); (focus (first | decide | omega)); (focus (first | decide | (simp only [sl]; omega))))) | (with_reducible refine w_k (by simp (disch := omega) only [w32_id]; exact rfl) ?_; ((with_reducible refine w_m hS ?_ ?_ ?_ ?_ ?_ (fun x hx => ?_)); (focus decide); (focus (first | decide | omega)); (focus omega); (focus (first | decide | omega)); (focus (first | decide | (simp only [ml]; omega)))))); (try simp (disch := omega) only [Int.reduceToNat, tn_c, tn8, tn8i, tn5, tn5z, tn6, tn6z, tn1, u3_ne, u3_eq, u3_ni, u3_nk, f_100_15 hF'] at hx); subst hx)
        refine w_place (by omega) (by omega) (by omega) ?_
        ((first | ((with_reducible refine w_s hS ?_ ?_ ?_ (fun x hx => ?_)); (focus decide); (focus (first | decide | omega)); (focus (first | decide | (simp only [sl]; omega)))) | ((with_reducible refine w_m hS ?_ ?_ ?_ ?_ ?_ (fun x hx => ?_)); (focus decide); (focus (first | decide | omega)); (focus omega); (focus (first | decide | omega)); (focus (first | decide | (simp only [ml]; omega)))) | (with_reducible refine w_k (by simp (disch := omega) only [w32_id]; exact rfl) ?_; ((with_reducible refine w_s hS ?_ ?_ ?_ (fun x hx => ?_)); (focus decide); (focus (first | decide | omega)); (focus (first | decide | (simp only [sl]; omega))))) | (with_reducible refine w_k (by simp (disch := omega) only [w32_id]; exact rfl) ?_; ((with_reducible refine w_m hS ?_ ?_ ?_ ?_ ?_ (fun x hx => ?_)); (focus decide); (focus (first | decide | omega)); (focus omega); (focus (first | decide | omega)); (focus (first | decide | (simp only [ml]; omega)))))); (try simp (disch := omega) only [Int.reduceToNat, tn_c, tn8, tn8i, tn5, tn5z, tn6, tn6z, tn1, u3_ne, u3_eq, u3_ni, u3_nk, sm.r 115 rfl] at hx); subst hx)
        ((first | ((with_reducible refine w_s hS ?_ ?_ ?_ (fun x hx => ?_)); (focus decide); (focus (first | decide | omega)); (focus (first | decide | (simp only [sl]; omega)))) | ((with_reducible refine w_m hS ?_ ?_ ?_ ?_ ?_ (fun x hx => ?_)); (focus decide); (focus (first | decide | omega)); (focus omega); (focus (first | decide | omega)); (focus (first | decide | (simp only [ml]; omega)))) | (with_reducible refine w_k (by simp (disch := omega) only [w32_id]; exact rfl) ?_; ((with_reducible refine w_s hS ?_ ?_ ?_ (fun x hx => ?_)); (focus decide); (focus (first | decide | omega)); (focus (first | decide | (simp only [sl]; omega))))) | (with_reducible refine w_k (by simp (disch := omega) only [w32_id]; exact rfl) ?_; ((with_reducible refine w_m hS ?_ ?_ ?_ ?_ ?_ (fun x hx => ?_)); (focus decide); (focus (first | decide | omega)); (focus omega); (focus (first | decide | omega)); (focus (first | decide | (simp only [ml]; omega)))))); (try simp (disch := omega) only [Int.reduceToNat, tn_c, tn8, tn8i, tn5, tn5z, tn6, tn6z, tn1, u3_ne, u3_eq, u3_ni, u3_nk, f_100_16 hF'] at hx); subst hx)
        refine w_place (by omega) (by omega) (by omega) ?_
        ((first | ((with_reducible refine w_s hS ?_ ?_ ?_ (fun x hx => ?_)); (focus decide); (focus (first | decide | omega)); (focus (first | decide | (simp only [sl]; omega)))) | ((with_reducible refine w_m hS ?_ ?_ ?_ ?_ ?_ (fun x hx => ?_)); (focus decide); (focus (first | decide | omega)); (focus omega); (focus (first | decide | omega)); (focus (first | decide | (simp only [ml]; omega)))) | (with_reducible refine w_k (by simp (disch := omega) only [w32_id]; exact rfl) ?_; ((with_reducible refine w_s hS ?_ ?_ ?_ (fun x hx => ?_)); (focus decide); (focus (first | decide | omega)); (focus (first | decide | (simp only [sl]; omega))))) | (with_reducible refine w_k (by simp (disch := omega) only [w32_id]; exact rfl) ?_; ((with_reducible refine w_m hS ?_ ?_ ?_ ?_ ?_ (fun x hx => ?_)); (focus decide); (focus (first | decide | omega)); (focus omega); (focus (first | decide | omega)); (focus (first | decide | (simp only [ml]; omega)))))); (try simp (disch := omega) only [Int.reduceToNat, tn_c, tn8, tn8i, tn5, tn5z, tn6, tn6z, tn1, u3_ne, u3_eq, u3_ni, u3_nk, sm.r 116 rfl] at hx); subst hx)
        refine w_told hS hF' (by omega) (by omega) ?_
        refine ih' _ (by omega) ⟨_, rfl, tellv_same sm, fun q hq m0 t' ht' => ?_, fun t' ht' => ?_⟩
        · rw [tellv_o (Or.inr (by omega)), tellv_o (Or.inr (by omega))]; exact hv q hq m0 t' ht'
        · by_cases e : t' = t
          · subst e; rw [tellv_1, tellv_2]; exact ⟨rfl, rfl⟩
          · rw [tellv_o (Or.inr (by omega)), tellv_o (Or.inr (by omega))]; exact hvi t' (by omega)
end Ref
