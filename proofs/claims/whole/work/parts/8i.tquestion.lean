section Question
variable {V : GV} {R : GR} {Q : Int → GS → Prop}
theorem w_qFull {f : Int × GS → GO} (hI : INV IT V R) (k0 : rC R 20 < 24 → Wp (f (0, (V, R))) Q) (k1 : rC R 20 = 24 → Wp (f (1, (V, R))) Q) : Wp ((g_X3_questionsAreFull 0 (V, R)).bind f) Q := by
  have hS := hI.SH
  have b20 := hI.IN.1.1
  have n2 := hI.IN.2.1.2.1
  refine w_bind ?_
  unfold g_X3_questionsAreFull
  refine w_gv (by omega) ?_
  ((first | ((with_reducible refine w_s hS ?_ ?_ ?_ (fun x hx => ?_)); (focus decide); (focus (first | decide | omega)); (focus (first | decide | (simp only [sl]; omega)))) | ((with_reducible refine w_m hS ?_ ?_ ?_ ?_ ?_ (fun x hx => ?_)); (focus decide); (focus (first | decide | omega)); (focus omega); (focus (first | decide | omega)); (focus (first | decide | (simp only [ml]; omega)))) | (with_reducible refine w_k (by simp (disch := omega) only [w32_id]; exact rfl) ?_; ((with_reducible refine w_s hS ?_ ?_ ?_ (fun x hx => ?_)); (focus decide); (focus (first | decide | omega)); (focus (first | decide | (simp only [sl]; omega))))) | (with_reducible refine w_k (by simp (disch := omega) only [w32_id]; exact rfl) ?_; ((with_reducible refine w_m hS ?_ ?_ ?_ ?_ ?_ (fun x hx => ?_)); (focus decide); (focus (first | decide | omega)); (focus omega); (focus (first | decide | omega)); (focus (first | decide | (simp only [ml]; omega)))))); (try simp (disch := omega) only [Int.reduceToNat, tn_c, tn8, tn8i, tn5, tn5z, tn6, tn6z, tn1, u3_ne, u3_eq, u3_ni, u3_nk, n2] at hx); subst hx)
  exact w_ite (fun z => w_ret (k0 (by omega))) (fun z => w_ret (k1 (by omega)))
theorem SH5 (hS : SH R) (mk : Int) : SH (rq5 R (if mk = 1 then 8 else 0)) ∧ rC (rq5 R (if mk = 1 then 8 else 0)) 20 = rC R 20 + 1 := by
  have l8 : (if mk = 1 then 8 else 0 : Nat) ≤ 8 := by
    by_cases z : mk = 1
    · rw [if_pos z]; exact Nat.le_refl _
    · rw [if_neg z]; exact Nat.zero_le _
  have h := RQ5 hS _ l8
  exact ⟨SH_RQ hS h, h.1 20 (by decide) (by decide)⟩
theorem w_mkQ {o : Nat} {kd ro mk so x3 : Int} {f : Int × GS → GO} (hI : INV IT V R) (q24 : rC R 20 < 24) (eo : V 100 0 29 = (o : Int)) (ex : x3 = 0) (K : Wp (f ((rC R 20 : Int), (cqs V (rC R 20) o kd ro mk so, rq5 R (if mk = 1 then 8 else 0)))) Q) : Wp ((g_X5_init (rC R 20 : Int) kd ro mk so (nv V 20 (rC R 20), nr R 20 13)).bind fun z5 => (g_X3_addQuestion x3 (rC R 20 : Int) z5.2).bind f) Q := by
  subst ex
  have room := hI.room
  refine w_init5 hI.SH (by omega) (by omega) rfl ?_
  obtain ⟨h1, h2⟩ := SH5 hI.SH mk
  exact w_addQ hI q24 eo h1 h2 K
theorem w_refQ {E : GV} {R' : GR} {o : Nat} {kd ro mk : Int} {f : Int × GS → GO} (hI : INV IT V R) (hS' : SH R') (q24 : rC R 20 < 24) (eo : V 100 0 29 = (o : Int)) (er : ∀ r i k, 100 ≤ r → E r i k = V r i k) (hmk : 0 ≤ mk)
  (K : ∀ W', (∀ r i k, ¬ rset (rC R 20) o (rC R 30) mk r k → W' r i k = E r i k) → (W' 101 0 (rC R 20) = kd ∧ W' 102 0 (rC R 20) = ro ∧ W' 103 0 (rC R 20) = mk ∧ W' 106 0 (rC R 20) = -1) → W' 100 0 0 = (rC R 20 : Int) + 1 → (mk ≠ 0 → W' 128 0 o = (rC R 20 : Int) ∧ W' 100 0 29 = (o : Int) + 1) → (∀ h t, h < rC R 30 → t < 6 → W' 115 0 (144 * h + 6 * rC R 20 + t) = 0 ∧ (kd = 5 → W' 116 0 (144 * h + 6 * rC R 20 + t) = 0) ∧ (kd ≠ 5 → W' 116 0 (144 * h + 6 * rC R 20 + t) = 1)) → Wp (f ((rC R 20 : Int), (W', R'))) Q) : Wp ((g_X9_add 0 kd ro mk (E, R')).bind f) Q := by
  have hF := hI.RF
  obtain ⟨b20, b30, b40, b50⟩ := hI.IN.1
  obtain ⟨n1, n2, n3, _⟩ := hI.IN.2.1
  obtain ⟨p1, p2, p3⟩ := hI.IN.2.2
  refine w_radd hS' q24 b30 (by omega) (by rw [er _ _ _ (by decide)]; exact n1) (by rw [er _ _ _ (by decide)]; exact n3) (by rw [er _ _ _ (by decide)]; exact eo) (fun k hk => ?_) hmk K
  rw [er _ _ _ (by decide)]
  simp only [List.mem_cons, List.mem_nil_iff, or_false] at hk
  rcases hk with rfl | rfl | rfl | rfl | rfl | rfl | rfl
  · exact f_100_1 hF
  · exact f_100_2 hF
  · exact f_100_3 hF
  · exact f_100_6 hF
  · exact f_100_15 hF
  · exact f_100_16 hF
  · exact f_100_28 hF
theorem cqs_hi {q o : Nat} {kd ro mk so : Int} : ∀ r i k, 100 ≤ r → cqs V q o kd ro mk so r i k = V r i k := fun r i k h => cqs_f.1 r i k (by rintro (y | y | y | y) <;> omega)
theorem w_gl20 {n k : Nat} {f : Int → GO} (hS : SH R) (hn : n < rC R 20) (hk : k < 13) (q : Wp (f (V 20 n k)) Q) : Wp ((gl 20 (nv V 20 (rC R 20), nr R 20 13) (n : Int) (k : Int)).bind f) Q := by
  refine w_gl (by omega) (by rw [tn_c, nr_Ce]; omega) (by omega) ?_ (fun x hx => ?_)
  · rw [tn_c, tn_c, nr_N (Or.inr (by omega)), hS.2.1 20 (by decide) n hn]; exact hk
  · rw [tn_c, tn_c, nv_o (Or.inr (by omega))] at hx
    subst hx; exact q
theorem T_question (hI : INV IT V R) (kd ro : Int) : Wp (g_X8_question 0 kd ro (V, R)) (fun r G => Wp (g_X9_question 0 kd ro G) (PO r)) := by
  have hS := hI.SH
  have hF := hI.RF
  have hL := hI.IL
  have hQ := hI.IQ
  obtain ⟨b20, b30, b40, b50⟩ := hI.IN.1
  obtain ⟨n1, n2, n3, n4, n5, n6, n7, n8⟩ := hI.IN.2.1
  obtain ⟨p1, p2, p3⟩ := hI.IN.2.2
  obtain ⟨o, eo⟩ : ∃ o : Nat, V 100 0 29 = (o : Int) := ⟨_, (Int.toNat_of_nonneg p2).symm⟩
  have room := hI.room
  have bad : ¬ ((0 ≤ kd ∧ kd ≤ 5) ∧ (ro = -1 ∨ (0 ≤ ro ∧ ro < (rC R 20 : Int)))) → Wp (g_X9_question 0 kd ro (V, R)) (PO (-1)) := by
    intro hb
    unfold g_X9_question
    refine w_gv (by omega) ?_
    refine w_in (fun hw => ?_) (fun hw => w_ite (fun _ => w_ret ⟨rfl, hI⟩) (fun z => absurd rfl z))
    refine w_ite (fun z => absurd (show (1 : Int) = 0 from z) (by decide)) (fun _ => ?_)
    refine w_ite (fun z => absurd (show (0 ≤ kd ∧ kd ≤ 5) ∧ (ro = -1 ∨ (0 ≤ ro ∧ ro < (rC R 20 : Int))) by omega) hb) (fun z => ?_)
    exact w_isQ' hS n1 b20 (fun h2 => absurd (show (0 ≤ kd ∧ kd ≤ 5) ∧ (ro = -1 ∨ (0 ≤ ro ∧ ro < (rC R 20 : Int))) by omega) hb) (fun hn' => w_ite (fun z => absurd rfl z) (fun _ => w_ret ⟨rfl, hI⟩))
  unfold g_X8_question
  refine w_gv (by omega) ?_
  refine w_ite (fun z => w_ret (bad (by omega))) (fun z1 => w_ite (fun z2 => ?_) (fun z => w_ret (bad (by omega))))
  have hk : 0 ≤ kd ∧ kd ≤ 5 := by omega
  -- the reference, up to its gate
  have gate : ∀ {E : GV} {R' : GR} {P : Int → GS → Prop}, SH R' → (∀ r i k, 100 ≤ r → E r i k = V r i k) → (ro = -1 ∨ (0 ≤ ro ∧ ro < (rC R 20 : Int))) → (ro ≠ -1 → (V 101 0 ro.toNat ≠ 5 ∨ kd = 5) → P (-2) (E, R')) → ((ro = -1 ∨ (V 101 0 ro.toNat = 5 ∧ kd ≠ 5)) → Wp (gjX9_question_49 0 kd ro (E, R')) P) → Wp (g_X9_question 0 kd ro (E, R')) P := by
    intro E R' P hS' er hro pk pg
    have hS := hS'
    have e0 : E 100 0 0 = (rC R 20 : Int) := by rw [er _ _ _ (by decide)]; exact n1
    have e1 : E 100 0 1 = 0 := by rw [er _ _ _ (by decide)]; exact f_100_1 hF
    have body : Wp (gjX9_question_27 0 kd ro (E, R')) P := by
      unfold gjX9_question_27
      refine w_ite (fun z => pg (Or.inl (by omega))) (fun z => ?_)
      ((first | ((with_reducible refine w_s hS ?_ ?_ ?_ (fun x hx => ?_)); (focus decide); (focus (first | decide | omega)); (focus (first | decide | (simp only [sl]; omega)))) | ((with_reducible refine w_m hS ?_ ?_ ?_ ?_ ?_ (fun x hx => ?_)); (focus decide); (focus (first | decide | omega)); (focus omega); (focus (first | decide | omega)); (focus (first | decide | (simp only [ml]; omega)))) | (with_reducible refine w_k (by simp (disch := omega) only [w32_id]; exact rfl) ?_; ((with_reducible refine w_s hS ?_ ?_ ?_ (fun x hx => ?_)); (focus decide); (focus (first | decide | omega)); (focus (first | decide | (simp only [sl]; omega))))) | (with_reducible refine w_k (by simp (disch := omega) only [w32_id]; exact rfl) ?_; ((with_reducible refine w_m hS ?_ ?_ ?_ ?_ ?_ (fun x hx => ?_)); (focus decide); (focus (first | decide | omega)); (focus omega); (focus (first | decide | omega)); (focus (first | decide | (simp only [ml]; omega)))))); (try simp (disch := omega) only [Int.reduceToNat, tn_c, tn8, tn8i, tn5, tn5z, tn6, tn6z, tn1, u3_ne, u3_eq, u3_ni, u3_nk, e1] at hx); subst hx)
      ((first | ((with_reducible refine w_s hS ?_ ?_ ?_ (fun x hx => ?_)); (focus decide); (focus (first | decide | omega)); (focus (first | decide | (simp only [sl]; omega)))) | ((with_reducible refine w_m hS ?_ ?_ ?_ ?_ ?_ (fun x hx => ?_)); (focus decide); (focus (first | decide | omega)); (focus omega); (focus (first | decide | omega)); (focus (first | decide | (simp only [ml]; omega)))) | (with_reducible refine w_k (by simp (disch := omega) only [w32_id]; exact rfl) ?_; ((with_reducible refine w_s hS ?_ ?_ ?_ (fun x hx => ?_)); (focus decide); (focus (first | decide | omega)); (focus (first | decide | (simp only [sl]; omega))))) | (with_reducible refine w_k (by simp (disch := omega) only [w32_id]; exact rfl) ?_; ((with_reducible refine w_m hS ?_ ?_ ?_ ?_ ?_ (fun x hx => ?_)); (focus decide); (focus (first | decide | omega)); (focus omega); (focus (first | decide | omega)); (focus (first | decide | (simp only [ml]; omega)))))); (try simp (disch := omega) only [Int.reduceToNat, tn_c, tn8, tn8i, tn5, tn5z, tn6, tn6z, tn1, u3_ne, u3_eq, u3_ni, u3_nk, er 101 _ _ (by decide)] at hx); subst hx)
      refine w_ite (fun y => w_ret (pk (by omega) (Or.inl y))) (fun y => w_ite (fun w => pg (Or.inr ⟨by omega, w⟩)) (fun w => w_ret (pk (by omega) (Or.inr (by omega)))))
    unfold g_X9_question
    refine w_gv (by omega) ?_
    refine w_in (fun _ => ?_) (fun z => absurd hk z)
    refine w_ite (fun z => absurd (show (1 : Int) = 0 from z) (by decide)) (fun _ => ?_)
    refine w_ite (fun _ => body) (fun z => ?_)
    refine w_isQ' hS e0 b20 (fun _ => ?_) (fun hn' => absurd (hro.resolve_left z) hn')
    exact w_ite (fun _ => body) (fun z => absurd (show (1 : Int) ≠ 0 by decide) z)
  have main : (ro = -1 ∨ (0 ≤ ro ∧ ro < (rC R 20 : Int))) → (ro = -1 ∨ (V 101 0 ro.toNat = 5 ∧ kd ≠ 5)) → Wp (gjX8_question_47 0 kd ro (V, R)) (fun r G => Wp (g_X9_question 0 kd ro G) (PO r)) := by
    intro hro hkr
    unfold gjX8_question_47
    ((first | ((with_reducible refine w_s hS ?_ ?_ ?_ (fun x hx => ?_)); (focus decide); (focus (first | decide | omega)); (focus (first | decide | (simp only [sl]; omega)))) | ((with_reducible refine w_m hS ?_ ?_ ?_ ?_ ?_ (fun x hx => ?_)); (focus decide); (focus (first | decide | omega)); (focus omega); (focus (first | decide | omega)); (focus (first | decide | (simp only [ml]; omega)))) | (with_reducible refine w_k (by simp (disch := omega) only [w32_id]; exact rfl) ?_; ((with_reducible refine w_s hS ?_ ?_ ?_ (fun x hx => ?_)); (focus decide); (focus (first | decide | omega)); (focus (first | decide | (simp only [sl]; omega))))) | (with_reducible refine w_k (by simp (disch := omega) only [w32_id]; exact rfl) ?_; ((with_reducible refine w_m hS ?_ ?_ ?_ ?_ ?_ (fun x hx => ?_)); (focus decide); (focus (first | decide | omega)); (focus omega); (focus (first | decide | omega)); (focus (first | decide | (simp only [ml]; omega)))))); (try simp (disch := omega) only [Int.reduceToNat, tn_c, tn8, tn8i, tn5, tn5z, tn6, tn6z, tn1, u3_ne, u3_eq, u3_ni, u3_nk, f_0_0 hF] at hx); subst hx)
    refine w_qFull hI (fun q24 => ?_) (fun q24 => ?_)
    · refine w_ite (fun _ => ?_) (fun z => absurd rfl z)
      ((first | ((with_reducible refine w_s hS ?_ ?_ ?_ (fun x hx => ?_)); (focus decide); (focus (first | decide | omega)); (focus (first | decide | (simp only [sl]; omega)))) | ((with_reducible refine w_m hS ?_ ?_ ?_ ?_ ?_ (fun x hx => ?_)); (focus decide); (focus (first | decide | omega)); (focus omega); (focus (first | decide | omega)); (focus (first | decide | (simp only [ml]; omega)))) | (with_reducible refine w_k (by simp (disch := omega) only [w32_id]; exact rfl) ?_; ((with_reducible refine w_s hS ?_ ?_ ?_ (fun x hx => ?_)); (focus decide); (focus (first | decide | omega)); (focus (first | decide | (simp only [sl]; omega))))) | (with_reducible refine w_k (by simp (disch := omega) only [w32_id]; exact rfl) ?_; ((with_reducible refine w_m hS ?_ ?_ ?_ ?_ ?_ (fun x hx => ?_)); (focus decide); (focus (first | decide | omega)); (focus omega); (focus (first | decide | omega)); (focus (first | decide | (simp only [ml]; omega)))))); (try simp (disch := omega) only [Int.reduceToNat, tn_c, tn8, tn8i, tn5, tn5z, tn6, tn6z, tn1, u3_ne, u3_eq, u3_ni, u3_nk, f_0_0 hF] at hx); subst hx)
      refine w_gn (n := 13) (by omega) (by omega) (by omega) ?_
      refine w_mkQ hI q24 eo rfl ?_
      obtain ⟨hS', c'⟩ := SH5 hS (0 : Int)
      have hr : hid (ro = -1 ∨ (0 ≤ ro ∧ ro < (rC R 20 : Int) ∧ V 101 0 ro.toNat = 5 ∧ kd ≠ 5)) := by
        by_cases z : ro = -1
        · exact Or.inl z
        · have h1 := hro.resolve_left z
          have h2 := hkr.resolve_left z
          exact Or.inr ⟨h1.1, h1.2, h2.1, h2.2⟩
      have tail : ∀ E : GV, (∀ r i k, ¬ ((r = 32 ∨ r = 33) ∧ k = 5 * rC R 20 ∧ kd = 5 ∧ ∃ h, h < rC R 30 ∧ i = (V 30 h 0).toNat) → E r i k = cqs V (rC R 20) o kd ro 0 (-1) r i k) → (kd = 5 → ∀ h, h < rC R 30 → E 32 (V 30 h 0).toNat (5 * rC R 20) = 0 ∧ E 33 (V 30 h 0).toNat (5 * rC R 20) = 0) → Wp (g_X9_question 0 kd ro (E, rq5 R (if (0 : Int) = 1 then 8 else 0))) (PO (rC R 20 : Int)) := by
        intro E eE yE
        have er : ∀ r i k, 100 ≤ r → E r i k = V r i k := fun r i k h => by
          rw [eE r i k (fun z => by rcases z.1 with y | y <;> omega)]; exact cqs_hi r i k h
        refine gate hS' er hro (fun z y => ?_) (fun _ => ?_)
        · have := hkr.resolve_left z
          rcases y with y | y
          · exact absurd this.1 y
          · exact absurd y this.2
        · unfold gjX9_question_49
          have hS := hS'
          have e0 : E 100 0 0 = (rC R 20 : Int) := by rw [er _ _ _ (by decide)]; exact n1
          ((first | ((with_reducible refine w_s hS ?_ ?_ ?_ (fun x hx => ?_)); (focus decide); (focus (first | decide | omega)); (focus (first | decide | (simp only [sl]; omega)))) | ((with_reducible refine w_m hS ?_ ?_ ?_ ?_ ?_ (fun x hx => ?_)); (focus decide); (focus (first | decide | omega)); (focus omega); (focus (first | decide | omega)); (focus (first | decide | (simp only [ml]; omega)))) | (with_reducible refine w_k (by simp (disch := omega) only [w32_id]; exact rfl) ?_; ((with_reducible refine w_s hS ?_ ?_ ?_ (fun x hx => ?_)); (focus decide); (focus (first | decide | omega)); (focus (first | decide | (simp only [sl]; omega))))) | (with_reducible refine w_k (by simp (disch := omega) only [w32_id]; exact rfl) ?_; ((with_reducible refine w_m hS ?_ ?_ ?_ ?_ ?_ (fun x hx => ?_)); (focus decide); (focus (first | decide | omega)); (focus omega); (focus (first | decide | omega)); (focus (first | decide | (simp only [ml]; omega)))))); (try simp (disch := omega) only [Int.reduceToNat, tn_c, tn8, tn8i, tn5, tn5z, tn6, tn6z, tn1, u3_ne, u3_eq, u3_ni, u3_nk, e0] at hx); subst hx)
          refine w_ite (fun _ => ?_) (fun z => absurd (show (rC R 20 : Int) ≠ 24 by omega) z)
          refine w_refQ hI hS' q24 eo er (Int.le_refl 0) (fun W' fW ya yb yc yd => w_ret ⟨rfl, ?_⟩)
          exact QFIN (mk := 0) hI q24 eo eE yE fW ya yb yc yd (fun _ _ _ _ => rfl) hk hr (by decide) (fun _ => rfl) (fun z => absurd z (by decide)) (fun z => absurd z (by decide)) (fun z => absurd z (by decide))
      refine w_ite (fun z => w_ret (tail _ (fun _ _ _ _ => rfl) (fun y => absurd y z))) (fun z => ?_)
      have k5 : kd = 5 := by omega
      have cf : ∀ r i k, r ≠ 20 → r ≠ 21 → r ≠ 22 → r ≠ 23 → r ≠ 24 → r ≠ 2 → r ≠ 1 → r ≠ 4 → cqs V (rC R 20) o kd ro 0 (-1) r i k = V r i k := fun r i k h1 h2 h3 h4 h5 h6 h7 h8 => cqs_f.1 r i k (by rintro (y | y | y | y) <;> omega)
      have RQ' := RQ5 hS (if (0 : Int) = 1 then 8 else 0) (by decide)
      refine w_empty hI hS' q24 (RQ'.2.1 30 (by omega)) (fun s hs => ?_) (by rw [cf 0 _ _ (by decide) (by decide) (by decide) (by decide) (by decide) (by decide) (by decide) (by decide)]; exact n4) (by rw [cf 0 _ _ (by decide) (by decide) (by decide) (by decide) (by decide) (by decide) (by decide) (by decide)]; exact f_0_1 hF) (fun h hh => by rw [cf 5 _ _ (by decide) (by decide) (by decide) (by decide) (by decide) (by decide) (by decide) (by decide)]; exact l_5 hL hh) (fun h => cf 30 _ _ (by decide) (by decide) (by decide) (by decide) (by decide) (by decide) (by decide) (by decide)) (fun W' fr yv => w_ret (tail W' (fun r i k h => fr r i k (fun w => h ⟨w.1, w.2.1, k5, w.2.2⟩)) (fun _ => yv)))
      obtain ⟨d1, d2, d3, d4, d5, d6, d7⟩ := hs
      refine ⟨?_, ?_, ?_, ?_, ?_, ?_, ?_⟩
      · rw [RQ'.2.1 31 (by omega)]; exact d1
      · rw [RQ'.2.1 32 (by omega)]; exact d2
      · rw [RQ'.2.1 33 (by omega)]; exact d3
      · rw [RQ'.2.2.2.1 32 s (by omega)]; exact d4
      · rw [RQ'.2.2.2.1 33 s (by omega)]; exact d5
      · rw [cf 31 _ _ (by decide) (by decide) (by decide) (by decide) (by decide) (by decide) (by decide) (by decide)]; exact d6
      · rw [cf 31 _ _ (by decide) (by decide) (by decide) (by decide) (by decide) (by decide) (by decide) (by decide)]; exact d7
    · refine w_ite (fun z => absurd (show (1 : Int) = 0 from z) (by decide)) (fun _ => w_ret ?_)
      refine gate hS (fun _ _ _ _ => rfl) hro (fun z y => ?_) (fun _ => ?_)
      · have := hkr.resolve_left z
        rcases y with y | y
        · exact absurd this.1 y
        · exact absurd y this.2
      · unfold gjX9_question_49
        ((first | ((with_reducible refine w_s hS ?_ ?_ ?_ (fun x hx => ?_)); (focus decide); (focus (first | decide | omega)); (focus (first | decide | (simp only [sl]; omega)))) | ((with_reducible refine w_m hS ?_ ?_ ?_ ?_ ?_ (fun x hx => ?_)); (focus decide); (focus (first | decide | omega)); (focus omega); (focus (first | decide | omega)); (focus (first | decide | (simp only [ml]; omega)))) | (with_reducible refine w_k (by simp (disch := omega) only [w32_id]; exact rfl) ?_; ((with_reducible refine w_s hS ?_ ?_ ?_ (fun x hx => ?_)); (focus decide); (focus (first | decide | omega)); (focus (first | decide | (simp only [sl]; omega))))) | (with_reducible refine w_k (by simp (disch := omega) only [w32_id]; exact rfl) ?_; ((with_reducible refine w_m hS ?_ ?_ ?_ ?_ ?_ (fun x hx => ?_)); (focus decide); (focus (first | decide | omega)); (focus omega); (focus (first | decide | omega)); (focus (first | decide | (simp only [ml]; omega)))))); (try simp (disch := omega) only [Int.reduceToNat, tn_c, tn8, tn8i, tn5, tn5z, tn6, tn6z, tn1, u3_ne, u3_eq, u3_ni, u3_nk, n1] at hx); subst hx)
        exact w_ite (fun z => absurd (show (rC R 20 : Int) = 24 by omega) z) (fun _ => w_ret ⟨rfl, hI⟩)
  refine w_ite (fun z => main (Or.inl z) (Or.inl z)) (fun z => ?_)
  ((first | ((with_reducible refine w_s hS ?_ ?_ ?_ (fun x hx => ?_)); (focus decide); (focus (first | decide | omega)); (focus (first | decide | (simp only [sl]; omega)))) | ((with_reducible refine w_m hS ?_ ?_ ?_ ?_ ?_ (fun x hx => ?_)); (focus decide); (focus (first | decide | omega)); (focus omega); (focus (first | decide | omega)); (focus (first | decide | (simp only [ml]; omega)))) | (with_reducible refine w_k (by simp (disch := omega) only [w32_id]; exact rfl) ?_; ((with_reducible refine w_s hS ?_ ?_ ?_ (fun x hx => ?_)); (focus decide); (focus (first | decide | omega)); (focus (first | decide | (simp only [sl]; omega))))) | (with_reducible refine w_k (by simp (disch := omega) only [w32_id]; exact rfl) ?_; ((with_reducible refine w_m hS ?_ ?_ ?_ ?_ ?_ (fun x hx => ?_)); (focus decide); (focus (first | decide | omega)); (focus omega); (focus (first | decide | omega)); (focus (first | decide | (simp only [ml]; omega)))))); (try simp (disch := omega) only [Int.reduceToNat, tn_c, tn8, tn8i, tn5, tn5z, tn6, tn6z, tn1, u3_ne, u3_eq, u3_ni, u3_nk, f_0_0 hF] at hx); subst hx)
  refine w_qO hS n2 (f_1_0 hF) b20 (fun n hn => l_2 hL hn) (fun m em hm => ?_) (fun hn => w_ite (fun z => absurd rfl z) (fun _ => w_ret (bad (by omega))))
  subst em
  have e0 := (hQ.1 m hm).1.1.1
  dsimp only
  refine w_ite (fun _ => ?_) (fun z => absurd (show (m : Int) ≠ -1 by omega) z)
  ((first | ((with_reducible refine w_s hS ?_ ?_ ?_ (fun x hx => ?_)); (focus decide); (focus (first | decide | omega)); (focus (first | decide | (simp only [sl]; omega)))) | ((with_reducible refine w_m hS ?_ ?_ ?_ ?_ ?_ (fun x hx => ?_)); (focus decide); (focus (first | decide | omega)); (focus omega); (focus (first | decide | omega)); (focus (first | decide | (simp only [ml]; omega)))) | (with_reducible refine w_k (by simp (disch := omega) only [w32_id]; exact rfl) ?_; ((with_reducible refine w_s hS ?_ ?_ ?_ (fun x hx => ?_)); (focus decide); (focus (first | decide | omega)); (focus (first | decide | (simp only [sl]; omega))))) | (with_reducible refine w_k (by simp (disch := omega) only [w32_id]; exact rfl) ?_; ((with_reducible refine w_m hS ?_ ?_ ?_ ?_ ?_ (fun x hx => ?_)); (focus decide); (focus (first | decide | omega)); (focus omega); (focus (first | decide | omega)); (focus (first | decide | (simp only [ml]; omega)))))); (try simp (disch := omega) only [Int.reduceToNat, tn_c, tn8, tn8i, tn5, tn5z, tn6, tn6z, tn1, u3_ne, u3_eq, u3_ni, u3_nk, e0] at hx); subst hx)
  refine w_ite (fun y => w_ret ?_) (fun y => w_ite (fun w => main (Or.inr ⟨by omega, by omega⟩) (Or.inr ⟨by rw [tn_c]; omega, w⟩)) (fun w => w_ret ?_))
  · refine gate hS (fun _ _ _ _ => rfl) (Or.inr ⟨by omega, by omega⟩) (fun _ _ => ⟨rfl, hI⟩) (fun h => ?_)
    rcases h with h | h
    · omega
    · rw [tn_c] at h; exact absurd h.1 y
  · refine gate hS (fun _ _ _ _ => rfl) (Or.inr ⟨by omega, by omega⟩) (fun _ _ => ⟨rfl, hI⟩) (fun h => ?_)
    rcases h with h | h
    · omega
    · exact absurd h.2 w
end Question
