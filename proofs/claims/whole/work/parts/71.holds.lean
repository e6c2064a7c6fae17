section Holds
variable {V : GV} {R : GR} {Q : Int → GS → Prop}
theorem w_isSo {h c s : Nat} {r : Int} {p : Nat} {f : Int × GS → GO} (hI : INV IT V R) (hh : h < rC R 30) (hd : V 30 h 2 = V 100 0 29) (es : (V 30 h 0).toNat = s) (hc : c < rC R 40) (er : V 125 0 c = r) (p5 : p < 5) (k1 : so V h c p → Wp (f (1, (V, R))) Q) (k0 : ¬ so V h c p → Wp (f (0, (V, R))) Q) : Wp ((g_X4_isSo (h : Int) (c : Int) r (p : Int) (V, R)).bind f) Q := by
  have hS := hI.SH
  have hF := hI.RF
  obtain ⟨b20, b30, b40, b50⟩ := hI.IN.1
  have s34 := hS.2.2.2.2.2.2.1
  obtain ⟨o1, o2, o3⟩ := hI.IN.2.2
  have hpe := hI.pers hh
  rw [es] at hpe
  have hpl := plc_c hI.IC hpe hc
  obtain ⟨j, hj, ej⟩ := hI.IOO.2.2.2 c hc
  have L := ((hI.IS h hh).2.2 j (by omega)).2 (by omega)
  rw [es, show (V 4 0 j - 24).toNat = c by omega] at L
  obtain ⟨T0, T1, _⟩ := L
  obtain ⟨T, eT⟩ : ∃ T : Nat, V 34 h c = (T : Int) := ⟨(V 34 h c).toNat, by omega⟩
  have T32 : T < 1024 := by
    have := pow_le5 (plc V s (V 125 0 c)).toNat (by omega)
    omega
  have core : ∀ b : Nat, b < 5 → (so V h c p ↔ bt (V 34 h c) b) → Wp (gjX4_isSo_10 (h : Int) (c : Int) (b : Int) (V, R)) (fun r G => Wp (f (r, G)) Q) := by
    intro b hb hso
    unfold gjX4_isSo_10
    ((first | ((with_reducible refine w_s hS ?_ ?_ ?_ (fun x hx => ?_)); (focus decide); (focus (first | decide | omega)); (focus (first | decide | (simp only [sl]; omega)))) | ((with_reducible refine w_m hS ?_ ?_ ?_ ?_ ?_ (fun x hx => ?_)); (focus decide); (focus (first | decide | omega)); (focus omega); (focus (first | decide | omega)); (focus (first | decide | (simp only [ml]; omega)))) | (with_reducible refine w_k (by simp (disch := omega) only [w32_id]; exact rfl) ?_; ((with_reducible refine w_s hS ?_ ?_ ?_ (fun x hx => ?_)); (focus decide); (focus (first | decide | omega)); (focus (first | decide | (simp only [sl]; omega))))) | (with_reducible refine w_k (by simp (disch := omega) only [w32_id]; exact rfl) ?_; ((with_reducible refine w_m hS ?_ ?_ ?_ ?_ ?_ (fun x hx => ?_)); (focus decide); (focus (first | decide | omega)); (focus omega); (focus (first | decide | omega)); (focus (first | decide | (simp only [ml]; omega)))))); (try simp (disch := omega) only [Int.reduceToNat, tn_c, tn8, tn8i, tn5, tn5z, tn6, tn6z, tn1, u3_ne, u3_eq, u3_ni, u3_nk, f_30_1 hF] at hx); subst hx)
    ((first | ((with_reducible refine w_s hS ?_ ?_ ?_ (fun x hx => ?_)); (focus decide); (focus (first | decide | omega)); (focus (first | decide | (simp only [sl]; omega)))) | ((with_reducible refine w_m hS ?_ ?_ ?_ ?_ ?_ (fun x hx => ?_)); (focus decide); (focus (first | decide | omega)); (focus omega); (focus (first | decide | omega)); (focus (first | decide | (simp only [ml]; omega)))) | (with_reducible refine w_k (by simp (disch := omega) only [w32_id]; exact rfl) ?_; ((with_reducible refine w_s hS ?_ ?_ ?_ (fun x hx => ?_)); (focus decide); (focus (first | decide | omega)); (focus (first | decide | (simp only [sl]; omega))))) | (with_reducible refine w_k (by simp (disch := omega) only [w32_id]; exact rfl) ?_; ((with_reducible refine w_m hS ?_ ?_ ?_ ?_ ?_ (fun x hx => ?_)); (focus decide); (focus (first | decide | omega)); (focus omega); (focus (first | decide | omega)); (focus (first | decide | (simp only [ml]; omega)))))); (try simp (disch := omega) only [Int.reduceToNat, tn_c, tn8, tn8i, tn5, tn5z, tn6, tn6z, tn1, u3_ne, u3_eq, u3_ni, u3_nk, eT] at hx); subst hx)
    have := i_shr_all T T32 b (by omega)
    rw [eT] at hso
    have e2 : bt (T : Int) b ↔ T / 2 ^ b % 2 = 1 := by
      rw [bt_tb, Nat.testBit_eq_decide_div_mod_eq, decide_eq_true_eq]
    refine w_ite (fun z => w_ret (k0 (fun y => ?_))) (fun z => w_ret (k1 ?_))
    · rw [this] at z; exact z (e2.mp (hso.mp y))
    · rw [this] at z
      exact hso.mpr (e2.mpr (Decidable.byContradiction z))
  refine w_bind ?_
  unfold g_X4_isSo
  refine w_gv (by omega) ?_
  subst er
  refine w_ite (fun z => core p p5 ?_) (fun z => core 0 (by omega) ?_)
  · unfold so; rw [if_neg z]
  · unfold so; rw [if_pos (by omega)]
theorem T_holds (hI : INV IT V R) (c' h' person : Int) : Wp (g_X8_holds 0 c' h' person (V, R)) (fun r G => Wp (g_X9_holds 0 c' h' person G) (PO r)) := by
  have hS := hI.SH
  have hF := hI.RF
  have hL := hI.IL
  obtain ⟨b20, b30, b40, b50⟩ := hI.IN.1
  obtain ⟨n1, n2, n3, n4, n5, n6, _⟩ := hI.IN.2.1
  unfold g_X8_holds
  refine w_gv (by omega) ?_
  ((first | ((with_reducible refine w_s hS ?_ ?_ ?_ (fun x hx => ?_)); (focus decide); (focus (first | decide | omega)); (focus (first | decide | (simp only [sl]; omega)))) | ((with_reducible refine w_m hS ?_ ?_ ?_ ?_ ?_ (fun x hx => ?_)); (focus decide); (focus (first | decide | omega)); (focus omega); (focus (first | decide | omega)); (focus (first | decide | (simp only [ml]; omega)))) | (with_reducible refine w_k (by simp (disch := omega) only [w32_id]; exact rfl) ?_; ((with_reducible refine w_s hS ?_ ?_ ?_ (fun x hx => ?_)); (focus decide); (focus (first | decide | omega)); (focus (first | decide | (simp only [sl]; omega))))) | (with_reducible refine w_k (by simp (disch := omega) only [w32_id]; exact rfl) ?_; ((with_reducible refine w_m hS ?_ ?_ ?_ ?_ ?_ (fun x hx => ?_)); (focus decide); (focus (first | decide | omega)); (focus omega); (focus (first | decide | omega)); (focus (first | decide | (simp only [ml]; omega)))))); (try simp (disch := omega) only [Int.reduceToNat, tn_c, tn8, tn8i, tn5, tn5z, tn6, tn6z, tn1, u3_ne, u3_eq, u3_ni, u3_nk, f_0_0 hF] at hx); subst hx)
  have rbad : ∀ {V' : GV} (hI' : INV IT V' R), ¬ ((0 ≤ c' ∧ c' < (rC R 40 : Int)) ∧ (0 ≤ h' ∧ h' < (rC R 30 : Int))) → Wp (g_X9_holds 0 c' h' person (V', R)) (PO (-1)) := by
    intro V' hI' hn
    obtain ⟨n1, n2, n3, n4, n5, n6, _⟩ := hI'.IN.2.1
    unfold g_X9_holds
    refine w_gv (by omega) ?_
    refine w_isC hS n5 b40 (fun c e hc => ?_) (fun hn' => ?_)
    · refine w_ite (fun z => absurd (show (1 : Int) = 0 from z) (by decide)) (fun _ => ?_)
      refine w_isH hS n3 b30 (fun h e hh => absurd (show (0 ≤ c' ∧ c' < (rC R 40 : Int)) ∧ (0 ≤ h' ∧ h' < (rC R 30 : Int)) by omega) hn) (fun hn' => ?_)
      exact w_ite (fun _ => w_ret ⟨rfl, hI'⟩) (fun z => absurd rfl z)
    · exact w_ite (fun _ => w_ret ⟨rfl, hI'⟩) (fun z => absurd rfl z)
  refine w_cO hS n6 (f_1_2 hF) b40 (fun n hn => l_3 hL hn) (fun c e hc => ?_) (fun hn => ?_)
  · subst e
    refine w_hO hS n4 (f_0_1 hF) b30 (fun n hn => l_5 hL hn) (fun h e hh => ?_) (fun hn => ?_)
    · subst e
      dsimp only
      refine w_ite (fun z => absurd z (by omega)) (fun _ => w_ite (fun z => absurd z (by omega)) (fun _ => ?_))
      obtain ⟨s, e30, es, hk⟩ := hI.sht hh
      have hp := hI.pers hh
      rw [es] at hp
      have hpl := plc_c hI.IC hp hc
      have e4 := (hI.IC c hc).1.1
      ((first | ((with_reducible refine w_s hS ?_ ?_ ?_ (fun x hx => ?_)); (focus decide); (focus (first | decide | omega)); (focus (first | decide | (simp only [sl]; omega)))) | ((with_reducible refine w_m hS ?_ ?_ ?_ ?_ ?_ (fun x hx => ?_)); (focus decide); (focus (first | decide | omega)); (focus omega); (focus (first | decide | omega)); (focus (first | decide | (simp only [ml]; omega)))) | (with_reducible refine w_k (by simp (disch := omega) only [w32_id]; exact rfl) ?_; ((with_reducible refine w_s hS ?_ ?_ ?_ (fun x hx => ?_)); (focus decide); (focus (first | decide | omega)); (focus (first | decide | (simp only [sl]; omega))))) | (with_reducible refine w_k (by simp (disch := omega) only [w32_id]; exact rfl) ?_; ((with_reducible refine w_m hS ?_ ?_ ?_ ?_ ?_ (fun x hx => ?_)); (focus decide); (focus (first | decide | omega)); (focus omega); (focus (first | decide | omega)); (focus (first | decide | (simp only [ml]; omega)))))); (try simp (disch := omega) only [Int.reduceToNat, tn_c, tn8, tn8i, tn5, tn5z, tn6, tn6z, tn1, u3_ne, u3_eq, u3_ni, u3_nk, e30] at hx); subst hx)
      ((first | ((with_reducible refine w_s hS ?_ ?_ ?_ (fun x hx => ?_)); (focus decide); (focus (first | decide | omega)); (focus (first | decide | (simp only [sl]; omega)))) | ((with_reducible refine w_m hS ?_ ?_ ?_ ?_ ?_ (fun x hx => ?_)); (focus decide); (focus (first | decide | omega)); (focus omega); (focus (first | decide | omega)); (focus (first | decide | (simp only [ml]; omega)))) | (with_reducible refine w_k (by simp (disch := omega) only [w32_id]; exact rfl) ?_; ((with_reducible refine w_s hS ?_ ?_ ?_ (fun x hx => ?_)); (focus decide); (focus (first | decide | omega)); (focus (first | decide | (simp only [sl]; omega))))) | (with_reducible refine w_k (by simp (disch := omega) only [w32_id]; exact rfl) ?_; ((with_reducible refine w_m hS ?_ ?_ ?_ ?_ ?_ (fun x hx => ?_)); (focus decide); (focus (first | decide | omega)); (focus omega); (focus (first | decide | omega)); (focus (first | decide | (simp only [ml]; omega)))))); (try simp (disch := omega) only [Int.reduceToNat, tn_c, tn8, tn8i, tn5, tn5z, tn6, tn6z, tn1, u3_ne, u3_eq, u3_ni, u3_nk, e4] at hx); subst hx)
      refine w_isPlace hS hk (hI.roc hc) hpl.1 hpl.2 (fun p hpk => ?_) (fun hpk => ?_)
      · refine w_ite (fun _ => ?_) (fun z => absurd (show (1 : Int) ≠ 0 by decide) z)
        ((first | ((with_reducible refine w_s hS ?_ ?_ ?_ (fun x hx => ?_)); (focus decide); (focus (first | decide | omega)); (focus (first | decide | (simp only [sl]; omega)))) | ((with_reducible refine w_m hS ?_ ?_ ?_ ?_ ?_ (fun x hx => ?_)); (focus decide); (focus (first | decide | omega)); (focus omega); (focus (first | decide | omega)); (focus (first | decide | (simp only [ml]; omega)))) | (with_reducible refine w_k (by simp (disch := omega) only [w32_id]; exact rfl) ?_; ((with_reducible refine w_s hS ?_ ?_ ?_ (fun x hx => ?_)); (focus decide); (focus (first | decide | omega)); (focus (first | decide | (simp only [sl]; omega))))) | (with_reducible refine w_k (by simp (disch := omega) only [w32_id]; exact rfl) ?_; ((with_reducible refine w_m hS ?_ ?_ ?_ ?_ ?_ (fun x hx => ?_)); (focus decide); (focus (first | decide | omega)); (focus omega); (focus (first | decide | omega)); (focus (first | decide | (simp only [ml]; omega)))))); (try simp (disch := omega) only [Int.reduceToNat, tn_c, tn8, tn8i, tn5, tn5z, tn6, tn6z, tn1, u3_ne, u3_eq, u3_ni, u3_nk, f_0_0 hF] at hx); subst hx)
        refine w_settle hI hh (fun V' hs hI' hd => ?_)
        have es' : (V' 30 h 0).toNat = s := by rw [hs.same.f 30 0 rfl]; exact es
        rw [← hs.pok hI (hI.roc5 hc)] at hpk
        rw [← hs.same.r 125 rfl] at hpk e4
        rw [← hs.same.r 40 rfl] at e4
        have hpe' := hI'.pers hh
        rw [es'] at hpe'
        have hpl' := plc_c hI'.IC hpe' hc
        have plt := hpk.lt
        have psl := hpk.sl
        ((first | ((with_reducible refine w_s hS ?_ ?_ ?_ (fun x hx => ?_)); (focus decide); (focus (first | decide | omega)); (focus (first | decide | (simp only [sl]; omega)))) | ((with_reducible refine w_m hS ?_ ?_ ?_ ?_ ?_ (fun x hx => ?_)); (focus decide); (focus (first | decide | omega)); (focus omega); (focus (first | decide | omega)); (focus (first | decide | (simp only [ml]; omega)))) | (with_reducible refine w_k (by simp (disch := omega) only [w32_id]; exact rfl) ?_; ((with_reducible refine w_s hS ?_ ?_ ?_ (fun x hx => ?_)); (focus decide); (focus (first | decide | omega)); (focus (first | decide | (simp only [sl]; omega))))) | (with_reducible refine w_k (by simp (disch := omega) only [w32_id]; exact rfl) ?_; ((with_reducible refine w_m hS ?_ ?_ ?_ ?_ ?_ (fun x hx => ?_)); (focus decide); (focus (first | decide | omega)); (focus omega); (focus (first | decide | omega)); (focus (first | decide | (simp only [ml]; omega)))))); (try simp (disch := omega) only [Int.reduceToNat, tn_c, tn8, tn8i, tn5, tn5z, tn6, tn6z, tn1, u3_ne, u3_eq, u3_ni, u3_nk, e4] at hx); subst hx)
        have em : imax person 0 = (p : Int) := by
          unfold imax
          rcases hpk with ⟨_, e, e'⟩ | ⟨_, e, _⟩
          · rw [if_pos (by omega)]; omega
          · rw [if_neg (by omega)]; exact e
        rw [em]
        -- the reference, on the settled state
        have ref : ∀ v : Int, (v = 0 ∨ v = 1) → (v = 1 ↔ so V' h c p) → Wp (g_X9_holds 0 (c : Int) (h : Int) person (V', R)) (PO v) := by
          intro v h01 hv
          have hF' := hI'.RF
          obtain ⟨n1, n2, n3, n4, n5, n6, _⟩ := hI'.IN.2.1
          have last : Wp (gjX9_holds_58 0 (c : Int) (h : Int) person (V', R)) (PO v) := by
            unfold gjX9_holds_58
            refine w_workOut hI' hh hd (fun V'' sm hI'' now => ?_)
            have hF'' := hI''.RF
            have es'' : (V'' 30 h 0).toNat = s := by rw [sm.f 30 0 rfl]; exact es'
            have N := now.2 c hc p (by rw [es'']; unfold plc; rw [sm.r 32 rfl, sm.r 125 rfl]; exact plt)
            rw [sm.r 125 rfl, sm.r 34 rfl] at N
            have sl6 : slot (V' 125 0 c) p < 6 := slot_lt (by omega)
            have sob : so V' h c p ↔ bt (V' 34 h c) p := by
              unfold so
              rcases hpk with ⟨e, _, e'⟩ | ⟨e, _⟩
              · rw [if_pos e, e']
              · rw [if_neg e]
            ((first | ((with_reducible refine w_s hS ?_ ?_ ?_ (fun x hx => ?_)); (focus decide); (focus (first | decide | omega)); (focus (first | decide | (simp only [sl]; omega)))) | ((with_reducible refine w_m hS ?_ ?_ ?_ ?_ ?_ (fun x hx => ?_)); (focus decide); (focus (first | decide | omega)); (focus omega); (focus (first | decide | omega)); (focus (first | decide | (simp only [ml]; omega)))) | (with_reducible refine w_k (by simp (disch := omega) only [w32_id]; exact rfl) ?_; ((with_reducible refine w_s hS ?_ ?_ ?_ (fun x hx => ?_)); (focus decide); (focus (first | decide | omega)); (focus (first | decide | (simp only [sl]; omega))))) | (with_reducible refine w_k (by simp (disch := omega) only [w32_id]; exact rfl) ?_; ((with_reducible refine w_m hS ?_ ?_ ?_ ?_ ?_ (fun x hx => ?_)); (focus decide); (focus (first | decide | omega)); (focus omega); (focus (first | decide | omega)); (focus (first | decide | (simp only [ml]; omega)))))); (try simp (disch := omega) only [Int.reduceToNat, tn_c, tn8, tn8i, tn5, tn5z, tn6, tn6z, tn1, u3_ne, u3_eq, u3_ni, u3_nk, f_100_45 hF''] at hx); subst hx)
            rw [w6p (by omega) sl6 psl]
            refine w_145 hS (by omega) ?_
            refine w_ite (fun z => w_ret ⟨?_, hI''⟩) (fun z => w_ret ⟨?_, hI''⟩)
            · refine h01.resolve_right (fun y => ?_)
              have := N.2.mpr (sob.mp (hv.mp y))
              omega
            · exact hv.mpr (sob.mpr (N.2.mp (N.1.resolve_left z)))
          unfold g_X9_holds
          refine w_gv (by omega) ?_
          refine w_isC hS n5 b40 (fun c2 e hc2 => ?_) (fun hn' => absurd (show 0 ≤ (c : Int) ∧ (c : Int) < (rC R 40 : Int) by omega) hn')
          refine w_ite (fun z => absurd (show (1 : Int) = 0 from z) (by decide)) (fun _ => ?_)
          refine w_isH hS n3 b30 (fun h2 e hh2 => ?_) (fun hn' => absurd (show 0 ≤ (h : Int) ∧ (h : Int) < (rC R 30 : Int) by omega) hn')
          refine w_ite (fun z => absurd (show (1 : Int) = 0 from z) (by decide)) (fun _ => ?_)
          ((first | ((with_reducible refine w_s hS ?_ ?_ ?_ (fun x hx => ?_)); (focus decide); (focus (first | decide | omega)); (focus (first | decide | (simp only [sl]; omega)))) | ((with_reducible refine w_m hS ?_ ?_ ?_ ?_ ?_ (fun x hx => ?_)); (focus decide); (focus (first | decide | omega)); (focus omega); (focus (first | decide | omega)); (focus (first | decide | (simp only [ml]; omega)))) | (with_reducible refine w_k (by simp (disch := omega) only [w32_id]; exact rfl) ?_; ((with_reducible refine w_s hS ?_ ?_ ?_ (fun x hx => ?_)); (focus decide); (focus (first | decide | omega)); (focus (first | decide | (simp only [sl]; omega))))) | (with_reducible refine w_k (by simp (disch := omega) only [w32_id]; exact rfl) ?_; ((with_reducible refine w_m hS ?_ ?_ ?_ ?_ ?_ (fun x hx => ?_)); (focus decide); (focus (first | decide | omega)); (focus omega); (focus (first | decide | omega)); (focus (first | decide | (simp only [ml]; omega)))))); (try simp (disch := omega) only [Int.reduceToNat, tn_c, tn8, tn8i, tn5, tn5z, tn6, tn6z, tn1, u3_ne, u3_eq, u3_ni, u3_nk, f_100_25 hF'] at hx); subst hx)
          ((first | ((with_reducible refine w_s hS ?_ ?_ ?_ (fun x hx => ?_)); (focus decide); (focus (first | decide | omega)); (focus (first | decide | (simp only [sl]; omega)))) | ((with_reducible refine w_m hS ?_ ?_ ?_ ?_ ?_ (fun x hx => ?_)); (focus decide); (focus (first | decide | omega)); (focus omega); (focus (first | decide | omega)); (focus (first | decide | (simp only [ml]; omega)))) | (with_reducible refine w_k (by simp (disch := omega) only [w32_id]; exact rfl) ?_; ((with_reducible refine w_s hS ?_ ?_ ?_ (fun x hx => ?_)); (focus decide); (focus (first | decide | omega)); (focus (first | decide | (simp only [sl]; omega))))) | (with_reducible refine w_k (by simp (disch := omega) only [w32_id]; exact rfl) ?_; ((with_reducible refine w_m hS ?_ ?_ ?_ ?_ ?_ (fun x hx => ?_)); (focus decide); (focus (first | decide | omega)); (focus omega); (focus (first | decide | omega)); (focus (first | decide | (simp only [ml]; omega)))))); (try simp (disch := omega) only [Int.reduceToNat, tn_c, tn8, tn8i, tn5, tn5z, tn6, tn6z, tn1, u3_ne, u3_eq, u3_ni, u3_nk, tn_c] at hx); subst hx)
          rcases id hpk with ⟨t, e, _⟩ | ⟨t, e, hlt⟩
          · refine w_ite (fun z => absurd z (by omega)) (fun _ => ?_)
            exact w_ite (fun _ => last) (fun z => absurd e z)
          · obtain ⟨r, er, hr, k5⟩ := hI'.IC.re hc t
            refine w_ite (fun _ => ?_) (fun z => absurd (show V' 125 0 c ≥ 0 by omega) z)
            ((first | ((with_reducible refine w_s hS ?_ ?_ ?_ (fun x hx => ?_)); (focus decide); (focus (first | decide | omega)); (focus (first | decide | (simp only [sl]; omega)))) | ((with_reducible refine w_m hS ?_ ?_ ?_ ?_ ?_ (fun x hx => ?_)); (focus decide); (focus (first | decide | omega)); (focus omega); (focus (first | decide | omega)); (focus (first | decide | (simp only [ml]; omega)))) | (with_reducible refine w_k (by simp (disch := omega) only [w32_id]; exact rfl) ?_; ((with_reducible refine w_s hS ?_ ?_ ?_ (fun x hx => ?_)); (focus decide); (focus (first | decide | omega)); (focus (first | decide | (simp only [sl]; omega))))) | (with_reducible refine w_k (by simp (disch := omega) only [w32_id]; exact rfl) ?_; ((with_reducible refine w_m hS ?_ ?_ ?_ ?_ ?_ (fun x hx => ?_)); (focus decide); (focus (first | decide | omega)); (focus omega); (focus (first | decide | omega)); (focus (first | decide | (simp only [ml]; omega)))))); (try simp (disch := omega) only [Int.reduceToNat, tn_c, tn8, tn8i, tn5, tn5z, tn6, tn6z, tn1, u3_ne, u3_eq, u3_ni, u3_nk, f_100_25 hF'] at hx); subst hx)
            ((first | ((with_reducible refine w_s hS ?_ ?_ ?_ (fun x hx => ?_)); (focus decide); (focus (first | decide | omega)); (focus (first | decide | (simp only [sl]; omega)))) | ((with_reducible refine w_m hS ?_ ?_ ?_ ?_ ?_ (fun x hx => ?_)); (focus decide); (focus (first | decide | omega)); (focus omega); (focus (first | decide | omega)); (focus (first | decide | (simp only [ml]; omega)))) | (with_reducible refine w_k (by simp (disch := omega) only [w32_id]; exact rfl) ?_; ((with_reducible refine w_s hS ?_ ?_ ?_ (fun x hx => ?_)); (focus decide); (focus (first | decide | omega)); (focus (first | decide | (simp only [sl]; omega))))) | (with_reducible refine w_k (by simp (disch := omega) only [w32_id]; exact rfl) ?_; ((with_reducible refine w_m hS ?_ ?_ ?_ ?_ ?_ (fun x hx => ?_)); (focus decide); (focus (first | decide | omega)); (focus omega); (focus (first | decide | omega)); (focus (first | decide | (simp only [ml]; omega)))))); (try simp (disch := omega) only [Int.reduceToNat, tn_c, tn8, tn8i, tn5, tn5z, tn6, tn6z, tn1, u3_ne, u3_eq, u3_ni, u3_nk, er] at hx); subst hx)
            refine w_rp hI' hh hr k5 es' (fun h0 h5 => ?_)
            dsimp only
            have epl : plc V' s (V' 125 0 c) = V' 32 s (5 * r) := by unfold plc; rw [if_neg t, er, tn_c]
            refine w_inw (by omega) (by omega) (fun _ => ?_) (fun z => absurd (show 0 ≤ person ∧ person ≤ V' 32 s (5 * r) - 1 by omega) z)
            exact w_ite (fun _ => last) (fun z => absurd (show (1 : Int) ≠ 0 by decide) z)
        refine w_isSo hI' hh hd es' hc rfl (by omega) (fun z => ?_) (fun z => ?_)
        · refine w_ite (fun y => absurd (show (1 : Int) = 0 from y) (by decide)) (fun _ => w_ret ?_)
          exact ref 1 (Or.inr rfl) ⟨fun _ => z, fun _ => rfl⟩
        · refine w_ite (fun _ => w_ret ?_) (fun y => absurd rfl y)
          exact ref 0 (Or.inl rfl) ⟨fun y => absurd y (by decide), fun y => absurd y z⟩
      · refine w_ite (fun z => absurd rfl z) (fun _ => w_ret ?_)
        unfold g_X9_holds
        refine w_gv (by omega) ?_
        refine w_isC hS n5 b40 (fun c2 e hc2 => ?_) (fun hn' => absurd (show 0 ≤ (c : Int) ∧ (c : Int) < (rC R 40 : Int) by omega) hn')
        refine w_ite (fun z => absurd (show (1 : Int) = 0 from z) (by decide)) (fun _ => ?_)
        refine w_isH hS n3 b30 (fun h2 e hh2 => ?_) (fun hn' => absurd (show 0 ≤ (h : Int) ∧ (h : Int) < (rC R 30 : Int) by omega) hn')
        refine w_ite (fun z => absurd (show (1 : Int) = 0 from z) (by decide)) (fun _ => ?_)
        ((first | ((with_reducible refine w_s hS ?_ ?_ ?_ (fun x hx => ?_)); (focus decide); (focus (first | decide | omega)); (focus (first | decide | (simp only [sl]; omega)))) | ((with_reducible refine w_m hS ?_ ?_ ?_ ?_ ?_ (fun x hx => ?_)); (focus decide); (focus (first | decide | omega)); (focus omega); (focus (first | decide | omega)); (focus (first | decide | (simp only [ml]; omega)))) | (with_reducible refine w_k (by simp (disch := omega) only [w32_id]; exact rfl) ?_; ((with_reducible refine w_s hS ?_ ?_ ?_ (fun x hx => ?_)); (focus decide); (focus (first | decide | omega)); (focus (first | decide | (simp only [sl]; omega))))) | (with_reducible refine w_k (by simp (disch := omega) only [w32_id]; exact rfl) ?_; ((with_reducible refine w_m hS ?_ ?_ ?_ ?_ ?_ (fun x hx => ?_)); (focus decide); (focus (first | decide | omega)); (focus omega); (focus (first | decide | omega)); (focus (first | decide | (simp only [ml]; omega)))))); (try simp (disch := omega) only [Int.reduceToNat, tn_c, tn8, tn8i, tn5, tn5z, tn6, tn6z, tn1, u3_ne, u3_eq, u3_ni, u3_nk, f_100_25 hF] at hx); subst hx)
        ((first | ((with_reducible refine w_s hS ?_ ?_ ?_ (fun x hx => ?_)); (focus decide); (focus (first | decide | omega)); (focus (first | decide | (simp only [sl]; omega)))) | ((with_reducible refine w_m hS ?_ ?_ ?_ ?_ ?_ (fun x hx => ?_)); (focus decide); (focus (first | decide | omega)); (focus omega); (focus (first | decide | omega)); (focus (first | decide | (simp only [ml]; omega)))) | (with_reducible refine w_k (by simp (disch := omega) only [w32_id]; exact rfl) ?_; ((with_reducible refine w_s hS ?_ ?_ ?_ (fun x hx => ?_)); (focus decide); (focus (first | decide | omega)); (focus (first | decide | (simp only [sl]; omega))))) | (with_reducible refine w_k (by simp (disch := omega) only [w32_id]; exact rfl) ?_; ((with_reducible refine w_m hS ?_ ?_ ?_ ?_ ?_ (fun x hx => ?_)); (focus decide); (focus (first | decide | omega)); (focus omega); (focus (first | decide | omega)); (focus (first | decide | (simp only [ml]; omega)))))); (try simp (disch := omega) only [Int.reduceToNat, tn_c, tn8, tn8i, tn5, tn5z, tn6, tn6z, tn1, u3_ne, u3_eq, u3_ni, u3_nk, tn_c] at hx); subst hx)
        by_cases t : V 125 0 c = -1
        · refine w_ite (fun z => absurd z (by omega)) (fun _ => ?_)
          exact w_ite (fun z => absurd (Or.inl ⟨t, z, rfl⟩) (hpk 0)) (fun z => w_ret ⟨rfl, hI⟩)
        · obtain ⟨r, er, hr, k5⟩ := hI.IC.re hc t
          refine w_ite (fun _ => ?_) (fun z => absurd (show V 125 0 c ≥ 0 by omega) z)
          ((first | ((with_reducible refine w_s hS ?_ ?_ ?_ (fun x hx => ?_)); (focus decide); (focus (first | decide | omega)); (focus (first | decide | (simp only [sl]; omega)))) | ((with_reducible refine w_m hS ?_ ?_ ?_ ?_ ?_ (fun x hx => ?_)); (focus decide); (focus (first | decide | omega)); (focus omega); (focus (first | decide | omega)); (focus (first | decide | (simp only [ml]; omega)))) | (with_reducible refine w_k (by simp (disch := omega) only [w32_id]; exact rfl) ?_; ((with_reducible refine w_s hS ?_ ?_ ?_ (fun x hx => ?_)); (focus decide); (focus (first | decide | omega)); (focus (first | decide | (simp only [sl]; omega))))) | (with_reducible refine w_k (by simp (disch := omega) only [w32_id]; exact rfl) ?_; ((with_reducible refine w_m hS ?_ ?_ ?_ ?_ ?_ (fun x hx => ?_)); (focus decide); (focus (first | decide | omega)); (focus omega); (focus (first | decide | omega)); (focus (first | decide | (simp only [ml]; omega)))))); (try simp (disch := omega) only [Int.reduceToNat, tn_c, tn8, tn8i, tn5, tn5z, tn6, tn6z, tn1, u3_ne, u3_eq, u3_ni, u3_nk, f_100_25 hF] at hx); subst hx)
          ((first | ((with_reducible refine w_s hS ?_ ?_ ?_ (fun x hx => ?_)); (focus decide); (focus (first | decide | omega)); (focus (first | decide | (simp only [sl]; omega)))) | ((with_reducible refine w_m hS ?_ ?_ ?_ ?_ ?_ (fun x hx => ?_)); (focus decide); (focus (first | decide | omega)); (focus omega); (focus (first | decide | omega)); (focus (first | decide | (simp only [ml]; omega)))) | (with_reducible refine w_k (by simp (disch := omega) only [w32_id]; exact rfl) ?_; ((with_reducible refine w_s hS ?_ ?_ ?_ (fun x hx => ?_)); (focus decide); (focus (first | decide | omega)); (focus (first | decide | (simp only [sl]; omega))))) | (with_reducible refine w_k (by simp (disch := omega) only [w32_id]; exact rfl) ?_; ((with_reducible refine w_m hS ?_ ?_ ?_ ?_ ?_ (fun x hx => ?_)); (focus decide); (focus (first | decide | omega)); (focus omega); (focus (first | decide | omega)); (focus (first | decide | (simp only [ml]; omega)))))); (try simp (disch := omega) only [Int.reduceToNat, tn_c, tn8, tn8i, tn5, tn5z, tn6, tn6z, tn1, u3_ne, u3_eq, u3_ni, u3_nk, er] at hx); subst hx)
          refine w_rp hI hh hr k5 es (fun h0 h5 => ?_)
          dsimp only
          have epl : plc V s (V 125 0 c) = V 32 s (5 * r) := by unfold plc; rw [if_neg t, er, tn_c]
          refine w_inw (by omega) (by omega) (fun z => absurd (Or.inr ⟨t, show person = ((person.toNat : Nat) : Int) by omega, by rw [epl]; omega⟩) (hpk person.toNat)) (fun z => ?_)
          exact w_ite (fun z => absurd rfl z) (fun _ => w_ret ⟨rfl, hI⟩)
    · dsimp only
      refine w_ite (fun z => absurd z (by omega)) (fun _ => w_ite (fun _ => w_ret ?_) (fun z => absurd rfl z))
      exact rbad hI (by omega)
  · refine w_hO hS n4 (f_0_1 hF) b30 (fun n hn => l_5 hL hn) (fun h e hh => ?_) (fun hn => ?_)
    all_goals
      dsimp only
      refine w_ite (fun _ => w_ret ?_) (fun z => absurd rfl z)
      exact rbad hI (by omega)
end Holds
