section Against
variable {V : GV} {R : GR} {Q : Int → GS → Prop}
theorem w_isAgainst {h q p : Nat} {f : Int × GS → GO} (hI : INV IT V R) (hh : h < rC R 30) (hd : V 30 h 2 = V 100 0 29) (now : NOW V R h) (hq : q < rC R 20) (nf : V 106 0 q ≠ -1) (hp : (p : Int) < plc V (V 30 h 0).toNat (V 102 0 q))
  (k1 : agn V (V 30 h 0).toNat h q p → Wp (f (1, (V, R))) Q) (k0 : ¬ agn V (V 30 h 0).toNat h q p → Wp (f (0, (V, R))) Q) : Wp ((g_X9_isAgainst 0 (q : Int) ((slot (V 102 0 q) p : Nat) : Int) (V, R)).bind f) Q := by
  have hS := hI.SH
  have hF := hI.RF
  obtain ⟨b20, b30, b40, b50⟩ := hI.IN.1
  obtain ⟨s, e30, es, hk⟩ := hI.sht hh
  have hpe := hI.pers hh
  have ok := hI.okr hh hd hq p hp
  have N := now.1 q hq p hp
  have hpl := plc_q hI.IQ hpe hq
  rw [es] at k1 k0 hp hpe ok N hpl
  have sl6 : slot (V 102 0 q) p < 6 := slot_lt (by omega)
  obtain ⟨_, ⟨e1, _, _⟩, _, _, _, ⟨e10, c0, c1⟩, _, _, fi, _⟩ := (hI.IQ.1 q hq).1
  unfold IQfi at fi
  obtain ⟨c, ec⟩ : ∃ c : Nat, V 106 0 q = (c : Int) := ⟨(V 106 0 q).toNat, by omega⟩
  have hc : c < rC R 40 := by omega
  have fr : V 125 0 c = -1 ∨ V 125 0 c = V 102 0 q := by
    have := fi.resolve_left (by omega)
    rw [ec, tn_c] at this
    exact this.2.2
  have NC := now.2 c hc
  rw [es] at NC
  unfold agn at k1 k0
  rw [ec, tn_c] at k1 k0
  have last : (if V 101 0 q = 5 then V 32 s (5 * q + p) ≠ 0 else V 33 s (5 * q + p) = 0) → Wp (gjX9_isAgainst_37 0 (q : Int) ((slot (V 102 0 q) p : Nat) : Int) (V, R)) (fun r G => Wp (f (r, G)) Q) := by
    intro g
    unfold gjX9_isAgainst_37
    ((first | ((with_reducible refine w_s hS ?_ ?_ ?_ (fun x hx => ?_)); (focus decide); (focus (first | decide | omega)); (focus (first | decide | (simp only [sl]; omega)))) | ((with_reducible refine w_m hS ?_ ?_ ?_ ?_ ?_ (fun x hx => ?_)); (focus decide); (focus (first | decide | omega)); (focus omega); (focus (first | decide | omega)); (focus (first | decide | (simp only [ml]; omega)))) | (with_reducible refine w_k (by simp (disch := omega) only [w32_id]; exact rfl) ?_; ((with_reducible refine w_s hS ?_ ?_ ?_ (fun x hx => ?_)); (focus decide); (focus (first | decide | omega)); (focus (first | decide | (simp only [sl]; omega))))) | (with_reducible refine w_k (by simp (disch := omega) only [w32_id]; exact rfl) ?_; ((with_reducible refine w_m hS ?_ ?_ ?_ ?_ ?_ (fun x hx => ?_)); (focus decide); (focus (first | decide | omega)); (focus omega); (focus (first | decide | omega)); (focus (first | decide | (simp only [ml]; omega)))))); (try simp (disch := omega) only [Int.reduceToNat, tn_c, tn8, tn8i, tn5, tn5z, tn6, tn6z, tn1, u3_ne, u3_eq, u3_ni, u3_nk, f_100_6 hF] at hx); subst hx)
    ((first | ((with_reducible refine w_s hS ?_ ?_ ?_ (fun x hx => ?_)); (focus decide); (focus (first | decide | omega)); (focus (first | decide | (simp only [sl]; omega)))) | ((with_reducible refine w_m hS ?_ ?_ ?_ ?_ ?_ (fun x hx => ?_)); (focus decide); (focus (first | decide | omega)); (focus omega); (focus (first | decide | omega)); (focus (first | decide | (simp only [ml]; omega)))) | (with_reducible refine w_k (by simp (disch := omega) only [w32_id]; exact rfl) ?_; ((with_reducible refine w_s hS ?_ ?_ ?_ (fun x hx => ?_)); (focus decide); (focus (first | decide | omega)); (focus (first | decide | (simp only [sl]; omega))))) | (with_reducible refine w_k (by simp (disch := omega) only [w32_id]; exact rfl) ?_; ((with_reducible refine w_m hS ?_ ?_ ?_ ?_ ?_ (fun x hx => ?_)); (focus decide); (focus (first | decide | omega)); (focus omega); (focus (first | decide | omega)); (focus (first | decide | (simp only [ml]; omega)))))); (try simp (disch := omega) only [Int.reduceToNat, tn_c, tn8, tn8i, tn5, tn5z, tn6, tn6z, tn1, u3_ne, u3_eq, u3_ni, u3_nk, ec] at hx); subst hx)
    refine w_isSaid (s := s) (h := h) (p := p) hI hc NC sl6 (fun z => ?_) (fun z => ?_) (fun z => ?_)
    · have e := fr.resolve_left z
      refine ⟨?_, by rw [e]; exact hp⟩
      unfold slot; rw [if_neg (by rw [← e]; exact z)]
    · exact w_ite (fun _ => w_ret (k0 (fun y => y.2 z))) (fun y => absurd (show (1 : Int) ≠ 0 by decide) y)
    · exact w_ite (fun y => absurd rfl y) (fun _ => w_ret (k1 ⟨g, z⟩))
  refine w_bind ?_
  unfold g_X9_isAgainst
  refine w_gv (by omega) ?_
  ((first | ((with_reducible refine w_s hS ?_ ?_ ?_ (fun x hx => ?_)); (focus decide); (focus (first | decide | omega)); (focus (first | decide | (simp only [sl]; omega)))) | ((with_reducible refine w_m hS ?_ ?_ ?_ ?_ ?_ (fun x hx => ?_)); (focus decide); (focus (first | decide | omega)); (focus omega); (focus (first | decide | omega)); (focus (first | decide | (simp only [ml]; omega)))) | (with_reducible refine w_k (by simp (disch := omega) only [w32_id]; exact rfl) ?_; ((with_reducible refine w_s hS ?_ ?_ ?_ (fun x hx => ?_)); (focus decide); (focus (first | decide | omega)); (focus (first | decide | (simp only [sl]; omega))))) | (with_reducible refine w_k (by simp (disch := omega) only [w32_id]; exact rfl) ?_; ((with_reducible refine w_m hS ?_ ?_ ?_ ?_ ?_ (fun x hx => ?_)); (focus decide); (focus (first | decide | omega)); (focus omega); (focus (first | decide | omega)); (focus (first | decide | (simp only [ml]; omega)))))); (try simp (disch := omega) only [Int.reduceToNat, tn_c, tn8, tn8i, tn5, tn5z, tn6, tn6z, tn1, u3_ne, u3_eq, u3_ni, u3_nk, f_100_44 hF] at hx); subst hx)
  rw [w6 (by omega) sl6]
  refine w_144 hS (by omega) ?_
  rw [N.2]
  have roster : V 101 0 q = 5 → V 33 s (5 * q + p) = 0 ∧ 0 ≤ V 32 s (5 * q + p) := by
    intro k5
    obtain ⟨m0, t⟩ := hI.IQ.k5 hq k5
    have p0 : p = 0 := by rw [t] at hp; unfold plc at hp; rw [if_pos rfl] at hp; omega
    subst p0
    obtain ⟨a1, a2, okv⟩ := ((hI.IA h hh).1 q hq m0).1 t
    rw [es] at a1 a2
    rw [Nat.add_zero, a1, a2]
    exact ⟨(okv.2.2.2.2.1 k5).1, (okv.2.2.2.2.1 k5).2.1⟩
  refine w_ite (fun z => w_ret (k0 (fun y => ?_))) (fun z => ?_)
  · by_cases k5 : V 101 0 q = 5
    · exact z (roster k5).1
    · have := y.1
      rw [if_neg k5] at this; exact z this
  · ((first | ((with_reducible refine w_s hS ?_ ?_ ?_ (fun x hx => ?_)); (focus decide); (focus (first | decide | omega)); (focus (first | decide | (simp only [sl]; omega)))) | ((with_reducible refine w_m hS ?_ ?_ ?_ ?_ ?_ (fun x hx => ?_)); (focus decide); (focus (first | decide | omega)); (focus omega); (focus (first | decide | omega)); (focus (first | decide | (simp only [ml]; omega)))) | (with_reducible refine w_k (by simp (disch := omega) only [w32_id]; exact rfl) ?_; ((with_reducible refine w_s hS ?_ ?_ ?_ (fun x hx => ?_)); (focus decide); (focus (first | decide | omega)); (focus (first | decide | (simp only [sl]; omega))))) | (with_reducible refine w_k (by simp (disch := omega) only [w32_id]; exact rfl) ?_; ((with_reducible refine w_m hS ?_ ?_ ?_ ?_ ?_ (fun x hx => ?_)); (focus decide); (focus (first | decide | omega)); (focus omega); (focus (first | decide | omega)); (focus (first | decide | (simp only [ml]; omega)))))); (try simp (disch := omega) only [Int.reduceToNat, tn_c, tn8, tn8i, tn5, tn5z, tn6, tn6z, tn1, u3_ne, u3_eq, u3_ni, u3_nk, f_100_1 hF] at hx); subst hx)
    ((first | ((with_reducible refine w_s hS ?_ ?_ ?_ (fun x hx => ?_)); (focus decide); (focus (first | decide | omega)); (focus (first | decide | (simp only [sl]; omega)))) | ((with_reducible refine w_m hS ?_ ?_ ?_ ?_ ?_ (fun x hx => ?_)); (focus decide); (focus (first | decide | omega)); (focus omega); (focus (first | decide | omega)); (focus (first | decide | (simp only [ml]; omega)))) | (with_reducible refine w_k (by simp (disch := omega) only [w32_id]; exact rfl) ?_; ((with_reducible refine w_s hS ?_ ?_ ?_ (fun x hx => ?_)); (focus decide); (focus (first | decide | omega)); (focus (first | decide | (simp only [sl]; omega))))) | (with_reducible refine w_k (by simp (disch := omega) only [w32_id]; exact rfl) ?_; ((with_reducible refine w_m hS ?_ ?_ ?_ ?_ ?_ (fun x hx => ?_)); (focus decide); (focus (first | decide | omega)); (focus omega); (focus (first | decide | omega)); (focus (first | decide | (simp only [ml]; omega)))))); (try simp (disch := omega) only [Int.reduceToNat, tn_c, tn8, tn8i, tn5, tn5z, tn6, tn6z, tn1, u3_ne, u3_eq, u3_ni, u3_nk, tn_c] at hx); subst hx)
    refine w_ite (fun k5 => last ?_) (fun k5 => ?_)
    · rw [if_neg k5]; omega
    · have k5 : V 101 0 q = 5 := by omega
      ((first | ((with_reducible refine w_s hS ?_ ?_ ?_ (fun x hx => ?_)); (focus decide); (focus (first | decide | omega)); (focus (first | decide | (simp only [sl]; omega)))) | ((with_reducible refine w_m hS ?_ ?_ ?_ ?_ ?_ (fun x hx => ?_)); (focus decide); (focus (first | decide | omega)); (focus omega); (focus (first | decide | omega)); (focus (first | decide | (simp only [ml]; omega)))) | (with_reducible refine w_k (by simp (disch := omega) only [w32_id]; exact rfl) ?_; ((with_reducible refine w_s hS ?_ ?_ ?_ (fun x hx => ?_)); (focus decide); (focus (first | decide | omega)); (focus (first | decide | (simp only [sl]; omega))))) | (with_reducible refine w_k (by simp (disch := omega) only [w32_id]; exact rfl) ?_; ((with_reducible refine w_m hS ?_ ?_ ?_ ?_ ?_ (fun x hx => ?_)); (focus decide); (focus (first | decide | omega)); (focus omega); (focus (first | decide | omega)); (focus (first | decide | (simp only [ml]; omega)))))); (try simp (disch := omega) only [Int.reduceToNat, tn_c, tn8, tn8i, tn5, tn5z, tn6, tn6z, tn1, u3_ne, u3_eq, u3_ni, u3_nk, f_100_43 hF] at hx); subst hx)
      refine w_143 hS (by omega) ?_
      rw [N.1]
      have := roster k5
      refine w_ite (fun y => w_ret (k0 (fun w => ?_))) (fun y => last ?_)
      · rw [lc_le] at y
        have := w.1
        rw [if_pos k5] at this; omega
      · rw [lc_le] at y
        rw [if_pos k5]; omega
theorem w_countAgainst {k : Int} {f : Int × GS → GO} (hI : INV IT V R) (hd : ∀ h, h < rC R 30 → V 30 h 2 = V 100 0 29) (K : ∀ V' m, same V V' LX → RSx V' m (lst (agh V R) (rC R 30)) k → Wp (f (m, (V', R))) Q) : Wp ((g_X9_countAgainst 0 k (V, R)).bind f) Q := by
  have hS := hI.SH
  obtain ⟨b20, b30, b40, b50⟩ := hI.IN.1
  refine w_bind ?_
  unfold g_X9_countAgainst
  refine w_gv (by omega) ?_
  refine w_for2 (rC R 30) (fun i m G => ∃ V', G = (V', R) ∧ same V V' LX ∧ RSx V' m (lst (agh V R) i) k) ?_ (i := 0) (by omega) (by omega) ⟨V, rfl, same.rf V _, rfl, fun n _ h => absurd h (by unfold lst; simp)⟩
  rintro i m G hi ⟨V', rfl, sm, hrs⟩ self ih
  have hI' := hI.scr sm
  have hF' := hI'.RF
  have n3 := hI'.IN.2.1.2.2.1
  unfold glX9_countAgainst_4
  ((first | ((with_reducible refine w_s hS ?_ ?_ ?_ (fun x hx => ?_)); (focus decide); (focus (first | decide | omega)); (focus (first | decide | (simp only [sl]; omega)))) | ((with_reducible refine w_m hS ?_ ?_ ?_ ?_ ?_ (fun x hx => ?_)); (focus decide); (focus (first | decide | omega)); (focus omega); (focus (first | decide | omega)); (focus (first | decide | (simp only [ml]; omega)))) | (with_reducible refine w_k (by simp (disch := omega) only [w32_id]; exact rfl) ?_; ((with_reducible refine w_s hS ?_ ?_ ?_ (fun x hx => ?_)); (focus decide); (focus (first | decide | omega)); (focus (first | decide | (simp only [sl]; omega))))) | (with_reducible refine w_k (by simp (disch := omega) only [w32_id]; exact rfl) ?_; ((with_reducible refine w_m hS ?_ ?_ ?_ ?_ ?_ (fun x hx => ?_)); (focus decide); (focus (first | decide | omega)); (focus omega); (focus (first | decide | omega)); (focus (first | decide | (simp only [ml]; omega)))))); (try simp (disch := omega) only [Int.reduceToNat, tn_c, tn8, tn8i, tn5, tn5z, tn6, tn6z, tn1, u3_ne, u3_eq, u3_ni, u3_nk, n3] at hx); subst hx)
  refine w_ite (fun hx => w_ret ?_) (fun hx => ?_)
  · have ei : i = rC R 30 := by omega
    subst ei
    exact K V' m sm hrs
  · have hh : i < rC R 30 := by omega
    refine w_workOut hI' hh (by rw [sm.f 30 2 rfl, sm.f 100 29 rfl]; exact hd i hh) (fun V2 sm2 hI2 now => ?_)
    have l1 := lst_len (F := agh V R) (m := 120) (n := i) (fun g hg => agh_len hI (by omega))
    have smb : same V V2 LX := sm.tr sm2.n
    refine w_for2 (rC R 20) (fun q m G => ∃ V3, G = (V3, R) ∧ same V2 V3 LG ∧ RSx V3 m (lst (agh V R) i ++ lst (agq V (V 30 i 0).toNat i) q) k) ?_ (i := 0) (by omega) (by omega) ⟨V2, rfl, same.rf V2 _, by
      show RSx V2 m (lst (agh V R) i ++ []) k
      rw [List.append_nil]; exact hrs.cg (sm2.f 100 46 rfl 0) (sm2.f 100 47 rfl 0) (sm2.f 100 48 rfl 0)⟩
    rintro q m G hq ⟨V3, rfl, sm3, hrs3⟩ self' ih'
    have sm03 : same V V3 LX := smb.tr sm3.gx
    have hI3 := hI.scr sm03
    have hF3 := hI3.RF
    have n1 := hI3.IN.2.1.1
    unfold glX9_countAgainst_20
    ((first | ((with_reducible refine w_s hS ?_ ?_ ?_ (fun x hx => ?_)); (focus decide); (focus (first | decide | omega)); (focus (first | decide | (simp only [sl]; omega)))) | ((with_reducible refine w_m hS ?_ ?_ ?_ ?_ ?_ (fun x hx => ?_)); (focus decide); (focus (first | decide | omega)); (focus omega); (focus (first | decide | omega)); (focus (first | decide | (simp only [ml]; omega)))) | (with_reducible refine w_k (by simp (disch := omega) only [w32_id]; exact rfl) ?_; ((with_reducible refine w_s hS ?_ ?_ ?_ (fun x hx => ?_)); (focus decide); (focus (first | decide | omega)); (focus (first | decide | (simp only [sl]; omega))))) | (with_reducible refine w_k (by simp (disch := omega) only [w32_id]; exact rfl) ?_; ((with_reducible refine w_m hS ?_ ?_ ?_ ?_ ?_ (fun x hx => ?_)); (focus decide); (focus (first | decide | omega)); (focus omega); (focus (first | decide | omega)); (focus (first | decide | (simp only [ml]; omega)))))); (try simp (disch := omega) only [Int.reduceToNat, tn_c, tn8, tn8i, tn5, tn5z, tn6, tn6z, tn1, u3_ne, u3_eq, u3_ni, u3_nk, n1] at hx); subst hx)
    refine w_ite (fun hx => ?_) (fun hx => ?_)
    · have eq : q = rC R 20 := by omega
      subst eq
      exact ih _ _ (by omega) ⟨V3, rfl, sm03, hrs3⟩
    · have hq : q < rC R 20 := by omega
      have es : (V3 30 i 0).toNat = (V 30 i 0).toNat := by rw [sm03.f 30 0 rfl]
      have hpl := plc_q hI.IQ (hI.pers hh) hq
      have l2 := lst_len (F := agq V (V 30 i 0).toNat i) (m := 5) (n := q) (fun q' hq' => agq_len (plc_q hI.IQ (hI.pers hh) (by omega)).2)
      have core : ∀ a n : Nat, a < 2 → n ≤ 5 → (a : Int) + plc V (V 30 i 0).toNat (V 102 0 q) = (n : Int) + 1 → (∀ p : Nat, (p : Int) < plc V (V 30 i 0).toNat (V 102 0 q) → slot (V 102 0 q) p = a + p ∧ prs (V 102 0 q) p = (a : Int) + (p : Int) - 1) → Wp (lh2 (glX9_countAgainst_74 self self' 0 k (i : Int) (q : Int) (n : Int)) 6000 m (a : Int) (V3, R)) (fun r G => Wp (f (r, G)) Q) := by
        intro a n ha hn5 hpa hsl
        by_cases nf : V 106 0 q = -1
        · refine w_for2 (n + 1) (fun t m' G => G = (V3, R) ∧ m' = m) ?_ (by omega) (by omega) ⟨rfl, rfl⟩
          rintro t m' G ht ⟨rfl, rfl⟩ self'' ih''
          unfold glX9_countAgainst_74 gjX9_countAgainst_135
          have fin : Wp (self' m' (w32 ((q : Int) + 1)) (V3, R)) (fun r G => Wp (f (r, G)) Q) := by
            refine ih' _ _ hq ⟨V3, rfl, sm3, ?_⟩
            show RSx V3 m' (lst (agh V R) i ++ (lst (agq V (V 30 i 0).toNat i) q ++ agq V (V 30 i 0).toNat i q)) k
            have : agq V (V 30 i 0).toNat i q = [] := by unfold agq; rw [if_pos nf]
            rw [this, List.append_nil]; exact hrs3
          refine w_ite (fun _ => fin) (fun _ => ?_)
          ((first | ((with_reducible refine w_s hS ?_ ?_ ?_ (fun x hx => ?_)); (focus decide); (focus (first | decide | omega)); (focus (first | decide | (simp only [sl]; omega)))) | ((with_reducible refine w_m hS ?_ ?_ ?_ ?_ ?_ (fun x hx => ?_)); (focus decide); (focus (first | decide | omega)); (focus omega); (focus (first | decide | omega)); (focus (first | decide | (simp only [ml]; omega)))) | (with_reducible refine w_k (by simp (disch := omega) only [w32_id]; exact rfl) ?_; ((with_reducible refine w_s hS ?_ ?_ ?_ (fun x hx => ?_)); (focus decide); (focus (first | decide | omega)); (focus (first | decide | (simp only [sl]; omega))))) | (with_reducible refine w_k (by simp (disch := omega) only [w32_id]; exact rfl) ?_; ((with_reducible refine w_m hS ?_ ?_ ?_ ?_ ?_ (fun x hx => ?_)); (focus decide); (focus (first | decide | omega)); (focus omega); (focus (first | decide | omega)); (focus (first | decide | (simp only [ml]; omega)))))); (try simp (disch := omega) only [Int.reduceToNat, tn_c, tn8, tn8i, tn5, tn5z, tn6, tn6z, tn1, u3_ne, u3_eq, u3_ni, u3_nk, f_100_6 hF3] at hx); subst hx)
          ((first | ((with_reducible refine w_s hS ?_ ?_ ?_ (fun x hx => ?_)); (focus decide); (focus (first | decide | omega)); (focus (first | decide | (simp only [sl]; omega)))) | ((with_reducible refine w_m hS ?_ ?_ ?_ ?_ ?_ (fun x hx => ?_)); (focus decide); (focus (first | decide | omega)); (focus omega); (focus (first | decide | omega)); (focus (first | decide | (simp only [ml]; omega)))) | (with_reducible refine w_k (by simp (disch := omega) only [w32_id]; exact rfl) ?_; ((with_reducible refine w_s hS ?_ ?_ ?_ (fun x hx => ?_)); (focus decide); (focus (first | decide | omega)); (focus (first | decide | (simp only [sl]; omega))))) | (with_reducible refine w_k (by simp (disch := omega) only [w32_id]; exact rfl) ?_; ((with_reducible refine w_m hS ?_ ?_ ?_ ?_ ?_ (fun x hx => ?_)); (focus decide); (focus (first | decide | omega)); (focus omega); (focus (first | decide | omega)); (focus (first | decide | (simp only [ml]; omega)))))); (try simp (disch := omega) only [Int.reduceToNat, tn_c, tn8, tn8i, tn5, tn5z, tn6, tn6z, tn1, u3_ne, u3_eq, u3_ni, u3_nk, sm03.r 106 rfl, nf] at hx); subst hx)
          exact w_ite (fun _ => fin) (fun z => absurd (show (-1 : Int) < 0 by decide) z)
        · have eagq : agq V (V 30 i 0).toNat i q = lst (fun p => one (agn V (V 30 i 0).toNat i q p) ((i : Int), (q : Int), prs (V 102 0 q) p)) (n + 1 - a) := by
            unfold agq; rw [if_neg nf, show (plc V (V 30 i 0).toNat (V 102 0 q)).toNat = n + 1 - a by omega]
          refine w_for2 (n + 1) (fun t m' G => a ≤ t ∧ ∃ V4, G = (V4, R) ∧ same V2 V4 LG ∧ RSx V4 m' (lst (agh V R) i ++ lst (agq V (V 30 i 0).toNat i) q ++ lst (fun p => one (agn V (V 30 i 0).toNat i q p) ((i : Int), (q : Int), prs (V 102 0 q) p)) (t - a)) k) ?_ (by omega) (by omega) ⟨Nat.le_refl _, V3, rfl, sm3, by
            rw [Nat.sub_self]
            show RSx V3 m (_ ++ []) k
            rw [List.append_nil]; exact hrs3⟩
          rintro t m' G ht ⟨hat, V4, rfl, sm4, hrs4⟩ self'' ih''
          have sm04 : same V V4 LX := smb.tr sm4.gx
          have hI4 := hI.scr sm04
          have hF4 := hI4.RF
          unfold glX9_countAgainst_74 gjX9_countAgainst_135 gjX9_countAgainst_126 gjX9_countAgainst_129
          refine w_ite (fun hx => ?_) (fun hx => ?_)
          · refine ih' _ _ hq ⟨V4, rfl, sm4, ?_⟩
            show RSx V4 m' (lst (agh V R) i ++ (lst (agq V (V 30 i 0).toNat i) q ++ agq V (V 30 i 0).toNat i q)) k
            rw [eagq, ← List.append_assoc, show n + 1 - a = t - a by omega]; exact hrs4
          · obtain ⟨p, rfl⟩ : ∃ p, t = a + p := ⟨t - a, by omega⟩
            rw [Nat.add_sub_cancel_left] at hrs4
            have hp : (p : Int) < plc V (V 30 i 0).toNat (V 102 0 q) := by omega
            obtain ⟨hs1, hs2⟩ := hsl p hp
            have c0 := (hI.IQ.1 q hq).1.2.2.2.2.2.1.2.1
            ((first | ((with_reducible refine w_s hS ?_ ?_ ?_ (fun x hx => ?_)); (focus decide); (focus (first | decide | omega)); (focus (first | decide | (simp only [sl]; omega)))) | ((with_reducible refine w_m hS ?_ ?_ ?_ ?_ ?_ (fun x hx => ?_)); (focus decide); (focus (first | decide | omega)); (focus omega); (focus (first | decide | omega)); (focus (first | decide | (simp only [ml]; omega)))) | (with_reducible refine w_k (by simp (disch := omega) only [w32_id]; exact rfl) ?_; ((with_reducible refine w_s hS ?_ ?_ ?_ (fun x hx => ?_)); (focus decide); (focus (first | decide | omega)); (focus (first | decide | (simp only [sl]; omega))))) | (with_reducible refine w_k (by simp (disch := omega) only [w32_id]; exact rfl) ?_; ((with_reducible refine w_m hS ?_ ?_ ?_ ?_ ?_ (fun x hx => ?_)); (focus decide); (focus (first | decide | omega)); (focus omega); (focus (first | decide | omega)); (focus (first | decide | (simp only [ml]; omega)))))); (try simp (disch := omega) only [Int.reduceToNat, tn_c, tn8, tn8i, tn5, tn5z, tn6, tn6z, tn1, u3_ne, u3_eq, u3_ni, u3_nk, f_100_6 hF4] at hx); subst hx)
            ((first | ((with_reducible refine w_s hS ?_ ?_ ?_ (fun x hx => ?_)); (focus decide); (focus (first | decide | omega)); (focus (first | decide | (simp only [sl]; omega)))) | ((with_reducible refine w_m hS ?_ ?_ ?_ ?_ ?_ (fun x hx => ?_)); (focus decide); (focus (first | decide | omega)); (focus omega); (focus (first | decide | omega)); (focus (first | decide | (simp only [ml]; omega)))) | (with_reducible refine w_k (by simp (disch := omega) only [w32_id]; exact rfl) ?_; ((with_reducible refine w_s hS ?_ ?_ ?_ (fun x hx => ?_)); (focus decide); (focus (first | decide | omega)); (focus (first | decide | (simp only [sl]; omega))))) | (with_reducible refine w_k (by simp (disch := omega) only [w32_id]; exact rfl) ?_; ((with_reducible refine w_m hS ?_ ?_ ?_ ?_ ?_ (fun x hx => ?_)); (focus decide); (focus (first | decide | omega)); (focus omega); (focus (first | decide | omega)); (focus (first | decide | (simp only [ml]; omega)))))); (try simp (disch := omega) only [Int.reduceToNat, tn_c, tn8, tn8i, tn5, tn5z, tn6, tn6z, tn1, u3_ne, u3_eq, u3_ni, u3_nk, sm04.r 106 rfl] at hx); subst hx)
            refine w_ite (fun z => absurd z (by omega)) (fun _ => ?_)
            have now4 : NOW V4 R i := by
              have e2 : ∀ r, plc V4 (V2 30 i 0).toNat r = plc V2 (V2 30 i 0).toNat r := by intro r; unfold plc; rw [sm4.r 32 rfl]
              refine ⟨fun q' hq' p' hp' => ?_, fun c' hc' p' hp' => ?_⟩
              · rw [sm4.f 30 0 rfl, e2, sm4.r 102 rfl] at hp'
                rw [sm4.f 30 0 rfl, sm4.r 102 rfl, sm4.r 143 rfl, sm4.r 144 rfl, sm4.r 32 rfl, sm4.r 33 rfl]
                exact now.1 q' hq' p' hp'
              · rw [sm4.f 30 0 rfl, e2, sm4.r 125 rfl] at hp'
                rw [sm4.r 125 rfl, sm4.r 145 rfl, sm4.r 34 rfl]
                exact now.2 c' hc' p' hp'
            have agc : agn V4 (V4 30 i 0).toNat i q p ↔ agn V (V 30 i 0).toNat i q p := by simp only [agn, so, sm04.f 30 0 rfl, sm04.r 101 rfl, sm04.r 32 rfl, sm04.r 33 rfl, sm04.r 34 rfl, sm04.r 106 rfl, sm04.r 125 rfl]
            have l3 := lst_len (F := fun p => one (agn V (V 30 i 0).toNat i q p) ((i : Int), (q : Int), prs (V 102 0 q) p)) (m := 1) (n := p) (fun i _ => one_len)
            have ml := hrs4.1
            rw [List.length_append, List.length_append] at ml
            have hp4 : (p : Int) < plc V4 (V4 30 i 0).toNat (V4 102 0 q) := by
              rw [sm04.f 30 0 rfl, sm04.r 102 rfl]; unfold plc; rw [sm04.r 32 rfl]; exact hp
            have A := w_isAgainst (Q := fun r G => Wp (f (r, G)) Q) (f := fun z3 => if z3.1 = 0 then self'' m' (w32 (((a + p : Nat) : Int) + 1)) z3.2 else if m' ≠ k then self'' (w32 (m' + 1)) (w32 (((a + p : Nat) : Int) + 1)) z3.2 else (gs 100 z3.2 0 46 (i : Int)).bind fun G4 => (gs 100 G4 0 47 (q : Int)).bind fun G5 => (gs 100 G5 0 48 (w32 (((a + p : Nat) : Int) - 1))).bind fun G6 => self'' (w32 (m' + 1)) (w32 (((a + p : Nat) : Int) + 1)) G6) hI4 hh (by rw [sm04.f 30 2 rfl, sm04.f 100 29 rfl]; exact hd i hh) now4 hq (by rw [sm04.r 106 rfl]; exact nf) hp4 ?_ ?_
            · rw [sm04.r 102 rfl, hs1] at A; exact A
            · intro y
              have y := agc.mp y
              refine w_ite (fun z => absurd (show (1 : Int) = 0 from z) (by decide)) (fun _ => ?_)
              have eL : ∀ V5 : GV, RSx V5 (m' + 1) ((lst (agh V R) i ++ lst (agq V (V 30 i 0).toNat i) q ++ lst (fun p => one (agn V (V 30 i 0).toNat i q p) ((i : Int), (q : Int), prs (V 102 0 q) p)) p) ++ [((i : Int), (q : Int), prs (V 102 0 q) p)]) k → RSx V5 (w32 (m' + 1)) (lst (agh V R) i ++ lst (agq V (V 30 i 0).toNat i) q ++ lst (fun p => one (agn V (V 30 i 0).toNat i q p) ((i : Int), (q : Int), prs (V 102 0 q) p)) (a + p + 1 - a)) k := by
                intro V5 h
                rw [w32_id (by omega) (by omega), show a + p + 1 - a = p + 1 by omega]
                show RSx V5 _ (_ ++ (lst _ p ++ one _ _)) k
                rw [one_t y, ← List.append_assoc]; exact h
              refine w_ite (fun z => ?_) (fun z => ?_)
              · exact ih'' _ _ (by omega) ⟨by omega, V4, rfl, sm4, eL V4 (rs_meet hrs4 z)⟩
              · refine w_ss hS (by decide) (by omega) (by decide) ?_
                refine w_ss hS (by decide) (by omega) (by decide) ?_
                refine w_ss hS (by decide) (by omega) (by decide) ?_
                simp only [Int.reduceToNat]
                refine ih'' _ _ (by omega) ⟨by omega, _, rfl, ((sm4.u ⟨(100, some 46), by decide, rfl, Or.inr rfl⟩).u ⟨(100, some 47), by decide, rfl, Or.inr rfl⟩).u ⟨(100, some 48), by decide, rfl, Or.inr rfl⟩, eL _ (rs_meet' ?_ (by omega) ?_ ?_ ?_)⟩
                · exact ⟨hrs4.1, fun n e h => absurd h (by rw [List.length_append, List.length_append]; omega)⟩
                · rw [u3_nk (by decide), u3_nk (by decide), u3_eq]
                · rw [u3_nk (by decide), u3_eq]
                · rw [u3_eq, w32_id (by omega) (by omega), hs2]; omega
            · intro y
              refine w_ite (fun _ => ?_) (fun z => absurd rfl z)
              refine ih'' _ _ (by omega) ⟨by omega, V4, rfl, sm4, ?_⟩
              rw [show a + p + 1 - a = p + 1 by omega]
              show RSx V4 _ (_ ++ (lst _ p ++ one _ _)) k
              rw [one_f (fun w => y (agc.mpr w)), List.append_nil]; exact hrs4
      ((first | ((with_reducible refine w_s hS ?_ ?_ ?_ (fun x hx => ?_)); (focus decide); (focus (first | decide | omega)); (focus (first | decide | (simp only [sl]; omega)))) | ((with_reducible refine w_m hS ?_ ?_ ?_ ?_ ?_ (fun x hx => ?_)); (focus decide); (focus (first | decide | omega)); (focus omega); (focus (first | decide | omega)); (focus (first | decide | (simp only [ml]; omega)))) | (with_reducible refine w_k (by simp (disch := omega) only [w32_id]; exact rfl) ?_; ((with_reducible refine w_s hS ?_ ?_ ?_ (fun x hx => ?_)); (focus decide); (focus (first | decide | omega)); (focus (first | decide | (simp only [sl]; omega))))) | (with_reducible refine w_k (by simp (disch := omega) only [w32_id]; exact rfl) ?_; ((with_reducible refine w_m hS ?_ ?_ ?_ ?_ ?_ (fun x hx => ?_)); (focus decide); (focus (first | decide | omega)); (focus omega); (focus (first | decide | omega)); (focus (first | decide | (simp only [ml]; omega)))))); (try simp (disch := omega) only [Int.reduceToNat, tn_c, tn8, tn8i, tn5, tn5z, tn6, tn6z, tn1, u3_ne, u3_eq, u3_ni, u3_nk, f_100_2 hF3] at hx); subst hx)
      ((first | ((with_reducible refine w_s hS ?_ ?_ ?_ (fun x hx => ?_)); (focus decide); (focus (first | decide | omega)); (focus (first | decide | (simp only [sl]; omega)))) | ((with_reducible refine w_m hS ?_ ?_ ?_ ?_ ?_ (fun x hx => ?_)); (focus decide); (focus (first | decide | omega)); (focus omega); (focus (first | decide | omega)); (focus (first | decide | (simp only [ml]; omega)))) | (with_reducible refine w_k (by simp (disch := omega) only [w32_id]; exact rfl) ?_; ((with_reducible refine w_s hS ?_ ?_ ?_ (fun x hx => ?_)); (focus decide); (focus (first | decide | omega)); (focus (first | decide | (simp only [sl]; omega))))) | (with_reducible refine w_k (by simp (disch := omega) only [w32_id]; exact rfl) ?_; ((with_reducible refine w_m hS ?_ ?_ ?_ ?_ ?_ (fun x hx => ?_)); (focus decide); (focus (first | decide | omega)); (focus omega); (focus (first | decide | omega)); (focus (first | decide | (simp only [ml]; omega)))))); (try simp (disch := omega) only [Int.reduceToNat, tn_c, tn8, tn8i, tn5, tn5z, tn6, tn6z, tn1, u3_ne, u3_eq, u3_ni, u3_nk, sm03.r 102 rfl] at hx); subst hx)
      unfold gjX9_countAgainst_55 gjX9_countAgainst_72
      by_cases t : V 102 0 q = -1
      · refine w_ite (fun z => absurd z (by omega)) (fun _ => ?_)
        ((first | ((with_reducible refine w_s hS ?_ ?_ ?_ (fun x hx => ?_)); (focus decide); (focus (first | decide | omega)); (focus (first | decide | (simp only [sl]; omega)))) | ((with_reducible refine w_m hS ?_ ?_ ?_ ?_ ?_ (fun x hx => ?_)); (focus decide); (focus (first | decide | omega)); (focus omega); (focus (first | decide | omega)); (focus (first | decide | (simp only [ml]; omega)))) | (with_reducible refine w_k (by simp (disch := omega) only [w32_id]; exact rfl) ?_; ((with_reducible refine w_s hS ?_ ?_ ?_ (fun x hx => ?_)); (focus decide); (focus (first | decide | omega)); (focus (first | decide | (simp only [sl]; omega))))) | (with_reducible refine w_k (by simp (disch := omega) only [w32_id]; exact rfl) ?_; ((with_reducible refine w_m hS ?_ ?_ ?_ ?_ ?_ (fun x hx => ?_)); (focus decide); (focus (first | decide | omega)); (focus omega); (focus (first | decide | omega)); (focus (first | decide | (simp only [ml]; omega)))))); (try simp (disch := omega) only [Int.reduceToNat, tn_c, tn8, tn8i, tn5, tn5z, tn6, tn6z, tn1, u3_ne, u3_eq, u3_ni, u3_nk, f_100_2 hF3] at hx); subst hx)
        ((first | ((with_reducible refine w_s hS ?_ ?_ ?_ (fun x hx => ?_)); (focus decide); (focus (first | decide | omega)); (focus (first | decide | (simp only [sl]; omega)))) | ((with_reducible refine w_m hS ?_ ?_ ?_ ?_ ?_ (fun x hx => ?_)); (focus decide); (focus (first | decide | omega)); (focus omega); (focus (first | decide | omega)); (focus (first | decide | (simp only [ml]; omega)))) | (with_reducible refine w_k (by simp (disch := omega) only [w32_id]; exact rfl) ?_; ((with_reducible refine w_s hS ?_ ?_ ?_ (fun x hx => ?_)); (focus decide); (focus (first | decide | omega)); (focus (first | decide | (simp only [sl]; omega))))) | (with_reducible refine w_k (by simp (disch := omega) only [w32_id]; exact rfl) ?_; ((with_reducible refine w_m hS ?_ ?_ ?_ ?_ ?_ (fun x hx => ?_)); (focus decide); (focus (first | decide | omega)); (focus omega); (focus (first | decide | omega)); (focus (first | decide | (simp only [ml]; omega)))))); (try simp (disch := omega) only [Int.reduceToNat, tn_c, tn8, tn8i, tn5, tn5z, tn6, tn6z, tn1, u3_ne, u3_eq, u3_ni, u3_nk, sm03.r 102 rfl] at hx); subst hx)
        refine w_ite (fun z => absurd z (by omega)) (fun _ => ?_)
        have e1 : plc V (V 30 i 0).toNat (V 102 0 q) = 1 := by unfold plc; rw [if_pos t]
        refine core 0 0 (by omega) (by omega) (by omega) (fun p hp => ?_)
        unfold slot prs; rw [if_pos t, if_pos t]; omega
      · obtain ⟨r, er, _, hr, k5, _, _⟩ := hI.IQ.ro hq t
        refine w_ite (fun _ => ?_) (fun z => absurd (show V 102 0 q ≥ 0 by omega) z)
        ((first | ((with_reducible refine w_s hS ?_ ?_ ?_ (fun x hx => ?_)); (focus decide); (focus (first | decide | omega)); (focus (first | decide | (simp only [sl]; omega)))) | ((with_reducible refine w_m hS ?_ ?_ ?_ ?_ ?_ (fun x hx => ?_)); (focus decide); (focus (first | decide | omega)); (focus omega); (focus (first | decide | omega)); (focus (first | decide | (simp only [ml]; omega)))) | (with_reducible refine w_k (by simp (disch := omega) only [w32_id]; exact rfl) ?_; ((with_reducible refine w_s hS ?_ ?_ ?_ (fun x hx => ?_)); (focus decide); (focus (first | decide | omega)); (focus (first | decide | (simp only [sl]; omega))))) | (with_reducible refine w_k (by simp (disch := omega) only [w32_id]; exact rfl) ?_; ((with_reducible refine w_m hS ?_ ?_ ?_ ?_ ?_ (fun x hx => ?_)); (focus decide); (focus (first | decide | omega)); (focus omega); (focus (first | decide | omega)); (focus (first | decide | (simp only [ml]; omega)))))); (try simp (disch := omega) only [Int.reduceToNat, tn_c, tn8, tn8i, tn5, tn5z, tn6, tn6z, tn1, u3_ne, u3_eq, u3_ni, u3_nk, f_100_2 hF3] at hx); subst hx)
        ((first | ((with_reducible refine w_s hS ?_ ?_ ?_ (fun x hx => ?_)); (focus decide); (focus (first | decide | omega)); (focus (first | decide | (simp only [sl]; omega)))) | ((with_reducible refine w_m hS ?_ ?_ ?_ ?_ ?_ (fun x hx => ?_)); (focus decide); (focus (first | decide | omega)); (focus omega); (focus (first | decide | omega)); (focus (first | decide | (simp only [ml]; omega)))) | (with_reducible refine w_k (by simp (disch := omega) only [w32_id]; exact rfl) ?_; ((with_reducible refine w_s hS ?_ ?_ ?_ (fun x hx => ?_)); (focus decide); (focus (first | decide | omega)); (focus (first | decide | (simp only [sl]; omega))))) | (with_reducible refine w_k (by simp (disch := omega) only [w32_id]; exact rfl) ?_; ((with_reducible refine w_m hS ?_ ?_ ?_ ?_ ?_ (fun x hx => ?_)); (focus decide); (focus (first | decide | omega)); (focus omega); (focus (first | decide | omega)); (focus (first | decide | (simp only [ml]; omega)))))); (try simp (disch := omega) only [Int.reduceToNat, tn_c, tn8, tn8i, tn5, tn5z, tn6, tn6z, tn1, u3_ne, u3_eq, u3_ni, u3_nk, sm03.r 102 rfl, er] at hx); subst hx)
        refine w_rp hI3 hh hr (by rw [sm03.r 101 rfl]; exact k5) es (fun h0 h5 => ?_)
        ((first | ((with_reducible refine w_s hS ?_ ?_ ?_ (fun x hx => ?_)); (focus decide); (focus (first | decide | omega)); (focus (first | decide | (simp only [sl]; omega)))) | ((with_reducible refine w_m hS ?_ ?_ ?_ ?_ ?_ (fun x hx => ?_)); (focus decide); (focus (first | decide | omega)); (focus omega); (focus (first | decide | omega)); (focus (first | decide | (simp only [ml]; omega)))) | (with_reducible refine w_k (by simp (disch := omega) only [w32_id]; exact rfl) ?_; ((with_reducible refine w_s hS ?_ ?_ ?_ (fun x hx => ?_)); (focus decide); (focus (first | decide | omega)); (focus (first | decide | (simp only [sl]; omega))))) | (with_reducible refine w_k (by simp (disch := omega) only [w32_id]; exact rfl) ?_; ((with_reducible refine w_m hS ?_ ?_ ?_ ?_ ?_ (fun x hx => ?_)); (focus decide); (focus (first | decide | omega)); (focus omega); (focus (first | decide | omega)); (focus (first | decide | (simp only [ml]; omega)))))); (try simp (disch := omega) only [Int.reduceToNat, tn_c, tn8, tn8i, tn5, tn5z, tn6, tn6z, tn1, u3_ne, u3_eq, u3_ni, u3_nk, f_100_2 hF3] at hx); subst hx)
        ((first | ((with_reducible refine w_s hS ?_ ?_ ?_ (fun x hx => ?_)); (focus decide); (focus (first | decide | omega)); (focus (first | decide | (simp only [sl]; omega)))) | ((with_reducible refine w_m hS ?_ ?_ ?_ ?_ ?_ (fun x hx => ?_)); (focus decide); (focus (first | decide | omega)); (focus omega); (focus (first | decide | omega)); (focus (first | decide | (simp only [ml]; omega)))) | (with_reducible refine w_k (by simp (disch := omega) only [w32_id]; exact rfl) ?_; ((with_reducible refine w_s hS ?_ ?_ ?_ (fun x hx => ?_)); (focus decide); (focus (first | decide | omega)); (focus (first | decide | (simp only [sl]; omega))))) | (with_reducible refine w_k (by simp (disch := omega) only [w32_id]; exact rfl) ?_; ((with_reducible refine w_m hS ?_ ?_ ?_ ?_ ?_ (fun x hx => ?_)); (focus decide); (focus (first | decide | omega)); (focus omega); (focus (first | decide | omega)); (focus (first | decide | (simp only [ml]; omega)))))); (try simp (disch := omega) only [Int.reduceToNat, tn_c, tn8, tn8i, tn5, tn5z, tn6, tn6z, tn1, u3_ne, u3_eq, u3_ni, u3_nk, sm03.r 102 rfl] at hx); subst hx)
        refine w_ite (fun _ => ?_) (fun z => absurd (show V 102 0 q ≥ 0 by omega) z)
        dsimp only
        rw [sm03.r 32 rfl] at h0 h5 ⊢
        obtain ⟨n, en⟩ : ∃ n : Nat, V 32 (V 30 i 0).toNat (5 * r) = (n : Int) := ⟨_, (Int.toNat_of_nonneg h0).symm⟩
        have e1 : plc V (V 30 i 0).toNat (V 102 0 q) = (n : Int) := by unfold plc; rw [if_neg t, er, tn_c, en]
        rw [en]
        refine core 1 n (by omega) (by omega) (by omega) (fun p hp => ?_)
        unfold slot prs; rw [if_neg t, if_neg t]; omega
theorem T_against (hI : INV IT V R) : Wp (g_X8_against 0 (V, R)) (fun r G => Wp (g_X9_against 0 G) (PO r)) := by
  have hS := hI.SH
  unfold g_X8_against
  refine w_gv (by omega) ?_
  refine w_findAgainst hI (fun V' hI' hd hfs => ?_)
  have hF' := hI'.RF
  ((first | ((with_reducible refine w_s hS ?_ ?_ ?_ (fun x hx => ?_)); (focus decide); (focus (first | decide | omega)); (focus (first | decide | (simp only [sl]; omega)))) | ((with_reducible refine w_m hS ?_ ?_ ?_ ?_ ?_ (fun x hx => ?_)); (focus decide); (focus (first | decide | omega)); (focus omega); (focus (first | decide | omega)); (focus (first | decide | (simp only [ml]; omega)))) | (with_reducible refine w_k (by simp (disch := omega) only [w32_id]; exact rfl) ?_; ((with_reducible refine w_s hS ?_ ?_ ?_ (fun x hx => ?_)); (focus decide); (focus (first | decide | omega)); (focus (first | decide | (simp only [sl]; omega))))) | (with_reducible refine w_k (by simp (disch := omega) only [w32_id]; exact rfl) ?_; ((with_reducible refine w_m hS ?_ ?_ ?_ ?_ ?_ (fun x hx => ?_)); (focus decide); (focus (first | decide | omega)); (focus omega); (focus (first | decide | omega)); (focus (first | decide | (simp only [ml]; omega)))))); (try simp (disch := omega) only [Int.reduceToNat, tn_c, tn8, tn8i, tn5, tn5z, tn6, tn6z, tn1, u3_ne, u3_eq, u3_ni, u3_nk, f_0_6 hF'] at hx); subst hx)
  ((first | ((with_reducible refine w_s hS ?_ ?_ ?_ (fun x hx => ?_)); (focus decide); (focus (first | decide | omega)); (focus (first | decide | (simp only [sl]; omega)))) | ((with_reducible refine w_m hS ?_ ?_ ?_ ?_ ?_ (fun x hx => ?_)); (focus decide); (focus (first | decide | omega)); (focus omega); (focus (first | decide | omega)); (focus (first | decide | (simp only [ml]; omega)))) | (with_reducible refine w_k (by simp (disch := omega) only [w32_id]; exact rfl) ?_; ((with_reducible refine w_s hS ?_ ?_ ?_ (fun x hx => ?_)); (focus decide); (focus (first | decide | omega)); (focus (first | decide | (simp only [sl]; omega))))) | (with_reducible refine w_k (by simp (disch := omega) only [w32_id]; exact rfl) ?_; ((with_reducible refine w_m hS ?_ ?_ ?_ ?_ ?_ (fun x hx => ?_)); (focus decide); (focus (first | decide | omega)); (focus omega); (focus (first | decide | omega)); (focus (first | decide | (simp only [ml]; omega)))))); (try simp (disch := omega) only [Int.reduceToNat, tn_c, tn8, tn8i, tn5, tn5z, tn6, tn6z, tn1, u3_ne, u3_eq, u3_ni, u3_nk, hfs.2.1] at hx); subst hx)
  refine w_ret ?_
  unfold g_X9_against
  refine w_gv (by omega) ?_
  refine w_countAgainst hI' hd (fun V2 m sm hrs => w_ret ⟨?_, hI'.scr sm⟩)
  exact hrs.1.symm
theorem T_againstAt (hI : INV IT V R) (k what : Int) : Wp (g_X8_againstAt 0 k what (V, R)) (fun r G => Wp (g_X9_againstAt 0 k what G) (PO r)) := by
  have hS := hI.SH
  unfold g_X8_againstAt
  refine w_gv (by omega) ?_
  refine w_ite (fun hk => ?_) (fun hk => w_ret ?_)
  · obtain ⟨n, rfl⟩ := n_pos hk
    refine w_findAgainst hI (fun V' hI' hd hfs => ?_)
    have hF' := hI'.RF
    ((first | ((with_reducible refine w_s hS ?_ ?_ ?_ (fun x hx => ?_)); (focus decide); (focus (first | decide | omega)); (focus (first | decide | (simp only [sl]; omega)))) | ((with_reducible refine w_m hS ?_ ?_ ?_ ?_ ?_ (fun x hx => ?_)); (focus decide); (focus (first | decide | omega)); (focus omega); (focus (first | decide | omega)); (focus (first | decide | (simp only [ml]; omega)))) | (with_reducible refine w_k (by simp (disch := omega) only [w32_id]; exact rfl) ?_; ((with_reducible refine w_s hS ?_ ?_ ?_ (fun x hx => ?_)); (focus decide); (focus (first | decide | omega)); (focus (first | decide | (simp only [sl]; omega))))) | (with_reducible refine w_k (by simp (disch := omega) only [w32_id]; exact rfl) ?_; ((with_reducible refine w_m hS ?_ ?_ ?_ ?_ ?_ (fun x hx => ?_)); (focus decide); (focus (first | decide | omega)); (focus omega); (focus (first | decide | omega)); (focus (first | decide | (simp only [ml]; omega)))))); (try simp (disch := omega) only [Int.reduceToNat, tn_c, tn8, tn8i, tn5, tn5z, tn6, tn6z, tn1, u3_ne, u3_eq, u3_ni, u3_nk, f_0_6 hF'] at hx); subst hx)
    refine w_ftold hS hfs (by decide) (fun r er => w_ret ?_)
    unfold g_X9_againstAt gjX9_againstAt_25
    refine w_gv (by omega) ?_
    refine w_in (fun hw => ?_) (fun hw => ?_)
    · refine w_ite (fun z => absurd (show (1 : Int) = 0 from z) (by decide)) (fun _ => ?_)
      refine w_ite (fun z => absurd z (by omega)) (fun _ => ?_)
      refine w_countAgainst hI' hd (fun V2 m sm hrs => ?_)
      have em := hrs.1
      refine w_ite (fun hl => ?_) (fun hl => w_ret ⟨?_, hI'.scr sm⟩)
      · dsimp only at hl
        refine w_sought hS hrs (by omega) (fun r' er' => w_ret ⟨?_, hI'.scr sm⟩)
        rw [er, er', if_neg (by omega)]
      · dsimp only at hl
        rw [er, if_pos (by omega)]
    · refine w_ite (fun _ => w_ret ⟨?_, hI'⟩) (fun z => absurd rfl z)
      rw [er, if_pos (by omega)]
  · unfold g_X9_againstAt gjX9_againstAt_25
    refine w_gv (by omega) ?_
    refine w_in (fun hw => ?_) (fun hw => ?_)
    · refine w_ite (fun z => absurd (show (1 : Int) = 0 from z) (by decide)) (fun _ => ?_)
      exact w_ite (fun _ => w_ret ⟨rfl, hI⟩) (fun z => absurd (show k < 0 by omega) z)
    · exact w_ite (fun _ => w_ret ⟨rfl, hI⟩) (fun z => absurd rfl z)
end Against
