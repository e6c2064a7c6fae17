section Against
variable {V : GV} {R : GR} {Q : Int → GS → Prop}
def prs (r : Int) (p : Nat) : Int := if r = -1 then -1 else (p : Int)
def agn (V : GV) (s h q p : Nat) : Prop := (if V 101 0 q = 5 then V 32 s (5 * q + p) ≠ 0 else V 33 s (5 * q + p) = 0) ∧ ¬ so V h (V 106 0 q).toNat p
noncomputable def agq (V : GV) (s h q : Nat) : List H3 := if V 106 0 q = -1 then [] else lst (fun p => one (agn V s h q p) ((h : Int), (q : Int), prs (V 102 0 q) p)) (plc V s (V 102 0 q)).toNat
noncomputable def agh (V : GV) (R : GR) (h : Nat) : List H3 := lst (agq V (V 30 h 0).toNat h) (rC R 20)
theorem agq_cg {V V' : GV} {s h q : Nat} (e101 : V' 101 0 q = V 101 0 q) (e102 : V' 102 0 q = V 102 0 q) (e106 : V' 106 0 q = V 106 0 q) (e125 : ∀ c, V' 125 0 c = V 125 0 c) (e32 : ∀ k, V' 32 s k = V 32 s k) (e33 : ∀ k, V' 33 s k = V 33 s k) (e34 : ∀ k, V' 34 h k = V 34 h k) : agq V' s h q = agq V s h q := by
  simp only [agq, agn, so, plc, e101, e102, e106, e125, e32, e33, e34]
theorem agh_same {V V' : GV} {L : PL'} {h : Nat} (sm : same V V' L) (hd : disP L [(101, none), (102, none), (106, none), (125, none), (32, none), (33, none), (34, none), (30, some 0)] = true) : agh V' R h = agh V R h := by
  have e : ∀ r, r ∈ [101, 102, 106, 125, 32, 33, 34] → ∀ i k, V' r i k = V r i k := by
    intro r hr i k
    refine sm.at hd ⟨(r, none), ?_, rfl, Or.inl rfl⟩
    simp only [List.mem_cons, List.mem_nil_iff, or_false] at hr ⊢
    rcases hr with rfl | rfl | rfl | rfl | rfl | rfl | rfl <;> simp
  have e0 : V' 30 h 0 = V 30 h 0 := sm.at hd ⟨(30, some 0), by simp, rfl, Or.inr rfl⟩
  unfold agh
  rw [e0]
  refine lst_cg (fun q _ => agq_cg (e 101 (by decide) _ _) (e 102 (by decide) _ _) (e 106 (by decide) _ _) (fun c => e 125 (by decide) _ _) (fun k => e 32 (by decide) _ _) (fun k => e 33 (by decide) _ _) (fun k => e 34 (by decide) _ _))
theorem agq_len {s h q : Nat} (h5 : plc V s (V 102 0 q) ≤ 5) : (agq V s h q).length ≤ 5 := by
  unfold agq
  by_cases e : V 106 0 q = -1
  · rw [if_pos e]; simp
  · rw [if_neg e]
    have := lst_len (F := fun p => one (agn V s h q p) ((h : Int), (q : Int), prs (V 102 0 q) p)) (m := 1) (n := (plc V s (V 102 0 q)).toNat) (fun i _ => one_len)
    omega
theorem agh_len (hI : INV IT V R) {h : Nat} (hh : h < rC R 30) : (agh V R h).length ≤ 120 := by
  have := lst_len (F := agq V (V 30 h 0).toNat h) (m := 5) (n := rC R 20) (fun q hq => agq_len (plc_q hI.IQ (hI.pers hh) hq).2)
  have := hI.IN.1.1
  unfold agh
  omega
theorem w_isGiven {s q p : Nat} {f : Int × GS → GO} (hI : INV IT V R) (hk : shk V R s 120) (hq : q < rC R 20) (p5 : p < 5) (k1 : (if V 101 0 q = 5 then V 32 s (5 * q + p) ≠ 0 else V 33 s (5 * q + p) = 0) → Wp (f (1, (V, R))) Q) (k0 : ¬ (if V 101 0 q = 5 then V 32 s (5 * q + p) ≠ 0 else V 33 s (5 * q + p) = 0) → Wp (f (0, (V, R))) Q) : Wp ((g_X8_isGiven (s : Int) (q : Int) ((5 * q + p : Nat) : Int) (V, R)).bind f) Q := by
  have hS := hI.SH
  have e0 := (hI.IQ.1 q hq).1.1.1
  have b20 := hI.IN.1.1
  refine w_bind ?_
  unfold g_X8_isGiven
  ((first | ((with_reducible refine w_s hS ?_ ?_ ?_ (fun x hx => ?_)); (focus decide); (focus (first | decide | omega)); (focus (first | decide | (simp only [sl]; omega)))) | ((with_reducible refine w_m hS ?_ ?_ ?_ ?_ ?_ (fun x hx => ?_)); (focus decide); (focus (first | decide | omega)); (focus omega); (focus (first | decide | omega)); (focus (first | decide | (simp only [ml]; omega)))) | (with_reducible refine w_k (by simp (disch := omega) only [w32_id]; exact rfl) ?_; ((with_reducible refine w_s hS ?_ ?_ ?_ (fun x hx => ?_)); (focus decide); (focus (first | decide | omega)); (focus (first | decide | (simp only [sl]; omega))))) | (with_reducible refine w_k (by simp (disch := omega) only [w32_id]; exact rfl) ?_; ((with_reducible refine w_m hS ?_ ?_ ?_ ?_ ?_ (fun x hx => ?_)); (focus decide); (focus (first | decide | omega)); (focus omega); (focus (first | decide | omega)); (focus (first | decide | (simp only [ml]; omega)))))); (try simp (disch := omega) only [Int.reduceToNat, tn_c, tn8, tn8i, tn5, tn5z, tn6, tn6z, tn1, u3_ne, u3_eq, u3_ni, u3_nk, e0] at hx); subst hx)
  refine w_ite (fun h => ?_) (fun h => ?_)
  · rw [if_neg h] at k1 k0
    refine w_31 hS hk (Or.inr rfl) ?_
    refine w_33 hk (by omega) ?_
    exact w_ite (fun z => w_ret (k0 z)) (fun z => w_ret (k1 (by omega)))
  · rw [if_pos (by omega)] at k1 k0
    refine w_31 hS hk (Or.inl rfl) ?_
    refine w_32 hk (by omega) ?_
    refine w_ite (fun z => w_ret (k0 ?_)) (fun z => w_ret (k1 ?_))
    · rw [lc_eq] at z; exact fun y => y z
    · rw [lc_eq] at z; exact z
theorem w_meetAgainst {h q : Nat} {L : List H3} {k : Int} {f : Int × GS → GO} (hI : INV IT V R) (hh : h < rC R 30) (hd : V 30 h 2 = V 100 0 29) (hq : q < rC R 20) (hf : FS V L k) (hlen : L.length < 90000) (nf : V 106 0 q ≠ -1)
  (K : ∀ V', same V V' LF → FS V' (L ++ agq V (V 30 h 0).toNat h q) k → Wp (f (0, (V', R))) Q) : Wp ((g_X8_meetAgainst 0 (h : Int) (q : Int) (V, R)).bind f) Q := by
  have hS := hI.SH
  have hF := hI.RF
  have hL := hI.IL
  obtain ⟨b20, b30, b40, b50⟩ := hI.IN.1
  obtain ⟨n1, n2, n3, n4, n5, n6, _⟩ := hI.IN.2.1
  obtain ⟨s, e30, es, hk⟩ := hI.sht hh
  rw [es] at K
  have hpe := hI.pers hh
  rw [es] at hpe
  have hpl := plc_q hI.IQ hpe hq
  obtain ⟨_, ⟨e1, _, _⟩, _, _, _, ⟨e10, c0, c1⟩, _, _, fi, _⟩ := (hI.IQ.1 q hq).1
  unfold IQfi at fi
  obtain ⟨c, ec⟩ : ∃ c : Nat, V 106 0 q = (c : Int) := ⟨(V 106 0 q).toNat, by omega⟩
  have hc : c < rC R 40 := by omega
  have e4 := (hI.IC c hc).1.1
  obtain ⟨n, en⟩ : ∃ n : Nat, plc V s (V 102 0 q) = (n : Int) := ⟨(plc V s (V 102 0 q)).toNat, by omega⟩
  have el : agq V s h q = lst (fun p => one (agn V s h q p) ((h : Int), (q : Int), prs (V 102 0 q) p)) n := by
    unfold agq; rw [if_neg nf, en, tn_c]
  rw [el] at K
  refine w_bind ?_
  unfold g_X8_meetAgainst
  refine w_gv (by omega) ?_
  ((first | ((with_reducible refine w_s hS ?_ ?_ ?_ (fun x hx => ?_)); (focus decide); (focus (first | decide | omega)); (focus (first | decide | (simp only [sl]; omega)))) | ((with_reducible refine w_m hS ?_ ?_ ?_ ?_ ?_ (fun x hx => ?_)); (focus decide); (focus (first | decide | omega)); (focus omega); (focus (first | decide | omega)); (focus (first | decide | (simp only [ml]; omega)))) | (with_reducible refine w_k (by simp (disch := omega) only [w32_id]; exact rfl) ?_; ((with_reducible refine w_s hS ?_ ?_ ?_ (fun x hx => ?_)); (focus decide); (focus (first | decide | omega)); (focus (first | decide | (simp only [sl]; omega))))) | (with_reducible refine w_k (by simp (disch := omega) only [w32_id]; exact rfl) ?_; ((with_reducible refine w_m hS ?_ ?_ ?_ ?_ ?_ (fun x hx => ?_)); (focus decide); (focus (first | decide | omega)); (focus omega); (focus (first | decide | omega)); (focus (first | decide | (simp only [ml]; omega)))))); (try simp (disch := omega) only [Int.reduceToNat, tn_c, tn8, tn8i, tn5, tn5z, tn6, tn6z, tn1, u3_ne, u3_eq, u3_ni, u3_nk, f_0_1 hF] at hx); subst hx)
  ((first | ((with_reducible refine w_s hS ?_ ?_ ?_ (fun x hx => ?_)); (focus decide); (focus (first | decide | omega)); (focus (first | decide | (simp only [sl]; omega)))) | ((with_reducible refine w_m hS ?_ ?_ ?_ ?_ ?_ (fun x hx => ?_)); (focus decide); (focus (first | decide | omega)); (focus omega); (focus (first | decide | omega)); (focus (first | decide | (simp only [ml]; omega)))) | (with_reducible refine w_k (by simp (disch := omega) only [w32_id]; exact rfl) ?_; ((with_reducible refine w_s hS ?_ ?_ ?_ (fun x hx => ?_)); (focus decide); (focus (first | decide | omega)); (focus (first | decide | (simp only [sl]; omega))))) | (with_reducible refine w_k (by simp (disch := omega) only [w32_id]; exact rfl) ?_; ((with_reducible refine w_m hS ?_ ?_ ?_ ?_ ?_ (fun x hx => ?_)); (focus decide); (focus (first | decide | omega)); (focus omega); (focus (first | decide | omega)); (focus (first | decide | (simp only [ml]; omega)))))); (try simp (disch := omega) only [Int.reduceToNat, tn_c, tn8, tn8i, tn5, tn5z, tn6, tn6z, tn1, u3_ne, u3_eq, u3_ni, u3_nk, l_5 hL] at hx); subst hx)
  ((first | ((with_reducible refine w_s hS ?_ ?_ ?_ (fun x hx => ?_)); (focus decide); (focus (first | decide | omega)); (focus (first | decide | (simp only [sl]; omega)))) | ((with_reducible refine w_m hS ?_ ?_ ?_ ?_ ?_ (fun x hx => ?_)); (focus decide); (focus (first | decide | omega)); (focus omega); (focus (first | decide | omega)); (focus (first | decide | (simp only [ml]; omega)))) | (with_reducible refine w_k (by simp (disch := omega) only [w32_id]; exact rfl) ?_; ((with_reducible refine w_s hS ?_ ?_ ?_ (fun x hx => ?_)); (focus decide); (focus (first | decide | omega)); (focus (first | decide | (simp only [sl]; omega))))) | (with_reducible refine w_k (by simp (disch := omega) only [w32_id]; exact rfl) ?_; ((with_reducible refine w_m hS ?_ ?_ ?_ ?_ ?_ (fun x hx => ?_)); (focus decide); (focus (first | decide | omega)); (focus omega); (focus (first | decide | omega)); (focus (first | decide | (simp only [ml]; omega)))))); (try simp (disch := omega) only [Int.reduceToNat, tn_c, tn8, tn8i, tn5, tn5z, tn6, tn6z, tn1, u3_ne, u3_eq, u3_ni, u3_nk, f_0_0 hF] at hx); subst hx)
  ((first | ((with_reducible refine w_s hS ?_ ?_ ?_ (fun x hx => ?_)); (focus decide); (focus (first | decide | omega)); (focus (first | decide | (simp only [sl]; omega)))) | ((with_reducible refine w_m hS ?_ ?_ ?_ ?_ ?_ (fun x hx => ?_)); (focus decide); (focus (first | decide | omega)); (focus omega); (focus (first | decide | omega)); (focus (first | decide | (simp only [ml]; omega)))) | (with_reducible refine w_k (by simp (disch := omega) only [w32_id]; exact rfl) ?_; ((with_reducible refine w_s hS ?_ ?_ ?_ (fun x hx => ?_)); (focus decide); (focus (first | decide | omega)); (focus (first | decide | (simp only [sl]; omega))))) | (with_reducible refine w_k (by simp (disch := omega) only [w32_id]; exact rfl) ?_; ((with_reducible refine w_m hS ?_ ?_ ?_ ?_ ?_ (fun x hx => ?_)); (focus decide); (focus (first | decide | omega)); (focus omega); (focus (first | decide | omega)); (focus (first | decide | (simp only [ml]; omega)))))); (try simp (disch := omega) only [Int.reduceToNat, tn_c, tn8, tn8i, tn5, tn5z, tn6, tn6z, tn1, u3_ne, u3_eq, u3_ni, u3_nk, f_1_0 hF] at hx); subst hx)
  ((first | ((with_reducible refine w_s hS ?_ ?_ ?_ (fun x hx => ?_)); (focus decide); (focus (first | decide | omega)); (focus (first | decide | (simp only [sl]; omega)))) | ((with_reducible refine w_m hS ?_ ?_ ?_ ?_ ?_ (fun x hx => ?_)); (focus decide); (focus (first | decide | omega)); (focus omega); (focus (first | decide | omega)); (focus (first | decide | (simp only [ml]; omega)))) | (with_reducible refine w_k (by simp (disch := omega) only [w32_id]; exact rfl) ?_; ((with_reducible refine w_s hS ?_ ?_ ?_ (fun x hx => ?_)); (focus decide); (focus (first | decide | omega)); (focus (first | decide | (simp only [sl]; omega))))) | (with_reducible refine w_k (by simp (disch := omega) only [w32_id]; exact rfl) ?_; ((with_reducible refine w_m hS ?_ ?_ ?_ ?_ ?_ (fun x hx => ?_)); (focus decide); (focus (first | decide | omega)); (focus omega); (focus (first | decide | omega)); (focus (first | decide | (simp only [ml]; omega)))))); (try simp (disch := omega) only [Int.reduceToNat, tn_c, tn8, tn8i, tn5, tn5z, tn6, tn6z, tn1, u3_ne, u3_eq, u3_ni, u3_nk, l_2 hL] at hx); subst hx)
  ((first | ((with_reducible refine w_s hS ?_ ?_ ?_ (fun x hx => ?_)); (focus decide); (focus (first | decide | omega)); (focus (first | decide | (simp only [sl]; omega)))) | ((with_reducible refine w_m hS ?_ ?_ ?_ ?_ ?_ (fun x hx => ?_)); (focus decide); (focus (first | decide | omega)); (focus omega); (focus (first | decide | omega)); (focus (first | decide | (simp only [ml]; omega)))) | (with_reducible refine w_k (by simp (disch := omega) only [w32_id]; exact rfl) ?_; ((with_reducible refine w_s hS ?_ ?_ ?_ (fun x hx => ?_)); (focus decide); (focus (first | decide | omega)); (focus (first | decide | (simp only [sl]; omega))))) | (with_reducible refine w_k (by simp (disch := omega) only [w32_id]; exact rfl) ?_; ((with_reducible refine w_m hS ?_ ?_ ?_ ?_ ?_ (fun x hx => ?_)); (focus decide); (focus (first | decide | omega)); (focus omega); (focus (first | decide | omega)); (focus (first | decide | (simp only [ml]; omega)))))); (try simp (disch := omega) only [Int.reduceToNat, tn_c, tn8, tn8i, tn5, tn5z, tn6, tn6z, tn1, u3_ne, u3_eq, u3_ni, u3_nk, f_0_0 hF] at hx); subst hx)
  ((first | ((with_reducible refine w_s hS ?_ ?_ ?_ (fun x hx => ?_)); (focus decide); (focus (first | decide | omega)); (focus (first | decide | (simp only [sl]; omega)))) | ((with_reducible refine w_m hS ?_ ?_ ?_ ?_ ?_ (fun x hx => ?_)); (focus decide); (focus (first | decide | omega)); (focus omega); (focus (first | decide | omega)); (focus (first | decide | (simp only [ml]; omega)))) | (with_reducible refine w_k (by simp (disch := omega) only [w32_id]; exact rfl) ?_; ((with_reducible refine w_s hS ?_ ?_ ?_ (fun x hx => ?_)); (focus decide); (focus (first | decide | omega)); (focus (first | decide | (simp only [sl]; omega))))) | (with_reducible refine w_k (by simp (disch := omega) only [w32_id]; exact rfl) ?_; ((with_reducible refine w_m hS ?_ ?_ ?_ ?_ ?_ (fun x hx => ?_)); (focus decide); (focus (first | decide | omega)); (focus omega); (focus (first | decide | omega)); (focus (first | decide | (simp only [ml]; omega)))))); (try simp (disch := omega) only [Int.reduceToNat, tn_c, tn8, tn8i, tn5, tn5z, tn6, tn6z, tn1, u3_ne, u3_eq, u3_ni, u3_nk, e10, ec] at hx); subst hx)
  refine w_cO hS n6 (f_1_2 hF) b40 (fun n hn => l_3 hL hn) (fun c2 e hc2 => ?_) (fun hn => absurd (show 0 ≤ (c : Int) ∧ (c : Int) < (rC R 40 : Int) by omega) hn)
  have e := Int.ofNat.inj e
  subst e
  dsimp only
  refine w_ite (fun _ => ?_) (fun z => absurd (show (c : Int) ≠ -1 by omega) z)
  ((first | ((with_reducible refine w_s hS ?_ ?_ ?_ (fun x hx => ?_)); (focus decide); (focus (first | decide | omega)); (focus (first | decide | (simp only [sl]; omega)))) | ((with_reducible refine w_m hS ?_ ?_ ?_ ?_ ?_ (fun x hx => ?_)); (focus decide); (focus (first | decide | omega)); (focus omega); (focus (first | decide | omega)); (focus (first | decide | (simp only [ml]; omega)))) | (with_reducible refine w_k (by simp (disch := omega) only [w32_id]; exact rfl) ?_; ((with_reducible refine w_s hS ?_ ?_ ?_ (fun x hx => ?_)); (focus decide); (focus (first | decide | omega)); (focus (first | decide | (simp only [sl]; omega))))) | (with_reducible refine w_k (by simp (disch := omega) only [w32_id]; exact rfl) ?_; ((with_reducible refine w_m hS ?_ ?_ ?_ ?_ ?_ (fun x hx => ?_)); (focus decide); (focus (first | decide | omega)); (focus omega); (focus (first | decide | omega)); (focus (first | decide | (simp only [ml]; omega)))))); (try simp (disch := omega) only [Int.reduceToNat, tn_c, tn8, tn8i, tn5, tn5z, tn6, tn6z, tn1, u3_ne, u3_eq, u3_ni, u3_nk, e30] at hx); subst hx)
  ((first | ((with_reducible refine w_s hS ?_ ?_ ?_ (fun x hx => ?_)); (focus decide); (focus (first | decide | omega)); (focus (first | decide | (simp only [sl]; omega)))) | ((with_reducible refine w_m hS ?_ ?_ ?_ ?_ ?_ (fun x hx => ?_)); (focus decide); (focus (first | decide | omega)); (focus omega); (focus (first | decide | omega)); (focus (first | decide | (simp only [ml]; omega)))) | (with_reducible refine w_k (by simp (disch := omega) only [w32_id]; exact rfl) ?_; ((with_reducible refine w_s hS ?_ ?_ ?_ (fun x hx => ?_)); (focus decide); (focus (first | decide | omega)); (focus (first | decide | (simp only [sl]; omega))))) | (with_reducible refine w_k (by simp (disch := omega) only [w32_id]; exact rfl) ?_; ((with_reducible refine w_m hS ?_ ?_ ?_ ?_ ?_ (fun x hx => ?_)); (focus decide); (focus (first | decide | omega)); (focus omega); (focus (first | decide | omega)); (focus (first | decide | (simp only [ml]; omega)))))); (try simp (disch := omega) only [Int.reduceToNat, tn_c, tn8, tn8i, tn5, tn5z, tn6, tn6z, tn1, u3_ne, u3_eq, u3_ni, u3_nk, e1] at hx); subst hx)
  refine w_placesOf hS hk (hI.roq hq (by omega)) hpl.1 hpl.2 ?_
  dsimp only
  rw [en]
  refine w_for n (fun i G => ∃ V', G = (V', R) ∧ same V V' LF ∧ FS V' (L ++ lst (fun p => one (agn V s h q p) ((h : Int), (q : Int), prs (V 102 0 q) p)) i) k) ?_ (i := 0) (by omega) (by omega) ⟨V, rfl, same.rf V _, by unfold lst; rw [List.append_nil]; exact hf⟩
  rintro i G hi ⟨V', rfl, sm, hfs⟩ self ih
  have hI' := hI.scr sm.fx
  have hF' := hI'.RF
  have hk' := hk.cg (V' := V') (sm.r 31 rfl)
  unfold glX8_meetAgainst_55 gjX8_meetAgainst_124
  refine w_ite (fun hx => w_ret ?_) (fun hx => ?_)
  · have ei : i = n := by omega
    subst ei
    exact K V' sm hfs
  · have i5 : i < 5 := by omega
    have agc : agn V' s h q i ↔ agn V s h q i := by simp only [agn, so, sm.r 101 rfl, sm.r 32 rfl, sm.r 33 rfl, sm.r 34 rfl, sm.r 106 rfl, sm.r 125 rfl]
    have ll := lst_len (F := fun p => one (agn V s h q p) ((h : Int), (q : Int), prs (V 102 0 q) p)) (m := 1) (n := i) (fun i _ => one_len)
    have skip : ¬ agn V' s h q i → Wp (self (w32 ((i : Int) + 1)) (V', R)) (fun r G => Wp (f (r, G)) Q) := by
      intro z
      refine ih _ (by omega) ⟨V', rfl, sm, ?_⟩
      show FS V' (L ++ (lst _ i ++ one _ _)) k
      rw [one_f (fun y => z (agc.mpr y)), List.append_nil]; exact hfs
    ((first | ((with_reducible refine w_s hS ?_ ?_ ?_ (fun x hx => ?_)); (focus decide); (focus (first | decide | omega)); (focus (first | decide | (simp only [sl]; omega)))) | ((with_reducible refine w_m hS ?_ ?_ ?_ ?_ ?_ (fun x hx => ?_)); (focus decide); (focus (first | decide | omega)); (focus omega); (focus (first | decide | omega)); (focus (first | decide | (simp only [ml]; omega)))) | (with_reducible refine w_k (by simp (disch := omega) only [w32_id]; exact rfl) ?_; ((with_reducible refine w_s hS ?_ ?_ ?_ (fun x hx => ?_)); (focus decide); (focus (first | decide | omega)); (focus (first | decide | (simp only [sl]; omega))))) | (with_reducible refine w_k (by simp (disch := omega) only [w32_id]; exact rfl) ?_; ((with_reducible refine w_m hS ?_ ?_ ?_ ?_ ?_ (fun x hx => ?_)); (focus decide); (focus (first | decide | omega)); (focus omega); (focus (first | decide | omega)); (focus (first | decide | (simp only [ml]; omega)))))); (try simp (disch := omega) only [Int.reduceToNat, tn_c, tn8, tn8i, tn5, tn5z, tn6, tn6z, tn1, u3_ne, u3_eq, u3_ni, u3_nk, sm.f 30 0 rfl, e30] at hx); subst hx)
    refine w_spot (by omega) i5 ?_
    refine w_isGiven hI' hk' hq i5 (fun g => ?_) (fun g => ?_)
    · refine w_ite (fun _ => ?_) (fun z => absurd (show (1 : Int) ≠ 0 by decide) z)
      ((first | ((with_reducible refine w_s hS ?_ ?_ ?_ (fun x hx => ?_)); (focus decide); (focus (first | decide | omega)); (focus (first | decide | (simp only [sl]; omega)))) | ((with_reducible refine w_m hS ?_ ?_ ?_ ?_ ?_ (fun x hx => ?_)); (focus decide); (focus (first | decide | omega)); (focus omega); (focus (first | decide | omega)); (focus (first | decide | (simp only [ml]; omega)))) | (with_reducible refine w_k (by simp (disch := omega) only [w32_id]; exact rfl) ?_; ((with_reducible refine w_s hS ?_ ?_ ?_ (fun x hx => ?_)); (focus decide); (focus (first | decide | omega)); (focus (first | decide | (simp only [sl]; omega))))) | (with_reducible refine w_k (by simp (disch := omega) only [w32_id]; exact rfl) ?_; ((with_reducible refine w_m hS ?_ ?_ ?_ ?_ ?_ (fun x hx => ?_)); (focus decide); (focus (first | decide | omega)); (focus omega); (focus (first | decide | omega)); (focus (first | decide | (simp only [ml]; omega)))))); (try simp (disch := omega) only [Int.reduceToNat, tn_c, tn8, tn8i, tn5, tn5z, tn6, tn6z, tn1, u3_ne, u3_eq, u3_ni, u3_nk, sm.r 20 rfl, e10, ec] at hx); subst hx)
      ((first | ((with_reducible refine w_s hS ?_ ?_ ?_ (fun x hx => ?_)); (focus decide); (focus (first | decide | omega)); (focus (first | decide | (simp only [sl]; omega)))) | ((with_reducible refine w_m hS ?_ ?_ ?_ ?_ ?_ (fun x hx => ?_)); (focus decide); (focus (first | decide | omega)); (focus omega); (focus (first | decide | omega)); (focus (first | decide | (simp only [ml]; omega)))) | (with_reducible refine w_k (by simp (disch := omega) only [w32_id]; exact rfl) ?_; ((with_reducible refine w_s hS ?_ ?_ ?_ (fun x hx => ?_)); (focus decide); (focus (first | decide | omega)); (focus (first | decide | (simp only [sl]; omega))))) | (with_reducible refine w_k (by simp (disch := omega) only [w32_id]; exact rfl) ?_; ((with_reducible refine w_m hS ?_ ?_ ?_ ?_ ?_ (fun x hx => ?_)); (focus decide); (focus (first | decide | omega)); (focus omega); (focus (first | decide | omega)); (focus (first | decide | (simp only [ml]; omega)))))); (try simp (disch := omega) only [Int.reduceToNat, tn_c, tn8, tn8i, tn5, tn5z, tn6, tn6z, tn1, u3_ne, u3_eq, u3_ni, u3_nk, sm.r 40 rfl, e4] at hx); subst hx)
      refine w_isSo (s := s) hI' hh (by rw [sm.f 30 2 rfl, sm.f 100 29 rfl]; exact hd) (by rw [sm.f 30 0 rfl]; exact es) hc (by rw [sm.r 125 rfl]) i5 (fun z => ?_) (fun z => ?_)
      · refine w_ite (fun y => absurd (show (1 : Int) = 0 from y) (by decide)) (fun _ => skip (fun y => y.2 ?_))
        rw [sm.r 106 rfl, ec, tn_c]; exact z
      · refine w_ite (fun _ => ?_) (fun y => absurd rfl y)
        ((first | ((with_reducible refine w_s hS ?_ ?_ ?_ (fun x hx => ?_)); (focus decide); (focus (first | decide | omega)); (focus (first | decide | (simp only [sl]; omega)))) | ((with_reducible refine w_m hS ?_ ?_ ?_ ?_ ?_ (fun x hx => ?_)); (focus decide); (focus (first | decide | omega)); (focus omega); (focus (first | decide | omega)); (focus (first | decide | (simp only [ml]; omega)))) | (with_reducible refine w_k (by simp (disch := omega) only [w32_id]; exact rfl) ?_; ((with_reducible refine w_s hS ?_ ?_ ?_ (fun x hx => ?_)); (focus decide); (focus (first | decide | omega)); (focus (first | decide | (simp only [sl]; omega))))) | (with_reducible refine w_k (by simp (disch := omega) only [w32_id]; exact rfl) ?_; ((with_reducible refine w_m hS ?_ ?_ ?_ ?_ ?_ (fun x hx => ?_)); (focus decide); (focus (first | decide | omega)); (focus omega); (focus (first | decide | omega)); (focus (first | decide | (simp only [ml]; omega)))))); (try simp (disch := omega) only [Int.reduceToNat, tn_c, tn8, tn8i, tn5, tn5z, tn6, tn6z, tn1, u3_ne, u3_eq, u3_ni, u3_nk, f_0_6 hF'] at hx); subst hx)
        ((first | ((with_reducible refine w_s hS ?_ ?_ ?_ (fun x hx => ?_)); (focus decide); (focus (first | decide | omega)); (focus (first | decide | (simp only [sl]; omega)))) | ((with_reducible refine w_m hS ?_ ?_ ?_ ?_ ?_ (fun x hx => ?_)); (focus decide); (focus (first | decide | omega)); (focus omega); (focus (first | decide | omega)); (focus (first | decide | (simp only [ml]; omega)))) | (with_reducible refine w_k (by simp (disch := omega) only [w32_id]; exact rfl) ?_; ((with_reducible refine w_s hS ?_ ?_ ?_ (fun x hx => ?_)); (focus decide); (focus (first | decide | omega)); (focus (first | decide | (simp only [sl]; omega))))) | (with_reducible refine w_k (by simp (disch := omega) only [w32_id]; exact rfl) ?_; ((with_reducible refine w_m hS ?_ ?_ ?_ ?_ ?_ (fun x hx => ?_)); (focus decide); (focus (first | decide | omega)); (focus omega); (focus (first | decide | omega)); (focus (first | decide | (simp only [ml]; omega)))))); (try simp (disch := omega) only [Int.reduceToNat, tn_c, tn8, tn8i, tn5, tn5z, tn6, tn6z, tn1, u3_ne, u3_eq, u3_ni, u3_nk, sm.r 20 rfl, e1] at hx); subst hx)
        have ep : Wp ((g_X8_personOf (V 102 0 q) (i : Int) (V', R)).bind fun z9 => (g_X2_meet 0 (h : Int) (q : Int) z9.1 z9.2).bind fun z10 => self (w32 ((i : Int) + 1)) z10.2) (fun r G => Wp (f (r, G)) Q) := by
          have M : ∀ v : Int, v = prs (V 102 0 q) i → Wp ((g_X2_meet 0 (h : Int) (q : Int) v (V', R)).bind fun z10 => self (w32 ((i : Int) + 1)) z10.2) (fun r G => Wp (f (r, G)) Q) := by
            intro v ev
            refine w_meet hS hfs (by rw [List.length_append]; omega) (fun V'' sm' hfs' => ?_)
            refine ih _ (by omega) ⟨V'', rfl, sm.tr sm', ?_⟩
            show FS V'' (L ++ (lst _ i ++ one _ _)) k
            rw [one_t (agc.mp ⟨g, by rw [sm.r 106 rfl, ec, tn_c]; exact z⟩), ← List.append_assoc, ← ev]; exact hfs'
          refine w_bind ?_
          unfold g_X8_personOf
          refine w_ite (fun t => w_ret (M _ ?_)) (fun t => w_ret (M _ ?_))
          · unfold prs; rw [if_neg t]
          · unfold prs; rw [if_pos (by omega)]
        exact ep
    · exact w_ite (fun z => absurd rfl z) (fun _ => skip (fun y => g y.1))
theorem agh_stl {V' : GV} {h g : Nat} (hI : INV IT V R) (hs : stl V V' h) (hh : h < rC R 30) (hg : g < rC R 30) (hne : g ≠ h) : agh V' R g = agh V R g := by
  have sm := hs.same
  unfold agh
  rw [sm.f 30 0 rfl]
  have ne := hI.sh_ne hg hh hne
  refine lst_cg (fun q _ => agq_cg (sm.r 101 rfl _ _) (sm.r 102 rfl _ _) (sm.r 106 rfl _ _) (sm.r 125 rfl _) (fun k => hs _ _ _ ?_) (fun k => hs _ _ _ ?_) (fun k => hs _ _ _ ?_))
  · rintro (⟨_, e, _⟩ | ⟨e, _⟩ | ⟨e, _⟩)
    · exact ne e
    · omega
    · omega
  · rintro (⟨_, e, _⟩ | ⟨e, _⟩ | ⟨e, _⟩)
    · exact ne e
    · omega
    · omega
  · rintro (⟨e, _⟩ | ⟨_, e⟩ | ⟨e, _⟩)
    · omega
    · exact hne e
    · omega
theorem w_findAgainst {k : Int} {f : Int × GS → GO} (hI : INV IT V R) (K : ∀ V', INV IT V' R → (∀ h, h < rC R 30 → V' 30 h 2 = V' 100 0 29) → FS V' (lst (agh V' R) (rC R 30)) k → Wp (f (0, (V', R))) Q) : Wp ((g_X8_findAgainst 0 k (V, R)).bind f) Q := by
  have hS := hI.SH
  have hF := hI.RF
  obtain ⟨b20, b30, b40, b50⟩ := hI.IN.1
  refine w_bind ?_
  unfold g_X8_findAgainst
  refine w_gv (by omega) ?_
  ((first | ((with_reducible refine w_s hS ?_ ?_ ?_ (fun x hx => ?_)); (focus decide); (focus (first | decide | omega)); (focus (first | decide | (simp only [sl]; omega)))) | ((with_reducible refine w_m hS ?_ ?_ ?_ ?_ ?_ (fun x hx => ?_)); (focus decide); (focus (first | decide | omega)); (focus omega); (focus (first | decide | omega)); (focus (first | decide | (simp only [ml]; omega)))) | (with_reducible refine w_k (by simp (disch := omega) only [w32_id]; exact rfl) ?_; ((with_reducible refine w_s hS ?_ ?_ ?_ (fun x hx => ?_)); (focus decide); (focus (first | decide | omega)); (focus (first | decide | (simp only [sl]; omega))))) | (with_reducible refine w_k (by simp (disch := omega) only [w32_id]; exact rfl) ?_; ((with_reducible refine w_m hS ?_ ?_ ?_ ?_ ?_ (fun x hx => ?_)); (focus decide); (focus (first | decide | omega)); (focus omega); (focus (first | decide | omega)); (focus (first | decide | (simp only [ml]; omega)))))); (try simp (disch := omega) only [Int.reduceToNat, tn_c, tn8, tn8i, tn5, tn5z, tn6, tn6z, tn1, u3_ne, u3_eq, u3_ni, u3_nk, f_0_6 hF] at hx); subst hx)
  refine w_start hS (fun V1 sm1 hfs1 => ?_)
  refine w_for (rC R 30) (fun i G => ∃ V', G = (V', R) ∧ INV IT V' R ∧ (∀ h, h < i → V' 30 h 2 = V' 100 0 29) ∧ FS V' (lst (agh V' R) i) k) ?_ (i := 0) (by omega) (by omega) ⟨V1, rfl, hI.scr sm1.fx, fun h hh => absurd hh (by omega), hfs1⟩
  rintro i G hi ⟨V', rfl, hI', hd, hfs⟩ self ih
  have hF' := hI'.RF
  have n4 := hI'.IN.2.1.2.2.2.1
  unfold glX8_findAgainst_10
  ((first | ((with_reducible refine w_s hS ?_ ?_ ?_ (fun x hx => ?_)); (focus decide); (focus (first | decide | omega)); (focus (first | decide | (simp only [sl]; omega)))) | ((with_reducible refine w_m hS ?_ ?_ ?_ ?_ ?_ (fun x hx => ?_)); (focus decide); (focus (first | decide | omega)); (focus omega); (focus (first | decide | omega)); (focus (first | decide | (simp only [ml]; omega)))) | (with_reducible refine w_k (by simp (disch := omega) only [w32_id]; exact rfl) ?_; ((with_reducible refine w_s hS ?_ ?_ ?_ (fun x hx => ?_)); (focus decide); (focus (first | decide | omega)); (focus (first | decide | (simp only [sl]; omega))))) | (with_reducible refine w_k (by simp (disch := omega) only [w32_id]; exact rfl) ?_; ((with_reducible refine w_m hS ?_ ?_ ?_ ?_ ?_ (fun x hx => ?_)); (focus decide); (focus (first | decide | omega)); (focus omega); (focus (first | decide | omega)); (focus (first | decide | (simp only [ml]; omega)))))); (try simp (disch := omega) only [Int.reduceToNat, tn_c, tn8, tn8i, tn5, tn5z, tn6, tn6z, tn1, u3_ne, u3_eq, u3_ni, u3_nk, n4] at hx); subst hx)
  refine w_ite (fun hx => w_ret ?_) (fun hx => ?_)
  · have ei : i = rC R 30 := by omega
    subst ei
    exact K V' hI' hd hfs
  · have hh : i < rC R 30 := by omega
    ((first | ((with_reducible refine w_s hS ?_ ?_ ?_ (fun x hx => ?_)); (focus decide); (focus (first | decide | omega)); (focus (first | decide | (simp only [sl]; omega)))) | ((with_reducible refine w_m hS ?_ ?_ ?_ ?_ ?_ (fun x hx => ?_)); (focus decide); (focus (first | decide | omega)); (focus omega); (focus (first | decide | omega)); (focus (first | decide | (simp only [ml]; omega)))) | (with_reducible refine w_k (by simp (disch := omega) only [w32_id]; exact rfl) ?_; ((with_reducible refine w_s hS ?_ ?_ ?_ (fun x hx => ?_)); (focus decide); (focus (first | decide | omega)); (focus (first | decide | (simp only [sl]; omega))))) | (with_reducible refine w_k (by simp (disch := omega) only [w32_id]; exact rfl) ?_; ((with_reducible refine w_m hS ?_ ?_ ?_ ?_ ?_ (fun x hx => ?_)); (focus decide); (focus (first | decide | omega)); (focus omega); (focus (first | decide | omega)); (focus (first | decide | (simp only [ml]; omega)))))); (try simp (disch := omega) only [Int.reduceToNat, tn_c, tn8, tn8i, tn5, tn5z, tn6, tn6z, tn1, u3_ne, u3_eq, u3_ni, u3_nk, f_0_0 hF'] at hx); subst hx)
    ((first | ((with_reducible refine w_s hS ?_ ?_ ?_ (fun x hx => ?_)); (focus decide); (focus (first | decide | omega)); (focus (first | decide | (simp only [sl]; omega)))) | ((with_reducible refine w_m hS ?_ ?_ ?_ ?_ ?_ (fun x hx => ?_)); (focus decide); (focus (first | decide | omega)); (focus omega); (focus (first | decide | omega)); (focus (first | decide | (simp only [ml]; omega)))) | (with_reducible refine w_k (by simp (disch := omega) only [w32_id]; exact rfl) ?_; ((with_reducible refine w_s hS ?_ ?_ ?_ (fun x hx => ?_)); (focus decide); (focus (first | decide | omega)); (focus (first | decide | (simp only [sl]; omega))))) | (with_reducible refine w_k (by simp (disch := omega) only [w32_id]; exact rfl) ?_; ((with_reducible refine w_m hS ?_ ?_ ?_ ?_ ?_ (fun x hx => ?_)); (focus decide); (focus (first | decide | omega)); (focus omega); (focus (first | decide | omega)); (focus (first | decide | (simp only [ml]; omega)))))); (try simp (disch := omega) only [Int.reduceToNat, tn_c, tn8, tn8i, tn5, tn5z, tn6, tn6z, tn1, u3_ne, u3_eq, u3_ni, u3_nk, f_0_1 hF'] at hx); subst hx)
    ((first | ((with_reducible refine w_s hS ?_ ?_ ?_ (fun x hx => ?_)); (focus decide); (focus (first | decide | omega)); (focus (first | decide | (simp only [sl]; omega)))) | ((with_reducible refine w_m hS ?_ ?_ ?_ ?_ ?_ (fun x hx => ?_)); (focus decide); (focus (first | decide | omega)); (focus omega); (focus (first | decide | omega)); (focus (first | decide | (simp only [ml]; omega)))) | (with_reducible refine w_k (by simp (disch := omega) only [w32_id]; exact rfl) ?_; ((with_reducible refine w_s hS ?_ ?_ ?_ (fun x hx => ?_)); (focus decide); (focus (first | decide | omega)); (focus (first | decide | (simp only [sl]; omega))))) | (with_reducible refine w_k (by simp (disch := omega) only [w32_id]; exact rfl) ?_; ((with_reducible refine w_m hS ?_ ?_ ?_ ?_ ?_ (fun x hx => ?_)); (focus decide); (focus (first | decide | omega)); (focus omega); (focus (first | decide | omega)); (focus (first | decide | (simp only [ml]; omega)))))); (try simp (disch := omega) only [Int.reduceToNat, tn_c, tn8, tn8i, tn5, tn5z, tn6, tn6z, tn1, u3_ne, u3_eq, u3_ni, u3_nk, l_5 hI'.IL] at hx); subst hx)
    refine w_settle hI' hh (fun V2 hs2 hI2 hd2 => ?_)
    have sm2 := hs2.same
    have hfs2 : FS V2 (lst (agh V2 R) i) k := by
      have e : lst (agh V2 R) i = lst (agh V' R) i := lst_cg (fun g hg => agh_stl hI' hs2 hh (by omega) (by omega))
      rw [e]
      exact hfs.cg (sm2.r 13 rfl 0)
    have hda : ∀ h, h < i + 1 → V2 30 h 2 = V2 100 0 29 := by
      intro h hlt
      by_cases e : h = i
      · subst e; exact hd2
      · rw [sm2.f 100 29 rfl, ← hd h (by omega)]
        refine hs2 _ _ _ ?_
        rintro (⟨z, _⟩ | ⟨z, _⟩ | ⟨_, z, _⟩)
        · omega
        · omega
        · exact e z
    have l1 := lst_len (F := agh V2 R) (m := 120) (n := i) (fun g hg => agh_len hI2 (by omega))
    refine w_for (rC R 20) (fun q G => ∃ V3, G = (V3, R) ∧ same V2 V3 LF ∧ FS V3 (lst (agh V2 R) i ++ lst (agq V2 (V2 30 i 0).toNat i) q) k) ?_ (i := 0) (by omega) (by omega) ⟨V2, rfl, same.rf V2 _, by
      show FS V2 (lst (agh V2 R) i ++ []) k
      rw [List.append_nil]; exact hfs2⟩
    rintro q G hq ⟨V3, rfl, sm3, hfs3⟩ self' ih'
    have hI3 := hI2.scr sm3.fx
    have hF3 := hI3.RF
    have n2 := hI3.IN.2.1.2.1
    unfold glX8_findAgainst_33 gjX8_findAgainst_66
    ((first | ((with_reducible refine w_s hS ?_ ?_ ?_ (fun x hx => ?_)); (focus decide); (focus (first | decide | omega)); (focus (first | decide | (simp only [sl]; omega)))) | ((with_reducible refine w_m hS ?_ ?_ ?_ ?_ ?_ (fun x hx => ?_)); (focus decide); (focus (first | decide | omega)); (focus omega); (focus (first | decide | omega)); (focus (first | decide | (simp only [ml]; omega)))) | (with_reducible refine w_k (by simp (disch := omega) only [w32_id]; exact rfl) ?_; ((with_reducible refine w_s hS ?_ ?_ ?_ (fun x hx => ?_)); (focus decide); (focus (first | decide | omega)); (focus (first | decide | (simp only [sl]; omega))))) | (with_reducible refine w_k (by simp (disch := omega) only [w32_id]; exact rfl) ?_; ((with_reducible refine w_m hS ?_ ?_ ?_ ?_ ?_ (fun x hx => ?_)); (focus decide); (focus (first | decide | omega)); (focus omega); (focus (first | decide | omega)); (focus (first | decide | (simp only [ml]; omega)))))); (try simp (disch := omega) only [Int.reduceToNat, tn_c, tn8, tn8i, tn5, tn5z, tn6, tn6z, tn1, u3_ne, u3_eq, u3_ni, u3_nk, f_0_0 hF3] at hx); subst hx)
    ((first | ((with_reducible refine w_s hS ?_ ?_ ?_ (fun x hx => ?_)); (focus decide); (focus (first | decide | omega)); (focus (first | decide | (simp only [sl]; omega)))) | ((with_reducible refine w_m hS ?_ ?_ ?_ ?_ ?_ (fun x hx => ?_)); (focus decide); (focus (first | decide | omega)); (focus omega); (focus (first | decide | omega)); (focus (first | decide | (simp only [ml]; omega)))) | (with_reducible refine w_k (by simp (disch := omega) only [w32_id]; exact rfl) ?_; ((with_reducible refine w_s hS ?_ ?_ ?_ (fun x hx => ?_)); (focus decide); (focus (first | decide | omega)); (focus (first | decide | (simp only [sl]; omega))))) | (with_reducible refine w_k (by simp (disch := omega) only [w32_id]; exact rfl) ?_; ((with_reducible refine w_m hS ?_ ?_ ?_ ?_ ?_ (fun x hx => ?_)); (focus decide); (focus (first | decide | omega)); (focus omega); (focus (first | decide | omega)); (focus (first | decide | (simp only [ml]; omega)))))); (try simp (disch := omega) only [Int.reduceToNat, tn_c, tn8, tn8i, tn5, tn5z, tn6, tn6z, tn1, u3_ne, u3_eq, u3_ni, u3_nk, n2] at hx); subst hx)
    refine w_ite (fun hx => ?_) (fun hx => ?_)
    · have eq : q = rC R 20 := by omega
      subst eq
      refine ih _ (by omega) ⟨V3, rfl, hI3, fun h hh => ?_, ?_⟩
      · rw [sm3.f 30 2 rfl, sm3.f 100 29 rfl]; exact hda h hh
      · show FS V3 (lst (agh V3 R) i ++ agh V3 R i) k
        have e : ∀ g, agh V3 R g = agh V2 R g := fun g => agh_same sm3 rfl
        rw [lst_cg (fun g _ => e g), e i]
        exact hfs3
    · have hq : q < rC R 20 := by omega
      have e10 := (hI3.IQ.1 q hq).1.2.2.2.2.2.1.1
      ((first | ((with_reducible refine w_s hS ?_ ?_ ?_ (fun x hx => ?_)); (focus decide); (focus (first | decide | omega)); (focus (first | decide | (simp only [sl]; omega)))) | ((with_reducible refine w_m hS ?_ ?_ ?_ ?_ ?_ (fun x hx => ?_)); (focus decide); (focus (first | decide | omega)); (focus omega); (focus (first | decide | omega)); (focus (first | decide | (simp only [ml]; omega)))) | (with_reducible refine w_k (by simp (disch := omega) only [w32_id]; exact rfl) ?_; ((with_reducible refine w_s hS ?_ ?_ ?_ (fun x hx => ?_)); (focus decide); (focus (first | decide | omega)); (focus (first | decide | (simp only [sl]; omega))))) | (with_reducible refine w_k (by simp (disch := omega) only [w32_id]; exact rfl) ?_; ((with_reducible refine w_m hS ?_ ?_ ?_ ?_ ?_ (fun x hx => ?_)); (focus decide); (focus (first | decide | omega)); (focus omega); (focus (first | decide | omega)); (focus (first | decide | (simp only [ml]; omega)))))); (try simp (disch := omega) only [Int.reduceToNat, tn_c, tn8, tn8i, tn5, tn5z, tn6, tn6z, tn1, u3_ne, u3_eq, u3_ni, u3_nk, f_0_0 hF3] at hx); subst hx)
      ((first | ((with_reducible refine w_s hS ?_ ?_ ?_ (fun x hx => ?_)); (focus decide); (focus (first | decide | omega)); (focus (first | decide | (simp only [sl]; omega)))) | ((with_reducible refine w_m hS ?_ ?_ ?_ ?_ ?_ (fun x hx => ?_)); (focus decide); (focus (first | decide | omega)); (focus omega); (focus (first | decide | omega)); (focus (first | decide | (simp only [ml]; omega)))) | (with_reducible refine w_k (by simp (disch := omega) only [w32_id]; exact rfl) ?_; ((with_reducible refine w_s hS ?_ ?_ ?_ (fun x hx => ?_)); (focus decide); (focus (first | decide | omega)); (focus (first | decide | (simp only [sl]; omega))))) | (with_reducible refine w_k (by simp (disch := omega) only [w32_id]; exact rfl) ?_; ((with_reducible refine w_m hS ?_ ?_ ?_ ?_ ?_ (fun x hx => ?_)); (focus decide); (focus (first | decide | omega)); (focus omega); (focus (first | decide | omega)); (focus (first | decide | (simp only [ml]; omega)))))); (try simp (disch := omega) only [Int.reduceToNat, tn_c, tn8, tn8i, tn5, tn5z, tn6, tn6z, tn1, u3_ne, u3_eq, u3_ni, u3_nk, f_1_0 hF3] at hx); subst hx)
      ((first | ((with_reducible refine w_s hS ?_ ?_ ?_ (fun x hx => ?_)); (focus decide); (focus (first | decide | omega)); (focus (first | decide | (simp only [sl]; omega)))) | ((with_reducible refine w_m hS ?_ ?_ ?_ ?_ ?_ (fun x hx => ?_)); (focus decide); (focus (first | decide | omega)); (focus omega); (focus (first | decide | omega)); (focus (first | decide | (simp only [ml]; omega)))) | (with_reducible refine w_k (by simp (disch := omega) only [w32_id]; exact rfl) ?_; ((with_reducible refine w_s hS ?_ ?_ ?_ (fun x hx => ?_)); (focus decide); (focus (first | decide | omega)); (focus (first | decide | (simp only [sl]; omega))))) | (with_reducible refine w_k (by simp (disch := omega) only [w32_id]; exact rfl) ?_; ((with_reducible refine w_m hS ?_ ?_ ?_ ?_ ?_ (fun x hx => ?_)); (focus decide); (focus (first | decide | omega)); (focus omega); (focus (first | decide | omega)); (focus (first | decide | (simp only [ml]; omega)))))); (try simp (disch := omega) only [Int.reduceToNat, tn_c, tn8, tn8i, tn5, tn5z, tn6, tn6z, tn1, u3_ne, u3_eq, u3_ni, u3_nk, l_2 hI3.IL] at hx); subst hx)
      ((first | ((with_reducible refine w_s hS ?_ ?_ ?_ (fun x hx => ?_)); (focus decide); (focus (first | decide | omega)); (focus (first | decide | (simp only [sl]; omega)))) | ((with_reducible refine w_m hS ?_ ?_ ?_ ?_ ?_ (fun x hx => ?_)); (focus decide); (focus (first | decide | omega)); (focus omega); (focus (first | decide | omega)); (focus (first | decide | (simp only [ml]; omega)))) | (with_reducible refine w_k (by simp (disch := omega) only [w32_id]; exact rfl) ?_; ((with_reducible refine w_s hS ?_ ?_ ?_ (fun x hx => ?_)); (focus decide); (focus (first | decide | omega)); (focus (first | decide | (simp only [sl]; omega))))) | (with_reducible refine w_k (by simp (disch := omega) only [w32_id]; exact rfl) ?_; ((with_reducible refine w_m hS ?_ ?_ ?_ ?_ ?_ (fun x hx => ?_)); (focus decide); (focus (first | decide | omega)); (focus omega); (focus (first | decide | omega)); (focus (first | decide | (simp only [ml]; omega)))))); (try simp (disch := omega) only [Int.reduceToNat, tn_c, tn8, tn8i, tn5, tn5z, tn6, tn6z, tn1, u3_ne, u3_eq, u3_ni, u3_nk, e10] at hx); subst hx)
      have eq3 : agq V3 (V3 30 i 0).toNat i q = agq V2 (V2 30 i 0).toNat i q := by
        rw [sm3.f 30 0 rfl]
        exact agq_cg (sm3.r 101 rfl _ _) (sm3.r 102 rfl _ _) (sm3.r 106 rfl _ _) (sm3.r 125 rfl _) (sm3.r 32 rfl _) (sm3.r 33 rfl _) (sm3.r 34 rfl _)
      refine w_ite (fun z => ?_) (fun z => ?_)
      · refine ih' _ hq ⟨V3, rfl, sm3, ?_⟩
        show FS V3 (lst (agh V2 R) i ++ (lst (agq V2 (V2 30 i 0).toNat i) q ++ agq V2 (V2 30 i 0).toNat i q)) k
        rw [← eq3]
        unfold agq
        rw [if_pos z, List.append_nil]; exact hfs3
      · have l2 := lst_len (F := agq V2 (V2 30 i 0).toNat i) (m := 5) (n := q) (fun q' hq' => agq_len (plc_q hI2.IQ (hI2.pers hh) (by omega)).2)
        refine w_meetAgainst hI3 hh (by rw [sm3.f 30 2 rfl, sm3.f 100 29 rfl]; exact hd2) hq hfs3 (by rw [List.length_append]; omega) z (fun V4 sm4 hfs4 => ?_)
        refine ih' _ hq ⟨V4, rfl, sm3.tr sm4, ?_⟩
        show FS V4 (lst (agh V2 R) i ++ (lst (agq V2 (V2 30 i 0).toNat i) q ++ agq V2 (V2 30 i 0).toNat i q)) k
        rw [← eq3, ← List.append_assoc]; exact hfs4
end Against
