section CRank
variable {V : GV} {R : GR} {T : GV → Prop} {Q : Int → GS → Prop}
def vld (V : GV) (q g : Nat) : Prop := V 33 (V 30 g 0).toNat (5 * q) = 0
def hgt (V : GV) (q g : Nat) : Int := if V 101 0 q = 0 then ((cidx V q (V 32 (V 30 g 0).toNat (5 * q)) (V 109 0 q).toNat : Nat) : Int) else V 32 (V 30 g 0).toNat (5 * q)
def slc (V : GV) (q : Nat) (c : Int) (g : Nat) : Prop := vld V q g ∧ (c = -1 ∨ so V g c.toNat 0)
noncomputable def dcl (s : Nat → Prop) : ∀ g, Decidable (s g) := fun g => Classical.propDecidable (s g)
noncomputable def srs (V : GV) (q : Nat) (c : Int) (i : Nat) : (Nat → Nat) × Nat := srt (slc V q c) (dcl (slc V q c)) (hgt V q) i
def std (V : GV) (g : Nat) : Prop := V 30 g 2 = V 100 0 29
theorem w_heightOf {q g : Nat} {f : Int × GS → GO} (hI : INV T V R) (hq : q < rC R 20) (top : V 102 0 q = -1) (hg : g < rC R 30) (hd : std V g) (hv : vld V q g) (k : Wp (f (hgt V q g, (V, R))) Q) : Wp ((g_X8_heightOf 0 (q : Int) (g : Int) (V, R)).bind f) Q := by
  have hS := hI.SH
  have hF := hI.RF
  have hL := hI.IL
  obtain ⟨b20, b30, b40, b50⟩ := hI.IN.1
  obtain ⟨s, e30, es, hk⟩ := hI.sht hg
  have e0 := (hI.IQ.1 q hq).1.1.1
  refine w_bind ?_
  unfold g_X8_heightOf
  refine w_gv (by omega) ?_
  ((first | ((with_reducible refine w_s hS ?_ ?_ ?_ (fun x hx => ?_)); (focus decide); (focus (first | decide | omega)); (focus (first | decide | (simp only [sl]; omega)))) | ((with_reducible refine w_m hS ?_ ?_ ?_ ?_ ?_ (fun x hx => ?_)); (focus decide); (focus (first | decide | omega)); (focus omega); (focus (first | decide | omega)); (focus (first | decide | (simp only [ml]; omega)))) | (with_reducible refine w_k (by simp (disch := omega) only [w32_id]; exact rfl) ?_; ((with_reducible refine w_s hS ?_ ?_ ?_ (fun x hx => ?_)); (focus decide); (focus (first | decide | omega)); (focus (first | decide | (simp only [sl]; omega))))) | (with_reducible refine w_k (by simp (disch := omega) only [w32_id]; exact rfl) ?_; ((with_reducible refine w_m hS ?_ ?_ ?_ ?_ ?_ (fun x hx => ?_)); (focus decide); (focus (first | decide | omega)); (focus omega); (focus (first | decide | omega)); (focus (first | decide | (simp only [ml]; omega)))))); (try simp (disch := omega) only [Int.reduceToNat, tn_c, tn8, tn8i, tn5, tn5z, tn6, tn6z, tn1, u3_ne, u3_eq, u3_ni, u3_nk, f_0_0 hF] at hx); subst hx)
  ((first | ((with_reducible refine w_s hS ?_ ?_ ?_ (fun x hx => ?_)); (focus decide); (focus (first | decide | omega)); (focus (first | decide | (simp only [sl]; omega)))) | ((with_reducible refine w_m hS ?_ ?_ ?_ ?_ ?_ (fun x hx => ?_)); (focus decide); (focus (first | decide | omega)); (focus omega); (focus (first | decide | omega)); (focus (first | decide | (simp only [ml]; omega)))) | (with_reducible refine w_k (by simp (disch := omega) only [w32_id]; exact rfl) ?_; ((with_reducible refine w_s hS ?_ ?_ ?_ (fun x hx => ?_)); (focus decide); (focus (first | decide | omega)); (focus (first | decide | (simp only [sl]; omega))))) | (with_reducible refine w_k (by simp (disch := omega) only [w32_id]; exact rfl) ?_; ((with_reducible refine w_m hS ?_ ?_ ?_ ?_ ?_ (fun x hx => ?_)); (focus decide); (focus (first | decide | omega)); (focus omega); (focus (first | decide | omega)); (focus (first | decide | (simp only [ml]; omega)))))); (try simp (disch := omega) only [Int.reduceToNat, tn_c, tn8, tn8i, tn5, tn5z, tn6, tn6z, tn1, u3_ne, u3_eq, u3_ni, u3_nk, f_1_0 hF] at hx); subst hx)
  ((first | ((with_reducible refine w_s hS ?_ ?_ ?_ (fun x hx => ?_)); (focus decide); (focus (first | decide | omega)); (focus (first | decide | (simp only [sl]; omega)))) | ((with_reducible refine w_m hS ?_ ?_ ?_ ?_ ?_ (fun x hx => ?_)); (focus decide); (focus (first | decide | omega)); (focus omega); (focus (first | decide | omega)); (focus (first | decide | (simp only [ml]; omega)))) | (with_reducible refine w_k (by simp (disch := omega) only [w32_id]; exact rfl) ?_; ((with_reducible refine w_s hS ?_ ?_ ?_ (fun x hx => ?_)); (focus decide); (focus (first | decide | omega)); (focus (first | decide | (simp only [sl]; omega))))) | (with_reducible refine w_k (by simp (disch := omega) only [w32_id]; exact rfl) ?_; ((with_reducible refine w_m hS ?_ ?_ ?_ ?_ ?_ (fun x hx => ?_)); (focus decide); (focus (first | decide | omega)); (focus omega); (focus (first | decide | omega)); (focus (first | decide | (simp only [ml]; omega)))))); (try simp (disch := omega) only [Int.reduceToNat, tn_c, tn8, tn8i, tn5, tn5z, tn6, tn6z, tn1, u3_ne, u3_eq, u3_ni, u3_nk, l_2 hL] at hx); subst hx)
  ((first | ((with_reducible refine w_s hS ?_ ?_ ?_ (fun x hx => ?_)); (focus decide); (focus (first | decide | omega)); (focus (first | decide | (simp only [sl]; omega)))) | ((with_reducible refine w_m hS ?_ ?_ ?_ ?_ ?_ (fun x hx => ?_)); (focus decide); (focus (first | decide | omega)); (focus omega); (focus (first | decide | omega)); (focus (first | decide | (simp only [ml]; omega)))) | (with_reducible refine w_k (by simp (disch := omega) only [w32_id]; exact rfl) ?_; ((with_reducible refine w_s hS ?_ ?_ ?_ (fun x hx => ?_)); (focus decide); (focus (first | decide | omega)); (focus (first | decide | (simp only [sl]; omega))))) | (with_reducible refine w_k (by simp (disch := omega) only [w32_id]; exact rfl) ?_; ((with_reducible refine w_m hS ?_ ?_ ?_ ?_ ?_ (fun x hx => ?_)); (focus decide); (focus (first | decide | omega)); (focus omega); (focus (first | decide | omega)); (focus (first | decide | (simp only [ml]; omega)))))); (try simp (disch := omega) only [Int.reduceToNat, tn_c, tn8, tn8i, tn5, tn5z, tn6, tn6z, tn1, u3_ne, u3_eq, u3_ni, u3_nk, f_0_1 hF] at hx); subst hx)
  ((first | ((with_reducible refine w_s hS ?_ ?_ ?_ (fun x hx => ?_)); (focus decide); (focus (first | decide | omega)); (focus (first | decide | (simp only [sl]; omega)))) | ((with_reducible refine w_m hS ?_ ?_ ?_ ?_ ?_ (fun x hx => ?_)); (focus decide); (focus (first | decide | omega)); (focus omega); (focus (first | decide | omega)); (focus (first | decide | (simp only [ml]; omega)))) | (with_reducible refine w_k (by simp (disch := omega) only [w32_id]; exact rfl) ?_; ((with_reducible refine w_s hS ?_ ?_ ?_ (fun x hx => ?_)); (focus decide); (focus (first | decide | omega)); (focus (first | decide | (simp only [sl]; omega))))) | (with_reducible refine w_k (by simp (disch := omega) only [w32_id]; exact rfl) ?_; ((with_reducible refine w_m hS ?_ ?_ ?_ ?_ ?_ (fun x hx => ?_)); (focus decide); (focus (first | decide | omega)); (focus omega); (focus (first | decide | omega)); (focus (first | decide | (simp only [ml]; omega)))))); (try simp (disch := omega) only [Int.reduceToNat, tn_c, tn8, tn8i, tn5, tn5z, tn6, tn6z, tn1, u3_ne, u3_eq, u3_ni, u3_nk, l_5 hL] at hx); subst hx)
  ((first | ((with_reducible refine w_s hS ?_ ?_ ?_ (fun x hx => ?_)); (focus decide); (focus (first | decide | omega)); (focus (first | decide | (simp only [sl]; omega)))) | ((with_reducible refine w_m hS ?_ ?_ ?_ ?_ ?_ (fun x hx => ?_)); (focus decide); (focus (first | decide | omega)); (focus omega); (focus (first | decide | omega)); (focus (first | decide | (simp only [ml]; omega)))) | (with_reducible refine w_k (by simp (disch := omega) only [w32_id]; exact rfl) ?_; ((with_reducible refine w_s hS ?_ ?_ ?_ (fun x hx => ?_)); (focus decide); (focus (first | decide | omega)); (focus (first | decide | (simp only [sl]; omega))))) | (with_reducible refine w_k (by simp (disch := omega) only [w32_id]; exact rfl) ?_; ((with_reducible refine w_m hS ?_ ?_ ?_ ?_ ?_ (fun x hx => ?_)); (focus decide); (focus (first | decide | omega)); (focus omega); (focus (first | decide | omega)); (focus (first | decide | (simp only [ml]; omega)))))); (try simp (disch := omega) only [Int.reduceToNat, tn_c, tn8, tn8i, tn5, tn5z, tn6, tn6z, tn1, u3_ne, u3_eq, u3_ni, u3_nk, e30] at hx); subst hx)
  refine w_31 hS hk (Or.inl rfl) ?_
  refine w_spotn (by omega) ?_
  refine w_32 hk (by omega) ?_
  ((first | ((with_reducible refine w_s hS ?_ ?_ ?_ (fun x hx => ?_)); (focus decide); (focus (first | decide | omega)); (focus (first | decide | (simp only [sl]; omega)))) | ((with_reducible refine w_m hS ?_ ?_ ?_ ?_ ?_ (fun x hx => ?_)); (focus decide); (focus (first | decide | omega)); (focus omega); (focus (first | decide | omega)); (focus (first | decide | (simp only [ml]; omega)))) | (with_reducible refine w_k (by simp (disch := omega) only [w32_id]; exact rfl) ?_; ((with_reducible refine w_s hS ?_ ?_ ?_ (fun x hx => ?_)); (focus decide); (focus (first | decide | omega)); (focus (first | decide | (simp only [sl]; omega))))) | (with_reducible refine w_k (by simp (disch := omega) only [w32_id]; exact rfl) ?_; ((with_reducible refine w_m hS ?_ ?_ ?_ ?_ ?_ (fun x hx => ?_)); (focus decide); (focus (first | decide | omega)); (focus omega); (focus (first | decide | omega)); (focus (first | decide | (simp only [ml]; omega)))))); (try simp (disch := omega) only [Int.reduceToNat, tn_c, tn8, tn8i, tn5, tn5z, tn6, tn6z, tn1, u3_ne, u3_eq, u3_ni, u3_nk, e0] at hx); subst hx)
  unfold hgt at k
  rw [es] at k
  refine w_ite (fun z => ?_) (fun z => ?_)
  · rw [if_neg z] at k
    exact w_ret k
  · have z : V 101 0 q = 0 := by omega
    rw [if_pos z] at k
    have c1 := cod_all hI hg hd hq z top
    unfold vld at hv
    rw [es] at c1 hv
    obtain ⟨j, hj, ej⟩ := c1.2 hv
    refine w_codeIndex hS hF hI.IQ b20 hq (fun j hj e => ?_) (fun hn => absurd ej (hn j hj))
    rw [cidx_at hI hq hj e] at k
    exact w_ret k
theorem w_insertR {q h n : Nat} {a : Nat → Nat} {f : Int × GS → GO} (hI : INV IT V R) (hq : q < rC R 20) (top : V 102 0 q = -1) (hh : h < rC R 30) (hd : std V h) (hv : vld V q h) (hn : n < 40) (ha : ∀ k, k < n → V 14 0 k = ((a k : Nat) : Int) ∧ a k < rC R 30 ∧ std V (a k) ∧ vld V q (a k))
  (K : ∀ V', same V V' [(14, none)] → (∀ k, k < n + 1 → V' 14 0 k = ((insn a (ipos (fun k => hgt V q (a k)) (hgt V q h) n) h k : Nat) : Int)) → Wp (f (0, (V', R))) Q) : Wp ((g_X8_insertRising 0 (q : Int) (h : Int) (n : Int) (V, R)).bind f) Q := by
  have hS := hI.SH
  have hF := hI.RF
  refine w_bind ?_
  unfold g_X8_insertRising
  refine w_gv (by omega) ?_
  refine w_heightOf hI hq top hh hd hv ?_
  dsimp only
  refine w_lh1 (fun x G => ∃ (W : GV) (t : Nat), G = (W, R) ∧ x = (t : Int) ∧ t ≤ n ∧ same V W [(14, none)] ∧ (∀ k, k < t → W 14 0 k = ((a k : Nat) : Int)) ∧ (∀ k, t < k → k < n + 1 → W 14 0 k = ((a (k - 1) : Nat) : Int)) ∧ ipos (fun k => hgt V q (a k)) (hgt V q h) n = ipos (fun k => hgt V q (a k)) (hgt V q h) t) (fun x _ => x.toNat) ?_ 6000 _ _ ⟨V, n, rfl, rfl, Nat.le_refl _, same.rf V _, fun k hk => (ha k hk).1, fun k h1 h2 => absurd h1 (by omega), rfl⟩ (by omega)
  rintro x G ⟨W, t, rfl, rfl, htn, sm, h1, h2, hp⟩ self ih
  have hI' : INV IT W R := hI.scr (sm.mono (by decide))
  have hF' := hI'.RF
  have ex : ipos (fun k => hgt V q (a k)) (hgt V q h) n = t → Wp (gjX8_insertRising_58 0 (h : Int) (t : Int) (W, R)) (fun r G => Wp (f (r, G)) Q) := by
    intro ep
    unfold gjX8_insertRising_58
    ((first | ((with_reducible refine w_s hS ?_ ?_ ?_ (fun x hx => ?_)); (focus decide); (focus (first | decide | omega)); (focus (first | decide | (simp only [sl]; omega)))) | ((with_reducible refine w_m hS ?_ ?_ ?_ ?_ ?_ (fun x hx => ?_)); (focus decide); (focus (first | decide | omega)); (focus omega); (focus (first | decide | omega)); (focus (first | decide | (simp only [ml]; omega)))) | (with_reducible refine w_k (by simp (disch := omega) only [w32_id]; exact rfl) ?_; ((with_reducible refine w_s hS ?_ ?_ ?_ (fun x hx => ?_)); (focus decide); (focus (first | decide | omega)); (focus (first | decide | (simp only [sl]; omega))))) | (with_reducible refine w_k (by simp (disch := omega) only [w32_id]; exact rfl) ?_; ((with_reducible refine w_m hS ?_ ?_ ?_ ?_ ?_ (fun x hx => ?_)); (focus decide); (focus (first | decide | omega)); (focus omega); (focus (first | decide | omega)); (focus (first | decide | (simp only [ml]; omega)))))); (try simp (disch := omega) only [Int.reduceToNat, tn_c, tn8, tn8i, tn5, tn5z, tn6, tn6z, tn1, u3_ne, u3_eq, u3_ni, u3_nk, f_0_7 hF'] at hx); subst hx)
    refine w_ss hS (by decide) (by omega) (by simp only [sl]; omega) ?_
    rw [tn_c]
    refine w_ret (K _ (sm.u ⟨(14, none), by decide, rfl, Or.inl rfl⟩) (fun k hk => ?_))
    rw [ep]
    unfold insn
    by_cases c1 : k < t
    · rw [if_pos c1, u3_nk (by omega)]; exact h1 k c1
    · rw [if_neg c1]
      by_cases c2 : k = t
      · rw [if_pos c2, u3_ek c2]
      · rw [if_neg c2, u3_nk c2]; exact h2 k (by omega) hk
  unfold glX8_insertRising_11
  refine w_ite (fun z => ex ?_) (fun z => ?_)
  · have e : t = 0 := by omega
    subst e; exact hp
  · obtain ⟨t', rfl⟩ : ∃ t', t = t' + 1 := ⟨t - 1, by omega⟩
    have et : w32 (((t' + 1 : Nat) : Int) - 1) = (t' : Int) := by rw [w32_id (by omega) (by omega)]; omega
    have et2 : w32 (((t' + 1 : Nat) : Int) + (-1)) = (t' : Int) := by rw [w32_id (by omega) (by omega)]; omega
    obtain ⟨_, a2, a3, a4⟩ := ha t' (by omega)
    have c32 : ∀ g, hgt W q g = hgt V q g := by
      intro g
      unfold hgt
      rw [sm.r 101 rfl, sm.r 30 rfl, sm.r 32 rfl, sm.r 109 rfl, cidx_cg (V := V) (V' := W) (sm.r 108 rfl 0)]
    rw [et, et2]
    ((first | ((with_reducible refine w_s hS ?_ ?_ ?_ (fun x hx => ?_)); (focus decide); (focus (first | decide | omega)); (focus (first | decide | (simp only [sl]; omega)))) | ((with_reducible refine w_m hS ?_ ?_ ?_ ?_ ?_ (fun x hx => ?_)); (focus decide); (focus (first | decide | omega)); (focus omega); (focus (first | decide | omega)); (focus (first | decide | (simp only [ml]; omega)))) | (with_reducible refine w_k (by simp (disch := omega) only [w32_id]; exact rfl) ?_; ((with_reducible refine w_s hS ?_ ?_ ?_ (fun x hx => ?_)); (focus decide); (focus (first | decide | omega)); (focus (first | decide | (simp only [sl]; omega))))) | (with_reducible refine w_k (by simp (disch := omega) only [w32_id]; exact rfl) ?_; ((with_reducible refine w_m hS ?_ ?_ ?_ ?_ ?_ (fun x hx => ?_)); (focus decide); (focus (first | decide | omega)); (focus omega); (focus (first | decide | omega)); (focus (first | decide | (simp only [ml]; omega)))))); (try simp (disch := omega) only [Int.reduceToNat, tn_c, tn8, tn8i, tn5, tn5z, tn6, tn6z, tn1, u3_ne, u3_eq, u3_ni, u3_nk, f_0_7 hF'] at hx); subst hx)
    ((first | ((with_reducible refine w_s hS ?_ ?_ ?_ (fun x hx => ?_)); (focus decide); (focus (first | decide | omega)); (focus (first | decide | (simp only [sl]; omega)))) | ((with_reducible refine w_m hS ?_ ?_ ?_ ?_ ?_ (fun x hx => ?_)); (focus decide); (focus (first | decide | omega)); (focus omega); (focus (first | decide | omega)); (focus (first | decide | (simp only [ml]; omega)))) | (with_reducible refine w_k (by simp (disch := omega) only [w32_id]; exact rfl) ?_; ((with_reducible refine w_s hS ?_ ?_ ?_ (fun x hx => ?_)); (focus decide); (focus (first | decide | omega)); (focus (first | decide | (simp only [sl]; omega))))) | (with_reducible refine w_k (by simp (disch := omega) only [w32_id]; exact rfl) ?_; ((with_reducible refine w_m hS ?_ ?_ ?_ ?_ ?_ (fun x hx => ?_)); (focus decide); (focus (first | decide | omega)); (focus omega); (focus (first | decide | omega)); (focus (first | decide | (simp only [ml]; omega)))))); (try simp (disch := omega) only [Int.reduceToNat, tn_c, tn8, tn8i, tn5, tn5z, tn6, tn6z, tn1, u3_ne, u3_eq, u3_ni, u3_nk, tn_c, h1 t' (by omega)] at hx); subst hx)
    refine w_heightOf hI' hq (by rw [sm.r 102 rfl]; exact top) a2 (by unfold std; rw [sm.r 30 rfl, sm.r 100 rfl]; exact a3) (by unfold vld; rw [sm.r 30 rfl, sm.r 33 rfl]; exact a4) ?_
    rw [c32]
    dsimp only
    refine w_ite (fun y => ex ?_) (fun y => ?_)
    · rw [lc_le] at y
      rw [hp]; exact ipos_e (by omega)
    · rw [lc_le] at y
      ((first | ((with_reducible refine w_s hS ?_ ?_ ?_ (fun x hx => ?_)); (focus decide); (focus (first | decide | omega)); (focus (first | decide | (simp only [sl]; omega)))) | ((with_reducible refine w_m hS ?_ ?_ ?_ ?_ ?_ (fun x hx => ?_)); (focus decide); (focus (first | decide | omega)); (focus omega); (focus (first | decide | omega)); (focus (first | decide | (simp only [ml]; omega)))) | (with_reducible refine w_k (by simp (disch := omega) only [w32_id]; exact rfl) ?_; ((with_reducible refine w_s hS ?_ ?_ ?_ (fun x hx => ?_)); (focus decide); (focus (first | decide | omega)); (focus (first | decide | (simp only [sl]; omega))))) | (with_reducible refine w_k (by simp (disch := omega) only [w32_id]; exact rfl) ?_; ((with_reducible refine w_m hS ?_ ?_ ?_ ?_ ?_ (fun x hx => ?_)); (focus decide); (focus (first | decide | omega)); (focus omega); (focus (first | decide | omega)); (focus (first | decide | (simp only [ml]; omega)))))); (try simp (disch := omega) only [Int.reduceToNat, tn_c, tn8, tn8i, tn5, tn5z, tn6, tn6z, tn1, u3_ne, u3_eq, u3_ni, u3_nk, f_0_7 hF'] at hx); subst hx)
      ((first | ((with_reducible refine w_s hS ?_ ?_ ?_ (fun x hx => ?_)); (focus decide); (focus (first | decide | omega)); (focus (first | decide | (simp only [sl]; omega)))) | ((with_reducible refine w_m hS ?_ ?_ ?_ ?_ ?_ (fun x hx => ?_)); (focus decide); (focus (first | decide | omega)); (focus omega); (focus (first | decide | omega)); (focus (first | decide | (simp only [ml]; omega)))) | (with_reducible refine w_k (by simp (disch := omega) only [w32_id]; exact rfl) ?_; ((with_reducible refine w_s hS ?_ ?_ ?_ (fun x hx => ?_)); (focus decide); (focus (first | decide | omega)); (focus (first | decide | (simp only [sl]; omega))))) | (with_reducible refine w_k (by simp (disch := omega) only [w32_id]; exact rfl) ?_; ((with_reducible refine w_m hS ?_ ?_ ?_ ?_ ?_ (fun x hx => ?_)); (focus decide); (focus (first | decide | omega)); (focus omega); (focus (first | decide | omega)); (focus (first | decide | (simp only [ml]; omega)))))); (try simp (disch := omega) only [Int.reduceToNat, tn_c, tn8, tn8i, tn5, tn5z, tn6, tn6z, tn1, u3_ne, u3_eq, u3_ni, u3_nk, f_0_7 hF'] at hx); subst hx)
      ((first | ((with_reducible refine w_s hS ?_ ?_ ?_ (fun x hx => ?_)); (focus decide); (focus (first | decide | omega)); (focus (first | decide | (simp only [sl]; omega)))) | ((with_reducible refine w_m hS ?_ ?_ ?_ ?_ ?_ (fun x hx => ?_)); (focus decide); (focus (first | decide | omega)); (focus omega); (focus (first | decide | omega)); (focus (first | decide | (simp only [ml]; omega)))) | (with_reducible refine w_k (by simp (disch := omega) only [w32_id]; exact rfl) ?_; ((with_reducible refine w_s hS ?_ ?_ ?_ (fun x hx => ?_)); (focus decide); (focus (first | decide | omega)); (focus (first | decide | (simp only [sl]; omega))))) | (with_reducible refine w_k (by simp (disch := omega) only [w32_id]; exact rfl) ?_; ((with_reducible refine w_m hS ?_ ?_ ?_ ?_ ?_ (fun x hx => ?_)); (focus decide); (focus (first | decide | omega)); (focus omega); (focus (first | decide | omega)); (focus (first | decide | (simp only [ml]; omega)))))); (try simp (disch := omega) only [Int.reduceToNat, tn_c, tn8, tn8i, tn5, tn5z, tn6, tn6z, tn1, u3_ne, u3_eq, u3_ni, u3_nk, tn_c, h1 t' (by omega)] at hx); subst hx)
      refine w_ss hS (by decide) (by omega) (by simp only [sl]; omega) ?_
      rw [tn_c]
      refine ih _ _ ⟨_, t', rfl, rfl, by omega, sm.u ⟨(14, none), by decide, rfl, Or.inl rfl⟩, fun k hk => ?_, fun k k1 k2 => ?_, ?_⟩ (by omega)
      · rw [u3_nk (by omega)]; exact h1 k (by omega)
      · by_cases e : k = t' + 1
        · rw [u3_ek e, e]; rfl
        · rw [u3_nk e]; exact h2 k (by omega) k2
      · rw [hp]; exact ipos_s (by omega)
theorem w_isSoT {h c : Nat} {f : Int × GS → GO} (hI : INV IT V R) (hh : h < rC R 30) (hd : std V h) (hc : c < rC R 40) (er : V 125 0 c = -1) (k1 : so V h c 0 → Wp (f (1, (V, R))) Q) (k0 : ¬ so V h c 0 → Wp (f (0, (V, R))) Q) : Wp ((g_X4_isSo (h : Int) (c : Int) (-1) 0 (V, R)).bind f) Q :=
  w_isSo (p := 0) hI hh hd rfl hc er (by omega) k1 k0
theorem slc_stl {V' : GV} {q h g : Nat} {c : Int} (hI : INV T V R) (hs : stl V V' h) (hh : h < rC R 30) (hg : g < rC R 30) (hne : g ≠ h) : (slc V' q c g ↔ slc V q c g) ∧ hgt V' q g = hgt V q g := by
  have sm := hs.same
  have ne := hI.sh_ne hg hh hne
  have e32 : ∀ k, V' 32 (V 30 g 0).toNat k = V 32 (V 30 g 0).toNat k := fun k => hs _ _ _ (by
    rintro (⟨_, e, _⟩ | ⟨e, _⟩ | ⟨e, _⟩)
    · exact ne e
    · omega
    · omega)
  have e33 : ∀ k, V' 33 (V 30 g 0).toNat k = V 33 (V 30 g 0).toNat k := fun k => hs _ _ _ (by
    rintro (⟨_, e, _⟩ | ⟨e, _⟩ | ⟨e, _⟩)
    · exact ne e
    · omega
    · omega)
  have e34 : ∀ k, V' 34 g k = V 34 g k := fun k => hs _ _ _ (by
    rintro (⟨e, _⟩ | ⟨_, e⟩ | ⟨e, _⟩)
    · omega
    · exact hne e
    · omega)
  refine ⟨?_, ?_⟩
  · unfold slc vld so
    rw [sm.f 30 0 rfl, e33, e34, sm.r 125 rfl]
  · unfold hgt
    rw [sm.r 101 rfl, sm.f 30 0 rfl, e32, sm.r 109 rfl, cidx_cg (V := V) (V' := V') (sm.r 108 rfl 0)]
theorem slc_sm {V' : GV} {L : PL'} {q g : Nat} {c : Int} (sm : same V V' L) (hd : disP L [(30, some 0), (33, none), (34, none), (125, none), (101, none), (32, none), (109, none), (108, none)] = true) : (slc V' q c g ↔ slc V q c g) ∧ hgt V' q g = hgt V q g := by
  have e : ∀ r, r ∈ [33, 34, 125, 101, 32, 109, 108] → ∀ i k, V' r i k = V r i k := by
    intro r hr i k
    refine sm.at hd ⟨(r, none), ?_, rfl, Or.inl rfl⟩
    simp only [List.mem_cons, List.mem_nil_iff, or_false] at hr ⊢
    rcases hr with rfl | rfl | rfl | rfl | rfl | rfl | rfl <;> simp
  have e0 : V' 30 g 0 = V 30 g 0 := sm.at hd ⟨(30, some 0), by simp, rfl, Or.inr rfl⟩
  refine ⟨?_, ?_⟩
  · unfold slc vld so
    rw [e0, e 33 (by decide), e 34 (by decide), e 125 (by decide)]
  · unfold hgt
    rw [e 101 (by decide), e0, e 32 (by decide), e 109 (by decide), cidx_cg (V := V) (V' := V') (e 108 (by decide) 0)]
theorem w_sortR {q : Nat} {c : Int} {f : Int × GS → GO} (hI : INV IT V R) (hq : q < rC R 20) (top : V 102 0 q = -1) (hc : c = -1 ∨ ∃ d : Nat, c = (d : Int) ∧ d < rC R 40 ∧ V 125 0 d = -1)
  (K : ∀ V', INV IT V' R → (∀ g, g < rC R 30 → std V' g) → V' 102 0 q = -1 → V' 101 0 q = V 101 0 q → (c = -1 ∨ V' 125 0 c.toNat = -1) → (∀ k, k < (srs V' q c (rC R 30)).2 → V' 14 0 k = (((srs V' q c (rC R 30)).1 k : Nat) : Int)) → Wp (f (((srs V' q c (rC R 30)).2 : Nat), (V', R))) Q) : Wp ((g_X8_sortRising 0 (q : Int) c (V, R)).bind f) Q := by
  have hS := hI.SH
  obtain ⟨b20, b30, b40, b50⟩ := hI.IN.1
  refine w_bind ?_
  unfold g_X8_sortRising
  refine w_gv (by omega) ?_
  refine w_for2 (rC R 30) (fun i a G => ∃ V', G = (V', R) ∧ INV IT V' R ∧ (∀ g, g < i → std V' g) ∧ V' 102 0 q = -1 ∧ V' 101 0 q = V 101 0 q ∧ (∀ d, V' 125 0 d = V 125 0 d) ∧ a = ((srs V' q c i).2 : Nat) ∧ ∀ k, k < (srs V' q c i).2 → V' 14 0 k = (((srs V' q c i).1 k : Nat) : Int)) ?_ (i := 0) (by omega) (by omega) ⟨V, rfl, hI, fun g h => absurd h (by omega), top, rfl, fun _ => rfl, rfl, fun k h => absurd h (Nat.not_lt_zero _)⟩
  rintro i a G hi ⟨V1, rfl, hI1, hd1, top1, k1, h125, ea, ha⟩ self ih
  have hF1 := hI1.RF
  have n4 := hI1.IN.2.1.2.2.2.1
  subst ea
  unfold glX8_sortRising_5
  ((first | ((with_reducible refine w_s hS ?_ ?_ ?_ (fun x hx => ?_)); (focus decide); (focus (first | decide | omega)); (focus (first | decide | (simp only [sl]; omega)))) | ((with_reducible refine w_m hS ?_ ?_ ?_ ?_ ?_ (fun x hx => ?_)); (focus decide); (focus (first | decide | omega)); (focus omega); (focus (first | decide | omega)); (focus (first | decide | (simp only [ml]; omega)))) | (with_reducible refine w_k (by simp (disch := omega) only [w32_id]; exact rfl) ?_; ((with_reducible refine w_s hS ?_ ?_ ?_ (fun x hx => ?_)); (focus decide); (focus (first | decide | omega)); (focus (first | decide | (simp only [sl]; omega))))) | (with_reducible refine w_k (by simp (disch := omega) only [w32_id]; exact rfl) ?_; ((with_reducible refine w_m hS ?_ ?_ ?_ ?_ ?_ (fun x hx => ?_)); (focus decide); (focus (first | decide | omega)); (focus omega); (focus (first | decide | omega)); (focus (first | decide | (simp only [ml]; omega)))))); (try simp (disch := omega) only [Int.reduceToNat, tn_c, tn8, tn8i, tn5, tn5z, tn6, tn6z, tn1, u3_ne, u3_eq, u3_ni, u3_nk, n4] at hx); subst hx)
  refine w_ite (fun hx => w_ret ?_) (fun hx => ?_)
  · have ei : i = rC R 30 := by omega
    subst ei
    refine K V1 hI1 hd1 top1 k1 ?_ ha
    rcases hc with h | ⟨d, h, _, h'⟩
    · exact Or.inl h
    · refine Or.inr ?_
      rw [h125, h, tn_c]; exact h'
  · have hh : i < rC R 30 := by omega
    ((first | ((with_reducible refine w_s hS ?_ ?_ ?_ (fun x hx => ?_)); (focus decide); (focus (first | decide | omega)); (focus (first | decide | (simp only [sl]; omega)))) | ((with_reducible refine w_m hS ?_ ?_ ?_ ?_ ?_ (fun x hx => ?_)); (focus decide); (focus (first | decide | omega)); (focus omega); (focus (first | decide | omega)); (focus (first | decide | (simp only [ml]; omega)))) | (with_reducible refine w_k (by simp (disch := omega) only [w32_id]; exact rfl) ?_; ((with_reducible refine w_s hS ?_ ?_ ?_ (fun x hx => ?_)); (focus decide); (focus (first | decide | omega)); (focus (first | decide | (simp only [sl]; omega))))) | (with_reducible refine w_k (by simp (disch := omega) only [w32_id]; exact rfl) ?_; ((with_reducible refine w_m hS ?_ ?_ ?_ ?_ ?_ (fun x hx => ?_)); (focus decide); (focus (first | decide | omega)); (focus omega); (focus (first | decide | omega)); (focus (first | decide | (simp only [ml]; omega)))))); (try simp (disch := omega) only [Int.reduceToNat, tn_c, tn8, tn8i, tn5, tn5z, tn6, tn6z, tn1, u3_ne, u3_eq, u3_ni, u3_nk, f_0_1 hF1] at hx); subst hx)
    ((first | ((with_reducible refine w_s hS ?_ ?_ ?_ (fun x hx => ?_)); (focus decide); (focus (first | decide | omega)); (focus (first | decide | (simp only [sl]; omega)))) | ((with_reducible refine w_m hS ?_ ?_ ?_ ?_ ?_ (fun x hx => ?_)); (focus decide); (focus (first | decide | omega)); (focus omega); (focus (first | decide | omega)); (focus (first | decide | (simp only [ml]; omega)))) | (with_reducible refine w_k (by simp (disch := omega) only [w32_id]; exact rfl) ?_; ((with_reducible refine w_s hS ?_ ?_ ?_ (fun x hx => ?_)); (focus decide); (focus (first | decide | omega)); (focus (first | decide | (simp only [sl]; omega))))) | (with_reducible refine w_k (by simp (disch := omega) only [w32_id]; exact rfl) ?_; ((with_reducible refine w_m hS ?_ ?_ ?_ ?_ ?_ (fun x hx => ?_)); (focus decide); (focus (first | decide | omega)); (focus omega); (focus (first | decide | omega)); (focus (first | decide | (simp only [ml]; omega)))))); (try simp (disch := omega) only [Int.reduceToNat, tn_c, tn8, tn8i, tn5, tn5z, tn6, tn6z, tn1, u3_ne, u3_eq, u3_ni, u3_nk, l_5 hI1.IL] at hx); subst hx)
    ((first | ((with_reducible refine w_s hS ?_ ?_ ?_ (fun x hx => ?_)); (focus decide); (focus (first | decide | omega)); (focus (first | decide | (simp only [sl]; omega)))) | ((with_reducible refine w_m hS ?_ ?_ ?_ ?_ ?_ (fun x hx => ?_)); (focus decide); (focus (first | decide | omega)); (focus omega); (focus (first | decide | omega)); (focus (first | decide | (simp only [ml]; omega)))) | (with_reducible refine w_k (by simp (disch := omega) only [w32_id]; exact rfl) ?_; ((with_reducible refine w_s hS ?_ ?_ ?_ (fun x hx => ?_)); (focus decide); (focus (first | decide | omega)); (focus (first | decide | (simp only [sl]; omega))))) | (with_reducible refine w_k (by simp (disch := omega) only [w32_id]; exact rfl) ?_; ((with_reducible refine w_m hS ?_ ?_ ?_ ?_ ?_ (fun x hx => ?_)); (focus decide); (focus (first | decide | omega)); (focus omega); (focus (first | decide | omega)); (focus (first | decide | (simp only [ml]; omega)))))); (try simp (disch := omega) only [Int.reduceToNat, tn_c, tn8, tn8i, tn5, tn5z, tn6, tn6z, tn1, u3_ne, u3_eq, u3_ni, u3_nk, f_0_0 hF1] at hx); subst hx)
    refine w_settle hI1 hh (fun V2 hs2 hI2 hd2 => ?_)
    have sm2 := hs2.same
    have hF2 := hI2.RF
    have hda : ∀ g, g < i + 1 → std V2 g := by
      intro h hlt
      unfold std
      by_cases e : h = i
      · subst e; exact hd2
      · rw [sm2.f 100 29 rfl, ← hd1 h (by omega)]
        refine hs2 _ _ _ ?_
        rintro (⟨z, _⟩ | ⟨z, _⟩ | ⟨_, z, _⟩)
        · omega
        · omega
        · exact e z
    have top2 : V2 102 0 q = -1 := by rw [sm2.r 102 rfl]; exact top1
    have k2 : V2 101 0 q = V 101 0 q := by rw [sm2.r 101 rfl]; exact k1
    have h125' : ∀ d, V2 125 0 d = V 125 0 d := fun d => by rw [sm2.r 125 rfl]; exact h125 d
    obtain ⟨c1, c2⟩ := srt_cg (sel := slc V1 q c) (sel' := slc V2 q c) (ds := dcl (slc V1 q c)) (ds' := dcl (slc V2 q c)) (ht := hgt V1 q) (ht' := hgt V2 q) (i := i) (fun g hg => ⟨(slc_stl hI1 hs2 hh (by omega) (by omega)).1, fun _ => (slc_stl (c := c) hI1 hs2 hh (by omega) (by omega)).2⟩)
    have e2 : (srs V1 q c i).2 = (srs V2 q c i).2 := c1.symm
    have ha2 : ∀ k, k < (srs V2 q c i).2 → V2 14 0 k = (((srs V2 q c i).1 k : Nat) : Int) := by
      intro k hk
      rw [sm2.r 14 rfl, ha k (by omega)]
      show (((srs V1 q c i).1 k : Nat) : Int) = (((srs V2 q c i).1 k : Nat) : Int)
      have := c2 k (show k < (srs V1 q c i).2 by omega)
      exact congrArg Nat.cast this.symm
    clear ha
    rw [e2]
    have li := srt_lt (sel := slc V2 q c) (ds := dcl (slc V2 q c)) (ht := hgt V2 q) (i := i)
    have li1 : (srs V2 q c i).2 ≤ i := li.1
    obtain ⟨s, e30, es, hk⟩ := hI2.sht hh
    have skip : ¬ slc V2 q c i → Wp (gjX8_sortRising_82 self 0 (q : Int) c ((srs V2 q c i).2 : Nat) (i : Int) (V2, R)) (fun r G => Wp (f (r, G)) Q) := by
      intro hn
      have e : srs V2 q c (i + 1) = srs V2 q c i := srt_0 hn
      unfold gjX8_sortRising_82
      exact ih _ _ hh ⟨V2, rfl, hI2, hda, top2, k2, h125', by rw [e], by rw [e]; exact ha2⟩
    have take : slc V2 q c i → Wp (gjX8_sortRising_71 self 0 (q : Int) c ((srs V2 q c i).2 : Nat) (i : Int) (V2, R)) (fun r G => Wp (f (r, G)) Q) := by
      intro hy
      unfold gjX8_sortRising_71 gjX8_sortRising_82
      refine w_insertR (a := (srs V2 q c i).1) hI2 hq top2 hh hd2 hy.1 (by omega) (fun k hk => ⟨ha2 k hk, ?_, ?_, ?_⟩) (fun V3 sm3 h3 => ?_)
      · have := (li.2 k hk).1
        have e : (srt (slc V2 q c) (dcl (slc V2 q c)) (hgt V2 q) i).1 k = (srs V2 q c i).1 k := rfl
        omega
      · refine hda _ ?_
        have := (li.2 k hk).1
        exact Nat.lt_succ_of_lt this
      · exact (li.2 k hk).2.1
      · have hI3 : INV IT V3 R := hI2.scr (sm3.mono (by decide))
        have e : srs V2 q c (i + 1) = (insn (srs V2 q c i).1 (ipos (fun k => hgt V2 q ((srs V2 q c i).1 k)) (hgt V2 q i) (srs V2 q c i).2) i, (srs V2 q c i).2 + 1) := srt_1 hy
        have ef : ∀ j, srs V3 q c j = srs V2 q c j := by
          intro j
          have s1 : slc V3 q c = slc V2 q c := funext (fun g => propext (slc_sm sm3 rfl).1)
          have s2 : hgt V3 q = hgt V2 q := funext (fun g => (slc_sm (c := c) sm3 rfl).2)
          unfold srs
          rw [s1, s2]
        dsimp only
        rw [ws1 (i := (srs V2 q c i).2) (by omega)]
        refine ih _ _ hh ⟨V3, rfl, hI3, fun g hg => ?_, by rw [sm3.r 102 rfl]; exact top2, by rw [sm3.r 101 rfl]; exact k2, fun d => by rw [sm3.r 125 rfl]; exact h125' d, ?_, ?_⟩
        · have := hda g hg
          unfold std at this ⊢
          rw [sm3.r 30 rfl, sm3.r 100 rfl]; exact this
        · rw [ef, e]
        · rw [ef, e]; exact h3
    dsimp only
    ((first | ((with_reducible refine w_s hS ?_ ?_ ?_ (fun x hx => ?_)); (focus decide); (focus (first | decide | omega)); (focus (first | decide | (simp only [sl]; omega)))) | ((with_reducible refine w_m hS ?_ ?_ ?_ ?_ ?_ (fun x hx => ?_)); (focus decide); (focus (first | decide | omega)); (focus omega); (focus (first | decide | omega)); (focus (first | decide | (simp only [ml]; omega)))) | (with_reducible refine w_k (by simp (disch := omega) only [w32_id]; exact rfl) ?_; ((with_reducible refine w_s hS ?_ ?_ ?_ (fun x hx => ?_)); (focus decide); (focus (first | decide | omega)); (focus (first | decide | (simp only [sl]; omega))))) | (with_reducible refine w_k (by simp (disch := omega) only [w32_id]; exact rfl) ?_; ((with_reducible refine w_m hS ?_ ?_ ?_ ?_ ?_ (fun x hx => ?_)); (focus decide); (focus (first | decide | omega)); (focus omega); (focus (first | decide | omega)); (focus (first | decide | (simp only [ml]; omega)))))); (try simp (disch := omega) only [Int.reduceToNat, tn_c, tn8, tn8i, tn5, tn5z, tn6, tn6z, tn1, u3_ne, u3_eq, u3_ni, u3_nk, e30] at hx); subst hx)
    refine w_31 hS hk (Or.inr rfl) ?_
    refine w_spotn (by omega) ?_
    refine w_33 hk (by omega) ?_
    have ev : vld V2 q i ↔ V2 33 s (5 * q) = 0 := by unfold vld; rw [es]
    refine w_ite (fun z => ?_) (fun z => skip (fun y => z (ev.mp y.1)))
    refine w_ite (fun z1 => take ⟨ev.mpr z, Or.inl z1⟩) (fun z1 => ?_)
    rcases hc with h | ⟨d, rfl, hd, h'⟩
    · exact absurd h z1
    · dsimp only
      refine w_isSoT hI2 hh hd2 hd (by rw [h125']; exact h') (fun y => ?_) (fun y => ?_)
      · exact w_ite (fun _ => take ⟨ev.mpr z, Or.inr (by rw [tn_c]; exact y)⟩) (fun w => absurd (show (1 : Int) ≠ 0 by decide) w)
      · refine w_ite (fun w => absurd rfl w) (fun _ => skip (fun w => ?_))
        rcases w.2 with w | w
        · exact z1 w
        · rw [tn_c] at w; exact y w
end CRank
