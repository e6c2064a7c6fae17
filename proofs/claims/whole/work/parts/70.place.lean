section Place
variable {V : GV} {R : GR} {T : GV → Prop} {Q : Int → GS → Prop}
def PO (r : Int) (r' : Int) (G : GS) : Prop := r = r' ∧ INV IT G.1 G.2
theorem slot_lt {r : Int} {p : Nat} (h : p < 5) : slot r p < 6 := by
  unfold slot
  by_cases e : r = -1
  · rw [if_pos e]; omega
  · rw [if_neg e]; omega
def pok (V : GV) (s : Nat) (r person : Int) (p : Nat) : Prop := (r = -1 ∧ person = -1 ∧ p = 0) ∨ (r ≠ -1 ∧ person = (p : Int) ∧ (p : Int) < plc V s r)
theorem pok.lt {s p : Nat} {r person : Int} (h : pok V s r person p) : (p : Int) < plc V s r := by
  rcases h with ⟨e, _, e'⟩ | ⟨_, _, h⟩
  · unfold plc; rw [if_pos e]; omega
  · exact h
theorem pok.sl {s p : Nat} {r person : Int} (h : pok V s r person p) : ((slot r p : Nat) : Int) = person + 1 := by
  unfold slot
  rcases h with ⟨e, e2, e'⟩ | ⟨e, e2, h⟩
  · rw [if_pos e]; omega
  · rw [if_neg e]; omega
theorem pok.un {s p p' : Nat} {r person : Int} (h : pok V s r person p) (h' : pok V s r person p') : p = p' := by
  rcases h with ⟨e, e2, e'⟩ | ⟨e, e2, h⟩ <;> rcases h' with ⟨f, f2, f'⟩ | ⟨f, f2, h'⟩ <;> omega
theorem w_spotp {q s p : Nat} {r person : Int} {G : GS} {f : Int × GS → GO} (q0 : q < 24) (h : pok V s r person p) (h5 : p < 5) (k : Wp (f (((5 * q + p : Nat) : Int), G)) Q) : Wp ((g_X8_spot (q : Int) person G).bind f) Q := by
  rcases h with ⟨e, rfl, rfl⟩ | ⟨e, rfl, h⟩
  · exact w_spotn q0 k
  · exact w_spot q0 h5 k
theorem w_isPlace {s n : Nat} {r person : Int} {f : Int × GS → GO} (hS : SH R) (hs : shk V R s n) (hr : r = -1 ∨ ∃ m : Nat, r = (m : Int) ∧ m < 24 ∧ 5 * m < n) (h0 : 0 ≤ plc V s r) (h5 : plc V s r ≤ 5)
  (k1 : ∀ p, pok V s r person p → Wp (f (1, (V, R))) Q) (k0 : (∀ p, ¬ pok V s r person p) → Wp (f (0, (V, R))) Q) : Wp ((g_X8_isPlace (s : Int) r person (V, R)).bind f) Q := by
  refine w_bind ?_
  unfold g_X8_isPlace
  rcases hr with rfl | ⟨m, rfl, hm, hk⟩
  · refine w_ite (fun h => absurd rfl h) (fun _ => w_ite (fun h => w_ret (k0 (fun p hp => ?_))) (fun h => w_ret (k1 0 (Or.inl ⟨rfl, by omega, rfl⟩))))
    rcases hp with ⟨_, e, _⟩ | ⟨e, _⟩
    · exact h e
    · exact e rfl
  · have e : plc V s (m : Int) = V 32 s (5 * m) := by unfold plc; rw [if_neg (by omega), tn_c]
    refine w_ite (fun _ => ?_) (fun h => absurd (show ((m : Nat) : Int) ≠ -1 by omega) h)
    refine w_ite (fun hp => w_ret (k0 (fun p h => ?_))) (fun hp => ?_)
    · rcases h with ⟨e, _⟩ | ⟨_, e, _⟩ <;> omega
    · rw [e] at h0 h5
      refine w_persons hS hs hm hk h0 h5 ?_
      refine w_ite (fun hq => w_ret (k0 (fun p h => ?_))) (fun hq => w_ret (k1 person.toNat (Or.inr ⟨by omega, by omega, by rw [e]; dsimp only at hq; omega⟩)))
      rcases h with ⟨e, _⟩ | ⟨_, e', h⟩
      · omega
      · rw [e] at h; dsimp only at hq; omega
theorem INV.roq (hI : INV T V R) {q : Nat} (hq : q < rC R 20) {n : Nat} (hn : 5 * q < n) : V 102 0 q = -1 ∨ ∃ m : Nat, V 102 0 q = (m : Int) ∧ m < 24 ∧ 5 * m < n := by
  by_cases e : V 102 0 q = -1
  · exact Or.inl e
  · obtain ⟨r, er, hr, _⟩ := hI.IQ.ro hq e
    have := hI.IN.1.1
    exact Or.inr ⟨r, er, by omega, by omega⟩
theorem INV.roc (hI : INV T V R) {c : Nat} (hc : c < rC R 40) : V 125 0 c = -1 ∨ ∃ m : Nat, V 125 0 c = (m : Int) ∧ m < 24 ∧ 5 * m < 120 := by
  by_cases e : V 125 0 c = -1
  · exact Or.inl e
  · obtain ⟨r, er, hr, _⟩ := hI.IC.re hc e
    have := hI.IN.1.1
    exact Or.inr ⟨r, er, by omega, by omega⟩
def plq (V : GV) (R : GR) (h' q' person : Int) (h q p : Nat) : Prop := h' = (h : Int) ∧ q' = (q : Int) ∧ h < rC R 30 ∧ q < rC R 20 ∧ pok V (V 30 h 0).toNat (V 102 0 q) person p
theorem w_rPlace {h' q' person : Int} {f : Int × GS → GO} (hI : INV T V R) (k1 : ∀ h q p, plq V R h' q' person h q p → Wp (f (1, (V, R))) Q) (k0 : (∀ h q p, ¬ plq V R h' q' person h q p) → Wp (f (0, (V, R))) Q) : Wp ((g_X9_isPlace 0 h' q' person (V, R)).bind f) Q := by
  have hS := hI.SH
  have hF := hI.RF
  obtain ⟨b20, b30, b40, b50⟩ := hI.IN.1
  obtain ⟨n1, _, n3, _⟩ := hI.IN.2.1
  refine w_bind ?_
  unfold g_X9_isPlace
  refine w_gv (by omega) ?_
  refine w_isH hS n3 b30 (fun h e hh => ?_) (fun hn => ?_)
  · subst e
    refine w_ite (fun z => absurd (show (1 : Int) = 0 from z) (by decide)) (fun _ => ?_)
    refine w_isQ hS n1 b20 (fun q e hq => ?_) (fun hn => ?_)
    · subst e
      refine w_ite (fun _ => ?_) (fun z => absurd (show (1 : Int) ≠ 0 by decide) z)
      obtain ⟨s, e30, es, hk⟩ := hI.sht hh
      ((first | ((with_reducible refine w_s hS ?_ ?_ ?_ (fun x hx => ?_)); (focus decide); (focus (first | decide | omega)); (focus (first | decide | (simp only [sl]; omega)))) | ((with_reducible refine w_m hS ?_ ?_ ?_ ?_ ?_ (fun x hx => ?_)); (focus decide); (focus (first | decide | omega)); (focus omega); (focus (first | decide | omega)); (focus (first | decide | (simp only [ml]; omega)))) | (with_reducible refine w_k (by simp (disch := omega) only [w32_id]; exact rfl) ?_; ((with_reducible refine w_s hS ?_ ?_ ?_ (fun x hx => ?_)); (focus decide); (focus (first | decide | omega)); (focus (first | decide | (simp only [sl]; omega))))) | (with_reducible refine w_k (by simp (disch := omega) only [w32_id]; exact rfl) ?_; ((with_reducible refine w_m hS ?_ ?_ ?_ ?_ ?_ (fun x hx => ?_)); (focus decide); (focus (first | decide | omega)); (focus omega); (focus (first | decide | omega)); (focus (first | decide | (simp only [ml]; omega)))))); (try simp (disch := omega) only [Int.reduceToNat, tn_c, tn8, tn8i, tn5, tn5z, tn6, tn6z, tn1, u3_ne, u3_eq, u3_ni, u3_nk, f_100_2 hF] at hx); subst hx)
      ((first | ((with_reducible refine w_s hS ?_ ?_ ?_ (fun x hx => ?_)); (focus decide); (focus (first | decide | omega)); (focus (first | decide | (simp only [sl]; omega)))) | ((with_reducible refine w_m hS ?_ ?_ ?_ ?_ ?_ (fun x hx => ?_)); (focus decide); (focus (first | decide | omega)); (focus omega); (focus (first | decide | omega)); (focus (first | decide | (simp only [ml]; omega)))) | (with_reducible refine w_k (by simp (disch := omega) only [w32_id]; exact rfl) ?_; ((with_reducible refine w_s hS ?_ ?_ ?_ (fun x hx => ?_)); (focus decide); (focus (first | decide | omega)); (focus (first | decide | (simp only [sl]; omega))))) | (with_reducible refine w_k (by simp (disch := omega) only [w32_id]; exact rfl) ?_; ((with_reducible refine w_m hS ?_ ?_ ?_ ?_ ?_ (fun x hx => ?_)); (focus decide); (focus (first | decide | omega)); (focus omega); (focus (first | decide | omega)); (focus (first | decide | (simp only [ml]; omega)))))); (try simp (disch := omega) only [Int.reduceToNat, tn_c, tn8, tn8i, tn5, tn5z, tn6, tn6z, tn1, u3_ne, u3_eq, u3_ni, u3_nk, tn_c] at hx); subst hx)
      by_cases t : V 102 0 q = -1
      · refine w_ite (fun z => absurd z (by omega)) (fun _ => ?_)
        refine w_ite (fun z => w_ret (k0 (fun h2 q2 p hp => ?_))) (fun z => w_ret (k1 h q 0 ⟨rfl, rfl, hh, hq, Or.inl ⟨t, by omega, rfl⟩⟩))
        obtain ⟨e1, e2, _, _, hp⟩ := hp
        have e1 := Int.ofNat.inj e1
        have e2 := Int.ofNat.inj e2
        subst e1 e2
        rcases hp with ⟨_, e, _⟩ | ⟨e, _⟩
        · exact z e
        · exact e t
      · obtain ⟨r, er, _, hr, k5, _, _⟩ := hI.IQ.ro hq t
        refine w_ite (fun _ => ?_) (fun z => absurd (show V 102 0 q ≥ 0 by omega) z)
        ((first | ((with_reducible refine w_s hS ?_ ?_ ?_ (fun x hx => ?_)); (focus decide); (focus (first | decide | omega)); (focus (first | decide | (simp only [sl]; omega)))) | ((with_reducible refine w_m hS ?_ ?_ ?_ ?_ ?_ (fun x hx => ?_)); (focus decide); (focus (first | decide | omega)); (focus omega); (focus (first | decide | omega)); (focus (first | decide | (simp only [ml]; omega)))) | (with_reducible refine w_k (by simp (disch := omega) only [w32_id]; exact rfl) ?_; ((with_reducible refine w_s hS ?_ ?_ ?_ (fun x hx => ?_)); (focus decide); (focus (first | decide | omega)); (focus (first | decide | (simp only [sl]; omega))))) | (with_reducible refine w_k (by simp (disch := omega) only [w32_id]; exact rfl) ?_; ((with_reducible refine w_m hS ?_ ?_ ?_ ?_ ?_ (fun x hx => ?_)); (focus decide); (focus (first | decide | omega)); (focus omega); (focus (first | decide | omega)); (focus (first | decide | (simp only [ml]; omega)))))); (try simp (disch := omega) only [Int.reduceToNat, tn_c, tn8, tn8i, tn5, tn5z, tn6, tn6z, tn1, u3_ne, u3_eq, u3_ni, u3_nk, f_100_2 hF] at hx); subst hx)
        ((first | ((with_reducible refine w_s hS ?_ ?_ ?_ (fun x hx => ?_)); (focus decide); (focus (first | decide | omega)); (focus (first | decide | (simp only [sl]; omega)))) | ((with_reducible refine w_m hS ?_ ?_ ?_ ?_ ?_ (fun x hx => ?_)); (focus decide); (focus (first | decide | omega)); (focus omega); (focus (first | decide | omega)); (focus (first | decide | (simp only [ml]; omega)))) | (with_reducible refine w_k (by simp (disch := omega) only [w32_id]; exact rfl) ?_; ((with_reducible refine w_s hS ?_ ?_ ?_ (fun x hx => ?_)); (focus decide); (focus (first | decide | omega)); (focus (first | decide | (simp only [sl]; omega))))) | (with_reducible refine w_k (by simp (disch := omega) only [w32_id]; exact rfl) ?_; ((with_reducible refine w_m hS ?_ ?_ ?_ ?_ ?_ (fun x hx => ?_)); (focus decide); (focus (first | decide | omega)); (focus omega); (focus (first | decide | omega)); (focus (first | decide | (simp only [ml]; omega)))))); (try simp (disch := omega) only [Int.reduceToNat, tn_c, tn8, tn8i, tn5, tn5z, tn6, tn6z, tn1, u3_ne, u3_eq, u3_ni, u3_nk, er] at hx); subst hx)
        refine w_rp hI hh hr k5 es (fun h0 h5 => ?_)
        dsimp only
        have epl : plc V s (V 102 0 q) = V 32 s (5 * r) := by unfold plc; rw [if_neg t, er, tn_c]
        refine w_inw (by omega) (by omega) (fun z => w_gzr (Or.inr rfl) (k1 h q person.toNat ⟨rfl, rfl, hh, hq, Or.inr ⟨t, by omega, by rw [es, epl]; omega⟩⟩)) (fun z => w_gzr (Or.inl rfl) (k0 (fun h2 q2 p hp => ?_)))
        obtain ⟨e1, e2, _, _, hp⟩ := hp
        have e1 := Int.ofNat.inj e1
        have e2 := Int.ofNat.inj e2
        subst e1 e2
        rcases hp with ⟨e, _⟩ | ⟨_, e, hp⟩
        · exact t e
        · rw [es, epl] at hp; omega
    · refine w_ite (fun z => absurd rfl z) (fun _ => w_ret (k0 (fun h2 q2 p hp => ?_)))
      obtain ⟨_, e2, _, h2, _⟩ := hp
      omega
  · refine w_ite (fun _ => w_ret (k0 (fun h2 q2 p hp => ?_))) (fun z => absurd rfl z)
    obtain ⟨e1, _, h1, _, _⟩ := hp
    omega
theorem INV.okr (hI : INV T V R) {h : Nat} (hh : h < rC R 30) (hd : V 30 h 2 = V 100 0 29) {q : Nat} (hq : q < rC R 20) : okr V (V 30 h 0).toNat q := by
  obtain ⟨o1, o2, o3⟩ := hI.IN.2.2
  obtain ⟨n, en⟩ : ∃ n : Nat, V 100 0 29 = (n : Int) := ⟨_, (Int.toNat_of_nonneg o2).symm⟩
  refine okr_all hI hh rfl (n := n) (fun j hj => ⟨by omega, (hI.IS h hh).2.2 j (by omega)⟩) (q + 1) q (by omega) hq ?_
  by_cases m0 : V 103 0 q = 0
  · exact Or.inl m0
  · obtain ⟨j, hj, ej⟩ := hI.IOO.2.2.1 q hq m0
    exact Or.inr ⟨j, by omega, ej⟩
theorem stl.plc {V' : GV} {h s : Nat} (hI : INV T V R) (hs : stl V V' h) {r : Int} (hr : r = -1 ∨ ∃ m : Nat, r = (m : Int) ∧ m < rC R 20 ∧ V 101 0 m = 5) : plc V' s r = plc V s r := by
  unfold _root_.Jvm.Pilot.CHouseholdVaultLaw_law_r1975_b8db8d.plc
  rcases hr with e | ⟨m, rfl, hm, k5⟩
  · rw [if_pos e, if_pos e]
  · rw [if_neg (by omega), if_neg (by omega), tn_c]
    refine hs _ _ _ ?_
    rintro (⟨_, _, q, p, mk, hp, e⟩ | ⟨e, _⟩ | ⟨e, _⟩)
    · have : q = m := by omega
      subst this
      exact mk (hI.IQ.k5 hm k5).1
    · omega
    · omega
theorem INV.roq5 (hI : INV T V R) {q : Nat} (hq : q < rC R 20) : V 102 0 q = -1 ∨ ∃ m : Nat, V 102 0 q = (m : Int) ∧ m < rC R 20 ∧ V 101 0 m = 5 := by
  by_cases e : V 102 0 q = -1
  · exact Or.inl e
  · obtain ⟨r, er, _, hr, k5, _⟩ := hI.IQ.ro hq e
    exact Or.inr ⟨r, er, hr, k5⟩
theorem INV.roc5 (hI : INV T V R) {c : Nat} (hc : c < rC R 40) : V 125 0 c = -1 ∨ ∃ m : Nat, V 125 0 c = (m : Int) ∧ m < rC R 20 ∧ V 101 0 m = 5 := by
  by_cases e : V 125 0 c = -1
  · exact Or.inl e
  · obtain ⟨r, er, hr, k5⟩ := hI.IC.re hc e
    exact Or.inr ⟨r, er, hr, k5⟩
theorem stl.pok {V' : GV} {h s : Nat} (hI : INV T V R) (hs : stl V V' h) {r person : Int} {p : Nat} (hr : r = -1 ∨ ∃ m : Nat, r = (m : Int) ∧ m < rC R 20 ∧ V 101 0 m = 5) : pok V' s r person p ↔ pok V s r person p := by
  unfold _root_.Jvm.Pilot.CHouseholdVaultLaw_law_r1975_b8db8d.pok
  rw [hs.plc hI hr]
theorem stl.plq {V' : GV} {h : Nat} (hI : INV T V R) (hs : stl V V' h) {h' q' person : Int} {g q p : Nat} : plq V' R h' q' person g q p ↔ plq V R h' q' person g q p := by
  unfold _root_.Jvm.Pilot.CHouseholdVaultLaw_law_r1975_b8db8d.plq
  rw [hs.same.f 30 0 rfl, hs.same.r 102 rfl]
  constructor
  · rintro ⟨a, b, c, d, e⟩; exact ⟨a, b, c, d, (hs.pok hI (hI.roq5 d)).mp e⟩
  · rintro ⟨a, b, c, d, e⟩; exact ⟨a, b, c, d, (hs.pok hI (hI.roq5 d)).mpr e⟩
theorem w_settledSheet {h' q' person : Int} {f : Int × GS → GO} (hI : INV T V R) (k1 : ∀ h q p V', plq V R h' q' person h q p → stl V V' h → INV T V' R → V' 30 h 2 = V' 100 0 29 → Wp (f (V' 30 h 0, (V', R))) Q) (k0 : (∀ h q p, ¬ plq V R h' q' person h q p) → Wp (f (-1, (V, R))) Q) : Wp ((g_X8_settledSheet 0 h' q' person (V, R)).bind f) Q := by
  have hS := hI.SH
  have hF := hI.RF
  have hL := hI.IL
  obtain ⟨b20, b30, b40, b50⟩ := hI.IN.1
  obtain ⟨_, n2, _, n4, _⟩ := hI.IN.2.1
  refine w_bind ?_
  unfold g_X8_settledSheet
  refine w_gv (by omega) ?_
  refine w_hO hS n4 (f_0_1 hF) b30 (fun n hn => l_5 hL hn) (fun h e hh => ?_) (fun hn => ?_)
  · subst e
    ((first | ((with_reducible refine w_s hS ?_ ?_ ?_ (fun x hx => ?_)); (focus decide); (focus (first | decide | omega)); (focus (first | decide | (simp only [sl]; omega)))) | ((with_reducible refine w_m hS ?_ ?_ ?_ ?_ ?_ (fun x hx => ?_)); (focus decide); (focus (first | decide | omega)); (focus omega); (focus (first | decide | omega)); (focus (first | decide | (simp only [ml]; omega)))) | (with_reducible refine w_k (by simp (disch := omega) only [w32_id]; exact rfl) ?_; ((with_reducible refine w_s hS ?_ ?_ ?_ (fun x hx => ?_)); (focus decide); (focus (first | decide | omega)); (focus (first | decide | (simp only [sl]; omega))))) | (with_reducible refine w_k (by simp (disch := omega) only [w32_id]; exact rfl) ?_; ((with_reducible refine w_m hS ?_ ?_ ?_ ?_ ?_ (fun x hx => ?_)); (focus decide); (focus (first | decide | omega)); (focus omega); (focus (first | decide | omega)); (focus (first | decide | (simp only [ml]; omega)))))); (try simp (disch := omega) only [Int.reduceToNat, tn_c, tn8, tn8i, tn5, tn5z, tn6, tn6z, tn1, u3_ne, u3_eq, u3_ni, u3_nk, f_0_0 hF] at hx); subst hx)
    refine w_qO hS n2 (f_1_0 hF) b20 (fun n hn => l_2 hL hn) (fun q e hq => ?_) (fun hn => ?_)
    · subst e
      dsimp only
      refine w_ite (fun z => absurd z (by omega)) (fun _ => w_ite (fun z => absurd z (by omega)) (fun _ => ?_))
      obtain ⟨s, e30, es, hk⟩ := hI.sht hh
      have hp := hI.pers hh
      rw [es] at hp
      have hpl := plc_q hI.IQ hp hq
      have e1 := (hI.IQ.1 q hq).1.2.1.1
      ((first | ((with_reducible refine w_s hS ?_ ?_ ?_ (fun x hx => ?_)); (focus decide); (focus (first | decide | omega)); (focus (first | decide | (simp only [sl]; omega)))) | ((with_reducible refine w_m hS ?_ ?_ ?_ ?_ ?_ (fun x hx => ?_)); (focus decide); (focus (first | decide | omega)); (focus omega); (focus (first | decide | omega)); (focus (first | decide | (simp only [ml]; omega)))) | (with_reducible refine w_k (by simp (disch := omega) only [w32_id]; exact rfl) ?_; ((with_reducible refine w_s hS ?_ ?_ ?_ (fun x hx => ?_)); (focus decide); (focus (first | decide | omega)); (focus (first | decide | (simp only [sl]; omega))))) | (with_reducible refine w_k (by simp (disch := omega) only [w32_id]; exact rfl) ?_; ((with_reducible refine w_m hS ?_ ?_ ?_ ?_ ?_ (fun x hx => ?_)); (focus decide); (focus (first | decide | omega)); (focus omega); (focus (first | decide | omega)); (focus (first | decide | (simp only [ml]; omega)))))); (try simp (disch := omega) only [Int.reduceToNat, tn_c, tn8, tn8i, tn5, tn5z, tn6, tn6z, tn1, u3_ne, u3_eq, u3_ni, u3_nk, e30] at hx); subst hx)
      ((first | ((with_reducible refine w_s hS ?_ ?_ ?_ (fun x hx => ?_)); (focus decide); (focus (first | decide | omega)); (focus (first | decide | (simp only [sl]; omega)))) | ((with_reducible refine w_m hS ?_ ?_ ?_ ?_ ?_ (fun x hx => ?_)); (focus decide); (focus (first | decide | omega)); (focus omega); (focus (first | decide | omega)); (focus (first | decide | (simp only [ml]; omega)))) | (with_reducible refine w_k (by simp (disch := omega) only [w32_id]; exact rfl) ?_; ((with_reducible refine w_s hS ?_ ?_ ?_ (fun x hx => ?_)); (focus decide); (focus (first | decide | omega)); (focus (first | decide | (simp only [sl]; omega))))) | (with_reducible refine w_k (by simp (disch := omega) only [w32_id]; exact rfl) ?_; ((with_reducible refine w_m hS ?_ ?_ ?_ ?_ ?_ (fun x hx => ?_)); (focus decide); (focus (first | decide | omega)); (focus omega); (focus (first | decide | omega)); (focus (first | decide | (simp only [ml]; omega)))))); (try simp (disch := omega) only [Int.reduceToNat, tn_c, tn8, tn8i, tn5, tn5z, tn6, tn6z, tn1, u3_ne, u3_eq, u3_ni, u3_nk, e1] at hx); subst hx)
      refine w_isPlace hS hk (hI.roq hq (by omega)) hpl.1 hpl.2 (fun p hp => ?_) (fun hp => ?_)
      · refine w_ite (fun _ => ?_) (fun z => absurd (show (1 : Int) ≠ 0 by decide) z)
        ((first | ((with_reducible refine w_s hS ?_ ?_ ?_ (fun x hx => ?_)); (focus decide); (focus (first | decide | omega)); (focus (first | decide | (simp only [sl]; omega)))) | ((with_reducible refine w_m hS ?_ ?_ ?_ ?_ ?_ (fun x hx => ?_)); (focus decide); (focus (first | decide | omega)); (focus omega); (focus (first | decide | omega)); (focus (first | decide | (simp only [ml]; omega)))) | (with_reducible refine w_k (by simp (disch := omega) only [w32_id]; exact rfl) ?_; ((with_reducible refine w_s hS ?_ ?_ ?_ (fun x hx => ?_)); (focus decide); (focus (first | decide | omega)); (focus (first | decide | (simp only [sl]; omega))))) | (with_reducible refine w_k (by simp (disch := omega) only [w32_id]; exact rfl) ?_; ((with_reducible refine w_m hS ?_ ?_ ?_ ?_ ?_ (fun x hx => ?_)); (focus decide); (focus (first | decide | omega)); (focus omega); (focus (first | decide | omega)); (focus (first | decide | (simp only [ml]; omega)))))); (try simp (disch := omega) only [Int.reduceToNat, tn_c, tn8, tn8i, tn5, tn5z, tn6, tn6z, tn1, u3_ne, u3_eq, u3_ni, u3_nk, f_0_0 hF] at hx); subst hx)
        refine w_settle hI hh (fun V' h1 h2 h3 => ?_)
        ((first | ((with_reducible refine w_s hS ?_ ?_ ?_ (fun x hx => ?_)); (focus decide); (focus (first | decide | omega)); (focus (first | decide | (simp only [sl]; omega)))) | ((with_reducible refine w_m hS ?_ ?_ ?_ ?_ ?_ (fun x hx => ?_)); (focus decide); (focus (first | decide | omega)); (focus omega); (focus (first | decide | omega)); (focus (first | decide | (simp only [ml]; omega)))) | (with_reducible refine w_k (by simp (disch := omega) only [w32_id]; exact rfl) ?_; ((with_reducible refine w_s hS ?_ ?_ ?_ (fun x hx => ?_)); (focus decide); (focus (first | decide | omega)); (focus (first | decide | (simp only [sl]; omega))))) | (with_reducible refine w_k (by simp (disch := omega) only [w32_id]; exact rfl) ?_; ((with_reducible refine w_m hS ?_ ?_ ?_ ?_ ?_ (fun x hx => ?_)); (focus decide); (focus (first | decide | omega)); (focus omega); (focus (first | decide | omega)); (focus (first | decide | (simp only [ml]; omega)))))); (try simp (disch := omega) only [Int.reduceToNat, tn_c, tn8, tn8i, tn5, tn5z, tn6, tn6z, tn1, u3_ne, u3_eq, u3_ni, u3_nk, h2] at hx); subst hx)
        exact w_ret (k1 h q p V' ⟨rfl, rfl, hh, hq, by rw [es]; exact hp⟩ h1 h2 h3)
      · refine w_ite (fun z => absurd rfl z) (fun _ => w_ret (k0 (fun h2 q2 p hp' => ?_)))
        obtain ⟨e1, e2, _, _, hp'⟩ := hp'
        have e1 := Int.ofNat.inj e1
        have e2 := Int.ofNat.inj e2
        subst e1 e2
        rw [es] at hp'
        exact hp p hp'
    · dsimp only
      refine w_ite (fun z => absurd z (by omega)) (fun _ => w_ite (fun _ => w_ret (k0 (fun h2 q2 p hp => ?_))) (fun z => absurd rfl z))
      obtain ⟨_, e2, _, h2, _⟩ := hp
      omega
  · ((first | ((with_reducible refine w_s hS ?_ ?_ ?_ (fun x hx => ?_)); (focus decide); (focus (first | decide | omega)); (focus (first | decide | (simp only [sl]; omega)))) | ((with_reducible refine w_m hS ?_ ?_ ?_ ?_ ?_ (fun x hx => ?_)); (focus decide); (focus (first | decide | omega)); (focus omega); (focus (first | decide | omega)); (focus (first | decide | (simp only [ml]; omega)))) | (with_reducible refine w_k (by simp (disch := omega) only [w32_id]; exact rfl) ?_; ((with_reducible refine w_s hS ?_ ?_ ?_ (fun x hx => ?_)); (focus decide); (focus (first | decide | omega)); (focus (first | decide | (simp only [sl]; omega))))) | (with_reducible refine w_k (by simp (disch := omega) only [w32_id]; exact rfl) ?_; ((with_reducible refine w_m hS ?_ ?_ ?_ ?_ ?_ (fun x hx => ?_)); (focus decide); (focus (first | decide | omega)); (focus omega); (focus (first | decide | omega)); (focus (first | decide | (simp only [ml]; omega)))))); (try simp (disch := omega) only [Int.reduceToNat, tn_c, tn8, tn8i, tn5, tn5z, tn6, tn6z, tn1, u3_ne, u3_eq, u3_ni, u3_nk, f_0_0 hF] at hx); subst hx)
    refine w_qO hS n2 (f_1_0 hF) b20 (fun n hn => l_2 hL hn) (fun q e hq => ?_) (fun hq => ?_)
    all_goals
      dsimp only
      refine w_ite (fun _ => w_ret (k0 (fun h2 q2 p hp => ?_))) (fun z => absurd rfl z)
      obtain ⟨e1, _, h1, _, _⟩ := hp
      omega
theorem w6p {q t : Nat} {person : Int} (hq : q < 60) (ht : t < 6) (e : (t : Int) = person + 1) : w32 ((w32 ((w32 (6 * (q : Int))) + person)) + 1) = ((6 * q + t : Nat) : Int) := by
  rw [w32_id (x := 6 * (q : Int)) (by omega) (by omega), w32_id (x := 6 * (q : Int) + person) (by omega) (by omega), w32_id (by omega) (by omega)]; omega
theorem T_value (hI : INV IT V R) (h' q' person : Int) : Wp (g_X8_value 0 h' q' person (V, R)) (fun r G => Wp (g_X9_value 0 h' q' person G) (PO r)) := by
  have hS := hI.SH
  obtain ⟨b20, b30, b40, b50⟩ := hI.IN.1
  unfold g_X8_value
  refine w_gv (by omega) ?_
  refine w_settledSheet hI (fun h q p V' hp hs hI' hd => ?_) (fun hp => ?_)
  · obtain ⟨rfl, rfl, hh, hq, hpk⟩ := id hp
    obtain ⟨s, e30, es, hk⟩ := hI'.sht hh
    have hpe := hI'.pers hh
    rw [es] at hpe
    have hpl := plc_q hI'.IQ hpe hq
    have ok := hI'.okr hh hd hq
    rw [es] at ok
    rw [← hs.pok hI (hI.roq5 hq), ← hs.same.f 30 0 rfl, es, ← hs.same.r 102 rfl] at hpk
    have plt := hpk.lt
    have psl := hpk.sl
    have ok := ok p plt
    dsimp only
    rw [e30]
    refine w_ite (fun _ => ?_) (fun z => absurd (show (s : Int) ≠ -1 by omega) z)
    refine w_31 hS hk (Or.inl rfl) ?_
    refine w_spotp (by omega) hpk (by omega) ?_
    refine w_32 hk (by omega) ?_
    refine w_ret ?_
    unfold g_X9_value
    refine w_gv (by omega) ?_
    refine w_rPlace hI' (fun h2 q2 p2 hp2 => ?_) (fun hp2 => absurd (hs.plq hI |>.mpr hp) (hp2 h q p))
    refine w_ite (fun _ => ?_) (fun z => absurd (show (1 : Int) ≠ 0 by decide) z)
    refine w_workOut hI' hh hd (fun V'' sm hI'' now => ?_)
    have hF'' := hI''.RF
    have es'' : (V'' 30 h 0).toNat = s := by rw [sm.f 30 0 rfl]; exact es
    have N := now.1 q hq p (by rw [es'']; unfold plc; rw [sm.r 32 rfl, sm.r 102 rfl]; exact plt)
    rw [es'', sm.r 102 rfl, sm.r 32 rfl, sm.r 33 rfl] at N
    have sl6 : slot (V' 102 0 q) p < 6 := slot_lt (by omega)
    ((first | ((with_reducible refine w_s hS ?_ ?_ ?_ (fun x hx => ?_)); (focus decide); (focus (first | decide | omega)); (focus (first | decide | (simp only [sl]; omega)))) | ((with_reducible refine w_m hS ?_ ?_ ?_ ?_ ?_ (fun x hx => ?_)); (focus decide); (focus (first | decide | omega)); (focus omega); (focus (first | decide | omega)); (focus (first | decide | (simp only [ml]; omega)))) | (with_reducible refine w_k (by simp (disch := omega) only [w32_id]; exact rfl) ?_; ((with_reducible refine w_s hS ?_ ?_ ?_ (fun x hx => ?_)); (focus decide); (focus (first | decide | omega)); (focus (first | decide | (simp only [sl]; omega))))) | (with_reducible refine w_k (by simp (disch := omega) only [w32_id]; exact rfl) ?_; ((with_reducible refine w_m hS ?_ ?_ ?_ ?_ ?_ (fun x hx => ?_)); (focus decide); (focus (first | decide | omega)); (focus omega); (focus (first | decide | omega)); (focus (first | decide | (simp only [ml]; omega)))))); (try simp (disch := omega) only [Int.reduceToNat, tn_c, tn8, tn8i, tn5, tn5z, tn6, tn6z, tn1, u3_ne, u3_eq, u3_ni, u3_nk, f_100_44 hF''] at hx); subst hx)
    rw [w6p (by omega) sl6 psl]
    refine w_144 hS (by omega) ?_
    rw [N.2]
    refine w_ite (fun z => ?_) (fun z => ?_)
    · ((first | ((with_reducible refine w_s hS ?_ ?_ ?_ (fun x hx => ?_)); (focus decide); (focus (first | decide | omega)); (focus (first | decide | (simp only [sl]; omega)))) | ((with_reducible refine w_m hS ?_ ?_ ?_ ?_ ?_ (fun x hx => ?_)); (focus decide); (focus (first | decide | omega)); (focus omega); (focus (first | decide | omega)); (focus (first | decide | (simp only [ml]; omega)))) | (with_reducible refine w_k (by simp (disch := omega) only [w32_id]; exact rfl) ?_; ((with_reducible refine w_s hS ?_ ?_ ?_ (fun x hx => ?_)); (focus decide); (focus (first | decide | omega)); (focus (first | decide | (simp only [sl]; omega))))) | (with_reducible refine w_k (by simp (disch := omega) only [w32_id]; exact rfl) ?_; ((with_reducible refine w_m hS ?_ ?_ ?_ ?_ ?_ (fun x hx => ?_)); (focus decide); (focus (first | decide | omega)); (focus omega); (focus (first | decide | omega)); (focus (first | decide | (simp only [ml]; omega)))))); (try simp (disch := omega) only [Int.reduceToNat, tn_c, tn8, tn8i, tn5, tn5z, tn6, tn6z, tn1, u3_ne, u3_eq, u3_ni, u3_nk, f_100_43 hF''] at hx); subst hx)
      refine w_143 hS (by omega) ?_
      rw [N.1]
      exact w_ret ⟨rfl, hI''⟩
    · exact w_ret ⟨ok.2.1 (by omega), hI''⟩
  · refine w_ite (fun z => absurd rfl z) (fun _ => w_ret ?_)
    unfold g_X9_value
    refine w_gv (by omega) ?_
    refine w_rPlace hI (fun h2 q2 p2 hp2 => absurd hp2 (hp h2 q2 p2)) (fun _ => ?_)
    exact w_ite (fun z => absurd rfl z) (fun _ => w_ret ⟨rfl, hI⟩)
theorem T_reason (hI : INV IT V R) (h' q' person : Int) : Wp (g_X8_reason 0 h' q' person (V, R)) (fun r G => Wp (g_X9_reason 0 h' q' person G) (PO r)) := by
  have hS := hI.SH
  obtain ⟨b20, b30, b40, b50⟩ := hI.IN.1
  unfold g_X8_reason
  refine w_gv (by omega) ?_
  refine w_settledSheet hI (fun h q p V' hp hs hI' hd => ?_) (fun hp => ?_)
  · obtain ⟨rfl, rfl, hh, hq, hpk⟩ := id hp
    obtain ⟨s, e30, es, hk⟩ := hI'.sht hh
    have hpe := hI'.pers hh
    rw [es] at hpe
    have hpl := plc_q hI'.IQ hpe hq
    rw [← hs.pok hI (hI.roq5 hq), ← hs.same.f 30 0 rfl, es, ← hs.same.r 102 rfl] at hpk
    have plt := hpk.lt
    have psl := hpk.sl
    dsimp only
    rw [e30]
    refine w_ite (fun _ => ?_) (fun z => absurd (show (s : Int) ≠ -1 by omega) z)
    refine w_31 hS hk (Or.inr rfl) ?_
    refine w_spotp (by omega) hpk (by omega) ?_
    refine w_33 hk (by omega) ?_
    refine w_ret ?_
    unfold g_X9_reason
    refine w_gv (by omega) ?_
    refine w_rPlace hI' (fun h2 q2 p2 hp2 => ?_) (fun hp2 => absurd (hs.plq hI |>.mpr hp) (hp2 h q p))
    refine w_ite (fun _ => ?_) (fun z => absurd (show (1 : Int) ≠ 0 by decide) z)
    refine w_workOut hI' hh hd (fun V'' sm hI'' now => ?_)
    have hF'' := hI''.RF
    have es'' : (V'' 30 h 0).toNat = s := by rw [sm.f 30 0 rfl]; exact es
    have N := now.1 q hq p (by rw [es'']; unfold plc; rw [sm.r 32 rfl, sm.r 102 rfl]; exact plt)
    rw [es'', sm.r 102 rfl, sm.r 32 rfl, sm.r 33 rfl] at N
    have sl6 : slot (V' 102 0 q) p < 6 := slot_lt (by omega)
    ((first | ((with_reducible refine w_s hS ?_ ?_ ?_ (fun x hx => ?_)); (focus decide); (focus (first | decide | omega)); (focus (first | decide | (simp only [sl]; omega)))) | ((with_reducible refine w_m hS ?_ ?_ ?_ ?_ ?_ (fun x hx => ?_)); (focus decide); (focus (first | decide | omega)); (focus omega); (focus (first | decide | omega)); (focus (first | decide | (simp only [ml]; omega)))) | (with_reducible refine w_k (by simp (disch := omega) only [w32_id]; exact rfl) ?_; ((with_reducible refine w_s hS ?_ ?_ ?_ (fun x hx => ?_)); (focus decide); (focus (first | decide | omega)); (focus (first | decide | (simp only [sl]; omega))))) | (with_reducible refine w_k (by simp (disch := omega) only [w32_id]; exact rfl) ?_; ((with_reducible refine w_m hS ?_ ?_ ?_ ?_ ?_ (fun x hx => ?_)); (focus decide); (focus (first | decide | omega)); (focus omega); (focus (first | decide | omega)); (focus (first | decide | (simp only [ml]; omega)))))); (try simp (disch := omega) only [Int.reduceToNat, tn_c, tn8, tn8i, tn5, tn5z, tn6, tn6z, tn1, u3_ne, u3_eq, u3_ni, u3_nk, f_100_44 hF''] at hx); subst hx)
    rw [w6p (by omega) sl6 psl]
    refine w_144 hS (by omega) ?_
    rw [N.2]
    exact w_ret ⟨rfl, hI''⟩
  · refine w_ite (fun z => absurd rfl z) (fun _ => w_ret ?_)
    unfold g_X9_reason
    refine w_gv (by omega) ?_
    refine w_rPlace hI (fun h2 q2 p2 hp2 => absurd hp2 (hp h2 q2 p2)) (fun _ => ?_)
    exact w_ite (fun z => absurd rfl z) (fun _ => w_ret ⟨rfl, hI⟩)
end Place
