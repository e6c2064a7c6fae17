section Frozen
variable {V : GV} {R : GR} {Q : Int → GS → Prop}
theorem w_51 {e h : Nat} {f : Int → GO} (hS : SH R) (he : e < rC R 50) (hh : h < rN R 51 e) (q : Wp (f (V 51 e h)) Q) : Wp ((gl 51 (V, R) (e : Int) (h : Int)).bind f) Q := by
  have s51 := hS.2.2.2.2.2.2.2.2.2
  refine w_gl (by omega) (by omega) (by omega) (by rw [tn_c, tn_c]; exact hh) (fun x hx => ?_)
  rw [tn_c, tn_c] at hx; subst hx; exact q
theorem w_51n {e : Nat} {f : Int → GO} (hS : SH R) (he : e < rC R 50) (q : Wp (f (rN R 51 e : Int)) Q) : Wp ((gal 51 (V, R) (e : Int)).bind f) Q := by
  have s51 := hS.2.2.2.2.2.2.2.2.2
  refine w_gal (by omega) (by omega) ?_
  rw [tn_c]; exact q
theorem INV.esh {T : GV → Prop} (hI : INV T V R) {e h : Nat} (he : e < rC R 50) (hh : h < rN R 51 e) : ∃ s n : Nat, V 51 e h = (s : Int) ∧ (V 51 e h).toNat = s ∧ V 50 e 1 = (n : Int) ∧ shk V R s (5 * n) ∧ n ≤ rC R 20 ∧ AR V s 133 134 (5760 * e + 144 * h) n := by
  obtain ⟨a, b, _⟩ := hI.IHs.2.2 e h he hh
  obtain ⟨_, ⟨_, c0, c1⟩, hs⟩ := hI.IE e he
  obtain ⟨l1, l2, ar⟩ := hs h hh
  obtain ⟨_, _, _, _, _, e2, e3, _⟩ := hI.SH.2.2
  refine ⟨(V 51 e h).toNat, (V 50 e 1).toNat, by omega, rfl, by omega, ⟨by omega, by omega, by omega, l1, l2, f_31_0 hI.RF (by omega), f_31_1 hI.RF (by omega)⟩, by omega, ar⟩
theorem epers (hI : INV IT V R) {s n o : Nat} (ar : AR V s 133 134 o n) (hn : n ≤ rC R 20) {r : Nat} (hr : r < n) (k5 : V 101 0 r = 5) : V 32 s (5 * r) = V 133 0 (o + 6 * r) ∧ 0 ≤ V 32 s (5 * r) ∧ V 32 s (5 * r) ≤ 5 := by
  obtain ⟨m0, r0⟩ := hI.IQ.k5 (by omega) k5
  obtain ⟨e, _, ok⟩ := (ar r hr m0).1 r0
  rw [e]; exact ⟨rfl, (ok.2.2.2.2.1 k5).2⟩
theorem eplc (hI : INV IT V R) {s n o : Nat} (ar : AR V s 133 134 o n) (hn : n ≤ rC R 20) {q : Nat} (hq : q < n) : 0 ≤ plc V s (V 102 0 q) ∧ plc V s (V 102 0 q) ≤ 5 := by
  unfold plc
  by_cases h : V 102 0 q = -1
  · rw [if_pos h]; omega
  · obtain ⟨r, er, hr, _, k5, _, _⟩ := hI.IQ.ro (by omega) h
    rw [if_neg h, er]; exact (epers hI ar hn (by omega) k5).2
theorem eans (hI : INV IT V R) {s n o q p t : Nat} (ar : AR V s 133 134 o n) (hn : n ≤ rC R 20) (hq : q < n) (m0 : V 103 0 q = 0) (hp : (V 102 0 q = -1 ∧ t = 0 ∧ p = 0) ∨ (V 102 0 q ≠ -1 ∧ t = p + 1 ∧ p < 5)) : V 32 s (5 * q + p) = V 133 0 (o + 6 * q + t) ∧ V 33 s (5 * q + p) = V 134 0 (o + 6 * q + t) ∧ okv V q (V 133 0 (o + 6 * q + t)) (V 134 0 (o + 6 * q + t)) := by
  rcases hp with ⟨r, rfl, rfl⟩ | ⟨r, rfl, p5⟩
  · exact (ar q hq m0).1 r
  · obtain ⟨m, er, _⟩ := hI.IQ.ro (by omega) r
    have := (ar q hq m0).2 (by omega) p p5
    exact ⟨this.1, this.2.1, this.2.2.1⟩
theorem we {e k : Nat} (he : e < 6) (hk : k < 5760) : w32 ((w32 (5760 * (e : Int))) + (k : Int)) = ((5760 * e + k : Nat) : Int) := by
  rw [w32_id (x := 5760 * (e : Int)) (by omega) (by omega), w32_id (by omega) (by omega)]; omega
theorem w_persThen {e h r s n : Nat} {f : Int × GS → GO} (hI : INV IT V R) (he : e < 6) (hh : h < 40) (ar : AR V s 133 134 (5760 * e + 144 * h) n) (hn : n ≤ rC R 20) (hr : r < n) (k5 : V 101 0 r = 5) (k : 0 ≤ V 32 s (5 * r) → V 32 s (5 * r) ≤ 5 → Wp (f (V 32 s (5 * r), (V, R))) Q) : Wp ((g_X9_personsThen 0 (e : Int) (h : Int) (r : Int) (V, R)).bind f) Q := by
  have hS := hI.SH
  have hF := hI.RF
  have b20 := hI.IN.1.1
  obtain ⟨e1, p0, p5⟩ := epers hI ar hn hr k5
  refine w_bind ?_
  unfold g_X9_personsThen
  refine w_gv (by omega) ?_
  ((first | ((with_reducible refine w_s hS ?_ ?_ ?_ (fun x hx => ?_)); (focus decide); (focus (first | decide | omega)); (focus (first | decide | (simp only [sl]; omega)))) | ((with_reducible refine w_m hS ?_ ?_ ?_ ?_ ?_ (fun x hx => ?_)); (focus decide); (focus (first | decide | omega)); (focus omega); (focus (first | decide | omega)); (focus (first | decide | (simp only [ml]; omega)))) | (with_reducible refine w_k (by simp (disch := omega) only [w32_id]; exact rfl) ?_; ((with_reducible refine w_s hS ?_ ?_ ?_ (fun x hx => ?_)); (focus decide); (focus (first | decide | omega)); (focus (first | decide | (simp only [sl]; omega))))) | (with_reducible refine w_k (by simp (disch := omega) only [w32_id]; exact rfl) ?_; ((with_reducible refine w_m hS ?_ ?_ ?_ ?_ ?_ (fun x hx => ?_)); (focus decide); (focus (first | decide | omega)); (focus omega); (focus (first | decide | omega)); (focus (first | decide | (simp only [ml]; omega)))))); (try simp (disch := omega) only [Int.reduceToNat, tn_c, tn8, tn8i, tn5, tn5z, tn6, tn6z, tn1, u3_ne, u3_eq, u3_ni, u3_nk, f_100_33 hF] at hx); subst hx)
  refine w_place (s := 0) hh (by omega) (by omega) ?_
  dsimp only
  rw [we he (by omega)]
  ((first | ((with_reducible refine w_s hS ?_ ?_ ?_ (fun x hx => ?_)); (focus decide); (focus (first | decide | omega)); (focus (first | decide | (simp only [sl]; omega)))) | ((with_reducible refine w_m hS ?_ ?_ ?_ ?_ ?_ (fun x hx => ?_)); (focus decide); (focus (first | decide | omega)); (focus omega); (focus (first | decide | omega)); (focus (first | decide | (simp only [ml]; omega)))) | (with_reducible refine w_k (by simp (disch := omega) only [w32_id]; exact rfl) ?_; ((with_reducible refine w_s hS ?_ ?_ ?_ (fun x hx => ?_)); (focus decide); (focus (first | decide | omega)); (focus (first | decide | (simp only [sl]; omega))))) | (with_reducible refine w_k (by simp (disch := omega) only [w32_id]; exact rfl) ?_; ((with_reducible refine w_m hS ?_ ?_ ?_ ?_ ?_ (fun x hx => ?_)); (focus decide); (focus (first | decide | omega)); (focus omega); (focus (first | decide | omega)); (focus (first | decide | (simp only [ml]; omega)))))); (try simp (disch := omega) only [Int.reduceToNat, tn_c, tn8, tn8i, tn5, tn5z, tn6, tn6z, tn1, u3_ne, u3_eq, u3_ni, u3_nk, tn_c] at hx); subst hx)
  have ei : V 133 0 (5760 * e + (144 * h + 6 * r + 0)) = V 32 s (5 * r) := by rw [e1]; congr 1; omega
  rw [ei, w32_id (by omega) (by omega)]
  exact w_ret (k p0 p5)
def fzq (V : GV) (R : GR) (e' h' q' person : Int) (e h q p : Nat) : Prop := e' = (e : Int) ∧ h' = (h : Int) ∧ q' = (q : Int) ∧ e < rC R 50 ∧ h < rN R 51 e ∧ (q : Int) < V 50 e 1 ∧ V 103 0 q = 0 ∧ pok V (V 51 e h).toNat (V 102 0 q) person p
theorem w_frozenSheet {e' h' q' person : Int} {f : Int × GS → GO} (hI : INV IT V R) (k1 : ∀ e h q p, fzq V R e' h' q' person e h q p → Wp (f (V 51 e h, (V, R))) Q) (k0 : (∀ e h q p, ¬ fzq V R e' h' q' person e h q p) → Wp (f (-1, (V, R))) Q) : Wp ((g_X8_frozenSheet 0 e' h' q' person (V, R)).bind f) Q := by
  have hS := hI.SH
  have hF := hI.RF
  have hL := hI.IL
  obtain ⟨b20, b30, b40, b50⟩ := hI.IN.1
  obtain ⟨n1, n2, n3, n4, n5, n6, n7, n8⟩ := hI.IN.2.1
  refine w_bind ?_
  unfold g_X8_frozenSheet
  refine w_gv (by omega) ?_
  refine w_eO hS n8 (f_0_3 hF) b50 (fun n hn => l_6 hL hn) (fun e ee he => ?_) (fun hn => ?_)
  · subst ee
    obtain ⟨_, ⟨_, c0, c1⟩, _⟩ := hI.IE e he
    ((first | ((with_reducible refine w_s hS ?_ ?_ ?_ (fun x hx => ?_)); (focus decide); (focus (first | decide | omega)); (focus (first | decide | (simp only [sl]; omega)))) | ((with_reducible refine w_m hS ?_ ?_ ?_ ?_ ?_ (fun x hx => ?_)); (focus decide); (focus (first | decide | omega)); (focus omega); (focus (first | decide | omega)); (focus (first | decide | (simp only [ml]; omega)))) | (with_reducible refine w_k (by simp (disch := omega) only [w32_id]; exact rfl) ?_; ((with_reducible refine w_s hS ?_ ?_ ?_ (fun x hx => ?_)); (focus decide); (focus (first | decide | omega)); (focus (first | decide | (simp only [sl]; omega))))) | (with_reducible refine w_k (by simp (disch := omega) only [w32_id]; exact rfl) ?_; ((with_reducible refine w_m hS ?_ ?_ ?_ ?_ ?_ (fun x hx => ?_)); (focus decide); (focus (first | decide | omega)); (focus omega); (focus (first | decide | omega)); (focus (first | decide | (simp only [ml]; omega)))))); (try simp (disch := omega) only [Int.reduceToNat, tn_c, tn8, tn8i, tn5, tn5z, tn6, tn6z, tn1, u3_ne, u3_eq, u3_ni, u3_nk, f_0_0 hF] at hx); subst hx)
    refine w_qO hS n2 (f_1_0 hF) b20 (fun n hn => l_2 hL hn) (fun q eq hq => ?_) (fun hn => ?_)
    · subst eq
      dsimp only
      refine w_ite (fun z => absurd z (by omega)) (fun _ => w_ite (fun z => absurd z (by omega)) (fun _ => ?_))
      obtain ⟨_, ⟨e1, _, _⟩, ⟨e2, m0, _⟩, _⟩ := (hI.IQ.1 q hq).1
      ((first | ((with_reducible refine w_s hS ?_ ?_ ?_ (fun x hx => ?_)); (focus decide); (focus (first | decide | omega)); (focus (first | decide | (simp only [sl]; omega)))) | ((with_reducible refine w_m hS ?_ ?_ ?_ ?_ ?_ (fun x hx => ?_)); (focus decide); (focus (first | decide | omega)); (focus omega); (focus (first | decide | omega)); (focus (first | decide | (simp only [ml]; omega)))) | (with_reducible refine w_k (by simp (disch := omega) only [w32_id]; exact rfl) ?_; ((with_reducible refine w_s hS ?_ ?_ ?_ (fun x hx => ?_)); (focus decide); (focus (first | decide | omega)); (focus (first | decide | (simp only [sl]; omega))))) | (with_reducible refine w_k (by simp (disch := omega) only [w32_id]; exact rfl) ?_; ((with_reducible refine w_m hS ?_ ?_ ?_ ?_ ?_ (fun x hx => ?_)); (focus decide); (focus (first | decide | omega)); (focus omega); (focus (first | decide | omega)); (focus (first | decide | (simp only [ml]; omega)))))); (try simp (disch := omega) only [Int.reduceToNat, tn_c, tn8, tn8i, tn5, tn5z, tn6, tn6z, tn1, u3_ne, u3_eq, u3_ni, u3_nk, e2] at hx); subst hx)
      refine w_ite (fun m => ?_) (fun m => w_ret (k0 (fun e2 h2 q2 p hp => ?_)))
      · ((first | ((with_reducible refine w_s hS ?_ ?_ ?_ (fun x hx => ?_)); (focus decide); (focus (first | decide | omega)); (focus (first | decide | (simp only [sl]; omega)))) | ((with_reducible refine w_m hS ?_ ?_ ?_ ?_ ?_ (fun x hx => ?_)); (focus decide); (focus (first | decide | omega)); (focus omega); (focus (first | decide | omega)); (focus (first | decide | (simp only [ml]; omega)))) | (with_reducible refine w_k (by simp (disch := omega) only [w32_id]; exact rfl) ?_; ((with_reducible refine w_s hS ?_ ?_ ?_ (fun x hx => ?_)); (focus decide); (focus (first | decide | omega)); (focus (first | decide | (simp only [sl]; omega))))) | (with_reducible refine w_k (by simp (disch := omega) only [w32_id]; exact rfl) ?_; ((with_reducible refine w_m hS ?_ ?_ ?_ ?_ ?_ (fun x hx => ?_)); (focus decide); (focus (first | decide | omega)); (focus omega); (focus (first | decide | omega)); (focus (first | decide | (simp only [ml]; omega)))))); (try simp (disch := omega) only [Int.reduceToNat, tn_c, tn8, tn8i, tn5, tn5z, tn6, tn6z, tn1, u3_ne, u3_eq, u3_ni, u3_nk, tn_c] at hx); subst hx)
        refine w_ite (fun z => w_ret (k0 (fun e2 h2 q2 p hp => ?_))) (fun z => w_ite (fun y => w_ret (k0 (fun e2 h2 q2 p hp => ?_))) (fun y => ?_))
        · obtain ⟨a1, a2, a3, _, _, a6, _⟩ := hp
          have a1 := Int.ofNat.inj a1
          subst a1
          omega
        · obtain ⟨a1, a2, a3, _⟩ := hp
          omega
        · obtain ⟨h, rfl⟩ := n_pos (q := h') (by omega)
          ((first | ((with_reducible refine w_s hS ?_ ?_ ?_ (fun x hx => ?_)); (focus decide); (focus (first | decide | omega)); (focus (first | decide | (simp only [sl]; omega)))) | ((with_reducible refine w_m hS ?_ ?_ ?_ ?_ ?_ (fun x hx => ?_)); (focus decide); (focus (first | decide | omega)); (focus omega); (focus (first | decide | omega)); (focus (first | decide | (simp only [ml]; omega)))) | (with_reducible refine w_k (by simp (disch := omega) only [w32_id]; exact rfl) ?_; ((with_reducible refine w_s hS ?_ ?_ ?_ (fun x hx => ?_)); (focus decide); (focus (first | decide | omega)); (focus (first | decide | (simp only [sl]; omega))))) | (with_reducible refine w_k (by simp (disch := omega) only [w32_id]; exact rfl) ?_; ((with_reducible refine w_m hS ?_ ?_ ?_ ?_ ?_ (fun x hx => ?_)); (focus decide); (focus (first | decide | omega)); (focus omega); (focus (first | decide | omega)); (focus (first | decide | (simp only [ml]; omega)))))); (try simp (disch := omega) only [Int.reduceToNat, tn_c, tn8, tn8i, tn5, tn5z, tn6, tn6z, tn1, u3_ne, u3_eq, u3_ni, u3_nk, f_50_0 hF] at hx); subst hx)
          refine w_51n hS he ?_
          refine w_ite (fun hh => ?_) (fun hh => w_ret (k0 (fun e2 h2 q2 p hp => ?_)))
          · have hh : h < rN R 51 e := by omega
            ((first | ((with_reducible refine w_s hS ?_ ?_ ?_ (fun x hx => ?_)); (focus decide); (focus (first | decide | omega)); (focus (first | decide | (simp only [sl]; omega)))) | ((with_reducible refine w_m hS ?_ ?_ ?_ ?_ ?_ (fun x hx => ?_)); (focus decide); (focus (first | decide | omega)); (focus omega); (focus (first | decide | omega)); (focus (first | decide | (simp only [ml]; omega)))) | (with_reducible refine w_k (by simp (disch := omega) only [w32_id]; exact rfl) ?_; ((with_reducible refine w_s hS ?_ ?_ ?_ (fun x hx => ?_)); (focus decide); (focus (first | decide | omega)); (focus (first | decide | (simp only [sl]; omega))))) | (with_reducible refine w_k (by simp (disch := omega) only [w32_id]; exact rfl) ?_; ((with_reducible refine w_m hS ?_ ?_ ?_ ?_ ?_ (fun x hx => ?_)); (focus decide); (focus (first | decide | omega)); (focus omega); (focus (first | decide | omega)); (focus (first | decide | (simp only [ml]; omega)))))); (try simp (disch := omega) only [Int.reduceToNat, tn_c, tn8, tn8i, tn5, tn5z, tn6, tn6z, tn1, u3_ne, u3_eq, u3_ni, u3_nk, f_50_0 hF] at hx); subst hx)
            refine w_51 hS he hh ?_
            obtain ⟨s, n, es, es', en, hk, hn, ar⟩ := hI.esh he hh
            rw [es]
            have hpl := eplc hI ar hn (q := q) (by omega)
            ((first | ((with_reducible refine w_s hS ?_ ?_ ?_ (fun x hx => ?_)); (focus decide); (focus (first | decide | omega)); (focus (first | decide | (simp only [sl]; omega)))) | ((with_reducible refine w_m hS ?_ ?_ ?_ ?_ ?_ (fun x hx => ?_)); (focus decide); (focus (first | decide | omega)); (focus omega); (focus (first | decide | omega)); (focus (first | decide | (simp only [ml]; omega)))) | (with_reducible refine w_k (by simp (disch := omega) only [w32_id]; exact rfl) ?_; ((with_reducible refine w_s hS ?_ ?_ ?_ (fun x hx => ?_)); (focus decide); (focus (first | decide | omega)); (focus (first | decide | (simp only [sl]; omega))))) | (with_reducible refine w_k (by simp (disch := omega) only [w32_id]; exact rfl) ?_; ((with_reducible refine w_m hS ?_ ?_ ?_ ?_ ?_ (fun x hx => ?_)); (focus decide); (focus (first | decide | omega)); (focus omega); (focus (first | decide | omega)); (focus (first | decide | (simp only [ml]; omega)))))); (try simp (disch := omega) only [Int.reduceToNat, tn_c, tn8, tn8i, tn5, tn5z, tn6, tn6z, tn1, u3_ne, u3_eq, u3_ni, u3_nk, e1] at hx); subst hx)
            refine w_isPlace hS hk (hI.roq hq (by omega)) hpl.1 hpl.2 (fun p hp => ?_) (fun hp => ?_)
            · refine w_ite (fun z => absurd (show (1 : Int) = 0 from z) (by decide)) (fun _ => w_ret ?_)
              have := k1 e h q p ⟨rfl, rfl, rfl, he, hh, by omega, m, by rw [es']; exact hp⟩
              rw [es] at this; exact this
            · refine w_ite (fun _ => w_ret (k0 (fun e2 h2 q2 p hp' => ?_))) (fun z => absurd rfl z)
              obtain ⟨a1, a2, a3, _, _, _, _, hp'⟩ := hp'
              have a1 := Int.ofNat.inj a1
              have a2 := Int.ofNat.inj a2
              have a3 := Int.ofNat.inj a3
              subst a1 a2 a3
              rw [es'] at hp'
              exact hp p hp'
          · obtain ⟨a1, a2, a3, _, a5, _⟩ := hp
            have a1 := Int.ofNat.inj a1
            subst a1
            omega
      · obtain ⟨a1, a2, a3, _, _, _, a7, _⟩ := hp
        have a3 := Int.ofNat.inj a3
        subst a3
        exact m a7
    · dsimp only
      refine w_ite (fun z => absurd z (by omega)) (fun _ => w_ite (fun _ => w_ret (k0 (fun e2 h2 q2 p hp => ?_))) (fun z => absurd rfl z))
      obtain ⟨a1, a2, a3, _, _, a6, _⟩ := hp
      have a1 := Int.ofNat.inj a1
      subst a1
      omega
  · ((first | ((with_reducible refine w_s hS ?_ ?_ ?_ (fun x hx => ?_)); (focus decide); (focus (first | decide | omega)); (focus (first | decide | (simp only [sl]; omega)))) | ((with_reducible refine w_m hS ?_ ?_ ?_ ?_ ?_ (fun x hx => ?_)); (focus decide); (focus (first | decide | omega)); (focus omega); (focus (first | decide | omega)); (focus (first | decide | (simp only [ml]; omega)))) | (with_reducible refine w_k (by simp (disch := omega) only [w32_id]; exact rfl) ?_; ((with_reducible refine w_s hS ?_ ?_ ?_ (fun x hx => ?_)); (focus decide); (focus (first | decide | omega)); (focus (first | decide | (simp only [sl]; omega))))) | (with_reducible refine w_k (by simp (disch := omega) only [w32_id]; exact rfl) ?_; ((with_reducible refine w_m hS ?_ ?_ ?_ ?_ ?_ (fun x hx => ?_)); (focus decide); (focus (first | decide | omega)); (focus omega); (focus (first | decide | omega)); (focus (first | decide | (simp only [ml]; omega)))))); (try simp (disch := omega) only [Int.reduceToNat, tn_c, tn8, tn8i, tn5, tn5z, tn6, tn6z, tn1, u3_ne, u3_eq, u3_ni, u3_nk, f_0_0 hF] at hx); subst hx)
    refine w_qO hS n2 (f_1_0 hF) b20 (fun n hn => l_2 hL hn) (fun q eq hq => ?_) (fun hn => ?_)
    all_goals
      dsimp only
      refine w_ite (fun _ => w_ret (k0 (fun e2 h2 q2 p hp => ?_))) (fun z => absurd rfl z)
      obtain ⟨a1, a2, a3, a4, _⟩ := hp
      omega
theorem w_isFrozen {e' h' q' person : Int} {f : Int × GS → GO} (hI : INV IT V R) (k1 : ∀ e h q p, fzq V R e' h' q' person e h q p → Wp (f (1, (V, R))) Q) (k0 : (∀ e h q p, ¬ fzq V R e' h' q' person e h q p) → Wp (f (0, (V, R))) Q) : Wp ((g_X9_isFrozen 0 e' h' q' person (V, R)).bind f) Q := by
  have hS := hI.SH
  have hF := hI.RF
  obtain ⟨b20, b30, b40, b50⟩ := hI.IN.1
  obtain ⟨n1, n2, n3, n4, n5, n6, n7, n8⟩ := hI.IN.2.1
  refine w_bind ?_
  unfold g_X9_isFrozen
  refine w_gv (by omega) ?_
  refine w_isE hS n7 b50 (fun e ee he => ?_) (fun hn => ?_)
  · subst ee
    obtain ⟨⟨d1, d2⟩, ⟨d3, c0, c1⟩, _⟩ := hI.IE e he
    refine w_ite (fun z => absurd (show (1 : Int) = 0 from z) (by decide)) (fun _ => ?_)
    ((first | ((with_reducible refine w_s hS ?_ ?_ ?_ (fun x hx => ?_)); (focus decide); (focus (first | decide | omega)); (focus (first | decide | (simp only [sl]; omega)))) | ((with_reducible refine w_m hS ?_ ?_ ?_ ?_ ?_ (fun x hx => ?_)); (focus decide); (focus (first | decide | omega)); (focus omega); (focus (first | decide | omega)); (focus (first | decide | (simp only [ml]; omega)))) | (with_reducible refine w_k (by simp (disch := omega) only [w32_id]; exact rfl) ?_; ((with_reducible refine w_s hS ?_ ?_ ?_ (fun x hx => ?_)); (focus decide); (focus (first | decide | omega)); (focus (first | decide | (simp only [sl]; omega))))) | (with_reducible refine w_k (by simp (disch := omega) only [w32_id]; exact rfl) ?_; ((with_reducible refine w_m hS ?_ ?_ ?_ ?_ ?_ (fun x hx => ?_)); (focus decide); (focus (first | decide | omega)); (focus omega); (focus (first | decide | omega)); (focus (first | decide | (simp only [ml]; omega)))))); (try simp (disch := omega) only [Int.reduceToNat, tn_c, tn8, tn8i, tn5, tn5z, tn6, tn6z, tn1, u3_ne, u3_eq, u3_ni, u3_nk, f_100_31 hF] at hx); subst hx)
    ((first | ((with_reducible refine w_s hS ?_ ?_ ?_ (fun x hx => ?_)); (focus decide); (focus (first | decide | omega)); (focus (first | decide | (simp only [sl]; omega)))) | ((with_reducible refine w_m hS ?_ ?_ ?_ ?_ ?_ (fun x hx => ?_)); (focus decide); (focus (first | decide | omega)); (focus omega); (focus (first | decide | omega)); (focus (first | decide | (simp only [ml]; omega)))) | (with_reducible refine w_k (by simp (disch := omega) only [w32_id]; exact rfl) ?_; ((with_reducible refine w_s hS ?_ ?_ ?_ (fun x hx => ?_)); (focus decide); (focus (first | decide | omega)); (focus (first | decide | (simp only [sl]; omega))))) | (with_reducible refine w_k (by simp (disch := omega) only [w32_id]; exact rfl) ?_; ((with_reducible refine w_m hS ?_ ?_ ?_ ?_ ?_ (fun x hx => ?_)); (focus decide); (focus (first | decide | omega)); (focus omega); (focus (first | decide | omega)); (focus (first | decide | (simp only [ml]; omega)))))); (try simp (disch := omega) only [Int.reduceToNat, tn_c, tn8, tn8i, tn5, tn5z, tn6, tn6z, tn1, u3_ne, u3_eq, u3_ni, u3_nk, d1] at hx); subst hx)
    refine w_inw (by omega) (by omega) (fun hw => ?_) (fun hw => ?_)
    · obtain ⟨h, rfl⟩ := n_pos (q := h') (by omega)
      have hh : h < rN R 51 e := by omega
      obtain ⟨s, n, es, es', en, hk, hn, ar⟩ := hI.esh he hh
      refine w_ite (fun z => absurd (show (1 : Int) = 0 from z) (by decide)) (fun _ => ?_)
      ((first | ((with_reducible refine w_s hS ?_ ?_ ?_ (fun x hx => ?_)); (focus decide); (focus (first | decide | omega)); (focus (first | decide | (simp only [sl]; omega)))) | ((with_reducible refine w_m hS ?_ ?_ ?_ ?_ ?_ (fun x hx => ?_)); (focus decide); (focus (first | decide | omega)); (focus omega); (focus (first | decide | omega)); (focus (first | decide | (simp only [ml]; omega)))) | (with_reducible refine w_k (by simp (disch := omega) only [w32_id]; exact rfl) ?_; ((with_reducible refine w_s hS ?_ ?_ ?_ (fun x hx => ?_)); (focus decide); (focus (first | decide | omega)); (focus (first | decide | (simp only [sl]; omega))))) | (with_reducible refine w_k (by simp (disch := omega) only [w32_id]; exact rfl) ?_; ((with_reducible refine w_m hS ?_ ?_ ?_ ?_ ?_ (fun x hx => ?_)); (focus decide); (focus (first | decide | omega)); (focus omega); (focus (first | decide | omega)); (focus (first | decide | (simp only [ml]; omega)))))); (try simp (disch := omega) only [Int.reduceToNat, tn_c, tn8, tn8i, tn5, tn5z, tn6, tn6z, tn1, u3_ne, u3_eq, u3_ni, u3_nk, f_100_32 hF] at hx); subst hx)
      ((first | ((with_reducible refine w_s hS ?_ ?_ ?_ (fun x hx => ?_)); (focus decide); (focus (first | decide | omega)); (focus (first | decide | (simp only [sl]; omega)))) | ((with_reducible refine w_m hS ?_ ?_ ?_ ?_ ?_ (fun x hx => ?_)); (focus decide); (focus (first | decide | omega)); (focus omega); (focus (first | decide | omega)); (focus (first | decide | (simp only [ml]; omega)))) | (with_reducible refine w_k (by simp (disch := omega) only [w32_id]; exact rfl) ?_; ((with_reducible refine w_s hS ?_ ?_ ?_ (fun x hx => ?_)); (focus decide); (focus (first | decide | omega)); (focus (first | decide | (simp only [sl]; omega))))) | (with_reducible refine w_k (by simp (disch := omega) only [w32_id]; exact rfl) ?_; ((with_reducible refine w_m hS ?_ ?_ ?_ ?_ ?_ (fun x hx => ?_)); (focus decide); (focus (first | decide | omega)); (focus omega); (focus (first | decide | omega)); (focus (first | decide | (simp only [ml]; omega)))))); (try simp (disch := omega) only [Int.reduceToNat, tn_c, tn8, tn8i, tn5, tn5z, tn6, tn6z, tn1, u3_ne, u3_eq, u3_ni, u3_nk, d3] at hx); subst hx)
      refine w_inw (by omega) (by omega) (fun hw2 => ?_) (fun hw2 => ?_)
      · obtain ⟨q, rfl⟩ := n_pos (q := q') (by omega)
        have hq : q < rC R 20 := by omega
        refine w_ite (fun z => absurd (show (1 : Int) = 0 from z) (by decide)) (fun _ => ?_)
        ((first | ((with_reducible refine w_s hS ?_ ?_ ?_ (fun x hx => ?_)); (focus decide); (focus (first | decide | omega)); (focus (first | decide | (simp only [sl]; omega)))) | ((with_reducible refine w_m hS ?_ ?_ ?_ ?_ ?_ (fun x hx => ?_)); (focus decide); (focus (first | decide | omega)); (focus omega); (focus (first | decide | omega)); (focus (first | decide | (simp only [ml]; omega)))) | (with_reducible refine w_k (by simp (disch := omega) only [w32_id]; exact rfl) ?_; ((with_reducible refine w_s hS ?_ ?_ ?_ (fun x hx => ?_)); (focus decide); (focus (first | decide | omega)); (focus (first | decide | (simp only [sl]; omega))))) | (with_reducible refine w_k (by simp (disch := omega) only [w32_id]; exact rfl) ?_; ((with_reducible refine w_m hS ?_ ?_ ?_ ?_ ?_ (fun x hx => ?_)); (focus decide); (focus (first | decide | omega)); (focus omega); (focus (first | decide | omega)); (focus (first | decide | (simp only [ml]; omega)))))); (try simp (disch := omega) only [Int.reduceToNat, tn_c, tn8, tn8i, tn5, tn5z, tn6, tn6z, tn1, u3_ne, u3_eq, u3_ni, u3_nk, f_100_3 hF] at hx); subst hx)
        ((first | ((with_reducible refine w_s hS ?_ ?_ ?_ (fun x hx => ?_)); (focus decide); (focus (first | decide | omega)); (focus (first | decide | (simp only [sl]; omega)))) | ((with_reducible refine w_m hS ?_ ?_ ?_ ?_ ?_ (fun x hx => ?_)); (focus decide); (focus (first | decide | omega)); (focus omega); (focus (first | decide | omega)); (focus (first | decide | (simp only [ml]; omega)))) | (with_reducible refine w_k (by simp (disch := omega) only [w32_id]; exact rfl) ?_; ((with_reducible refine w_s hS ?_ ?_ ?_ (fun x hx => ?_)); (focus decide); (focus (first | decide | omega)); (focus (first | decide | (simp only [sl]; omega))))) | (with_reducible refine w_k (by simp (disch := omega) only [w32_id]; exact rfl) ?_; ((with_reducible refine w_m hS ?_ ?_ ?_ ?_ ?_ (fun x hx => ?_)); (focus decide); (focus (first | decide | omega)); (focus omega); (focus (first | decide | omega)); (focus (first | decide | (simp only [ml]; omega)))))); (try simp (disch := omega) only [Int.reduceToNat, tn_c, tn8, tn8i, tn5, tn5z, tn6, tn6z, tn1, u3_ne, u3_eq, u3_ni, u3_nk, tn_c] at hx); subst hx)
        obtain ⟨_, _, ⟨_, m0, _⟩, _⟩ := (hI.IQ.1 q hq).1
        refine w_ite (fun m => ?_) (fun m => w_ret (k0 (fun e2 h2 q2 p hp => ?_)))
        · have m : V 103 0 q = 0 := by omega
          ((first | ((with_reducible refine w_s hS ?_ ?_ ?_ (fun x hx => ?_)); (focus decide); (focus (first | decide | omega)); (focus (first | decide | (simp only [sl]; omega)))) | ((with_reducible refine w_m hS ?_ ?_ ?_ ?_ ?_ (fun x hx => ?_)); (focus decide); (focus (first | decide | omega)); (focus omega); (focus (first | decide | omega)); (focus (first | decide | (simp only [ml]; omega)))) | (with_reducible refine w_k (by simp (disch := omega) only [w32_id]; exact rfl) ?_; ((with_reducible refine w_s hS ?_ ?_ ?_ (fun x hx => ?_)); (focus decide); (focus (first | decide | omega)); (focus (first | decide | (simp only [sl]; omega))))) | (with_reducible refine w_k (by simp (disch := omega) only [w32_id]; exact rfl) ?_; ((with_reducible refine w_m hS ?_ ?_ ?_ ?_ ?_ (fun x hx => ?_)); (focus decide); (focus (first | decide | omega)); (focus omega); (focus (first | decide | omega)); (focus (first | decide | (simp only [ml]; omega)))))); (try simp (disch := omega) only [Int.reduceToNat, tn_c, tn8, tn8i, tn5, tn5z, tn6, tn6z, tn1, u3_ne, u3_eq, u3_ni, u3_nk, f_100_2 hF] at hx); subst hx)
          ((first | ((with_reducible refine w_s hS ?_ ?_ ?_ (fun x hx => ?_)); (focus decide); (focus (first | decide | omega)); (focus (first | decide | (simp only [sl]; omega)))) | ((with_reducible refine w_m hS ?_ ?_ ?_ ?_ ?_ (fun x hx => ?_)); (focus decide); (focus (first | decide | omega)); (focus omega); (focus (first | decide | omega)); (focus (first | decide | (simp only [ml]; omega)))) | (with_reducible refine w_k (by simp (disch := omega) only [w32_id]; exact rfl) ?_; ((with_reducible refine w_s hS ?_ ?_ ?_ (fun x hx => ?_)); (focus decide); (focus (first | decide | omega)); (focus (first | decide | (simp only [sl]; omega))))) | (with_reducible refine w_k (by simp (disch := omega) only [w32_id]; exact rfl) ?_; ((with_reducible refine w_m hS ?_ ?_ ?_ ?_ ?_ (fun x hx => ?_)); (focus decide); (focus (first | decide | omega)); (focus omega); (focus (first | decide | omega)); (focus (first | decide | (simp only [ml]; omega)))))); (try simp (disch := omega) only [Int.reduceToNat, tn_c, tn8, tn8i, tn5, tn5z, tn6, tn6z, tn1, u3_ne, u3_eq, u3_ni, u3_nk, tn_c] at hx); subst hx)
          by_cases t : V 102 0 q = -1
          · refine w_ite (fun z => absurd z (by omega)) (fun _ => ?_)
            refine w_ite (fun z => w_ret (k0 (fun e2 h2 q2 p hp => ?_))) (fun z => w_ret (k1 e h q 0 ⟨rfl, rfl, rfl, he, hh, by omega, m, Or.inl ⟨t, by omega, rfl⟩⟩))
            obtain ⟨a1, a2, a3, _, _, _, _, hp⟩ := hp
            have a3 := Int.ofNat.inj a3
            subst a3
            rcases hp with ⟨_, w, _⟩ | ⟨w, _⟩
            · exact z w
            · exact w t
          · obtain ⟨r, er, hr, _, k5, _, _⟩ := hI.IQ.ro hq t
            refine w_ite (fun _ => ?_) (fun z => absurd (show V 102 0 q ≥ 0 by omega) z)
            ((first | ((with_reducible refine w_s hS ?_ ?_ ?_ (fun x hx => ?_)); (focus decide); (focus (first | decide | omega)); (focus (first | decide | (simp only [sl]; omega)))) | ((with_reducible refine w_m hS ?_ ?_ ?_ ?_ ?_ (fun x hx => ?_)); (focus decide); (focus (first | decide | omega)); (focus omega); (focus (first | decide | omega)); (focus (first | decide | (simp only [ml]; omega)))) | (with_reducible refine w_k (by simp (disch := omega) only [w32_id]; exact rfl) ?_; ((with_reducible refine w_s hS ?_ ?_ ?_ (fun x hx => ?_)); (focus decide); (focus (first | decide | omega)); (focus (first | decide | (simp only [sl]; omega))))) | (with_reducible refine w_k (by simp (disch := omega) only [w32_id]; exact rfl) ?_; ((with_reducible refine w_m hS ?_ ?_ ?_ ?_ ?_ (fun x hx => ?_)); (focus decide); (focus (first | decide | omega)); (focus omega); (focus (first | decide | omega)); (focus (first | decide | (simp only [ml]; omega)))))); (try simp (disch := omega) only [Int.reduceToNat, tn_c, tn8, tn8i, tn5, tn5z, tn6, tn6z, tn1, u3_ne, u3_eq, u3_ni, u3_nk, f_100_2 hF] at hx); subst hx)
            ((first | ((with_reducible refine w_s hS ?_ ?_ ?_ (fun x hx => ?_)); (focus decide); (focus (first | decide | omega)); (focus (first | decide | (simp only [sl]; omega)))) | ((with_reducible refine w_m hS ?_ ?_ ?_ ?_ ?_ (fun x hx => ?_)); (focus decide); (focus (first | decide | omega)); (focus omega); (focus (first | decide | omega)); (focus (first | decide | (simp only [ml]; omega)))) | (with_reducible refine w_k (by simp (disch := omega) only [w32_id]; exact rfl) ?_; ((with_reducible refine w_s hS ?_ ?_ ?_ (fun x hx => ?_)); (focus decide); (focus (first | decide | omega)); (focus (first | decide | (simp only [sl]; omega))))) | (with_reducible refine w_k (by simp (disch := omega) only [w32_id]; exact rfl) ?_; ((with_reducible refine w_m hS ?_ ?_ ?_ ?_ ?_ (fun x hx => ?_)); (focus decide); (focus (first | decide | omega)); (focus omega); (focus (first | decide | omega)); (focus (first | decide | (simp only [ml]; omega)))))); (try simp (disch := omega) only [Int.reduceToNat, tn_c, tn8, tn8i, tn5, tn5z, tn6, tn6z, tn1, u3_ne, u3_eq, u3_ni, u3_nk, er] at hx); subst hx)
            refine w_persThen hI (by omega) (by omega) ar hn (by omega) k5 (fun h0 h5 => ?_)
            dsimp only
            have epl : plc V s (V 102 0 q) = V 32 s (5 * r) := by unfold plc; rw [if_neg t, er, tn_c]
            refine w_inw (by omega) (by omega) (fun z => w_gzr (Or.inr rfl) (k1 e h q person.toNat ⟨rfl, rfl, rfl, he, hh, by omega, m, Or.inr ⟨t, by omega, by rw [es', epl]; omega⟩⟩)) (fun z => w_gzr (Or.inl rfl) (k0 (fun e2 h2 q2 p hp => ?_)))
            obtain ⟨a1, a2, a3, _, _, _, _, hp⟩ := hp
            have a1 := Int.ofNat.inj a1
            have a2 := Int.ofNat.inj a2
            have a3 := Int.ofNat.inj a3
            subst a1 a2 a3
            rcases hp with ⟨w, _⟩ | ⟨_, w, hp⟩
            · exact t w
            · rw [es', epl] at hp; omega
        · obtain ⟨a1, a2, a3, _, _, _, a7, _⟩ := hp
          have a3 := Int.ofNat.inj a3
          subst a3
          omega
      · refine w_ite (fun _ => w_ret (k0 (fun e2 h2 q2 p hp => ?_))) (fun z => absurd rfl z)
        obtain ⟨a1, a2, a3, _, _, a6, _⟩ := hp
        have a1 := Int.ofNat.inj a1
        subst a1
        omega
    · refine w_ite (fun _ => w_ret (k0 (fun e2 h2 q2 p hp => ?_))) (fun z => absurd rfl z)
      obtain ⟨a1, a2, a3, _, a5, _⟩ := hp
      have a1 := Int.ofNat.inj a1
      subst a1
      omega
  · refine w_ite (fun _ => w_ret (k0 (fun e2 h2 q2 p hp => ?_))) (fun z => absurd rfl z)
    obtain ⟨a1, a2, a3, a4, _⟩ := hp
    omega
theorem pok.place {s p : Nat} {r person : Int} (h : pok V s r person p) (p5 : p < 5) : (r = -1 ∧ slot r p = 0 ∧ p = 0) ∨ (r ≠ -1 ∧ slot r p = p + 1 ∧ p < 5) := by
  unfold slot
  rcases h with ⟨e, _, e'⟩ | ⟨e, _, _⟩
  · exact Or.inl ⟨e, by rw [if_pos e], e'⟩
  · exact Or.inr ⟨e, by rw [if_neg e], p5⟩
theorem T_frozen (hI : INV IT V R) (e' h' q' person : Int) : Wp (g_X8_frozen 0 e' h' q' person (V, R)) (fun r G => Wp (g_X9_frozen 0 e' h' q' person G) (PO r)) := by
  have hS := hI.SH
  have hF := hI.RF
  obtain ⟨b20, b30, b40, b50⟩ := hI.IN.1
  unfold g_X8_frozen
  refine w_gv (by omega) ?_
  refine w_frozenSheet hI (fun e h q p hp => ?_) (fun hp => ?_)
  · obtain ⟨rfl, rfl, rfl, he, hh, hq, m0, hpk⟩ := id hp
    obtain ⟨s, n, es, es', en, hk, hn, ar⟩ := hI.esh he hh
    have d2 := (hI.IE e he).1.2
    rw [es'] at hpk
    have hpl := eplc hI ar hn (q := q) (by omega)
    have plt := hpk.lt
    have psl := hpk.sl
    obtain ⟨a1, a2, a3⟩ := eans hI ar hn (by omega) m0 (hpk.place (by omega))
    have sl6 : slot (V 102 0 q) p < 6 := slot_lt (by omega)
    dsimp only
    rw [es]
    refine w_ite (fun _ => ?_) (fun z => absurd (show (s : Int) ≠ -1 by omega) z)
    refine w_31 hS hk (Or.inl rfl) ?_
    refine w_spotp (by omega) hpk (by omega) ?_
    refine w_32 hk (by omega) ?_
    refine w_ret ?_
    unfold g_X9_frozen
    refine w_gv (by omega) ?_
    refine w_isFrozen hI (fun e2 h2 q2 p2 hp2 => ?_) (fun hp2 => absurd hp (hp2 e h q p))
    refine w_ite (fun _ => ?_) (fun z => absurd (show (1 : Int) ≠ 0 by decide) z)
    rw [w32_id (x := person + 1) (by omega) (by omega), ← psl]
    refine w_place (by omega) (by omega) sl6 ?_
    dsimp only
    rw [we (by omega) (by omega)]
    have i1 : ∀ r, V r 0 (5760 * e + (144 * h + 6 * q + slot (V 102 0 q) p)) = V r 0 (5760 * e + 144 * h + 6 * q + slot (V 102 0 q) p) := by intro r; congr 1; omega
    ((first | ((with_reducible refine w_s hS ?_ ?_ ?_ (fun x hx => ?_)); (focus decide); (focus (first | decide | omega)); (focus (first | decide | (simp only [sl]; omega)))) | ((with_reducible refine w_m hS ?_ ?_ ?_ ?_ ?_ (fun x hx => ?_)); (focus decide); (focus (first | decide | omega)); (focus omega); (focus (first | decide | omega)); (focus (first | decide | (simp only [ml]; omega)))) | (with_reducible refine w_k (by simp (disch := omega) only [w32_id]; exact rfl) ?_; ((with_reducible refine w_s hS ?_ ?_ ?_ (fun x hx => ?_)); (focus decide); (focus (first | decide | omega)); (focus (first | decide | (simp only [sl]; omega))))) | (with_reducible refine w_k (by simp (disch := omega) only [w32_id]; exact rfl) ?_; ((with_reducible refine w_m hS ?_ ?_ ?_ ?_ ?_ (fun x hx => ?_)); (focus decide); (focus (first | decide | omega)); (focus omega); (focus (first | decide | omega)); (focus (first | decide | (simp only [ml]; omega)))))); (try simp (disch := omega) only [Int.reduceToNat, tn_c, tn8, tn8i, tn5, tn5z, tn6, tn6z, tn1, u3_ne, u3_eq, u3_ni, u3_nk, f_100_34 hF] at hx); subst hx)
    ((first | ((with_reducible refine w_s hS ?_ ?_ ?_ (fun x hx => ?_)); (focus decide); (focus (first | decide | omega)); (focus (first | decide | (simp only [sl]; omega)))) | ((with_reducible refine w_m hS ?_ ?_ ?_ ?_ ?_ (fun x hx => ?_)); (focus decide); (focus (first | decide | omega)); (focus omega); (focus (first | decide | omega)); (focus (first | decide | (simp only [ml]; omega)))) | (with_reducible refine w_k (by simp (disch := omega) only [w32_id]; exact rfl) ?_; ((with_reducible refine w_s hS ?_ ?_ ?_ (fun x hx => ?_)); (focus decide); (focus (first | decide | omega)); (focus (first | decide | (simp only [sl]; omega))))) | (with_reducible refine w_k (by simp (disch := omega) only [w32_id]; exact rfl) ?_; ((with_reducible refine w_m hS ?_ ?_ ?_ ?_ ?_ (fun x hx => ?_)); (focus decide); (focus (first | decide | omega)); (focus omega); (focus (first | decide | omega)); (focus (first | decide | (simp only [ml]; omega)))))); (try simp (disch := omega) only [Int.reduceToNat, tn_c, tn8, tn8i, tn5, tn5z, tn6, tn6z, tn1, u3_ne, u3_eq, u3_ni, u3_nk, i1, a2.symm] at hx); subst hx)
    refine w_ite (fun z => ?_) (fun z => ?_)
    · ((first | ((with_reducible refine w_s hS ?_ ?_ ?_ (fun x hx => ?_)); (focus decide); (focus (first | decide | omega)); (focus (first | decide | (simp only [sl]; omega)))) | ((with_reducible refine w_m hS ?_ ?_ ?_ ?_ ?_ (fun x hx => ?_)); (focus decide); (focus (first | decide | omega)); (focus omega); (focus (first | decide | omega)); (focus (first | decide | (simp only [ml]; omega)))) | (with_reducible refine w_k (by simp (disch := omega) only [w32_id]; exact rfl) ?_; ((with_reducible refine w_s hS ?_ ?_ ?_ (fun x hx => ?_)); (focus decide); (focus (first | decide | omega)); (focus (first | decide | (simp only [sl]; omega))))) | (with_reducible refine w_k (by simp (disch := omega) only [w32_id]; exact rfl) ?_; ((with_reducible refine w_m hS ?_ ?_ ?_ ?_ ?_ (fun x hx => ?_)); (focus decide); (focus (first | decide | omega)); (focus omega); (focus (first | decide | omega)); (focus (first | decide | (simp only [ml]; omega)))))); (try simp (disch := omega) only [Int.reduceToNat, tn_c, tn8, tn8i, tn5, tn5z, tn6, tn6z, tn1, u3_ne, u3_eq, u3_ni, u3_nk, f_100_33 hF] at hx); subst hx)
      ((first | ((with_reducible refine w_s hS ?_ ?_ ?_ (fun x hx => ?_)); (focus decide); (focus (first | decide | omega)); (focus (first | decide | (simp only [sl]; omega)))) | ((with_reducible refine w_m hS ?_ ?_ ?_ ?_ ?_ (fun x hx => ?_)); (focus decide); (focus (first | decide | omega)); (focus omega); (focus (first | decide | omega)); (focus (first | decide | (simp only [ml]; omega)))) | (with_reducible refine w_k (by simp (disch := omega) only [w32_id]; exact rfl) ?_; ((with_reducible refine w_s hS ?_ ?_ ?_ (fun x hx => ?_)); (focus decide); (focus (first | decide | omega)); (focus (first | decide | (simp only [sl]; omega))))) | (with_reducible refine w_k (by simp (disch := omega) only [w32_id]; exact rfl) ?_; ((with_reducible refine w_m hS ?_ ?_ ?_ ?_ ?_ (fun x hx => ?_)); (focus decide); (focus (first | decide | omega)); (focus omega); (focus (first | decide | omega)); (focus (first | decide | (simp only [ml]; omega)))))); (try simp (disch := omega) only [Int.reduceToNat, tn_c, tn8, tn8i, tn5, tn5z, tn6, tn6z, tn1, u3_ne, u3_eq, u3_ni, u3_nk, i1, a1.symm] at hx); subst hx)
      exact w_ret ⟨rfl, hI⟩
    · refine w_ret ⟨?_, hI⟩
      rw [a1]; exact a3.2.2.2.1 (by omega)
  · refine w_ite (fun z => absurd rfl z) (fun _ => w_ret ?_)
    unfold g_X9_frozen
    refine w_gv (by omega) ?_
    refine w_isFrozen hI (fun e2 h2 q2 p2 hp2 => absurd hp2 (hp e2 h2 q2 p2)) (fun _ => ?_)
    exact w_ite (fun z => absurd rfl z) (fun _ => w_ret ⟨rfl, hI⟩)
theorem T_frozenReason (hI : INV IT V R) (e' h' q' person : Int) : Wp (g_X8_frozenReason 0 e' h' q' person (V, R)) (fun r G => Wp (g_X9_frozenReason 0 e' h' q' person G) (PO r)) := by
  have hS := hI.SH
  have hF := hI.RF
  obtain ⟨b20, b30, b40, b50⟩ := hI.IN.1
  unfold g_X8_frozenReason
  refine w_gv (by omega) ?_
  refine w_frozenSheet hI (fun e h q p hp => ?_) (fun hp => ?_)
  · obtain ⟨rfl, rfl, rfl, he, hh, hq, m0, hpk⟩ := id hp
    obtain ⟨s, n, es, es', en, hk, hn, ar⟩ := hI.esh he hh
    have d2 := (hI.IE e he).1.2
    rw [es'] at hpk
    have hpl := eplc hI ar hn (q := q) (by omega)
    have plt := hpk.lt
    have psl := hpk.sl
    obtain ⟨a1, a2, a3⟩ := eans hI ar hn (by omega) m0 (hpk.place (by omega))
    have sl6 : slot (V 102 0 q) p < 6 := slot_lt (by omega)
    dsimp only
    rw [es]
    refine w_ite (fun _ => ?_) (fun z => absurd (show (s : Int) ≠ -1 by omega) z)
    refine w_31 hS hk (Or.inr rfl) ?_
    refine w_spotp (by omega) hpk (by omega) ?_
    refine w_33 hk (by omega) ?_
    refine w_ret ?_
    unfold g_X9_frozenReason
    refine w_gv (by omega) ?_
    refine w_isFrozen hI (fun e2 h2 q2 p2 hp2 => ?_) (fun hp2 => absurd hp (hp2 e h q p))
    refine w_ite (fun z => absurd (show (1 : Int) = 0 from z) (by decide)) (fun _ => ?_)
    ((first | ((with_reducible refine w_s hS ?_ ?_ ?_ (fun x hx => ?_)); (focus decide); (focus (first | decide | omega)); (focus (first | decide | (simp only [sl]; omega)))) | ((with_reducible refine w_m hS ?_ ?_ ?_ ?_ ?_ (fun x hx => ?_)); (focus decide); (focus (first | decide | omega)); (focus omega); (focus (first | decide | omega)); (focus (first | decide | (simp only [ml]; omega)))) | (with_reducible refine w_k (by simp (disch := omega) only [w32_id]; exact rfl) ?_; ((with_reducible refine w_s hS ?_ ?_ ?_ (fun x hx => ?_)); (focus decide); (focus (first | decide | omega)); (focus (first | decide | (simp only [sl]; omega))))) | (with_reducible refine w_k (by simp (disch := omega) only [w32_id]; exact rfl) ?_; ((with_reducible refine w_m hS ?_ ?_ ?_ ?_ ?_ (fun x hx => ?_)); (focus decide); (focus (first | decide | omega)); (focus omega); (focus (first | decide | omega)); (focus (first | decide | (simp only [ml]; omega)))))); (try simp (disch := omega) only [Int.reduceToNat, tn_c, tn8, tn8i, tn5, tn5z, tn6, tn6z, tn1, u3_ne, u3_eq, u3_ni, u3_nk, f_100_34 hF] at hx); subst hx)
    rw [w32_id (x := person + 1) (by omega) (by omega), ← psl]
    refine w_place (by omega) (by omega) sl6 ?_
    dsimp only
    rw [we (by omega) (by omega)]
    have i1 : ∀ r, V r 0 (5760 * e + (144 * h + 6 * q + slot (V 102 0 q) p)) = V r 0 (5760 * e + 144 * h + 6 * q + slot (V 102 0 q) p) := by intro r; congr 1; omega
    ((first | ((with_reducible refine w_s hS ?_ ?_ ?_ (fun x hx => ?_)); (focus decide); (focus (first | decide | omega)); (focus (first | decide | (simp only [sl]; omega)))) | ((with_reducible refine w_m hS ?_ ?_ ?_ ?_ ?_ (fun x hx => ?_)); (focus decide); (focus (first | decide | omega)); (focus omega); (focus (first | decide | omega)); (focus (first | decide | (simp only [ml]; omega)))) | (with_reducible refine w_k (by simp (disch := omega) only [w32_id]; exact rfl) ?_; ((with_reducible refine w_s hS ?_ ?_ ?_ (fun x hx => ?_)); (focus decide); (focus (first | decide | omega)); (focus (first | decide | (simp only [sl]; omega))))) | (with_reducible refine w_k (by simp (disch := omega) only [w32_id]; exact rfl) ?_; ((with_reducible refine w_m hS ?_ ?_ ?_ ?_ ?_ (fun x hx => ?_)); (focus decide); (focus (first | decide | omega)); (focus omega); (focus (first | decide | omega)); (focus (first | decide | (simp only [ml]; omega)))))); (try simp (disch := omega) only [Int.reduceToNat, tn_c, tn8, tn8i, tn5, tn5z, tn6, tn6z, tn1, u3_ne, u3_eq, u3_ni, u3_nk, i1, a2.symm] at hx); subst hx)
    exact w_ret ⟨rfl, hI⟩
  · refine w_ite (fun z => absurd rfl z) (fun _ => w_ret ?_)
    unfold g_X9_frozenReason
    refine w_gv (by omega) ?_
    refine w_isFrozen hI (fun e2 h2 q2 p2 hp2 => absurd hp2 (hp e2 h2 q2 p2)) (fun _ => ?_)
    exact w_ite (fun _ => w_ret ⟨rfl, hI⟩) (fun z => absurd rfl z)
end Frozen
