section Told
variable {V : GV} {R : GR} {Q : Int → GS → Prop}
theorem w_front {h' q' person : Int} {B : Int × GS → Int × GS → Int × GS → GO} (hI : INV IT V R) (k1 : ∀ h q p, plq V R h' q' person h q p → Wp (B ((h : Int), (V, R)) ((q : Int), (V, R)) (1, (V, R))) Q) (k0 : (∀ h q p, ¬ plq V R h' q' person h q p) → Q (-1) (V, R)) :
  Wp ((g_X8_homeOf 0 h' (V, R)).bind fun z1 => (gl 0 z1.2 0 0).bind fun x2 => (g_X3_questionOf x2 q' z1.2).bind fun z3 => if z1.1 = -1 then some (-1, z3.2) else if z3.1 = -1 then some (-1, z3.2) else (gl 30 z3.2 z1.1 0).bind fun x4 => (gl 20 z3.2 z3.1 1).bind fun x5 => (g_X8_isPlace x4 x5 person z3.2).bind fun z6 => if z6.1 ≠ 0 then B z1 z3 z6 else some (-1, z6.2)) Q := by
  have hS := hI.SH
  have hF := hI.RF
  have hL := hI.IL
  obtain ⟨b20, b30, b40, b50⟩ := hI.IN.1
  obtain ⟨_, n2, _, n4, _⟩ := hI.IN.2.1
  refine w_hO hS n4 (f_0_1 hF) b30 (fun n hn => l_5 hL hn) (fun h e hh => ?_) (fun hn => ?_)
  · subst e
    ((first | ((with_reducible refine w_s hS ?_ ?_ ?_ (fun x hx => ?_)); (focus decide); (focus (first | decide | omega)); (focus (first | decide | (simp only [sl]; omega)))) | ((with_reducible refine w_m hS ?_ ?_ ?_ ?_ ?_ (fun x hx => ?_)); (focus decide); (focus (first | decide | omega)); (focus omega); (focus (first | decide | omega)); (focus (first | decide | (simp only [ml]; omega)))) | (with_reducible refine w_k (by simp (disch := omega) only [w32_id]; exact rfl) ?_; ((with_reducible refine w_s hS ?_ ?_ ?_ (fun x hx => ?_)); (focus decide); (focus (first | decide | omega)); (focus (first | decide | (simp only [sl]; omega))))) | (with_reducible refine w_k (by simp (disch := omega) only [w32_id]; exact rfl) ?_; ((with_reducible refine w_m hS ?_ ?_ ?_ ?_ ?_ (fun x hx => ?_)); (focus decide); (focus (first | decide | omega)); (focus omega); (focus (first | decide | omega)); (focus (first | decide | (simp only [ml]; omega)))))); (try simp (disch := omega) only [Int.reduceToNat, tn_c, tn8, tn8i, tn5, tn5z, tn6, tn6z, tn1, u3_ne, u3_eq, u3_ni, u3_nk, f_0_0 hF] at hx); subst hx)
    refine w_qO hS n2 (f_1_0 hF) b20 (fun n hn => l_2 hL hn) (fun q e hq => ?_) (fun hn => ?_)
    · subst e
      dsimp only
      refine w_ite (fun z => absurd z (by omega)) (fun _ => w_ite (fun z => absurd z (by omega)) (fun _ => ?_))
      obtain ⟨s, e30, es, hk⟩ := hI.sht hh
      have hp := hI.pers hh
      rw [es] at hp
      have hpl := plc_q hI.IQ hp hq
      have e1 := (hI.IQ.1 q hq).1.2.1.1
      ((first | ((with_reducible refine w_s hS ?_ ?_ ?_ (fun x hx => ?_)); (focus decide); (focus (first | decide | omega)); (focus (first | decide | (simp only [sl]; omega)))) | ((with_reducible refine w_m hS ?_ ?_ ?_ ?_ ?_ (fun x hx => ?_)); (focus decide); (focus (first | decide | omega)); (focus omega); (focus (first | decide | omega)); (focus (first | decide | (simp only [ml]; omega)))) | (with_reducible refine w_k (by simp (disch := omega) only [w32_id]; exact rfl) ?_; ((with_reducible refine w_s hS ?_ ?_ ?_ (fun x hx => ?_)); (focus decide); (focus (first | decide | omega)); (focus (first | decide | (simp only [sl]; omega))))) | (with_reducible refine w_k (by simp (disch := omega) only [w32_id]; exact rfl) ?_; ((with_reducible refine w_m hS ?_ ?_ ?_ ?_ ?_ (fun x hx => ?_)); (focus decide); (focus (first | decide | omega)); (focus omega); (focus (first | decide | omega)); (focus (first | decide | (simp only [ml]; omega)))))); (try simp (disch := omega) only [Int.reduceToNat, tn_c, tn8, tn8i, tn5, tn5z, tn6, tn6z, tn1, u3_ne, u3_eq, u3_ni, u3_nk, e30] at hx); subst hx)
      ((first | ((with_reducible refine w_s hS ?_ ?_ ?_ (fun x hx => ?_)); (focus decide); (focus (first | decide | omega)); (focus (first | decide | (simp only [sl]; omega)))) | ((with_reducible refine w_m hS ?_ ?_ ?_ ?_ ?_ (fun x hx => ?_)); (focus decide); (focus (first | decide | omega)); (focus omega); (focus (first | decide | omega)); (focus (first | decide | (simp only [ml]; omega)))) | (with_reducible refine w_k (by simp (disch := omega) only [w32_id]; exact rfl) ?_; ((with_reducible refine w_s hS ?_ ?_ ?_ (fun x hx => ?_)); (focus decide); (focus (first | decide | omega)); (focus (first | decide | (simp only [sl]; omega))))) | (with_reducible refine w_k (by simp (disch := omega) only [w32_id]; exact rfl) ?_; ((with_reducible refine w_m hS ?_ ?_ ?_ ?_ ?_ (fun x hx => ?_)); (focus decide); (focus (first | decide | omega)); (focus omega); (focus (first | decide | omega)); (focus (first | decide | (simp only [ml]; omega)))))); (try simp (disch := omega) only [Int.reduceToNat, tn_c, tn8, tn8i, tn5, tn5z, tn6, tn6z, tn1, u3_ne, u3_eq, u3_ni, u3_nk, e1] at hx); subst hx)
      refine w_isPlace hS hk (hI.roq hq (by omega)) hpl.1 hpl.2 (fun p hp => ?_) (fun hp => ?_)
      · exact w_ite (fun _ => k1 h q p ⟨rfl, rfl, hh, hq, by rw [es]; exact hp⟩) (fun z => absurd (show (1 : Int) ≠ 0 by decide) z)
      · refine w_ite (fun z => absurd rfl z) (fun _ => w_ret (k0 (fun h2 q2 p hp' => ?_)))
        obtain ⟨e1, e2, _, _, hp'⟩ := hp'
        have e1 := Int.ofNat.inj e1
        have e2 := Int.ofNat.inj e2
        subst e1 e2
        rw [es] at hp'
        exact hp p hp'
    · dsimp only
      refine w_ite (fun z => absurd z (by omega)) (fun _ => w_ite (fun _ => w_ret (k0 (fun h2 q2 p hp => ?_))) (fun z => absurd rfl z))
      obtain ⟨_, e2, _, h2, _⟩ := hp
      omega
  · ((first | ((with_reducible refine w_s hS ?_ ?_ ?_ (fun x hx => ?_)); (focus decide); (focus (first | decide | omega)); (focus (first | decide | (simp only [sl]; omega)))) | ((with_reducible refine w_m hS ?_ ?_ ?_ ?_ ?_ (fun x hx => ?_)); (focus decide); (focus (first | decide | omega)); (focus omega); (focus (first | decide | omega)); (focus (first | decide | (simp only [ml]; omega)))) | (with_reducible refine w_k (by simp (disch := omega) only [w32_id]; exact rfl) ?_; ((with_reducible refine w_s hS ?_ ?_ ?_ (fun x hx => ?_)); (focus decide); (focus (first | decide | omega)); (focus (first | decide | (simp only [sl]; omega))))) | (with_reducible refine w_k (by simp (disch := omega) only [w32_id]; exact rfl) ?_; ((with_reducible refine w_m hS ?_ ?_ ?_ ?_ ?_ (fun x hx => ?_)); (focus decide); (focus (first | decide | omega)); (focus omega); (focus (first | decide | omega)); (focus (first | decide | (simp only [ml]; omega)))))); (try simp (disch := omega) only [Int.reduceToNat, tn_c, tn8, tn8i, tn5, tn5z, tn6, tn6z, tn1, u3_ne, u3_eq, u3_ni, u3_nk, f_0_0 hF] at hx); subst hx)
    refine w_qO hS n2 (f_1_0 hF) b20 (fun n hn => l_2 hL hn) (fun q e hq => ?_) (fun hq => ?_)
    all_goals
      dsimp only
      refine w_ite (fun _ => w_ret (k0 (fun h2 q2 p hp => ?_))) (fun z => absurd rfl z)
      obtain ⟨e1, _, h1, _, _⟩ := hp
      omega
theorem INV_put {h q p t : Nat} {v r : Int} (hI : INV IT V R) (hh : h < rC R 30) (hq : q < rC R 20) (m0 : V 103 0 q = 0) (k5 : V 101 0 q ≠ 5) (hp : (V 102 0 q = -1 ∧ t = 0 ∧ p = 0) ∨ (V 102 0 q ≠ -1 ∧ t = p + 1 ∧ p < 5 ∧ (p : Int) < plc V (V 30 h 0).toNat (V 102 0 q))) (ok : okv V q v r) :
  INV IT (u3 (u3 (u3 (putv V (V 30 h 0).toNat (5 * q + p) v r) 30 h 2 0) 115 0 (144 * h + 6 * q + t) v) 116 0 (144 * h + 6 * q + t) r) R := by
  obtain ⟨V', hV⟩ : ∃ V', u3 (u3 (u3 (putv V (V 30 h 0).toNat (5 * q + p) v r) 30 h 2 0) 115 0 (144 * h + 6 * q + t) v) 116 0 (144 * h + 6 * q + t) r = V' := ⟨_, rfl⟩
  rw [hV]
  have sm : same V V' LC := by
    rw [← hV]
    unfold putv
    exact (((((same.rf V _).u ⟨(32, none), by decide, rfl, Or.inl rfl⟩).u ⟨(33, none), by decide, rfl, Or.inl rfl⟩).u ⟨(30, some 2), by decide, rfl, Or.inr rfl⟩).u ⟨(115, none), by decide, rfl, Or.inl rfl⟩).u ⟨(116, none), by decide, rfl, Or.inl rfl⟩
  have e1 : V' 32 (V 30 h 0).toNat (5 * q + p) = v := by rw [← hV, u3_ne (by decide), u3_ne (by decide), u3_ne (by decide), putv_32]
  have e2 : V' 33 (V 30 h 0).toNat (5 * q + p) = r := by rw [← hV, u3_ne (by decide), u3_ne (by decide), u3_ne (by decide), putv_33]
  have e3 : V' 115 0 (144 * h + 6 * q + t) = v := by rw [← hV, u3_ne (by decide), u3_eq]
  have e4 : V' 116 0 (144 * h + 6 * q + t) = r := by rw [← hV, u3_eq]
  have o1 : ∀ s k, (s ≠ (V 30 h 0).toNat ∨ k ≠ 5 * q + p) → V' 32 s k = V 32 s k ∧ V' 33 s k = V 33 s k := by
    intro s k hsk
    rw [← hV, u3_ne (by decide), u3_ne (by decide), u3_ne (by decide), u3_ne (by decide), u3_ne (by decide), u3_ne (by decide), putv_o (Or.inr hsk), putv_o (Or.inr hsk)]
    exact ⟨rfl, rfl⟩
  have o2 : ∀ k, k ≠ 144 * h + 6 * q + t → V' 115 0 k = V 115 0 k ∧ V' 116 0 k = V 116 0 k := by
    intro k hk
    rw [← hV, u3_ne (by decide), u3_nk hk, u3_ne (by decide), putv_o (Or.inl ⟨by decide, by decide⟩), u3_nk hk, u3_ne (by decide), u3_ne (by decide), putv_o (Or.inl ⟨by decide, by decide⟩)]
    exact ⟨rfl, rfl⟩
  refine INV_told hI sm (fun s hs k => o1 s k (Or.inl (hs h hh))) (IA_put hI sm hh hq m0 k5 hp ok e1 e2 e3 e4 o1 o2) (fun g hg => ?_)
  by_cases e : g = h
  · subst e
    refine Or.inl ?_
    rw [← hV, u3_ne (by decide), u3_ne (by decide), u3_eq]
  · refine Or.inr ⟨?_, fun k => o1 _ _ (Or.inl (hI.sh_ne hg hh e))⟩
    rw [← hV, u3_ne (by decide), u3_ne (by decide), u3_ni e, putv_o (Or.inl ⟨by decide, by decide⟩)]
theorem plq.pl (hI : INV IT V R) {h' q' person : Int} {h q p : Nat} (hp : plq V R h' q' person h q p) : p < 5 ∧ (p : Int) < plc V (V 30 h 0).toNat (V 102 0 q) ∧ ((V 102 0 q = -1 ∧ slot (V 102 0 q) p = 0 ∧ p = 0) ∨ (V 102 0 q ≠ -1 ∧ slot (V 102 0 q) p = p + 1 ∧ p < 5 ∧ (p : Int) < plc V (V 30 h 0).toNat (V 102 0 q))) := by
  obtain ⟨_, _, hh, hq, hpk⟩ := hp
  have lt := hpk.lt
  have := plc_q hI.IQ (hI.pers hh) hq
  have p5 : p < 5 := by omega
  refine ⟨p5, lt, ?_⟩
  rcases hpk.place p5 with h | ⟨a, b, c⟩
  · exact Or.inl h
  · exact Or.inr ⟨a, b, c, lt⟩
theorem w_rtell {h q t : Nat} {person v r : Int} (hS : SH R) (hF : RF V R) (hh : h < 40) (hq : q < 24) (ht : t < 6) (et : (t : Int) = person + 1) (k : Q 1 (u3 (u3 V 115 0 (144 * h + 6 * q + t) v) 116 0 (144 * h + 6 * q + t) r, R)) :
  Wp ((gl 100 (V, R) 0 15).bind fun x7 => (g_X9_place (h : Int) (q : Int) (w32 (person + 1)) (V, R)).bind fun z8 => (gs 115 z8.2 x7 z8.1 v).bind fun G9 => (gl 100 G9 0 16).bind fun x10 => (g_X9_place (h : Int) (q : Int) (w32 (person + 1)) G9).bind fun z11 => (gs 116 z11.2 x10 z11.1 r).bind fun G12 => some (1, G12)) Q := by
  rw [w32_id (x := person + 1) (by omega) (by omega), ← et]
  ((first | ((with_reducible refine w_s hS ?_ ?_ ?_ (fun x hx => ?_)); (focus decide); (focus (first | decide | omega)); (focus (first | decide | (simp only [sl]; omega)))) | ((with_reducible refine w_m hS ?_ ?_ ?_ ?_ ?_ (fun x hx => ?_)); (focus decide); (focus (first | decide | omega)); (focus omega); (focus (first | decide | omega)); (focus (first | decide | (simp only [ml]; omega)))) | (with_reducible refine w_k (by simp (disch := omega) only [w32_id]; exact rfl) ?_; ((with_reducible refine w_s hS ?_ ?_ ?_ (fun x hx => ?_)); (focus decide); (focus (first | decide | omega)); (focus (first | decide | (simp only [sl]; omega))))) | (with_reducible refine w_k (by simp (disch := omega) only [w32_id]; exact rfl) ?_; ((with_reducible refine w_m hS ?_ ?_ ?_ ?_ ?_ (fun x hx => ?_)); (focus decide); (focus (first | decide | omega)); (focus omega); (focus (first | decide | omega)); (focus (first | decide | (simp only [ml]; omega)))))); (try simp (disch := omega) only [Int.reduceToNat, tn_c, tn8, tn8i, tn5, tn5z, tn6, tn6z, tn1, u3_ne, u3_eq, u3_ni, u3_nk, f_100_15 hF] at hx); subst hx)
  refine w_place hh hq ht ?_
  refine w_ss hS (by decide) (by omega) (by simp only [sl]; omega) ?_
  rw [tn_c]
  ((first | ((with_reducible refine w_s hS ?_ ?_ ?_ (fun x hx => ?_)); (focus decide); (focus (first | decide | omega)); (focus (first | decide | (simp only [sl]; omega)))) | ((with_reducible refine w_m hS ?_ ?_ ?_ ?_ ?_ (fun x hx => ?_)); (focus decide); (focus (first | decide | omega)); (focus omega); (focus (first | decide | omega)); (focus (first | decide | (simp only [ml]; omega)))) | (with_reducible refine w_k (by simp (disch := omega) only [w32_id]; exact rfl) ?_; ((with_reducible refine w_s hS ?_ ?_ ?_ (fun x hx => ?_)); (focus decide); (focus (first | decide | omega)); (focus (first | decide | (simp only [sl]; omega))))) | (with_reducible refine w_k (by simp (disch := omega) only [w32_id]; exact rfl) ?_; ((with_reducible refine w_m hS ?_ ?_ ?_ ?_ ?_ (fun x hx => ?_)); (focus decide); (focus (first | decide | omega)); (focus omega); (focus (first | decide | omega)); (focus (first | decide | (simp only [ml]; omega)))))); (try simp (disch := omega) only [Int.reduceToNat, tn_c, tn8, tn8i, tn5, tn5z, tn6, tn6z, tn1, u3_ne, u3_eq, u3_ni, u3_nk, u3_ne, f_100_16 hF] at hx); subst hx)
  refine w_place hh hq ht ?_
  refine w_ss hS (by decide) (by omega) (by simp only [sl]; omega) ?_
  rw [tn_c]
  exact w_ret k
theorem pok_cg {V' : GV} {s p : Nat} {r person : Int} (e : ∀ k, V' 32 s k = V 32 s k) : pok V' s r person p ↔ pok V s r person p := by
  unfold pok plc; rw [e]
theorem w_rPlaceP {V' : GV} {h' q' person : Int} {h q p : Nat} {f : Int × GS → GO} (hI : INV IT V R) (hp : plq V R h' q' person h q p) (hS : SH R) (hF : RF V' R) (hN : IN V' R) (e102 : ∀ k, V' 102 0 k = V 102 0 k) (e115 : ∀ k, V' 115 0 k = V 115 0 k) (k1 : Wp (f (1, (V', R))) Q) : Wp ((g_X9_isPlace 0 h' q' person (V', R)).bind f) Q := by
  obtain ⟨rfl, rfl, hh, hq, hpk⟩ := hp
  obtain ⟨b20, b30, b40, b50⟩ := hI.IN.1
  obtain ⟨n1, _, n3, _⟩ := hN.2.1
  obtain ⟨s, e30, es, hk⟩ := hI.sht hh
  rw [es] at hpk
  refine w_bind ?_
  unfold g_X9_isPlace
  refine w_gv (by omega) ?_
  refine w_isH hS n3 b30 (fun h2 e hh2 => ?_) (fun hn => absurd (show 0 ≤ (h : Int) ∧ (h : Int) < (rC R 30 : Int) by omega) hn)
  refine w_ite (fun z => absurd (show (1 : Int) = 0 from z) (by decide)) (fun _ => ?_)
  refine w_isQ hS n1 b20 (fun q2 e hq2 => ?_) (fun hn => absurd (show 0 ≤ (q : Int) ∧ (q : Int) < (rC R 20 : Int) by omega) hn)
  refine w_ite (fun _ => ?_) (fun z => absurd (show (1 : Int) ≠ 0 by decide) z)
  ((first | ((with_reducible refine w_s hS ?_ ?_ ?_ (fun x hx => ?_)); (focus decide); (focus (first | decide | omega)); (focus (first | decide | (simp only [sl]; omega)))) | ((with_reducible refine w_m hS ?_ ?_ ?_ ?_ ?_ (fun x hx => ?_)); (focus decide); (focus (first | decide | omega)); (focus omega); (focus (first | decide | omega)); (focus (first | decide | (simp only [ml]; omega)))) | (with_reducible refine w_k (by simp (disch := omega) only [w32_id]; exact rfl) ?_; ((with_reducible refine w_s hS ?_ ?_ ?_ (fun x hx => ?_)); (focus decide); (focus (first | decide | omega)); (focus (first | decide | (simp only [sl]; omega))))) | (with_reducible refine w_k (by simp (disch := omega) only [w32_id]; exact rfl) ?_; ((with_reducible refine w_m hS ?_ ?_ ?_ ?_ ?_ (fun x hx => ?_)); (focus decide); (focus (first | decide | omega)); (focus omega); (focus (first | decide | omega)); (focus (first | decide | (simp only [ml]; omega)))))); (try simp (disch := omega) only [Int.reduceToNat, tn_c, tn8, tn8i, tn5, tn5z, tn6, tn6z, tn1, u3_ne, u3_eq, u3_ni, u3_nk, f_100_2 hF] at hx); subst hx)
  ((first | ((with_reducible refine w_s hS ?_ ?_ ?_ (fun x hx => ?_)); (focus decide); (focus (first | decide | omega)); (focus (first | decide | (simp only [sl]; omega)))) | ((with_reducible refine w_m hS ?_ ?_ ?_ ?_ ?_ (fun x hx => ?_)); (focus decide); (focus (first | decide | omega)); (focus omega); (focus (first | decide | omega)); (focus (first | decide | (simp only [ml]; omega)))) | (with_reducible refine w_k (by simp (disch := omega) only [w32_id]; exact rfl) ?_; ((with_reducible refine w_s hS ?_ ?_ ?_ (fun x hx => ?_)); (focus decide); (focus (first | decide | omega)); (focus (first | decide | (simp only [sl]; omega))))) | (with_reducible refine w_k (by simp (disch := omega) only [w32_id]; exact rfl) ?_; ((with_reducible refine w_m hS ?_ ?_ ?_ ?_ ?_ (fun x hx => ?_)); (focus decide); (focus (first | decide | omega)); (focus omega); (focus (first | decide | omega)); (focus (first | decide | (simp only [ml]; omega)))))); (try simp (disch := omega) only [Int.reduceToNat, tn_c, tn8, tn8i, tn5, tn5z, tn6, tn6z, tn1, u3_ne, u3_eq, u3_ni, u3_nk, e102] at hx); subst hx)
  rcases hpk with ⟨t, ep, _⟩ | ⟨t, ep, hlt⟩
  · refine w_ite (fun z => absurd z (by omega)) (fun _ => ?_)
    exact w_ite (fun z => absurd ep z) (fun _ => w_ret k1)
  · obtain ⟨r, er, _, hr, k5, _, _⟩ := hI.IQ.ro hq t
    have pr := hI.pers hh r hr k5
    have pe := hI.per hh hr k5
    rw [es] at pr pe
    unfold plc at hlt
    rw [if_neg t, er, tn_c] at hlt
    refine w_ite (fun _ => ?_) (fun z => absurd (show V 102 0 q ≥ 0 by omega) z)
    ((first | ((with_reducible refine w_s hS ?_ ?_ ?_ (fun x hx => ?_)); (focus decide); (focus (first | decide | omega)); (focus (first | decide | (simp only [sl]; omega)))) | ((with_reducible refine w_m hS ?_ ?_ ?_ ?_ ?_ (fun x hx => ?_)); (focus decide); (focus (first | decide | omega)); (focus omega); (focus (first | decide | omega)); (focus (first | decide | (simp only [ml]; omega)))) | (with_reducible refine w_k (by simp (disch := omega) only [w32_id]; exact rfl) ?_; ((with_reducible refine w_s hS ?_ ?_ ?_ (fun x hx => ?_)); (focus decide); (focus (first | decide | omega)); (focus (first | decide | (simp only [sl]; omega))))) | (with_reducible refine w_k (by simp (disch := omega) only [w32_id]; exact rfl) ?_; ((with_reducible refine w_m hS ?_ ?_ ?_ ?_ ?_ (fun x hx => ?_)); (focus decide); (focus (first | decide | omega)); (focus omega); (focus (first | decide | omega)); (focus (first | decide | (simp only [ml]; omega)))))); (try simp (disch := omega) only [Int.reduceToNat, tn_c, tn8, tn8i, tn5, tn5z, tn6, tn6z, tn1, u3_ne, u3_eq, u3_ni, u3_nk, f_100_2 hF] at hx); subst hx)
    ((first | ((with_reducible refine w_s hS ?_ ?_ ?_ (fun x hx => ?_)); (focus decide); (focus (first | decide | omega)); (focus (first | decide | (simp only [sl]; omega)))) | ((with_reducible refine w_m hS ?_ ?_ ?_ ?_ ?_ (fun x hx => ?_)); (focus decide); (focus (first | decide | omega)); (focus omega); (focus (first | decide | omega)); (focus (first | decide | (simp only [ml]; omega)))) | (with_reducible refine w_k (by simp (disch := omega) only [w32_id]; exact rfl) ?_; ((with_reducible refine w_s hS ?_ ?_ ?_ (fun x hx => ?_)); (focus decide); (focus (first | decide | omega)); (focus (first | decide | (simp only [sl]; omega))))) | (with_reducible refine w_k (by simp (disch := omega) only [w32_id]; exact rfl) ?_; ((with_reducible refine w_m hS ?_ ?_ ?_ ?_ ?_ (fun x hx => ?_)); (focus decide); (focus (first | decide | omega)); (focus omega); (focus (first | decide | omega)); (focus (first | decide | (simp only [ml]; omega)))))); (try simp (disch := omega) only [Int.reduceToNat, tn_c, tn8, tn8i, tn5, tn5z, tn6, tn6z, tn1, u3_ne, u3_eq, u3_ni, u3_nk, e102, er] at hx); subst hx)
    refine w_rpers hS hF (by omega) (by omega) (by rw [e115]; omega) (by rw [e115]; omega) ?_
    dsimp only
    rw [e115]
    refine w_inw (by omega) (by omega) (fun z => w_gzr (Or.inr rfl) k1) (fun z => absurd (show 0 ≤ person ∧ person ≤ V 115 0 (144 * h + 6 * r) - 1 by omega) z)
theorem T_missing (hI : INV IT V R) (h' q' person why : Int) : Wp (g_X8_missing 0 h' q' person why (V, R)) (fun r G => Wp (g_X9_missing 0 h' q' person why G) (PO r)) := by
  have hS := hI.SH
  have hF := hI.RF
  obtain ⟨b20, b30, b40, b50⟩ := hI.IN.1
  unfold g_X8_missing
  refine w_gv (by omega) ?_
  refine w_front hI (fun h q p hp => ?_) (fun hp => ?_)
  · obtain ⟨p5, plt, hpl⟩ := hp.pl hI
    obtain ⟨eh, eq, hh, hq, hpk⟩ := id hp
    subst eh eq
    obtain ⟨s, e30, es, hk⟩ := hI.sht hh
    obtain ⟨⟨e0, _, _⟩, _, ⟨e2, m0, _⟩, _⟩ := (hI.IQ.1 q hq).1
    have psl := hpk.sl
    have sl6 : slot (V 102 0 q) p < 6 := slot_lt p5
    -- the reference, when it refuses
    have ref : ∀ r : Int, (¬ (1 ≤ why ∧ why ≤ 5) → r = -1) → ((1 ≤ why ∧ why ≤ 5) → (V 103 0 q ≠ 0 ∨ V 101 0 q = 5) → r = -2) → (¬ (1 ≤ why ∧ why ≤ 5) ∨ V 103 0 q ≠ 0 ∨ V 101 0 q = 5) → Wp (g_X9_missing 0 (h : Int) (q : Int) person why (V, R)) (PO r) := by
      intro r r1 r2 hb
      unfold g_X9_missing
      refine w_gv (by omega) ?_
      refine w_rPlaceP hI hp hS hF hI.IN (fun _ => rfl) (fun _ => rfl) ?_
      refine w_ite (fun z => absurd (show (1 : Int) = 0 from z) (by decide)) (fun _ => ?_)
      refine w_in (fun hw => ?_) (fun hw => ?_)
      · refine w_ite (fun _ => ?_) (fun z => absurd (show (1 : Int) ≠ 0 by decide) z)
        ((first | ((with_reducible refine w_s hS ?_ ?_ ?_ (fun x hx => ?_)); (focus decide); (focus (first | decide | omega)); (focus (first | decide | (simp only [sl]; omega)))) | ((with_reducible refine w_m hS ?_ ?_ ?_ ?_ ?_ (fun x hx => ?_)); (focus decide); (focus (first | decide | omega)); (focus omega); (focus (first | decide | omega)); (focus (first | decide | (simp only [ml]; omega)))) | (with_reducible refine w_k (by simp (disch := omega) only [w32_id]; exact rfl) ?_; ((with_reducible refine w_s hS ?_ ?_ ?_ (fun x hx => ?_)); (focus decide); (focus (first | decide | omega)); (focus (first | decide | (simp only [sl]; omega))))) | (with_reducible refine w_k (by simp (disch := omega) only [w32_id]; exact rfl) ?_; ((with_reducible refine w_m hS ?_ ?_ ?_ ?_ ?_ (fun x hx => ?_)); (focus decide); (focus (first | decide | omega)); (focus omega); (focus (first | decide | omega)); (focus (first | decide | (simp only [ml]; omega)))))); (try simp (disch := omega) only [Int.reduceToNat, tn_c, tn8, tn8i, tn5, tn5z, tn6, tn6z, tn1, u3_ne, u3_eq, u3_ni, u3_nk, f_100_3 hF] at hx); subst hx)
        ((first | ((with_reducible refine w_s hS ?_ ?_ ?_ (fun x hx => ?_)); (focus decide); (focus (first | decide | omega)); (focus (first | decide | (simp only [sl]; omega)))) | ((with_reducible refine w_m hS ?_ ?_ ?_ ?_ ?_ (fun x hx => ?_)); (focus decide); (focus (first | decide | omega)); (focus omega); (focus (first | decide | omega)); (focus (first | decide | (simp only [ml]; omega)))) | (with_reducible refine w_k (by simp (disch := omega) only [w32_id]; exact rfl) ?_; ((with_reducible refine w_s hS ?_ ?_ ?_ (fun x hx => ?_)); (focus decide); (focus (first | decide | omega)); (focus (first | decide | (simp only [sl]; omega))))) | (with_reducible refine w_k (by simp (disch := omega) only [w32_id]; exact rfl) ?_; ((with_reducible refine w_m hS ?_ ?_ ?_ ?_ ?_ (fun x hx => ?_)); (focus decide); (focus (first | decide | omega)); (focus omega); (focus (first | decide | omega)); (focus (first | decide | (simp only [ml]; omega)))))); (try simp (disch := omega) only [Int.reduceToNat, tn_c, tn8, tn8i, tn5, tn5z, tn6, tn6z, tn1, u3_ne, u3_eq, u3_ni, u3_nk, tn_c] at hx); subst hx)
        refine w_ite (fun z => w_ret ⟨r2 hw (by omega), hI⟩) (fun z => ?_)
        ((first | ((with_reducible refine w_s hS ?_ ?_ ?_ (fun x hx => ?_)); (focus decide); (focus (first | decide | omega)); (focus (first | decide | (simp only [sl]; omega)))) | ((with_reducible refine w_m hS ?_ ?_ ?_ ?_ ?_ (fun x hx => ?_)); (focus decide); (focus (first | decide | omega)); (focus omega); (focus (first | decide | omega)); (focus (first | decide | (simp only [ml]; omega)))) | (with_reducible refine w_k (by simp (disch := omega) only [w32_id]; exact rfl) ?_; ((with_reducible refine w_s hS ?_ ?_ ?_ (fun x hx => ?_)); (focus decide); (focus (first | decide | omega)); (focus (first | decide | (simp only [sl]; omega))))) | (with_reducible refine w_k (by simp (disch := omega) only [w32_id]; exact rfl) ?_; ((with_reducible refine w_m hS ?_ ?_ ?_ ?_ ?_ (fun x hx => ?_)); (focus decide); (focus (first | decide | omega)); (focus omega); (focus (first | decide | omega)); (focus (first | decide | (simp only [ml]; omega)))))); (try simp (disch := omega) only [Int.reduceToNat, tn_c, tn8, tn8i, tn5, tn5z, tn6, tn6z, tn1, u3_ne, u3_eq, u3_ni, u3_nk, f_100_1 hF] at hx); subst hx)
        ((first | ((with_reducible refine w_s hS ?_ ?_ ?_ (fun x hx => ?_)); (focus decide); (focus (first | decide | omega)); (focus (first | decide | (simp only [sl]; omega)))) | ((with_reducible refine w_m hS ?_ ?_ ?_ ?_ ?_ (fun x hx => ?_)); (focus decide); (focus (first | decide | omega)); (focus omega); (focus (first | decide | omega)); (focus (first | decide | (simp only [ml]; omega)))) | (with_reducible refine w_k (by simp (disch := omega) only [w32_id]; exact rfl) ?_; ((with_reducible refine w_s hS ?_ ?_ ?_ (fun x hx => ?_)); (focus decide); (focus (first | decide | omega)); (focus (first | decide | (simp only [sl]; omega))))) | (with_reducible refine w_k (by simp (disch := omega) only [w32_id]; exact rfl) ?_; ((with_reducible refine w_m hS ?_ ?_ ?_ ?_ ?_ (fun x hx => ?_)); (focus decide); (focus (first | decide | omega)); (focus omega); (focus (first | decide | omega)); (focus (first | decide | (simp only [ml]; omega)))))); (try simp (disch := omega) only [Int.reduceToNat, tn_c, tn8, tn8i, tn5, tn5z, tn6, tn6z, tn1, u3_ne, u3_eq, u3_ni, u3_nk, tn_c] at hx); subst hx)
        exact w_ite (fun y => absurd hb (by omega)) (fun y => w_ret ⟨r2 hw (by omega), hI⟩)
      · exact w_ite (fun z => absurd rfl z) (fun _ => w_ret ⟨r1 hw, hI⟩)
    dsimp only
    refine w_ite (fun z => w_ret (ref _ (fun _ => rfl) (by omega) (by omega))) (fun z1 => w_ite (fun z2 => ?_) (fun z => w_ret (ref _ (fun _ => rfl) (by omega) (by omega))))
    ((first | ((with_reducible refine w_s hS ?_ ?_ ?_ (fun x hx => ?_)); (focus decide); (focus (first | decide | omega)); (focus (first | decide | (simp only [sl]; omega)))) | ((with_reducible refine w_m hS ?_ ?_ ?_ ?_ ?_ (fun x hx => ?_)); (focus decide); (focus (first | decide | omega)); (focus omega); (focus (first | decide | omega)); (focus (first | decide | (simp only [ml]; omega)))) | (with_reducible refine w_k (by simp (disch := omega) only [w32_id]; exact rfl) ?_; ((with_reducible refine w_s hS ?_ ?_ ?_ (fun x hx => ?_)); (focus decide); (focus (first | decide | omega)); (focus (first | decide | (simp only [sl]; omega))))) | (with_reducible refine w_k (by simp (disch := omega) only [w32_id]; exact rfl) ?_; ((with_reducible refine w_m hS ?_ ?_ ?_ ?_ ?_ (fun x hx => ?_)); (focus decide); (focus (first | decide | omega)); (focus omega); (focus (first | decide | omega)); (focus (first | decide | (simp only [ml]; omega)))))); (try simp (disch := omega) only [Int.reduceToNat, tn_c, tn8, tn8i, tn5, tn5z, tn6, tn6z, tn1, u3_ne, u3_eq, u3_ni, u3_nk, e2] at hx); subst hx)
    refine w_ite (fun z => w_ret (ref _ (by omega) (fun _ _ => rfl) (by omega))) (fun z3 => ?_)
    ((first | ((with_reducible refine w_s hS ?_ ?_ ?_ (fun x hx => ?_)); (focus decide); (focus (first | decide | omega)); (focus (first | decide | (simp only [sl]; omega)))) | ((with_reducible refine w_m hS ?_ ?_ ?_ ?_ ?_ (fun x hx => ?_)); (focus decide); (focus (first | decide | omega)); (focus omega); (focus (first | decide | omega)); (focus (first | decide | (simp only [ml]; omega)))) | (with_reducible refine w_k (by simp (disch := omega) only [w32_id]; exact rfl) ?_; ((with_reducible refine w_s hS ?_ ?_ ?_ (fun x hx => ?_)); (focus decide); (focus (first | decide | omega)); (focus (first | decide | (simp only [sl]; omega))))) | (with_reducible refine w_k (by simp (disch := omega) only [w32_id]; exact rfl) ?_; ((with_reducible refine w_m hS ?_ ?_ ?_ ?_ ?_ (fun x hx => ?_)); (focus decide); (focus (first | decide | omega)); (focus omega); (focus (first | decide | omega)); (focus (first | decide | (simp only [ml]; omega)))))); (try simp (disch := omega) only [Int.reduceToNat, tn_c, tn8, tn8i, tn5, tn5z, tn6, tn6z, tn1, u3_ne, u3_eq, u3_ni, u3_nk, e0] at hx); subst hx)
    refine w_ite (fun z4 => ?_) (fun z => w_ret (ref _ (by omega) (fun _ _ => rfl) (by omega)))
    ((first | ((with_reducible refine w_s hS ?_ ?_ ?_ (fun x hx => ?_)); (focus decide); (focus (first | decide | omega)); (focus (first | decide | (simp only [sl]; omega)))) | ((with_reducible refine w_m hS ?_ ?_ ?_ ?_ ?_ (fun x hx => ?_)); (focus decide); (focus (first | decide | omega)); (focus omega); (focus (first | decide | omega)); (focus (first | decide | (simp only [ml]; omega)))) | (with_reducible refine w_k (by simp (disch := omega) only [w32_id]; exact rfl) ?_; ((with_reducible refine w_s hS ?_ ?_ ?_ (fun x hx => ?_)); (focus decide); (focus (first | decide | omega)); (focus (first | decide | (simp only [sl]; omega))))) | (with_reducible refine w_k (by simp (disch := omega) only [w32_id]; exact rfl) ?_; ((with_reducible refine w_m hS ?_ ?_ ?_ ?_ ?_ (fun x hx => ?_)); (focus decide); (focus (first | decide | omega)); (focus omega); (focus (first | decide | omega)); (focus (first | decide | (simp only [ml]; omega)))))); (try simp (disch := omega) only [Int.reduceToNat, tn_c, tn8, tn8i, tn5, tn5z, tn6, tn6z, tn1, u3_ne, u3_eq, u3_ni, u3_nk, e30] at hx); subst hx)
    rw [es] at hpk
    refine w_spotp (by omega) hpk p5 ?_
    refine w_lack hS hk (by omega) ?_
    have t0 := (hI.IS h hh).1
    refine w_unset hS hh (by rw [putv_o (Or.inl ⟨by decide, by decide⟩)]; exact t0) (w_ret ?_)
    have sm1 : same V (u3 (putv V s (5 * q + p) 0 why) 30 h 2 0) LC := by
      unfold putv
      exact ((((same.rf V _).u ⟨(32, none), by decide, rfl, Or.inl rfl⟩).u ⟨(33, none), by decide, rfl, Or.inl rfl⟩).u ⟨(30, some 2), by decide, rfl, Or.inr rfl⟩)
    have e115 : ∀ k, u3 (putv V s (5 * q + p) 0 why) 30 h 2 0 115 0 k = V 115 0 k := fun k => by rw [u3_ne (by decide), putv_o (Or.inl ⟨by decide, by decide⟩)]
    generalize hV1 : u3 (putv V s (5 * q + p) 0 why) 30 h 2 0 = V1 at *
    have hF1 := cg_RF sm1 rfl hF
    unfold g_X9_missing
    refine w_gv (by omega) ?_
    refine w_rPlaceP hI hp hS hF1 (cg_IN sm1 rfl hI.IN) (sm1.r 102 rfl 0) e115 ?_
    refine w_ite (fun z => absurd (show (1 : Int) = 0 from z) (by decide)) (fun _ => ?_)
    refine w_in (fun _ => ?_) (fun z => absurd (show 1 ≤ why ∧ why ≤ 5 by omega) z)
    refine w_ite (fun _ => ?_) (fun z => absurd (show (1 : Int) ≠ 0 by decide) z)
    ((first | ((with_reducible refine w_s hS ?_ ?_ ?_ (fun x hx => ?_)); (focus decide); (focus (first | decide | omega)); (focus (first | decide | (simp only [sl]; omega)))) | ((with_reducible refine w_m hS ?_ ?_ ?_ ?_ ?_ (fun x hx => ?_)); (focus decide); (focus (first | decide | omega)); (focus omega); (focus (first | decide | omega)); (focus (first | decide | (simp only [ml]; omega)))) | (with_reducible refine w_k (by simp (disch := omega) only [w32_id]; exact rfl) ?_; ((with_reducible refine w_s hS ?_ ?_ ?_ (fun x hx => ?_)); (focus decide); (focus (first | decide | omega)); (focus (first | decide | (simp only [sl]; omega))))) | (with_reducible refine w_k (by simp (disch := omega) only [w32_id]; exact rfl) ?_; ((with_reducible refine w_m hS ?_ ?_ ?_ ?_ ?_ (fun x hx => ?_)); (focus decide); (focus (first | decide | omega)); (focus omega); (focus (first | decide | omega)); (focus (first | decide | (simp only [ml]; omega)))))); (try simp (disch := omega) only [Int.reduceToNat, tn_c, tn8, tn8i, tn5, tn5z, tn6, tn6z, tn1, u3_ne, u3_eq, u3_ni, u3_nk, f_100_3 hF1] at hx); subst hx)
    ((first | ((with_reducible refine w_s hS ?_ ?_ ?_ (fun x hx => ?_)); (focus decide); (focus (first | decide | omega)); (focus (first | decide | (simp only [sl]; omega)))) | ((with_reducible refine w_m hS ?_ ?_ ?_ ?_ ?_ (fun x hx => ?_)); (focus decide); (focus (first | decide | omega)); (focus omega); (focus (first | decide | omega)); (focus (first | decide | (simp only [ml]; omega)))) | (with_reducible refine w_k (by simp (disch := omega) only [w32_id]; exact rfl) ?_; ((with_reducible refine w_s hS ?_ ?_ ?_ (fun x hx => ?_)); (focus decide); (focus (first | decide | omega)); (focus (first | decide | (simp only [sl]; omega))))) | (with_reducible refine w_k (by simp (disch := omega) only [w32_id]; exact rfl) ?_; ((with_reducible refine w_m hS ?_ ?_ ?_ ?_ ?_ (fun x hx => ?_)); (focus decide); (focus (first | decide | omega)); (focus omega); (focus (first | decide | omega)); (focus (first | decide | (simp only [ml]; omega)))))); (try simp (disch := omega) only [Int.reduceToNat, tn_c, tn8, tn8i, tn5, tn5z, tn6, tn6z, tn1, u3_ne, u3_eq, u3_ni, u3_nk, sm1.r 103 rfl] at hx); subst hx)
    refine w_ite (fun z => absurd z (by omega)) (fun _ => ?_)
    ((first | ((with_reducible refine w_s hS ?_ ?_ ?_ (fun x hx => ?_)); (focus decide); (focus (first | decide | omega)); (focus (first | decide | (simp only [sl]; omega)))) | ((with_reducible refine w_m hS ?_ ?_ ?_ ?_ ?_ (fun x hx => ?_)); (focus decide); (focus (first | decide | omega)); (focus omega); (focus (first | decide | omega)); (focus (first | decide | (simp only [ml]; omega)))) | (with_reducible refine w_k (by simp (disch := omega) only [w32_id]; exact rfl) ?_; ((with_reducible refine w_s hS ?_ ?_ ?_ (fun x hx => ?_)); (focus decide); (focus (first | decide | omega)); (focus (first | decide | (simp only [sl]; omega))))) | (with_reducible refine w_k (by simp (disch := omega) only [w32_id]; exact rfl) ?_; ((with_reducible refine w_m hS ?_ ?_ ?_ ?_ ?_ (fun x hx => ?_)); (focus decide); (focus (first | decide | omega)); (focus omega); (focus (first | decide | omega)); (focus (first | decide | (simp only [ml]; omega)))))); (try simp (disch := omega) only [Int.reduceToNat, tn_c, tn8, tn8i, tn5, tn5z, tn6, tn6z, tn1, u3_ne, u3_eq, u3_ni, u3_nk, f_100_1 hF1] at hx); subst hx)
    ((first | ((with_reducible refine w_s hS ?_ ?_ ?_ (fun x hx => ?_)); (focus decide); (focus (first | decide | omega)); (focus (first | decide | (simp only [sl]; omega)))) | ((with_reducible refine w_m hS ?_ ?_ ?_ ?_ ?_ (fun x hx => ?_)); (focus decide); (focus (first | decide | omega)); (focus omega); (focus (first | decide | omega)); (focus (first | decide | (simp only [ml]; omega)))) | (with_reducible refine w_k (by simp (disch := omega) only [w32_id]; exact rfl) ?_; ((with_reducible refine w_s hS ?_ ?_ ?_ (fun x hx => ?_)); (focus decide); (focus (first | decide | omega)); (focus (first | decide | (simp only [sl]; omega))))) | (with_reducible refine w_k (by simp (disch := omega) only [w32_id]; exact rfl) ?_; ((with_reducible refine w_m hS ?_ ?_ ?_ ?_ ?_ (fun x hx => ?_)); (focus decide); (focus (first | decide | omega)); (focus omega); (focus (first | decide | omega)); (focus (first | decide | (simp only [ml]; omega)))))); (try simp (disch := omega) only [Int.reduceToNat, tn_c, tn8, tn8i, tn5, tn5z, tn6, tn6z, tn1, u3_ne, u3_eq, u3_ni, u3_nk, sm1.r 101 rfl] at hx); subst hx)
    refine w_ite (fun _ => ?_) (fun z => absurd z4 z)
    refine w_rtell hS hF1 (by omega) (by omega) sl6 psl ⟨rfl, ?_⟩
    have okk : okv V q 0 why := ⟨by omega, by omega, by omega, fun _ => rfl, fun z => absurd z z4, fun _ z => absurd z (by omega)⟩
    have := INV_put hI hh hq (by omega) z4 hpl okk
    rw [es] at this
    subst hV1
    exact this
  · unfold g_X9_missing
    refine w_gv (by omega) ?_
    refine w_rPlace hI (fun h2 q2 p2 hp2 => absurd hp2 (hp h2 q2 p2)) (fun _ => ?_)
    exact w_ite (fun _ => w_ret ⟨rfl, hI⟩) (fun z => absurd rfl z)
end Told
