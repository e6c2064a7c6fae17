section Row
variable {V : GV} {R : GR} {Q : Int → GS → Prop}
def LRx : PL' := [(22, none), (23, none), (24, none), (20, some 9), (21, none), (20, some 5), (110, none), (111, none), (112, none), (113, none), (108, none), (109, none), (30, some 2)]
theorem INV_row {V' : GV} {q n : Nat} {lo hi c : Int} (hI : INV IT V R) (sm : same V V' LRx) (hq : q < rC R 20) (m1 : V 103 0 q = 1) (en : V 113 0 q = (n : Int)) (hn : n < 8)
  (x22 : ∀ i k, (i ≠ q ∨ k ≠ n) → V' 22 i k = V 22 i k ∧ V' 23 i k = V 23 i k ∧ V' 24 i k = V 24 i k) (y22 : V' 22 q n = lo ∧ V' 23 q n = hi ∧ V' 24 q n = c)
  (x20 : ∀ i k, (i ≠ q ∨ (k ≠ 5 ∧ k ≠ 9)) → V' 20 i k = V 20 i k) (y9 : V' 20 q 9 = ((n + 1 : Nat) : Int)) (y5 : V' 20 q 5 = V' 109 0 q)
  (x110 : ∀ k, k ≠ 8 * q + n → V' 110 0 k = V 110 0 k ∧ V' 111 0 k = V 111 0 k ∧ V' 112 0 k = V 112 0 k) (y110 : V' 110 0 (8 * q + n) = lo ∧ V' 111 0 (8 * q + n) = hi ∧ V' 112 0 (8 * q + n) = c)
  (x113 : ∀ k, k ≠ q → V' 113 0 k = V 113 0 k ∧ V' 109 0 k = V 109 0 k) (y113 : V' 113 0 q = ((n + 1 : Nat) : Int))
  (x21 : ∀ i k, i ≠ q → V' 21 i k = V 21 i k) (x108 : ∀ k, (k < 8 * q ∨ 8 * q + 8 ≤ k) → V' 108 0 k = V 108 0 k) (z108 : ∀ i : Nat, (i : Int) < V 109 0 q → V' 108 0 (8 * q + i) = V 108 0 (8 * q + i))
  (m0 : V 109 0 q ≤ V' 109 0 q) (m8 : V' 109 0 q ≤ ((n + 1 : Nat) : Int)) (hc : IQc V' q) (hr : ∃ j : Nat, (j : Int) < V' 109 0 q ∧ V' 108 0 (8 * q + j) = c)
  (hs : ∀ h, h < rC R 30 → V' 30 h 2 = imin (V 30 h 2) (V 20 q 12)) : INV IT V' R := by
  have hQ := hI.IQ
  obtain ⟨b20, b30, b40, b50⟩ := hI.IN.1
  have c0 := (hQ.1 q hq).1.2.2.2.1.2.1
  have e20 : ∀ i k, k ≠ 5 → k ≠ 9 → V' 20 i k = V 20 i k := fun i k h1 h2 => x20 i k (Or.inr ⟨h1, h2⟩)
  have ok : ∀ q', q' < rC R 20 → ∀ v r, okv V q' v r → okv V' q' v r := by
    intro q' hq' v r
    have c8' := (hQ.1 q' hq').1.2.2.2.1.2
    refine okv_pt (sm.r 101 rfl _ _) ?_ (fun i hi => ?_)
    · by_cases e : q' = q
      · subst e; exact m0
      · rw [(x113 q' e).2]; exact Int.le_refl _
    · by_cases e : q' = q
      · subst e; exact z108 i hi
      · exact x108 _ (by omega)
  refine ⟨⟨hI.SH, cg_RF sm rfl hI.RF, cg_IN sm rfl hI.IN, cg_IL sm rfl hI.IL, hI.IR⟩, ?_, cg_IC sm rfl hI.IC, ?_, cg_IHs sm rfl hI.IHs, ?_, cg_IW sm rfl hI.IW, ?_, ?_, cg_T sm rfl hI.TT⟩
  · refine ⟨fun q' hq' => ?_, fun q' h1 h2 => ?_⟩
    · by_cases e : q' = q
      · subst e
        obtain ⟨⟨a1, a2, a3, a4, a5, a6, a7, ro, fi, ma, kr⟩, _, ⟨hr1, hr2, hr3⟩, hm⟩ := hQ.1 q' hq'
        refine ⟨⟨?_, ?_, ?_, ?_, ?_, ?_, ?_, ?_, ?_, ?_, ?_⟩, hc, ⟨?_, ?_, ?_⟩, ?_⟩
        · rw [e20 _ 0 (by decide) (by decide), sm.r 101 rfl]; exact a1
        · rw [e20 _ 1 (by decide) (by decide), sm.r 102 rfl]; exact a2
        · rw [e20 _ 2 (by decide) (by decide), sm.r 103 rfl]; exact a3
        · rw [y5]; omega
        · rw [y9, y113]; omega
        · rw [e20 _ 10 (by decide) (by decide), sm.r 106 rfl]; exact a6
        · rw [e20 _ 11 (by decide) (by decide), sm.r 107 rfl]; exact a7
        · simp only [IQro, sm.r 102 rfl, sm.r 101 rfl]; exact ro
        · simp only [IQfi, sm.r 102 rfl, sm.r 106 rfl, sm.r 125 rfl]; exact fi
        · simp only [IQma, sm.r 107 rfl, sm.r 102 rfl, sm.r 103 rfl]; exact ma
        · simp only [IQkr, sm.r 101 rfl, sm.r 103 rfl]; exact kr
        · intro i hi
          rw [y113] at hi
          by_cases ei : i = n
          · subst ei
            rw [y22.1, y22.2.1, y22.2.2, y110.1, y110.2.1, y110.2.2]; exact ⟨rfl, rfl, rfl⟩
          · have x := x22 q' i (Or.inr ei)
            have y := x110 (8 * q' + i) (by omega)
            rw [x.1, x.2.1, x.2.2, y.1, y.2.1, y.2.2]; exact hr1 i (by omega)
        · intro _
          obtain ⟨l1, l2, l3, _⟩ := hr2 m1
          exact ⟨l1, l2, l3, by rw [y113]; exact m8⟩
        · intro i hi
          rw [y113] at hi
          by_cases ei : i = n
          · subst ei
            rw [y110.2.2]; exact hr
          · obtain ⟨j, hj, ej⟩ := hr3 i (by omega)
            refine ⟨j, by omega, ?_⟩
            rw [z108 j hj, (x110 _ (by omega)).2.2]; exact ej
        · simp only [IQm, sm.r 103 rfl, e20 _ 3 (by decide) (by decide), sm.r 104 rfl, sm.r 101 rfl, sm.r 102 rfl, sm.r 105 rfl, sm.r 125 rfl]; exact hm
      · exact IQ_pt hq' (Nat.le_refl _) (fun k _ => x20 _ _ (Or.inl e)) (sm.r 101 rfl _ _) (sm.r 102 rfl _ _) (sm.r 103 rfl _ _) (sm.r 104 rfl _ _) (sm.r 105 rfl _ _) (sm.r 106 rfl _ _) (sm.r 107 rfl _ _) (x113 _ e).2 (x113 _ e).1 (fun i hi => ⟨x108 _ (by omega), (x110 _ (by omega)).1, (x110 _ (by omega)).2.1, (x110 _ (by omega)).2.2, x21 _ _ e, (x22 _ _ (Or.inl e)).1, (x22 _ _ (Or.inl e)).2.1, (x22 _ _ (Or.inl e)).2.2⟩) (fun k _ => ⟨sm.r 101 rfl _ _, sm.r 102 rfl _ _⟩) (fun c _ => sm.r 125 rfl _ _) ⟨rfl, rfl, rfl⟩ (hQ.1 q' hq')
    · rw [(x113 q' (by omega)).1, (x113 q' (by omega)).2, sm.r 107 rfl]; exact hQ.2 q' h1 h2
  · obtain ⟨o1, o2, o3, o4⟩ := hI.IOO
    refine ⟨fun j hj => ?_, fun i j hij hj => ?_, fun q' hq' mk => ?_, fun c' hc' => ?_⟩
    · rw [sm.f 100 29 rfl] at hj
      exact IO1_pt hQ hI.IC (Nat.le_refl _) (Nat.le_refl _) (fun i _ => sm.r 4 rfl _ _) (sm.r 128 rfl _ _) (fun q' _ => ⟨sm.r 103 rfl _ _, sm.r 104 rfl _ _, sm.r 105 rfl _ _, e20 _ 12 (by decide) (by decide)⟩) (fun c' _ => ⟨sm.r 119 rfl _ _, sm.r 121 rfl _ _, sm.r 123 rfl _ _, sm.r 124 rfl _ _⟩) (o1 j hj)
    · rw [sm.f 100 29 rfl] at hj
      rw [sm.r 4 rfl, sm.r 4 rfl]; exact o2 i j hij hj
    · rw [sm.r 103 rfl] at mk
      simp only [sm.f 100 29 rfl, sm.r 4 rfl]; exact o3 q' hq' mk
    · simp only [sm.f 100 29 rfl, sm.r 4 rfl]; exact o4 c' hc'
  · intro g hg
    unfold IA1
    simp only [sm.f 30 0 rfl, sm.r 32 rfl, sm.r 33 rfl]
    exact ⟨AR_pt b20 (fun q hq => hQ.rlt hq) (fun q _ => sm.r 102 rfl _ _) (fun q _ => sm.r 103 rfl _ _) ok (fun k _ _ => sm.r 115 rfl _ _) (fun k _ _ => sm.r 116 rfl _ _) (fun q _ _ p _ => ⟨sm.r 32 rfl _ _, sm.r 33 rfl _ _⟩) (hI.IA g hg).1, (hI.IA g hg).2⟩
  · intro g hg
    obtain ⟨a, b, d⟩ := hI.IS g hg
    obtain ⟨j0, hj0, ej0⟩ := hI.IOO.2.2.1 q hq (by omega)
    have st : V 20 q 12 = (j0 : Int) := by
      have := ((hI.IOO.1 j0 hj0).1 (by omega)).2.2.2.2.1
      rw [ej0, tn_c] at this; exact this
    unfold IS1
    rw [hs g hg, sm.f 100 29 rfl, st]
    have im : imin (V 30 g 2) (j0 : Int) ≤ V 30 g 2 ∧ imin (V 30 g 2) (j0 : Int) ≤ (j0 : Int) ∧ 0 ≤ imin (V 30 g 2) (j0 : Int) := by
      unfold imin
      by_cases cc : (j0 : Int) < V 30 g 2
      · rw [if_pos cc]; omega
      · rw [if_neg cc]; omega
    refine ⟨im.2.2, by omega, fun j hj => ?_⟩
    refine LE_cg b20 hQ hI.IC (hI.IOO.1 j (by omega)) (fun q _ => ⟨sm.r 101 rfl _ _, sm.r 102 rfl _ _, sm.r 103 rfl _ _, sm.r 104 rfl _ _, sm.r 105 rfl _ _⟩) (fun q2 hq2 e2 _ => ?_) (fun q _ => ⟨sm.r 119 rfl _ _, sm.r 120 rfl _ _, sm.r 121 rfl _ _, sm.r 122 rfl _ _, sm.r 123 rfl _ _, sm.r 124 rfl _ _, sm.r 125 rfl _ _⟩) (sm.r 4 rfl _ _) (sm.f 30 0 rfl g) (hI.pers hg) (fun q _ _ p _ => ⟨sm.r 32 rfl _ _, sm.r 33 rfl _ _⟩) (fun i' h1 h2 p _ => ⟨sm.r 32 rfl _ _, sm.r 33 rfl _ _⟩) (fun i' h1 h2 => sm.r 34 rfl _ _) (d j (by omega))
    have ne : q2 ≠ q := by
      intro z
      subst z
      exact hI.IOO.2.1 j j0 (by omega) hj0 (by omega)
    exact ⟨(x113 q2 ne).1, fun i hi => x110 _ (by omega)⟩
  · intro e he
    obtain ⟨a, b, d⟩ := hI.IE e he
    unfold IE1
    simp only [sm.r 131 rfl, sm.r 132 rfl, sm.f 50 1 rfl, sm.r 51 rfl]
    refine ⟨a, b, fun g hg => ?_⟩
    have d := d g hg
    exact ⟨d.1, d.2.1, AR_pt (by omega) (fun q hq => hQ.rlt (by omega)) (fun q _ => sm.r 102 rfl _ _) (fun q _ => sm.r 103 rfl _ _) (fun q hq => ok q (by omega)) (fun k _ _ => sm.r 133 rfl _ _) (fun k _ _ => sm.r 134 rfl _ _) (fun q _ _ p _ => ⟨sm.r 32 rfl _ _, sm.r 33 rfl _ _⟩) d.2.2⟩
def rwc (V : GV) (q n : Nat) (lo hi c : Int) : GV := u3 (u3 (u3 (u3 V 22 q n lo) 23 q n hi) 24 q n c) 20 q 9 ((n + 1 : Nat) : Int)
def rwr (V : GV) (q n : Nat) (lo hi c : Int) : GV := u3 (u3 (u3 (u3 V 110 0 (8 * q + n) lo) 111 0 (8 * q + n) hi) 112 0 (8 * q + n) c) 113 0 q ((n + 1 : Nat) : Int)
theorem w_24s {q n : Nat} {r : Nat} {v : Int} {f : GS → GO} (hr : rC R r = rC R 20) (hl : rN R r q = 8) (hq : q < rC R 20) (hn : n < 8) (k : Wp (f (u3 V r q n v, R)) Q) : Wp ((gs r (V, R) (q : Int) (n : Int) v).bind f) Q := by
  refine w_gs (by omega) (by omega) (by omega) (by rw [tn_c, tn_c]; omega) ?_
  rw [tn_c, tn_c]; exact k
theorem w_addRow {q n m : Nat} {lo hi c : Int} {f : Int × GS → GO} (hI : INV IT V R) (hq : q < rC R 20) (m1 : V 103 0 q = 1) (en : V 113 0 q = (n : Int)) (hn : n < 8) (em : V 109 0 q = (m : Int))
  (k1 : (∃ j : Nat, j < m ∧ V 108 0 (8 * q + j) = c) → Wp (f (0, (rwc V q n lo hi c, R))) Q) (k0 : (∀ j : Nat, j < m → V 108 0 (8 * q + j) ≠ c) → Wp (f (0, (u3 (u3 (rwc V q n lo hi c) 21 q m c) 20 q 5 ((m + 1 : Nat) : Int), R))) Q) : Wp ((g_X5_addRow (q : Int) lo hi c (V, R)).bind f) Q := by
  have hS := hI.SH
  have hF := hI.RF
  have hQ := hI.IQ
  obtain ⟨_, _, _, ⟨e5, c0, c8⟩, ⟨e9, _, _⟩, _⟩ := (hQ.1 q hq).1
  rw [en] at e9
  obtain ⟨l22, l23, l24, mle⟩ := (hQ.1 q hq).2.2.1.2.1 m1
  obtain ⟨s21, s22, s23, s24, _⟩ := hS.2.2
  refine w_bind ?_
  unfold g_X5_addRow
  refine w_gv (by omega) ?_
  ((first | ((with_reducible refine w_s hS ?_ ?_ ?_ (fun x hx => ?_)); (focus decide); (focus (first | decide | omega)); (focus (first | decide | (simp only [sl]; omega)))) | ((with_reducible refine w_m hS ?_ ?_ ?_ ?_ ?_ (fun x hx => ?_)); (focus decide); (focus (first | decide | omega)); (focus omega); (focus (first | decide | omega)); (focus (first | decide | (simp only [ml]; omega)))) | (with_reducible refine w_k (by simp (disch := omega) only [w32_id]; exact rfl) ?_; ((with_reducible refine w_s hS ?_ ?_ ?_ (fun x hx => ?_)); (focus decide); (focus (first | decide | omega)); (focus (first | decide | (simp only [sl]; omega))))) | (with_reducible refine w_k (by simp (disch := omega) only [w32_id]; exact rfl) ?_; ((with_reducible refine w_m hS ?_ ?_ ?_ ?_ ?_ (fun x hx => ?_)); (focus decide); (focus (first | decide | omega)); (focus omega); (focus (first | decide | omega)); (focus (first | decide | (simp only [ml]; omega)))))); (try simp (disch := omega) only [Int.reduceToNat, tn_c, tn8, tn8i, tn5, tn5z, tn6, tn6z, tn1, u3_ne, u3_eq, u3_ni, u3_nk, e9] at hx); subst hx)
  ((first | ((with_reducible refine w_s hS ?_ ?_ ?_ (fun x hx => ?_)); (focus decide); (focus (first | decide | omega)); (focus (first | decide | (simp only [sl]; omega)))) | ((with_reducible refine w_m hS ?_ ?_ ?_ ?_ ?_ (fun x hx => ?_)); (focus decide); (focus (first | decide | omega)); (focus omega); (focus (first | decide | omega)); (focus (first | decide | (simp only [ml]; omega)))) | (with_reducible refine w_k (by simp (disch := omega) only [w32_id]; exact rfl) ?_; ((with_reducible refine w_s hS ?_ ?_ ?_ (fun x hx => ?_)); (focus decide); (focus (first | decide | omega)); (focus (first | decide | (simp only [sl]; omega))))) | (with_reducible refine w_k (by simp (disch := omega) only [w32_id]; exact rfl) ?_; ((with_reducible refine w_m hS ?_ ?_ ?_ ?_ ?_ (fun x hx => ?_)); (focus decide); (focus (first | decide | omega)); (focus omega); (focus (first | decide | omega)); (focus (first | decide | (simp only [ml]; omega)))))); (try simp (disch := omega) only [Int.reduceToNat, tn_c, tn8, tn8i, tn5, tn5z, tn6, tn6z, tn1, u3_ne, u3_eq, u3_ni, u3_nk, f_20_8 hF] at hx); subst hx)
  refine w_gal (by omega) (by omega) ?_
  rw [tn_c, l24]
  refine w_ite (fun _ => ?_) (fun z => absurd (show (n : Int) < ((8 : Nat) : Int) by omega) z)
  ((first | ((with_reducible refine w_s hS ?_ ?_ ?_ (fun x hx => ?_)); (focus decide); (focus (first | decide | omega)); (focus (first | decide | (simp only [sl]; omega)))) | ((with_reducible refine w_m hS ?_ ?_ ?_ ?_ ?_ (fun x hx => ?_)); (focus decide); (focus (first | decide | omega)); (focus omega); (focus (first | decide | omega)); (focus (first | decide | (simp only [ml]; omega)))) | (with_reducible refine w_k (by simp (disch := omega) only [w32_id]; exact rfl) ?_; ((with_reducible refine w_s hS ?_ ?_ ?_ (fun x hx => ?_)); (focus decide); (focus (first | decide | omega)); (focus (first | decide | (simp only [sl]; omega))))) | (with_reducible refine w_k (by simp (disch := omega) only [w32_id]; exact rfl) ?_; ((with_reducible refine w_m hS ?_ ?_ ?_ ?_ ?_ (fun x hx => ?_)); (focus decide); (focus (first | decide | omega)); (focus omega); (focus (first | decide | omega)); (focus (first | decide | (simp only [ml]; omega)))))); (try simp (disch := omega) only [Int.reduceToNat, tn_c, tn8, tn8i, tn5, tn5z, tn6, tn6z, tn1, u3_ne, u3_eq, u3_ni, u3_nk, f_20_6 hF] at hx); subst hx)
  ((first | ((with_reducible refine w_s hS ?_ ?_ ?_ (fun x hx => ?_)); (focus decide); (focus (first | decide | omega)); (focus (first | decide | (simp only [sl]; omega)))) | ((with_reducible refine w_m hS ?_ ?_ ?_ ?_ ?_ (fun x hx => ?_)); (focus decide); (focus (first | decide | omega)); (focus omega); (focus (first | decide | omega)); (focus (first | decide | (simp only [ml]; omega)))) | (with_reducible refine w_k (by simp (disch := omega) only [w32_id]; exact rfl) ?_; ((with_reducible refine w_s hS ?_ ?_ ?_ (fun x hx => ?_)); (focus decide); (focus (first | decide | omega)); (focus (first | decide | (simp only [sl]; omega))))) | (with_reducible refine w_k (by simp (disch := omega) only [w32_id]; exact rfl) ?_; ((with_reducible refine w_m hS ?_ ?_ ?_ ?_ ?_ (fun x hx => ?_)); (focus decide); (focus (first | decide | omega)); (focus omega); (focus (first | decide | omega)); (focus (first | decide | (simp only [ml]; omega)))))); (try simp (disch := omega) only [Int.reduceToNat, tn_c, tn8, tn8i, tn5, tn5z, tn6, tn6z, tn1, u3_ne, u3_eq, u3_ni, u3_nk, e9] at hx); subst hx)
  refine w_24s s22 l22 hq hn ?_
  ((first | ((with_reducible refine w_s hS ?_ ?_ ?_ (fun x hx => ?_)); (focus decide); (focus (first | decide | omega)); (focus (first | decide | (simp only [sl]; omega)))) | ((with_reducible refine w_m hS ?_ ?_ ?_ ?_ ?_ (fun x hx => ?_)); (focus decide); (focus (first | decide | omega)); (focus omega); (focus (first | decide | omega)); (focus (first | decide | (simp only [ml]; omega)))) | (with_reducible refine w_k (by simp (disch := omega) only [w32_id]; exact rfl) ?_; ((with_reducible refine w_s hS ?_ ?_ ?_ (fun x hx => ?_)); (focus decide); (focus (first | decide | omega)); (focus (first | decide | (simp only [sl]; omega))))) | (with_reducible refine w_k (by simp (disch := omega) only [w32_id]; exact rfl) ?_; ((with_reducible refine w_m hS ?_ ?_ ?_ ?_ ?_ (fun x hx => ?_)); (focus decide); (focus (first | decide | omega)); (focus omega); (focus (first | decide | omega)); (focus (first | decide | (simp only [ml]; omega)))))); (try simp (disch := omega) only [Int.reduceToNat, tn_c, tn8, tn8i, tn5, tn5z, tn6, tn6z, tn1, u3_ne, u3_eq, u3_ni, u3_nk, u3_ne, f_20_7 hF] at hx); subst hx)
  ((first | ((with_reducible refine w_s hS ?_ ?_ ?_ (fun x hx => ?_)); (focus decide); (focus (first | decide | omega)); (focus (first | decide | (simp only [sl]; omega)))) | ((with_reducible refine w_m hS ?_ ?_ ?_ ?_ ?_ (fun x hx => ?_)); (focus decide); (focus (first | decide | omega)); (focus omega); (focus (first | decide | omega)); (focus (first | decide | (simp only [ml]; omega)))) | (with_reducible refine w_k (by simp (disch := omega) only [w32_id]; exact rfl) ?_; ((with_reducible refine w_s hS ?_ ?_ ?_ (fun x hx => ?_)); (focus decide); (focus (first | decide | omega)); (focus (first | decide | (simp only [sl]; omega))))) | (with_reducible refine w_k (by simp (disch := omega) only [w32_id]; exact rfl) ?_; ((with_reducible refine w_m hS ?_ ?_ ?_ ?_ ?_ (fun x hx => ?_)); (focus decide); (focus (first | decide | omega)); (focus omega); (focus (first | decide | omega)); (focus (first | decide | (simp only [ml]; omega)))))); (try simp (disch := omega) only [Int.reduceToNat, tn_c, tn8, tn8i, tn5, tn5z, tn6, tn6z, tn1, u3_ne, u3_eq, u3_ni, u3_nk, u3_ne, e9] at hx); subst hx)
  refine w_24s s23 l23 hq hn ?_
  ((first | ((with_reducible refine w_s hS ?_ ?_ ?_ (fun x hx => ?_)); (focus decide); (focus (first | decide | omega)); (focus (first | decide | (simp only [sl]; omega)))) | ((with_reducible refine w_m hS ?_ ?_ ?_ ?_ ?_ (fun x hx => ?_)); (focus decide); (focus (first | decide | omega)); (focus omega); (focus (first | decide | omega)); (focus (first | decide | (simp only [ml]; omega)))) | (with_reducible refine w_k (by simp (disch := omega) only [w32_id]; exact rfl) ?_; ((with_reducible refine w_s hS ?_ ?_ ?_ (fun x hx => ?_)); (focus decide); (focus (first | decide | omega)); (focus (first | decide | (simp only [sl]; omega))))) | (with_reducible refine w_k (by simp (disch := omega) only [w32_id]; exact rfl) ?_; ((with_reducible refine w_m hS ?_ ?_ ?_ ?_ ?_ (fun x hx => ?_)); (focus decide); (focus (first | decide | omega)); (focus omega); (focus (first | decide | omega)); (focus (first | decide | (simp only [ml]; omega)))))); (try simp (disch := omega) only [Int.reduceToNat, tn_c, tn8, tn8i, tn5, tn5z, tn6, tn6z, tn1, u3_ne, u3_eq, u3_ni, u3_nk, u3_ne, f_20_8 hF] at hx); subst hx)
  ((first | ((with_reducible refine w_s hS ?_ ?_ ?_ (fun x hx => ?_)); (focus decide); (focus (first | decide | omega)); (focus (first | decide | (simp only [sl]; omega)))) | ((with_reducible refine w_m hS ?_ ?_ ?_ ?_ ?_ (fun x hx => ?_)); (focus decide); (focus (first | decide | omega)); (focus omega); (focus (first | decide | omega)); (focus (first | decide | (simp only [ml]; omega)))) | (with_reducible refine w_k (by simp (disch := omega) only [w32_id]; exact rfl) ?_; ((with_reducible refine w_s hS ?_ ?_ ?_ (fun x hx => ?_)); (focus decide); (focus (first | decide | omega)); (focus (first | decide | (simp only [sl]; omega))))) | (with_reducible refine w_k (by simp (disch := omega) only [w32_id]; exact rfl) ?_; ((with_reducible refine w_m hS ?_ ?_ ?_ ?_ ?_ (fun x hx => ?_)); (focus decide); (focus (first | decide | omega)); (focus omega); (focus (first | decide | omega)); (focus (first | decide | (simp only [ml]; omega)))))); (try simp (disch := omega) only [Int.reduceToNat, tn_c, tn8, tn8i, tn5, tn5z, tn6, tn6z, tn1, u3_ne, u3_eq, u3_ni, u3_nk, u3_ne, e9] at hx); subst hx)
  refine w_24s s24 l24 hq hn ?_
  ((first | ((with_reducible refine w_s hS ?_ ?_ ?_ (fun x hx => ?_)); (focus decide); (focus (first | decide | omega)); (focus (first | decide | (simp only [sl]; omega)))) | ((with_reducible refine w_m hS ?_ ?_ ?_ ?_ ?_ (fun x hx => ?_)); (focus decide); (focus (first | decide | omega)); (focus omega); (focus (first | decide | omega)); (focus (first | decide | (simp only [ml]; omega)))) | (with_reducible refine w_k (by simp (disch := omega) only [w32_id]; exact rfl) ?_; ((with_reducible refine w_s hS ?_ ?_ ?_ (fun x hx => ?_)); (focus decide); (focus (first | decide | omega)); (focus (first | decide | (simp only [sl]; omega))))) | (with_reducible refine w_k (by simp (disch := omega) only [w32_id]; exact rfl) ?_; ((with_reducible refine w_m hS ?_ ?_ ?_ ?_ ?_ (fun x hx => ?_)); (focus decide); (focus (first | decide | omega)); (focus omega); (focus (first | decide | omega)); (focus (first | decide | (simp only [ml]; omega)))))); (try simp (disch := omega) only [Int.reduceToNat, tn_c, tn8, tn8i, tn5, tn5z, tn6, tn6z, tn1, u3_ne, u3_eq, u3_ni, u3_nk, u3_ne, e9] at hx); subst hx)
  refine w_ms hS (by decide) (by omega) (by omega) (by omega) (by decide) ?_
  simp only [tn_c, Int.reduceToNat]
  rw [ws1 (by omega)]
  have sm : same V (rwc V q n lo hi c) LRx := by
    unfold rwc
    exact ((((same.rf V _).u ⟨(22, none), by decide, rfl, Or.inl rfl⟩).u ⟨(23, none), by decide, rfl, Or.inl rfl⟩).u ⟨(24, none), by decide, rfl, Or.inl rfl⟩).u ⟨(20, some 9), by decide, rfl, Or.inr rfl⟩
  have x5 : rwc V q n lo hi c 20 q 5 = V 20 q 5 := by unfold rwc; rw [u3_nk (by decide), u3_ne (by decide), u3_ne (by decide), u3_ne (by decide)]
  have xo : ∀ r, r ≠ 20 → r ≠ 22 → r ≠ 23 → r ≠ 24 → ∀ i k, rwc V q n lo hi c r i k = V r i k := by
    intro r h1 h2 h3 h4 i k
    unfold rwc; rw [u3_ne h1, u3_ne h4, u3_ne h3, u3_ne h2]
  have hF1 := cg_RF sm rfl hF
  show Wp ((g_X5_codeIndex (q : Int) c (rwc V q n lo hi c, R)).bind _) _
  refine w_codeIndex0 hS hF1 hq ⟨by rw [x5, e5, xo 109 (by decide) (by decide) (by decide) (by decide)], by rw [xo 109 (by decide) (by decide) (by decide) (by decide)]; omega, by rw [xo 109 (by decide) (by decide) (by decide) (by decide)]; omega⟩ (fun i hi => ?_) (fun j hj ej => ?_) (fun hnn => ?_)
  · rw [xo 109 (by decide) (by decide) (by decide) (by decide)] at hi
    rw [xo 21 (by decide) (by decide) (by decide) (by decide), xo 108 (by decide) (by decide) (by decide) (by decide)]
    exact ((hQ.1 q hq).2.1.1 i hi).1
  · rw [xo 109 (by decide) (by decide) (by decide) (by decide)] at hj
    rw [xo 108 (by decide) (by decide) (by decide) (by decide)] at ej
    exact w_ite (fun _ => w_ret (k1 ⟨j, by omega, ej⟩)) (fun z => absurd (show (j : Int) ≠ -1 by omega) z)
  · have hnn : ∀ j : Nat, j < m → V 108 0 (8 * q + j) ≠ c := by
      intro j hj
      have := hnn j (by rw [xo 109 (by decide) (by decide) (by decide) (by decide)]; omega)
      rw [xo 108 (by decide) (by decide) (by decide) (by decide)] at this; exact this
    refine w_ite (fun z => absurd rfl z) (fun _ => ?_)
    exact w_addCode hS hF1 hq (by rw [x5, e5, em]) (by omega) (w_ret (k0 hnn))
theorem w_unsetAll {q : Nat} (hS : SH R) (hF : RF V R) (b30 : rC R 30 ≤ 40) (hq : q < rC R 20) (hN : V 0 0 2 = (rC R 30 : Int)) (hL : ∀ k, k < rC R 30 → V 5 0 k = (k : Int))
  (K : ∀ V', same V V' [(30, some 2)] → (∀ h, h < rC R 30 → V' 30 h 2 = imin (V 30 h 2) (V 20 q 12)) → Q (V 20 q 9) (V', R)) : Wp (lh1 (glX8_row_70 0 (q : Int)) 6000 0 (V, R)) Q := by
  refine w_for (rC R 30) (fun i G => ∃ V', G = (V', R) ∧ same V V' [(30, some 2)] ∧ (∀ h, h < i → V' 30 h 2 = imin (V 30 h 2) (V 20 q 12)) ∧ ∀ h, i ≤ h → V' 30 h 2 = V 30 h 2) ?_ (i := 0) (by omega) (by omega) ⟨V, rfl, same.rf V _, fun h hh => absurd hh (by omega), fun h _ => rfl⟩
  rintro i G hi ⟨V', rfl, sm, hv, hw⟩ self ih
  have hF' := cg_RF sm rfl hF
  unfold glX8_row_70
  ((first | ((with_reducible refine w_s hS ?_ ?_ ?_ (fun x hx => ?_)); (focus decide); (focus (first | decide | omega)); (focus (first | decide | (simp only [sl]; omega)))) | ((with_reducible refine w_m hS ?_ ?_ ?_ ?_ ?_ (fun x hx => ?_)); (focus decide); (focus (first | decide | omega)); (focus omega); (focus (first | decide | omega)); (focus (first | decide | (simp only [ml]; omega)))) | (with_reducible refine w_k (by simp (disch := omega) only [w32_id]; exact rfl) ?_; ((with_reducible refine w_s hS ?_ ?_ ?_ (fun x hx => ?_)); (focus decide); (focus (first | decide | omega)); (focus (first | decide | (simp only [sl]; omega))))) | (with_reducible refine w_k (by simp (disch := omega) only [w32_id]; exact rfl) ?_; ((with_reducible refine w_m hS ?_ ?_ ?_ ?_ ?_ (fun x hx => ?_)); (focus decide); (focus (first | decide | omega)); (focus omega); (focus (first | decide | omega)); (focus (first | decide | (simp only [ml]; omega)))))); (try simp (disch := omega) only [Int.reduceToNat, tn_c, tn8, tn8i, tn5, tn5z, tn6, tn6z, tn1, u3_ne, u3_eq, u3_ni, u3_nk, sm.r 0 rfl, hN] at hx); subst hx)
  refine w_ite (fun hx => ?_) (fun hx => ?_)
  · ((first | ((with_reducible refine w_s hS ?_ ?_ ?_ (fun x hx => ?_)); (focus decide); (focus (first | decide | omega)); (focus (first | decide | (simp only [sl]; omega)))) | ((with_reducible refine w_m hS ?_ ?_ ?_ ?_ ?_ (fun x hx => ?_)); (focus decide); (focus (first | decide | omega)); (focus omega); (focus (first | decide | omega)); (focus (first | decide | (simp only [ml]; omega)))) | (with_reducible refine w_k (by simp (disch := omega) only [w32_id]; exact rfl) ?_; ((with_reducible refine w_s hS ?_ ?_ ?_ (fun x hx => ?_)); (focus decide); (focus (first | decide | omega)); (focus (first | decide | (simp only [sl]; omega))))) | (with_reducible refine w_k (by simp (disch := omega) only [w32_id]; exact rfl) ?_; ((with_reducible refine w_m hS ?_ ?_ ?_ ?_ ?_ (fun x hx => ?_)); (focus decide); (focus (first | decide | omega)); (focus omega); (focus (first | decide | omega)); (focus (first | decide | (simp only [ml]; omega)))))); (try simp (disch := omega) only [Int.reduceToNat, tn_c, tn8, tn8i, tn5, tn5z, tn6, tn6z, tn1, u3_ne, u3_eq, u3_ni, u3_nk, sm.r 20 rfl] at hx); subst hx)
    exact w_ret (K V' sm (fun h hh => hv h (by omega)))
  · have hi : i < rC R 30 := by omega
    ((first | ((with_reducible refine w_s hS ?_ ?_ ?_ (fun x hx => ?_)); (focus decide); (focus (first | decide | omega)); (focus (first | decide | (simp only [sl]; omega)))) | ((with_reducible refine w_m hS ?_ ?_ ?_ ?_ ?_ (fun x hx => ?_)); (focus decide); (focus (first | decide | omega)); (focus omega); (focus (first | decide | omega)); (focus (first | decide | (simp only [ml]; omega)))) | (with_reducible refine w_k (by simp (disch := omega) only [w32_id]; exact rfl) ?_; ((with_reducible refine w_s hS ?_ ?_ ?_ (fun x hx => ?_)); (focus decide); (focus (first | decide | omega)); (focus (first | decide | (simp only [sl]; omega))))) | (with_reducible refine w_k (by simp (disch := omega) only [w32_id]; exact rfl) ?_; ((with_reducible refine w_m hS ?_ ?_ ?_ ?_ ?_ (fun x hx => ?_)); (focus decide); (focus (first | decide | omega)); (focus omega); (focus (first | decide | omega)); (focus (first | decide | (simp only [ml]; omega)))))); (try simp (disch := omega) only [Int.reduceToNat, tn_c, tn8, tn8i, tn5, tn5z, tn6, tn6z, tn1, u3_ne, u3_eq, u3_ni, u3_nk, f_0_1 hF'] at hx); subst hx)
    ((first | ((with_reducible refine w_s hS ?_ ?_ ?_ (fun x hx => ?_)); (focus decide); (focus (first | decide | omega)); (focus (first | decide | (simp only [sl]; omega)))) | ((with_reducible refine w_m hS ?_ ?_ ?_ ?_ ?_ (fun x hx => ?_)); (focus decide); (focus (first | decide | omega)); (focus omega); (focus (first | decide | omega)); (focus (first | decide | (simp only [ml]; omega)))) | (with_reducible refine w_k (by simp (disch := omega) only [w32_id]; exact rfl) ?_; ((with_reducible refine w_s hS ?_ ?_ ?_ (fun x hx => ?_)); (focus decide); (focus (first | decide | omega)); (focus (first | decide | (simp only [sl]; omega))))) | (with_reducible refine w_k (by simp (disch := omega) only [w32_id]; exact rfl) ?_; ((with_reducible refine w_m hS ?_ ?_ ?_ ?_ ?_ (fun x hx => ?_)); (focus decide); (focus (first | decide | omega)); (focus omega); (focus (first | decide | omega)); (focus (first | decide | (simp only [ml]; omega)))))); (try simp (disch := omega) only [Int.reduceToNat, tn_c, tn8, tn8i, tn5, tn5z, tn6, tn6z, tn1, u3_ne, u3_eq, u3_ni, u3_nk, sm.r 5 rfl, hL] at hx); subst hx)
    ((first | ((with_reducible refine w_s hS ?_ ?_ ?_ (fun x hx => ?_)); (focus decide); (focus (first | decide | omega)); (focus (first | decide | (simp only [sl]; omega)))) | ((with_reducible refine w_m hS ?_ ?_ ?_ ?_ ?_ (fun x hx => ?_)); (focus decide); (focus (first | decide | omega)); (focus omega); (focus (first | decide | omega)); (focus (first | decide | (simp only [ml]; omega)))) | (with_reducible refine w_k (by simp (disch := omega) only [w32_id]; exact rfl) ?_; ((with_reducible refine w_s hS ?_ ?_ ?_ (fun x hx => ?_)); (focus decide); (focus (first | decide | omega)); (focus (first | decide | (simp only [sl]; omega))))) | (with_reducible refine w_k (by simp (disch := omega) only [w32_id]; exact rfl) ?_; ((with_reducible refine w_m hS ?_ ?_ ?_ ?_ ?_ (fun x hx => ?_)); (focus decide); (focus (first | decide | omega)); (focus omega); (focus (first | decide | omega)); (focus (first | decide | (simp only [ml]; omega)))))); (try simp (disch := omega) only [Int.reduceToNat, tn_c, tn8, tn8i, tn5, tn5z, tn6, tn6z, tn1, u3_ne, u3_eq, u3_ni, u3_nk, sm.r 20 rfl] at hx); subst hx)
    have U : Wp ((g_X4_unsettle (i : Int) (V 20 q 12) (V', R)).bind fun z6 => self (w32 ((i : Int) + 1)) z6.2) Q := by
      refine w_bind ?_
      unfold g_X4_unsettle
      refine w_gv (by omega) ?_
      ((first | ((with_reducible refine w_s hS ?_ ?_ ?_ (fun x hx => ?_)); (focus decide); (focus (first | decide | omega)); (focus (first | decide | (simp only [sl]; omega)))) | ((with_reducible refine w_m hS ?_ ?_ ?_ ?_ ?_ (fun x hx => ?_)); (focus decide); (focus (first | decide | omega)); (focus omega); (focus (first | decide | omega)); (focus (first | decide | (simp only [ml]; omega)))) | (with_reducible refine w_k (by simp (disch := omega) only [w32_id]; exact rfl) ?_; ((with_reducible refine w_s hS ?_ ?_ ?_ (fun x hx => ?_)); (focus decide); (focus (first | decide | omega)); (focus (first | decide | (simp only [sl]; omega))))) | (with_reducible refine w_k (by simp (disch := omega) only [w32_id]; exact rfl) ?_; ((with_reducible refine w_m hS ?_ ?_ ?_ ?_ ?_ (fun x hx => ?_)); (focus decide); (focus (first | decide | omega)); (focus omega); (focus (first | decide | omega)); (focus (first | decide | (simp only [ml]; omega)))))); (try simp (disch := omega) only [Int.reduceToNat, tn_c, tn8, tn8i, tn5, tn5z, tn6, tn6z, tn1, u3_ne, u3_eq, u3_ni, u3_nk, hw i (Nat.le_refl i)] at hx); subst hx)
      refine w_ms hS (by decide) (by omega) (by omega) (by omega) (by decide) ?_
      simp only [tn_c, Int.reduceToNat]
      refine w_ret (ih _ hi ⟨_, rfl, sm.u ⟨(30, some 2), by decide, rfl, Or.inr rfl⟩, fun h hh => ?_, fun h hh => ?_⟩)
      · by_cases e : h = i
        · subst e; rw [u3_eq]
        · rw [u3_ni e]; exact hv h (by omega)
      · rw [u3_ni (by omega)]; exact hw h (by omega)
    exact U
end Row
