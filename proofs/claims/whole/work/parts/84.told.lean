section Told
variable {V : GV} {R : GR} {Q : Int → GS → Prop}
def LC : PL' := [(32, none), (33, none), (115, none), (116, none), (30, some 2)]
theorem INV_told {V' : GV} (hI : INV IT V R) (sm : same V V' LC) (hed : ∀ s, (∀ h, h < rC R 30 → s ≠ (V 30 h 0).toNat) → ∀ k, V' 32 s k = V 32 s k ∧ V' 33 s k = V 33 s k) (hA : IA V' R)
  (hS : ∀ h, h < rC R 30 → V' 30 h 2 = 0 ∨ (V' 30 h 2 = V 30 h 2 ∧ ∀ k, V' 32 (V 30 h 0).toNat k = V 32 (V 30 h 0).toNat k ∧ V' 33 (V 30 h 0).toNat k = V 33 (V 30 h 0).toNat k)) : INV IT V' R := by
  refine ⟨⟨hI.SH, cg_RF sm rfl hI.RF, cg_IN sm rfl hI.IN, cg_IL sm rfl hI.IL, hI.IR⟩, cg_IQ sm rfl hI.IQ, cg_IC sm rfl hI.IC, cg_IOO sm rfl hI.IOO, cg_IHs sm rfl hI.IHs, hA, cg_IW sm rfl hI.IW, ?_, ?_, cg_T sm rfl hI.TT⟩
  · intro g hg
    obtain ⟨a, b, c⟩ := hI.IS g hg
    unfold IS1
    rw [sm.f 100 29 rfl]
    rcases hS g hg with h | ⟨h, hk⟩
    · rw [h]; exact ⟨Int.le_refl _, hI.IN.2.2.2.1, fun j hj => absurd hj (by omega)⟩
    · rw [h]
      refine ⟨a, b, fun j hj => LE_cg hI.IN.1.1 hI.IQ hI.IC (hI.IOO.1 j (by omega)) (fun q _ => ⟨sm.r 101 rfl _ _, sm.r 102 rfl _ _, sm.r 103 rfl _ _, sm.r 104 rfl _ _, sm.r 105 rfl _ _⟩) (fun q _ _ _ => ⟨sm.r 113 rfl _ _, fun _ _ => ⟨sm.r 110 rfl _ _, sm.r 111 rfl _ _, sm.r 112 rfl _ _⟩⟩) (fun q _ => ⟨sm.r 119 rfl _ _, sm.r 120 rfl _ _, sm.r 121 rfl _ _, sm.r 122 rfl _ _, sm.r 123 rfl _ _, sm.r 124 rfl _ _, sm.r 125 rfl _ _⟩) (sm.r 4 rfl _ _) (sm.f 30 0 rfl g) (hI.pers hg) (fun q _ _ p _ => hk _) (fun i' h1 h2 p _ => hk _) (fun i' h1 h2 => sm.r 34 rfl _ _) (c j hj)⟩
  · intro e he
    obtain ⟨a, b, c⟩ := hI.IE e he
    unfold IE1
    rw [sm.r 131 rfl, sm.r 132 rfl, sm.f 50 1 rfl]
    refine ⟨a, b, fun g hg => ?_⟩
    rw [sm.r 51 rfl]
    have c := c g hg
    obtain ⟨d0, _, d⟩ := hI.IHs.2.2 e g he hg
    refine ⟨c.1, c.2.1, AR_cg (sm.r 101 rfl _) (sm.r 102 rfl _) (sm.r 103 rfl _) (sm.r 108 rfl _) (sm.r 109 rfl _) (sm.r 133 rfl _) (sm.r 134 rfl _) (fun q _ _ p _ => hed _ (fun h hh => ?_) _) c.2.2⟩
    have := d h hh
    have := (hI.IHs.1 h hh).1
    omega
theorem IA_put {V' : GV} {h q p t : Nat} {v r : Int} (hI : INV IT V R) (sm : same V V' LC) (hh : h < rC R 30) (hq : q < rC R 20) (m0 : V 103 0 q = 0) (k5 : V 101 0 q ≠ 5) (hp : (V 102 0 q = -1 ∧ t = 0 ∧ p = 0) ∨ (V 102 0 q ≠ -1 ∧ t = p + 1 ∧ p < 5 ∧ (p : Int) < plc V (V 30 h 0).toNat (V 102 0 q))) (ok : okv V q v r)
  (e1 : V' 32 (V 30 h 0).toNat (5 * q + p) = v) (e2 : V' 33 (V 30 h 0).toNat (5 * q + p) = r) (e3 : V' 115 0 (144 * h + 6 * q + t) = v) (e4 : V' 116 0 (144 * h + 6 * q + t) = r)
  (o1 : ∀ s k, (s ≠ (V 30 h 0).toNat ∨ k ≠ 5 * q + p) → V' 32 s k = V 32 s k ∧ V' 33 s k = V 33 s k) (o2 : ∀ k, k ≠ 144 * h + 6 * q + t → V' 115 0 k = V 115 0 k ∧ V' 116 0 k = V 116 0 k) : IA V' R := by
  have b20 := hI.IN.1.1
  have okc : ∀ q v r, okv V q v r → okv V' q v r := by intro q v r; unfold okv; simp only [sm.r 101 rfl, sm.r 108 rfl, sm.r 109 rfl]; exact id
  intro g hg
  unfold IA1
  rw [sm.f 30 0 rfl]
  refine ⟨fun q' hq' m0' => ?_, fun q' h1 h2 p' hp' => ?_⟩
  · rw [sm.r 103 rfl] at m0'
    rw [sm.r 102 rfl]
    obtain ⟨A1, A2⟩ := (hI.IA g hg).1 q' hq' m0'
    -- a slot that holds a number of persons is not touched
    have cnt : ∀ m : Nat, V 102 0 q' = (m : Int) → V' 115 0 (144 * g + 6 * m) = V 115 0 (144 * g + 6 * m) := by
      intro m em
      obtain ⟨m', em', _, hm', k5', _⟩ := hI.IQ.ro hq' (by omega)
      have : m' = m := by omega
      subst this
      refine (o2 _ (fun z => ?_)).1
      have : m' = q := by omega
      subst this
      exact k5 k5'
    by_cases e : g = h ∧ q' = q
    · obtain ⟨rfl, rfl⟩ := e
      refine ⟨fun tt => ?_, fun tt p' hp' => ?_⟩
      · have : t = 0 ∧ p = 0 := by omega
        obtain ⟨rfl, rfl⟩ := this
        rw [Nat.add_zero] at e1 e2 e3 e4
        rw [e1, e2, e3, e4]
        exact ⟨rfl, rfl, okc _ _ _ ok⟩
      · obtain ⟨_, rfl, p5, plt⟩ := hp.resolve_left (by omega)
        obtain ⟨m, em, _, hm, k5', _⟩ := hI.IQ.ro hq (by omega)
        rw [em, tn_c, cnt m em]
        obtain ⟨B1, B2, B3, B4⟩ := A2 tt p' hp'
        rw [em, tn_c] at B4
        by_cases ep : p' = p
        · subst ep
          rw [e1, e2, e3, e4]
          refine ⟨rfl, rfl, okc _ _ _ ok, fun z => ?_⟩
          have := hI.per hh hm k5'
          unfold plc at plt
          rw [if_neg (by omega), em, tn_c] at plt
          omega
        · rw [(o1 _ _ (Or.inr (by omega))).1, (o1 _ _ (Or.inr (by omega))).2, (o2 _ (by omega)).1, (o2 _ (by omega)).2]
          exact ⟨B1, B2, okc _ _ _ B3, B4⟩
    · have ne : ∀ t', t' < 6 → 144 * g + 6 * q' + t' ≠ 144 * h + 6 * q + t := by
        intro t' ht' z
        have t6 : t < 6 := by omega
        exact e ⟨by omega, by omega⟩
      have ns : ∀ p', p' < 5 → ((V 30 g 0).toNat ≠ (V 30 h 0).toNat ∨ 5 * q' + p' ≠ 5 * q + p) := by
        intro p' hp'
        by_cases eg : g = h
        · subst eg
          refine Or.inr (fun z => e ⟨rfl, ?_⟩)
          omega
        · exact Or.inl (hI.sh_ne hg hh eg)
      refine ⟨fun tt => ?_, fun tt p' hp' => ?_⟩
      · obtain ⟨B1, B2, B3⟩ := A1 tt
        have n0 := ns 0 (by omega)
        have z0 := ne 0 (by omega)
        rw [Nat.add_zero] at n0 z0
        rw [(o1 _ _ n0).1, (o1 _ _ n0).2, (o2 _ z0).1, (o2 _ z0).2]
        exact ⟨B1, B2, okc _ _ _ B3⟩
      · obtain ⟨m, em, _⟩ := hI.IQ.ro hq' (by omega)
        rw [em, tn_c, cnt m em]
        obtain ⟨B1, B2, B3, B4⟩ := A2 tt p' hp'
        rw [em, tn_c] at B4
        rw [(o1 _ _ (ns p' hp')).1, (o1 _ _ (ns p' hp')).2, (o2 _ (ne (p' + 1) (by omega))).1, (o2 _ (ne (p' + 1) (by omega))).2]
        exact ⟨B1, B2, okc _ _ _ B3, B4⟩
  · have := (hI.IA g hg).2 q' h1 h2 p' hp'
    rw [(o1 _ _ (Or.inr (by omega))).1, (o1 _ _ (Or.inr (by omega))).2]
    exact this
theorem w_unset {h : Nat} {f : Int × GS → GO} (hS : SH R) (hh : h < rC R 30) (h0 : 0 ≤ V 30 h 2) (q : Wp (f (0, (u3 V 30 h 2 0, R))) Q) : Wp ((g_X4_unsettle (h : Int) 0 (V, R)).bind f) Q := by
  refine w_bind ?_
  unfold g_X4_unsettle
  refine w_gv (by omega) ?_
  ((first | ((with_reducible refine w_s hS ?_ ?_ ?_ (fun x hx => ?_)); (focus decide); (focus (first | decide | omega)); (focus (first | decide | (simp only [sl]; omega)))) | ((with_reducible refine w_m hS ?_ ?_ ?_ ?_ ?_ (fun x hx => ?_)); (focus decide); (focus (first | decide | omega)); (focus omega); (focus (first | decide | omega)); (focus (first | decide | (simp only [ml]; omega)))) | (with_reducible refine w_k (by simp (disch := omega) only [w32_id]; exact rfl) ?_; ((with_reducible refine w_s hS ?_ ?_ ?_ (fun x hx => ?_)); (focus decide); (focus (first | decide | omega)); (focus (first | decide | (simp only [sl]; omega))))) | (with_reducible refine w_k (by simp (disch := omega) only [w32_id]; exact rfl) ?_; ((with_reducible refine w_m hS ?_ ?_ ?_ ?_ ?_ (fun x hx => ?_)); (focus decide); (focus (first | decide | omega)); (focus omega); (focus (first | decide | omega)); (focus (first | decide | (simp only [ml]; omega)))))); (try simp (disch := omega) only [Int.reduceToNat, tn_c, tn8, tn8i, tn5, tn5z, tn6, tn6z, tn1, u3_ne, u3_eq, u3_ni, u3_nk, tn_c] at hx); subst hx)
  refine w_ms hS (by decide) (by omega) (by omega) (by omega) (by decide) ?_
  have e : imin (V 30 h 2) 0 = 0 := by
    unfold imin
    by_cases c : (0 : Int) < V 30 h 2
    · rw [if_pos c]
    · rw [if_neg c]; omega
  rw [e]
  simp only [tn_c, Int.reduceToNat]
  exact w_ret q
theorem w_codeIndex0 {q : Nat} {v : Int} {f : Int × GS → GO} (hS : SH R) (hF : RF V R) (hq : q < rC R 20) (hc5 : V 20 q 5 = V 109 0 q ∧ 0 ≤ V 109 0 q ∧ V 109 0 q ≤ 8) (hc : ∀ i : Nat, (i : Int) < V 109 0 q → V 21 q i = V 108 0 (8 * q + i)) (k1 : ∀ j : Nat, (j : Int) < V 109 0 q → V 108 0 (8 * q + j) = v → Wp (f ((j : Int), (V, R))) Q) (k0 : (∀ j : Nat, (j : Int) < V 109 0 q → V 108 0 (8 * q + j) ≠ v) → Wp (f (-1, (V, R))) Q) : Wp ((g_X5_codeIndex (q : Int) v (V, R)).bind f) Q := by
  obtain ⟨e5, c0, c8⟩ := hc5
  obtain ⟨s21, _⟩ := hS.2.2
  refine w_bind ?_
  unfold g_X5_codeIndex
  refine w_gv (by omega) ?_
  refine w_for (V 109 0 q).toNat (fun i G => G = (V, R) ∧ ∀ j, j < i → V 108 0 (8 * q + j) ≠ v) ?_ (i := 0) (by omega) (by omega) ⟨rfl, fun j hj => absurd hj (by omega)⟩
  rintro i G hi ⟨rfl, hn⟩ self ih
  unfold glX5_codeIndex_2
  ((first | ((with_reducible refine w_s hS ?_ ?_ ?_ (fun x hx => ?_)); (focus decide); (focus (first | decide | omega)); (focus (first | decide | (simp only [sl]; omega)))) | ((with_reducible refine w_m hS ?_ ?_ ?_ ?_ ?_ (fun x hx => ?_)); (focus decide); (focus (first | decide | omega)); (focus omega); (focus (first | decide | omega)); (focus (first | decide | (simp only [ml]; omega)))) | (with_reducible refine w_k (by simp (disch := omega) only [w32_id]; exact rfl) ?_; ((with_reducible refine w_s hS ?_ ?_ ?_ (fun x hx => ?_)); (focus decide); (focus (first | decide | omega)); (focus (first | decide | (simp only [sl]; omega))))) | (with_reducible refine w_k (by simp (disch := omega) only [w32_id]; exact rfl) ?_; ((with_reducible refine w_m hS ?_ ?_ ?_ ?_ ?_ (fun x hx => ?_)); (focus decide); (focus (first | decide | omega)); (focus omega); (focus (first | decide | omega)); (focus (first | decide | (simp only [ml]; omega)))))); (try simp (disch := omega) only [Int.reduceToNat, tn_c, tn8, tn8i, tn5, tn5z, tn6, tn6z, tn1, u3_ne, u3_eq, u3_ni, u3_nk, e5] at hx); subst hx)
  refine w_ite (fun hx => w_ret (k0 (fun j hj => hn j (by omega)))) (fun hx => ?_)
  have ec := hc i (by omega)
  ((first | ((with_reducible refine w_s hS ?_ ?_ ?_ (fun x hx => ?_)); (focus decide); (focus (first | decide | omega)); (focus (first | decide | (simp only [sl]; omega)))) | ((with_reducible refine w_m hS ?_ ?_ ?_ ?_ ?_ (fun x hx => ?_)); (focus decide); (focus (first | decide | omega)); (focus omega); (focus (first | decide | omega)); (focus (first | decide | (simp only [ml]; omega)))) | (with_reducible refine w_k (by simp (disch := omega) only [w32_id]; exact rfl) ?_; ((with_reducible refine w_s hS ?_ ?_ ?_ (fun x hx => ?_)); (focus decide); (focus (first | decide | omega)); (focus (first | decide | (simp only [sl]; omega))))) | (with_reducible refine w_k (by simp (disch := omega) only [w32_id]; exact rfl) ?_; ((with_reducible refine w_m hS ?_ ?_ ?_ ?_ ?_ (fun x hx => ?_)); (focus decide); (focus (first | decide | omega)); (focus omega); (focus (first | decide | omega)); (focus (first | decide | (simp only [ml]; omega)))))); (try simp (disch := omega) only [Int.reduceToNat, tn_c, tn8, tn8i, tn5, tn5z, tn6, tn6z, tn1, u3_ne, u3_eq, u3_ni, u3_nk, f_20_4 hF] at hx); subst hx)
  ((first | ((with_reducible refine w_s hS ?_ ?_ ?_ (fun x hx => ?_)); (focus decide); (focus (first | decide | omega)); (focus (first | decide | (simp only [sl]; omega)))) | ((with_reducible refine w_m hS ?_ ?_ ?_ ?_ ?_ (fun x hx => ?_)); (focus decide); (focus (first | decide | omega)); (focus omega); (focus (first | decide | omega)); (focus (first | decide | (simp only [ml]; omega)))) | (with_reducible refine w_k (by simp (disch := omega) only [w32_id]; exact rfl) ?_; ((with_reducible refine w_s hS ?_ ?_ ?_ (fun x hx => ?_)); (focus decide); (focus (first | decide | omega)); (focus (first | decide | (simp only [sl]; omega))))) | (with_reducible refine w_k (by simp (disch := omega) only [w32_id]; exact rfl) ?_; ((with_reducible refine w_m hS ?_ ?_ ?_ ?_ ?_ (fun x hx => ?_)); (focus decide); (focus (first | decide | omega)); (focus omega); (focus (first | decide | omega)); (focus (first | decide | (simp only [ml]; omega)))))); (try simp (disch := omega) only [Int.reduceToNat, tn_c, tn8, tn8i, tn5, tn5z, tn6, tn6z, tn1, u3_ne, u3_eq, u3_ni, u3_nk, ec] at hx); subst hx)
  refine w_ite (fun z => ih _ (by omega) ⟨rfl, fun j hj => ?_⟩) (fun z => w_ret (k1 i (by omega) ?_))
  · rw [lc_ne] at z
    by_cases e : j = i
    · subst e; exact z
    · exact hn j (by omega)
  · rw [lc_ne] at z; omega
theorem w_codeIndex {q : Nat} {v : Int} {f : Int × GS → GO} (hS : SH R) (hF : RF V R) (hQ : IQ V R) (b20 : rC R 20 ≤ 24) (hq : q < rC R 20) (k1 : ∀ j : Nat, (j : Int) < V 109 0 q → V 108 0 (8 * q + j) = v → Wp (f ((j : Int), (V, R))) Q) (k0 : (∀ j : Nat, (j : Int) < V 109 0 q → V 108 0 (8 * q + j) ≠ v) → Wp (f (-1, (V, R))) Q) : Wp ((g_X5_codeIndex (q : Int) v (V, R)).bind f) Q := w_codeIndex0 hS hF hq (hQ.1 q hq).1.2.2.2.1 (fun i hi => ((hQ.1 q hq).2.1.1 i hi).1) k1 k0
theorem w_codeNumber0 {q : Nat} {v : Int} {f : Int × GS → GO} (hS : SH R) (hF : RF V R) (hq : q < 24) (hc5 : 0 ≤ V 109 0 q ∧ V 109 0 q ≤ 8) (k1 : ∀ j : Nat, (j : Int) < V 109 0 q → V 108 0 (8 * q + j) = v → Wp (f ((j : Int), (V, R))) Q) (k0 : (∀ j : Nat, (j : Int) < V 109 0 q → V 108 0 (8 * q + j) ≠ v) → Wp (f (-1, (V, R))) Q) : Wp ((g_X9_codeNumber 0 (q : Int) v (V, R)).bind f) Q := by
  obtain ⟨c0, c8⟩ := hc5
  refine w_bind ?_
  unfold g_X9_codeNumber
  refine w_gv (by omega) ?_
  refine w_for2 (V 109 0 q).toNat (fun i a G => G = (V, R) ∧ ((a = -1 ∧ ∀ j, j < i → V 108 0 (8 * q + j) ≠ v) ∨ ∃ j, j < i ∧ a = (j : Int) ∧ V 108 0 (8 * q + j) = v)) ?_ (i := 0) (by omega) (by omega) ⟨rfl, Or.inl ⟨rfl, fun j hj => absurd hj (by omega)⟩⟩
  rintro i a G hi ⟨rfl, hn⟩ self ih
  unfold glX9_codeNumber_6 gjX9_codeNumber_42
  ((first | ((with_reducible refine w_s hS ?_ ?_ ?_ (fun x hx => ?_)); (focus decide); (focus (first | decide | omega)); (focus (first | decide | (simp only [sl]; omega)))) | ((with_reducible refine w_m hS ?_ ?_ ?_ ?_ ?_ (fun x hx => ?_)); (focus decide); (focus (first | decide | omega)); (focus omega); (focus (first | decide | omega)); (focus (first | decide | (simp only [ml]; omega)))) | (with_reducible refine w_k (by simp (disch := omega) only [w32_id]; exact rfl) ?_; ((with_reducible refine w_s hS ?_ ?_ ?_ (fun x hx => ?_)); (focus decide); (focus (first | decide | omega)); (focus (first | decide | (simp only [sl]; omega))))) | (with_reducible refine w_k (by simp (disch := omega) only [w32_id]; exact rfl) ?_; ((with_reducible refine w_m hS ?_ ?_ ?_ ?_ ?_ (fun x hx => ?_)); (focus decide); (focus (first | decide | omega)); (focus omega); (focus (first | decide | omega)); (focus (first | decide | (simp only [ml]; omega)))))); (try simp (disch := omega) only [Int.reduceToNat, tn_c, tn8, tn8i, tn5, tn5z, tn6, tn6z, tn1, u3_ne, u3_eq, u3_ni, u3_nk, f_100_9 hF] at hx); subst hx)
  ((first | ((with_reducible refine w_s hS ?_ ?_ ?_ (fun x hx => ?_)); (focus decide); (focus (first | decide | omega)); (focus (first | decide | (simp only [sl]; omega)))) | ((with_reducible refine w_m hS ?_ ?_ ?_ ?_ ?_ (fun x hx => ?_)); (focus decide); (focus (first | decide | omega)); (focus omega); (focus (first | decide | omega)); (focus (first | decide | (simp only [ml]; omega)))) | (with_reducible refine w_k (by simp (disch := omega) only [w32_id]; exact rfl) ?_; ((with_reducible refine w_s hS ?_ ?_ ?_ (fun x hx => ?_)); (focus decide); (focus (first | decide | omega)); (focus (first | decide | (simp only [sl]; omega))))) | (with_reducible refine w_k (by simp (disch := omega) only [w32_id]; exact rfl) ?_; ((with_reducible refine w_m hS ?_ ?_ ?_ ?_ ?_ (fun x hx => ?_)); (focus decide); (focus (first | decide | omega)); (focus omega); (focus (first | decide | omega)); (focus (first | decide | (simp only [ml]; omega)))))); (try simp (disch := omega) only [Int.reduceToNat, tn_c, tn8, tn8i, tn5, tn5z, tn6, tn6z, tn1, u3_ne, u3_eq, u3_ni, u3_nk, tn_c] at hx); subst hx)
  refine w_ite (fun hx => w_ret ?_) (fun hx => ?_)
  · rcases hn with ⟨rfl, hn⟩ | ⟨j, hj, rfl, ej⟩
    · exact k0 (fun j hj => hn j (by omega))
    · exact k1 j (by omega) ej
  · ((first | ((with_reducible refine w_s hS ?_ ?_ ?_ (fun x hx => ?_)); (focus decide); (focus (first | decide | omega)); (focus (first | decide | (simp only [sl]; omega)))) | ((with_reducible refine w_m hS ?_ ?_ ?_ ?_ ?_ (fun x hx => ?_)); (focus decide); (focus (first | decide | omega)); (focus omega); (focus (first | decide | omega)); (focus (first | decide | (simp only [ml]; omega)))) | (with_reducible refine w_k (by simp (disch := omega) only [w32_id]; exact rfl) ?_; ((with_reducible refine w_s hS ?_ ?_ ?_ (fun x hx => ?_)); (focus decide); (focus (first | decide | omega)); (focus (first | decide | (simp only [sl]; omega))))) | (with_reducible refine w_k (by simp (disch := omega) only [w32_id]; exact rfl) ?_; ((with_reducible refine w_m hS ?_ ?_ ?_ ?_ ?_ (fun x hx => ?_)); (focus decide); (focus (first | decide | omega)); (focus omega); (focus (first | decide | omega)); (focus (first | decide | (simp only [ml]; omega)))))); (try simp (disch := omega) only [Int.reduceToNat, tn_c, tn8, tn8i, tn5, tn5z, tn6, tn6z, tn1, u3_ne, u3_eq, u3_ni, u3_nk, f_100_8 hF] at hx); subst hx)
    rw [w8 (by omega) (by omega)]
    ((first | ((with_reducible refine w_s hS ?_ ?_ ?_ (fun x hx => ?_)); (focus decide); (focus (first | decide | omega)); (focus (first | decide | (simp only [sl]; omega)))) | ((with_reducible refine w_m hS ?_ ?_ ?_ ?_ ?_ (fun x hx => ?_)); (focus decide); (focus (first | decide | omega)); (focus omega); (focus (first | decide | omega)); (focus (first | decide | (simp only [ml]; omega)))) | (with_reducible refine w_k (by simp (disch := omega) only [w32_id]; exact rfl) ?_; ((with_reducible refine w_s hS ?_ ?_ ?_ (fun x hx => ?_)); (focus decide); (focus (first | decide | omega)); (focus (first | decide | (simp only [sl]; omega))))) | (with_reducible refine w_k (by simp (disch := omega) only [w32_id]; exact rfl) ?_; ((with_reducible refine w_m hS ?_ ?_ ?_ ?_ ?_ (fun x hx => ?_)); (focus decide); (focus (first | decide | omega)); (focus omega); (focus (first | decide | omega)); (focus (first | decide | (simp only [ml]; omega)))))); (try simp (disch := omega) only [Int.reduceToNat, tn_c, tn8, tn8i, tn5, tn5z, tn6, tn6z, tn1, u3_ne, u3_eq, u3_ni, u3_nk, tn_c] at hx); subst hx)
    have hlt : i < (V 109 0 q).toNat := by clear hn; omega
    refine w_ite (fun z => ih _ _ hlt ⟨rfl, ?_⟩) (fun z => ih _ _ hlt ⟨rfl, Or.inr ⟨i, Nat.lt_succ_self i, rfl, ?_⟩⟩)
    · rw [lc_ne] at z
      rcases hn with ⟨rfl, hn⟩ | ⟨j, hj, rfl, ej⟩
      · refine Or.inl ⟨rfl, fun j hj => ?_⟩
        by_cases e : j = i
        · subst e; exact z
        · exact hn j (by omega)
      · exact Or.inr ⟨j, by omega, rfl, ej⟩
    · rw [lc_ne] at z; omega
theorem w_codeNumber {q : Nat} {v : Int} {f : Int × GS → GO} (hS : SH R) (hF : RF V R) (hQ : IQ V R) (b20 : rC R 20 ≤ 24) (hq : q < rC R 20) (k1 : ∀ j : Nat, (j : Int) < V 109 0 q → V 108 0 (8 * q + j) = v → Wp (f ((j : Int), (V, R))) Q) (k0 : (∀ j : Nat, (j : Int) < V 109 0 q → V 108 0 (8 * q + j) ≠ v) → Wp (f (-1, (V, R))) Q) : Wp ((g_X9_codeNumber 0 (q : Int) v (V, R)).bind f) Q := w_codeNumber0 hS hF (by omega) (hQ.1 q hq).1.2.2.2.1.2 k1 k0
theorem code_un (hI : INV IT V R) {q : Nat} (hq : q < rC R 20) {i j : Nat} (hi : (i : Int) < V 109 0 q) (hj : (j : Int) < V 109 0 q) (e : V 108 0 (8 * q + i) = V 108 0 (8 * q + j)) : i = j := by
  have h2 := (hI.IQ.1 q hq).2.1.2
  rcases Nat.lt_or_ge i j with l | l
  · exact absurd e (h2 i j l hj)
  · by_cases z : i = j
    · exact z
    · exact absurd e.symm (h2 j i (by omega) hi)
def acc (V : GV) (q : Nat) (v : Int) : Prop := if V 101 0 q = 0 then (∃ j : Nat, (j : Int) < V 109 0 q ∧ V 108 0 (8 * q + j) = v) else if V 101 0 q = 1 then 0 ≤ v ∧ v < ((2 ^ (V 109 0 q).toNat : Nat) : Int) else if V 101 0 q = 2 then v = w32 v else if V 101 0 q = 3 then -1000000000000000 ≤ v ∧ v ≤ 1000000000000000 else if V 101 0 q = 4 then -30000 ≤ v ∧ v ≤ 30000 else 0 ≤ v ∧ v ≤ 5
theorem w32_rng (x : Int) : -2147483648 ≤ w32 x ∧ w32 x ≤ 2147483647 := by
  unfold w32
  have h1 := Int.le_bmod (x := x) (m := 4294967296) (by decide)
  have h2 := Int.bmod_lt (x := x) (m := 4294967296) (by decide)
  omega
theorem pow_le8 : ∀ n : Nat, n < 9 → 2 ^ n ≤ 256 := by decide
theorem acc_ok (hI : INV IT V R) {q : Nat} {v : Int} (hq : q < rC R 20) (h : acc V q v) : okv V q v 0 := by
  obtain ⟨⟨_, k0, k5⟩, _, _, ⟨_, c0, c8⟩, _⟩ := (hI.IQ.1 q hq).1
  unfold acc at h
  by_cases e0 : V 101 0 q = 0
  · rw [if_pos e0] at h
    obtain ⟨j, hj, ej⟩ := h
    have := (hI.IQ.1 q hq).2.1.1 j hj
    exact ⟨by omega, by omega, by omega, fun z => absurd rfl z, fun z => by omega, fun _ _ => ⟨j, hj, ej⟩⟩
  · rw [if_neg e0] at h
    by_cases e1 : V 101 0 q = 1
    · rw [if_pos e1] at h
      have := pow_le8 (V 109 0 q).toNat (by omega)
      exact ⟨by omega, by omega, by omega, fun z => absurd rfl z, fun z => by omega, fun z => absurd z e0⟩
    · rw [if_neg e1] at h
      by_cases e2 : V 101 0 q = 2
      · rw [if_pos e2] at h
        have := w32_rng v
        exact ⟨by omega, by omega, by omega, fun z => absurd rfl z, fun z => by omega, fun z => absurd z e0⟩
      · rw [if_neg e2] at h
        by_cases e3 : V 101 0 q = 3
        · rw [if_pos e3] at h
          exact ⟨by omega, by omega, by omega, fun z => absurd rfl z, fun z => by omega, fun z => absurd z e0⟩
        · rw [if_neg e3] at h
          by_cases e4 : V 101 0 q = 4
          · rw [if_pos e4] at h
            exact ⟨by omega, by omega, by omega, fun z => absurd rfl z, fun z => by omega, fun z => absurd z e0⟩
          · rw [if_neg e4] at h
            exact ⟨by omega, by omega, by omega, fun z => absurd rfl z, fun z => ⟨rfl, h⟩, fun z => absurd z e0⟩
theorem l_shl_nat : ∀ n : Nat, n < 9 → l_shl 1 (n : Int) = ((2 ^ n : Nat) : Int) := by decide +kernel
theorem w_takes {q : Nat} {v : Int} {f : Int × GS → GO} (hS : SH R) (hF : RF V R) (hQ : IQ V R) (b20 : rC R 20 ≤ 24) (hq : q < rC R 20) (k1 : acc V q v → Wp (f (1, (V, R))) Q) (k0 : ¬ acc V q v → Wp (f (0, (V, R))) Q) : Wp ((g_X5_takes (q : Int) v (V, R)).bind f) Q := by
  obtain ⟨⟨e0, r0, r5⟩, _, _, ⟨e5, c0, c8⟩, _⟩ := (hQ.1 q hq).1
  unfold acc at k1 k0
  refine w_bind ?_
  unfold g_X5_takes
  refine w_gv (by omega) ?_
  ((first | ((with_reducible refine w_s hS ?_ ?_ ?_ (fun x hx => ?_)); (focus decide); (focus (first | decide | omega)); (focus (first | decide | (simp only [sl]; omega)))) | ((with_reducible refine w_m hS ?_ ?_ ?_ ?_ ?_ (fun x hx => ?_)); (focus decide); (focus (first | decide | omega)); (focus omega); (focus (first | decide | omega)); (focus (first | decide | (simp only [ml]; omega)))) | (with_reducible refine w_k (by simp (disch := omega) only [w32_id]; exact rfl) ?_; ((with_reducible refine w_s hS ?_ ?_ ?_ (fun x hx => ?_)); (focus decide); (focus (first | decide | omega)); (focus (first | decide | (simp only [sl]; omega))))) | (with_reducible refine w_k (by simp (disch := omega) only [w32_id]; exact rfl) ?_; ((with_reducible refine w_m hS ?_ ?_ ?_ ?_ ?_ (fun x hx => ?_)); (focus decide); (focus (first | decide | omega)); (focus omega); (focus (first | decide | omega)); (focus (first | decide | (simp only [ml]; omega)))))); (try simp (disch := omega) only [Int.reduceToNat, tn_c, tn8, tn8i, tn5, tn5z, tn6, tn6z, tn1, u3_ne, u3_eq, u3_ni, u3_nk, e0] at hx); subst hx)
  refine w_ite (fun hx => ?_) (fun hx => ?_)
  · rw [if_neg (by omega), if_neg (by omega), if_neg (by omega), if_neg (by omega), if_neg (by omega)] at k1 k0
    refine w_ite (fun z => w_ret (k0 ?_)) (fun z => w_ite (fun y => w_ret (k0 ?_)) (fun y => w_ret (k1 ?_)))
    · rw [lc_lt] at z; omega
    · rw [lc_gt] at y; omega
    · rw [lc_lt] at z; rw [lc_gt] at y; omega
  · refine w_sw5 (by omega) (fun ek => ?_) (fun ek => ?_) (fun ek => ?_) (fun ek => ?_) (fun ek => ?_)
    · rw [if_pos (by omega)] at k1 k0
      refine w_codeIndex hS hF hQ b20 hq (fun j hj ej => ?_) (fun hn => ?_)
      · exact w_ite (fun z => absurd (show (j : Int) = -1 from z) (by omega)) (fun _ => w_ret (k1 ⟨j, hj, ej⟩))
      · exact w_ite (fun _ => w_ret (k0 (fun ⟨j, hj, ej⟩ => hn j hj ej))) (fun z => absurd rfl z)
    · rw [if_neg (by omega), if_pos (by omega)] at k1 k0
      refine w_ite (fun z => w_ret (k0 ?_)) (fun z => ?_)
      · rw [lc_lt] at z; omega
      · rw [lc_lt] at z
        ((first | ((with_reducible refine w_s hS ?_ ?_ ?_ (fun x hx => ?_)); (focus decide); (focus (first | decide | omega)); (focus (first | decide | (simp only [sl]; omega)))) | ((with_reducible refine w_m hS ?_ ?_ ?_ ?_ ?_ (fun x hx => ?_)); (focus decide); (focus (first | decide | omega)); (focus omega); (focus (first | decide | omega)); (focus (first | decide | (simp only [ml]; omega)))) | (with_reducible refine w_k (by simp (disch := omega) only [w32_id]; exact rfl) ?_; ((with_reducible refine w_s hS ?_ ?_ ?_ (fun x hx => ?_)); (focus decide); (focus (first | decide | omega)); (focus (first | decide | (simp only [sl]; omega))))) | (with_reducible refine w_k (by simp (disch := omega) only [w32_id]; exact rfl) ?_; ((with_reducible refine w_m hS ?_ ?_ ?_ ?_ ?_ (fun x hx => ?_)); (focus decide); (focus (first | decide | omega)); (focus omega); (focus (first | decide | omega)); (focus (first | decide | (simp only [ml]; omega)))))); (try simp (disch := omega) only [Int.reduceToNat, tn_c, tn8, tn8i, tn5, tn5z, tn6, tn6z, tn1, u3_ne, u3_eq, u3_ni, u3_nk, e5] at hx); subst hx)
        obtain ⟨n, en⟩ : ∃ n : Nat, V 109 0 q = (n : Int) := ⟨_, (Int.toNat_of_nonneg c0).symm⟩
        rw [en, tn_c] at k1 k0
        rw [en, l_shl_nat n (by omega)]
        refine w_ite (fun y => w_ret (k0 ?_)) (fun y => w_ret (k1 ?_))
        · rw [lc_ge] at y; omega
        · rw [lc_ge] at y; omega
    · rw [if_neg (by omega), if_neg (by omega), if_pos (by omega)] at k1 k0
      refine w_ite (fun z => w_ret (k0 ?_)) (fun z => w_ret (k1 ?_))
      · rw [lc_ne] at z; exact z
      · rw [lc_ne] at z; omega
    · rw [if_neg (by omega), if_neg (by omega), if_neg (by omega), if_pos (by omega)] at k1 k0
      refine w_ite (fun z => w_ret (k0 ?_)) (fun z => w_ite (fun y => w_ret (k0 ?_)) (fun y => w_ret (k1 ?_)))
      · rw [lc_lt] at z; omega
      · rw [lc_gt] at y; omega
      · rw [lc_lt] at z; rw [lc_gt] at y; omega
    · rw [if_neg (by omega), if_neg (by omega), if_neg (by omega), if_neg (by omega), if_pos (by omega)] at k1 k0
      refine w_ite (fun z => w_ret (k0 ?_)) (fun z => w_ite (fun y => w_ret (k0 ?_)) (fun y => w_ret (k1 ?_)))
      · rw [lc_lt] at z; omega
      · rw [lc_gt] at y; omega
      · rw [lc_lt] at z; rw [lc_gt] at y; omega
theorem w_isValue {q : Nat} {v : Int} {f : Int × GS → GO} (hS : SH R) (hF : RF V R) (hQ : IQ V R) (b20 : rC R 20 ≤ 24) (hq : q < rC R 20) (k1 : acc V q v → Wp (f (1, (V, R))) Q) (k0 : ¬ acc V q v → Wp (f (0, (V, R))) Q) : Wp ((g_X9_isValue 0 (q : Int) v (V, R)).bind f) Q := by
  obtain ⟨⟨_, r0, r5⟩, _, _, ⟨_, c0, c8⟩, _⟩ := (hQ.1 q hq).1
  unfold acc at k1 k0
  refine w_bind ?_
  unfold g_X9_isValue
  refine w_gv (by omega) ?_
  ((first | ((with_reducible refine w_s hS ?_ ?_ ?_ (fun x hx => ?_)); (focus decide); (focus (first | decide | omega)); (focus (first | decide | (simp only [sl]; omega)))) | ((with_reducible refine w_m hS ?_ ?_ ?_ ?_ ?_ (fun x hx => ?_)); (focus decide); (focus (first | decide | omega)); (focus omega); (focus (first | decide | omega)); (focus (first | decide | (simp only [ml]; omega)))) | (with_reducible refine w_k (by simp (disch := omega) only [w32_id]; exact rfl) ?_; ((with_reducible refine w_s hS ?_ ?_ ?_ (fun x hx => ?_)); (focus decide); (focus (first | decide | omega)); (focus (first | decide | (simp only [sl]; omega))))) | (with_reducible refine w_k (by simp (disch := omega) only [w32_id]; exact rfl) ?_; ((with_reducible refine w_m hS ?_ ?_ ?_ ?_ ?_ (fun x hx => ?_)); (focus decide); (focus (first | decide | omega)); (focus omega); (focus (first | decide | omega)); (focus (first | decide | (simp only [ml]; omega)))))); (try simp (disch := omega) only [Int.reduceToNat, tn_c, tn8, tn8i, tn5, tn5z, tn6, tn6z, tn1, u3_ne, u3_eq, u3_ni, u3_nk, f_100_1 hF] at hx); subst hx)
  ((first | ((with_reducible refine w_s hS ?_ ?_ ?_ (fun x hx => ?_)); (focus decide); (focus (first | decide | omega)); (focus (first | decide | (simp only [sl]; omega)))) | ((with_reducible refine w_m hS ?_ ?_ ?_ ?_ ?_ (fun x hx => ?_)); (focus decide); (focus (first | decide | omega)); (focus omega); (focus (first | decide | omega)); (focus (first | decide | (simp only [ml]; omega)))) | (with_reducible refine w_k (by simp (disch := omega) only [w32_id]; exact rfl) ?_; ((with_reducible refine w_s hS ?_ ?_ ?_ (fun x hx => ?_)); (focus decide); (focus (first | decide | omega)); (focus (first | decide | (simp only [sl]; omega))))) | (with_reducible refine w_k (by simp (disch := omega) only [w32_id]; exact rfl) ?_; ((with_reducible refine w_m hS ?_ ?_ ?_ ?_ ?_ (fun x hx => ?_)); (focus decide); (focus (first | decide | omega)); (focus omega); (focus (first | decide | omega)); (focus (first | decide | (simp only [ml]; omega)))))); (try simp (disch := omega) only [Int.reduceToNat, tn_c, tn8, tn8i, tn5, tn5z, tn6, tn6z, tn1, u3_ne, u3_eq, u3_ni, u3_nk, tn_c] at hx); subst hx)
  refine w_ite (fun hx => ?_) (fun hx => ?_)
  · rw [if_neg (by omega), if_neg (by omega), if_neg (by omega), if_neg (by omega), if_neg (by omega)] at k1 k0
    exact w_in (fun z => w_gzr (Or.inr rfl) (k1 z)) (fun z => w_gzr (Or.inl rfl) (k0 z))
  · refine w_sw5 (by omega) (fun ek => ?_) (fun ek => ?_) (fun ek => ?_) (fun ek => ?_) (fun ek => ?_)
    · rw [if_pos (by omega)] at k1 k0
      refine w_codeNumber hS hF hQ b20 hq (fun j hj ej => ?_) (fun hn => ?_)
      · exact w_ite (fun z => absurd (show (j : Int) < 0 from z) (by omega)) (fun _ => w_ret (k1 ⟨j, hj, ej⟩))
      · exact w_ite (fun _ => w_ret (k0 (fun ⟨j, hj, ej⟩ => hn j hj ej))) (fun z => absurd (show (-1 : Int) < 0 by decide) z)
    · rw [if_neg (by omega), if_pos (by omega)] at k1 k0
      ((first | ((with_reducible refine w_s hS ?_ ?_ ?_ (fun x hx => ?_)); (focus decide); (focus (first | decide | omega)); (focus (first | decide | (simp only [sl]; omega)))) | ((with_reducible refine w_m hS ?_ ?_ ?_ ?_ ?_ (fun x hx => ?_)); (focus decide); (focus (first | decide | omega)); (focus omega); (focus (first | decide | omega)); (focus (first | decide | (simp only [ml]; omega)))) | (with_reducible refine w_k (by simp (disch := omega) only [w32_id]; exact rfl) ?_; ((with_reducible refine w_s hS ?_ ?_ ?_ (fun x hx => ?_)); (focus decide); (focus (first | decide | omega)); (focus (first | decide | (simp only [sl]; omega))))) | (with_reducible refine w_k (by simp (disch := omega) only [w32_id]; exact rfl) ?_; ((with_reducible refine w_m hS ?_ ?_ ?_ ?_ ?_ (fun x hx => ?_)); (focus decide); (focus (first | decide | omega)); (focus omega); (focus (first | decide | omega)); (focus (first | decide | (simp only [ml]; omega)))))); (try simp (disch := omega) only [Int.reduceToNat, tn_c, tn8, tn8i, tn5, tn5z, tn6, tn6z, tn1, u3_ne, u3_eq, u3_ni, u3_nk, f_100_9 hF] at hx); subst hx)
      ((first | ((with_reducible refine w_s hS ?_ ?_ ?_ (fun x hx => ?_)); (focus decide); (focus (first | decide | omega)); (focus (first | decide | (simp only [sl]; omega)))) | ((with_reducible refine w_m hS ?_ ?_ ?_ ?_ ?_ (fun x hx => ?_)); (focus decide); (focus (first | decide | omega)); (focus omega); (focus (first | decide | omega)); (focus (first | decide | (simp only [ml]; omega)))) | (with_reducible refine w_k (by simp (disch := omega) only [w32_id]; exact rfl) ?_; ((with_reducible refine w_s hS ?_ ?_ ?_ (fun x hx => ?_)); (focus decide); (focus (first | decide | omega)); (focus (first | decide | (simp only [sl]; omega))))) | (with_reducible refine w_k (by simp (disch := omega) only [w32_id]; exact rfl) ?_; ((with_reducible refine w_m hS ?_ ?_ ?_ ?_ ?_ (fun x hx => ?_)); (focus decide); (focus (first | decide | omega)); (focus omega); (focus (first | decide | omega)); (focus (first | decide | (simp only [ml]; omega)))))); (try simp (disch := omega) only [Int.reduceToNat, tn_c, tn8, tn8i, tn5, tn5z, tn6, tn6z, tn1, u3_ne, u3_eq, u3_ni, u3_nk, tn_c] at hx); subst hx)
      obtain ⟨n, en⟩ : ∃ n : Nat, V 109 0 q = (n : Int) := ⟨_, (Int.toNat_of_nonneg c0).symm⟩
      rw [en, tn_c] at k1 k0
      have := pow_le8 n (by omega)
      have := Nat.two_pow_pos n
      rw [en, l_shl_nat n (by omega), w64_id (by omega) (by omega)]
      exact w_in (fun z => w_gzr (Or.inr rfl) (k1 (by omega))) (fun z => w_gzr (Or.inl rfl) (k0 (by omega)))
    · rw [if_neg (by omega), if_neg (by omega), if_pos (by omega)] at k1 k0
      refine w_ite (fun z => w_ret (k0 ?_)) (fun z => w_ret (k1 ?_))
      · rw [lc_ne] at z; exact z
      · rw [lc_ne] at z; omega
    · rw [if_neg (by omega), if_neg (by omega), if_neg (by omega), if_pos (by omega)] at k1 k0
      exact w_in (fun z => w_gzr (Or.inr rfl) (k1 z)) (fun z => w_gzr (Or.inl rfl) (k0 z))
    · rw [if_neg (by omega), if_neg (by omega), if_neg (by omega), if_neg (by omega), if_pos (by omega)] at k1 k0
      exact w_in (fun z => w_gzr (Or.inr rfl) (k1 z)) (fun z => w_gzr (Or.inl rfl) (k0 z))
end Told
