section CTable
variable {V : GV} {R : GR} {T : GV → Prop} {Q : Int → GS → Prop}
def tb2 (a : Int) : Int := if a = -1 then 0 else 1
def TC (V : GV) (q : Nat) (a : Int) (m n i : Nat) : Prop := tfr V m n (tb2 a) ∧ ∀ k, V 8 0 k = tct V q a k i ∧ V 9 0 k = twt V q a k i
theorem twt_b (hI : INV T V R) {q k i : Nat} {a : Int} (hi : i ≤ rC R 30) : 0 ≤ twt V q a k i ∧ twt V q a k i ≤ 100800000 := by
  have := twt_le (V := V) (q := q) (k := k) (a := a) (i := i) (fun h hh => (hI.IW h (by omega)).2)
  have := hI.IN.1.2.1
  omega
theorem tct_b (hI : INV T V R) {q k i : Nat} {a : Int} (hi : i ≤ rC R 30) : 0 ≤ tct V q a k i ∧ tct V q a k i ≤ 40 := by
  have := tct_le (V := V) (q := q) (k := k) (a := a) (i := i)
  have := hI.IN.1.2.1
  omega
theorem tfr.cg {V' : GV} {m n : Nat} {b : Int} {L : PL'} (h : tfr V m n b) (sm : same V V' L) (hd : disP L [(7, some 0), (7, some 1), (7, some 2), (7, some 8), (12, none), (10, none)] = true) : tfr V' m n b := by
  obtain ⟨a0, a1, a2, a8, a12, a10⟩ := h
  refine ⟨(sm.at hd ⟨(7, some 0), by decide, rfl, Or.inr rfl⟩).trans a0, (sm.at hd ⟨(7, some 1), by decide, rfl, Or.inr rfl⟩).trans a1, (sm.at hd ⟨(7, some 2), by decide, rfl, Or.inr rfl⟩).trans a2, (sm.at hd ⟨(7, some 8), by decide, rfl, Or.inr rfl⟩).trans a8, fun k => (sm.at hd ⟨(12, none), by decide, rfl, Or.inl rfl⟩).trans (a12 k), fun k => (sm.at hd ⟨(10, none), by decide, rfl, Or.inl rfl⟩).trans (a10 k)⟩
theorem TC_stl {V' : GV} {q m n i : Nat} {a : Int} (hI : INV T V R) (hs : stl V V' i) (hi : i < rC R 30) (h : TC V q a m n i) : TC V' q a m n i := by
  have sm := hs.same
  refine ⟨h.1.cg sm rfl, fun k => ?_⟩
  rw [sm.r 8 rfl, sm.r 9 rfl, tct_cg (V := V) (V' := V') (fun g hg => cel_stl hI hs hi (by omega) (by omega)), twt_cg (V := V) (V' := V') (fun g hg => ⟨cel_stl hI hs hi (by omega) (by omega), sm.r 117 rfl 0 g⟩)]
  exact h.2 k
theorem w_tloop {q m n : Nat} {a : Int} (hI : INV (fun _ => True) V R) (hq : TQ V R q a m n) (hc : TC V q a m n 0)
  (K : ∀ V', INV (fun _ => True) V' R → TQ V' R q a m n → (∀ h, h < rC R 30 → V' 30 h 2 = V' 100 0 29) → TC V' q a m n (rC R 30) → (∀ i, V' 100 0 i = V 100 0 i) → Q ((m * n : Nat) : Int) (V', R)) : Wp (lh1 (glX8_table_100 0 (q : Int) a (q : Int) a) 6000 0 (V, R)) Q := by
  have hS := hI.SH
  obtain ⟨b20, b30, b40, b50⟩ := hI.IN.1
  refine w_for (rC R 30) (fun i G => ∃ V', G = (V', R) ∧ INV (fun _ => True) V' R ∧ TQ V' R q a m n ∧ (∀ h, h < i → V' 30 h 2 = V' 100 0 29) ∧ TC V' q a m n i ∧ (∀ i, V' 100 0 i = V 100 0 i)) ?_ (i := 0) (by omega) (by omega) ⟨V, rfl, hI, hq, fun h hh => absurd hh (by omega), hc, fun _ => rfl⟩
  rintro i G hi ⟨V', rfl, hI', hq', hd, hc', h100⟩ self ih
  have hF' := hI'.RF
  have n4 := hI'.IN.2.1.2.2.2.1
  obtain ⟨hm1, hm9, hn1, hn9⟩ := hq'.dim hI'
  unfold glX8_table_100
  ((first | ((with_reducible refine w_s hS ?_ ?_ ?_ (fun x hx => ?_)); (focus decide); (focus (first | decide | omega)); (focus (first | decide | (simp only [sl]; omega)))) | ((with_reducible refine w_m hS ?_ ?_ ?_ ?_ ?_ (fun x hx => ?_)); (focus decide); (focus (first | decide | omega)); (focus omega); (focus (first | decide | omega)); (focus (first | decide | (simp only [ml]; omega)))) | (with_reducible refine w_k (by simp (disch := omega) only [w32_id]; exact rfl) ?_; ((with_reducible refine w_s hS ?_ ?_ ?_ (fun x hx => ?_)); (focus decide); (focus (first | decide | omega)); (focus (first | decide | (simp only [sl]; omega))))) | (with_reducible refine w_k (by simp (disch := omega) only [w32_id]; exact rfl) ?_; ((with_reducible refine w_m hS ?_ ?_ ?_ ?_ ?_ (fun x hx => ?_)); (focus decide); (focus (first | decide | omega)); (focus omega); (focus (first | decide | omega)); (focus (first | decide | (simp only [ml]; omega)))))); (try simp (disch := omega) only [Int.reduceToNat, tn_c, tn8, tn8i, tn5, tn5z, tn6, tn6z, tn1, u3_ne, u3_eq, u3_ni, u3_nk, n4] at hx); subst hx)
  refine w_ite (fun hx => ?_) (fun hx => ?_)
  · ((first | ((with_reducible refine w_s hS ?_ ?_ ?_ (fun x hx => ?_)); (focus decide); (focus (first | decide | omega)); (focus (first | decide | (simp only [sl]; omega)))) | ((with_reducible refine w_m hS ?_ ?_ ?_ ?_ ?_ (fun x hx => ?_)); (focus decide); (focus (first | decide | omega)); (focus omega); (focus (first | decide | omega)); (focus (first | decide | (simp only [ml]; omega)))) | (with_reducible refine w_k (by simp (disch := omega) only [w32_id]; exact rfl) ?_; ((with_reducible refine w_s hS ?_ ?_ ?_ (fun x hx => ?_)); (focus decide); (focus (first | decide | omega)); (focus (first | decide | (simp only [sl]; omega))))) | (with_reducible refine w_k (by simp (disch := omega) only [w32_id]; exact rfl) ?_; ((with_reducible refine w_m hS ?_ ?_ ?_ ?_ ?_ (fun x hx => ?_)); (focus decide); (focus (first | decide | omega)); (focus omega); (focus (first | decide | omega)); (focus (first | decide | (simp only [ml]; omega)))))); (try simp (disch := omega) only [Int.reduceToNat, tn_c, tn8, tn8i, tn5, tn5z, tn6, tn6z, tn1, u3_ne, u3_eq, u3_ni, u3_nk, f_0_5 hF'] at hx); subst hx)
    refine w_bind ?_
    unfold g_X7_cells
    refine w_gv (by omega) ?_
    ((first | ((with_reducible refine w_s hS ?_ ?_ ?_ (fun x hx => ?_)); (focus decide); (focus (first | decide | omega)); (focus (first | decide | (simp only [sl]; omega)))) | ((with_reducible refine w_m hS ?_ ?_ ?_ ?_ ?_ (fun x hx => ?_)); (focus decide); (focus (first | decide | omega)); (focus omega); (focus (first | decide | omega)); (focus (first | decide | (simp only [ml]; omega)))) | (with_reducible refine w_k (by simp (disch := omega) only [w32_id]; exact rfl) ?_; ((with_reducible refine w_s hS ?_ ?_ ?_ (fun x hx => ?_)); (focus decide); (focus (first | decide | omega)); (focus (first | decide | (simp only [sl]; omega))))) | (with_reducible refine w_k (by simp (disch := omega) only [w32_id]; exact rfl) ?_; ((with_reducible refine w_m hS ?_ ?_ ?_ ?_ ?_ (fun x hx => ?_)); (focus decide); (focus (first | decide | omega)); (focus omega); (focus (first | decide | omega)); (focus (first | decide | (simp only [ml]; omega)))))); (try simp (disch := omega) only [Int.reduceToNat, tn_c, tn8, tn8i, tn5, tn5z, tn6, tn6z, tn1, u3_ne, u3_eq, u3_ni, u3_nk, hc'.1.1] at hx); subst hx)
    ((first | ((with_reducible refine w_s hS ?_ ?_ ?_ (fun x hx => ?_)); (focus decide); (focus (first | decide | omega)); (focus (first | decide | (simp only [sl]; omega)))) | ((with_reducible refine w_m hS ?_ ?_ ?_ ?_ ?_ (fun x hx => ?_)); (focus decide); (focus (first | decide | omega)); (focus omega); (focus (first | decide | omega)); (focus (first | decide | (simp only [ml]; omega)))) | (with_reducible refine w_k (by simp (disch := omega) only [w32_id]; exact rfl) ?_; ((with_reducible refine w_s hS ?_ ?_ ?_ (fun x hx => ?_)); (focus decide); (focus (first | decide | omega)); (focus (first | decide | (simp only [sl]; omega))))) | (with_reducible refine w_k (by simp (disch := omega) only [w32_id]; exact rfl) ?_; ((with_reducible refine w_m hS ?_ ?_ ?_ ?_ ?_ (fun x hx => ?_)); (focus decide); (focus (first | decide | omega)); (focus omega); (focus (first | decide | omega)); (focus (first | decide | (simp only [ml]; omega)))))); (try simp (disch := omega) only [Int.reduceToNat, tn_c, tn8, tn8i, tn5, tn5z, tn6, tn6z, tn1, u3_ne, u3_eq, u3_ni, u3_nk, hc'.1.2.1] at hx); subst hx)
    have := mn_le hm9 hn9
    rw [← Int.natCast_mul, w32_id (by omega) (by omega)]
    have ei : i = rC R 30 := by omega
    subst ei
    exact w_ret (w_ret (K V' hI' hq' hd hc' h100))
  · have hh : i < rC R 30 := by omega
    ((first | ((with_reducible refine w_s hS ?_ ?_ ?_ (fun x hx => ?_)); (focus decide); (focus (first | decide | omega)); (focus (first | decide | (simp only [sl]; omega)))) | ((with_reducible refine w_m hS ?_ ?_ ?_ ?_ ?_ (fun x hx => ?_)); (focus decide); (focus (first | decide | omega)); (focus omega); (focus (first | decide | omega)); (focus (first | decide | (simp only [ml]; omega)))) | (with_reducible refine w_k (by simp (disch := omega) only [w32_id]; exact rfl) ?_; ((with_reducible refine w_s hS ?_ ?_ ?_ (fun x hx => ?_)); (focus decide); (focus (first | decide | omega)); (focus (first | decide | (simp only [sl]; omega))))) | (with_reducible refine w_k (by simp (disch := omega) only [w32_id]; exact rfl) ?_; ((with_reducible refine w_m hS ?_ ?_ ?_ ?_ ?_ (fun x hx => ?_)); (focus decide); (focus (first | decide | omega)); (focus omega); (focus (first | decide | omega)); (focus (first | decide | (simp only [ml]; omega)))))); (try simp (disch := omega) only [Int.reduceToNat, tn_c, tn8, tn8i, tn5, tn5z, tn6, tn6z, tn1, u3_ne, u3_eq, u3_ni, u3_nk, f_0_1 hF'] at hx); subst hx)
    ((first | ((with_reducible refine w_s hS ?_ ?_ ?_ (fun x hx => ?_)); (focus decide); (focus (first | decide | omega)); (focus (first | decide | (simp only [sl]; omega)))) | ((with_reducible refine w_m hS ?_ ?_ ?_ ?_ ?_ (fun x hx => ?_)); (focus decide); (focus (first | decide | omega)); (focus omega); (focus (first | decide | omega)); (focus (first | decide | (simp only [ml]; omega)))) | (with_reducible refine w_k (by simp (disch := omega) only [w32_id]; exact rfl) ?_; ((with_reducible refine w_s hS ?_ ?_ ?_ (fun x hx => ?_)); (focus decide); (focus (first | decide | omega)); (focus (first | decide | (simp only [sl]; omega))))) | (with_reducible refine w_k (by simp (disch := omega) only [w32_id]; exact rfl) ?_; ((with_reducible refine w_m hS ?_ ?_ ?_ ?_ ?_ (fun x hx => ?_)); (focus decide); (focus (first | decide | omega)); (focus omega); (focus (first | decide | omega)); (focus (first | decide | (simp only [ml]; omega)))))); (try simp (disch := omega) only [Int.reduceToNat, tn_c, tn8, tn8i, tn5, tn5z, tn6, tn6z, tn1, u3_ne, u3_eq, u3_ni, u3_nk, l_5 hI'.IL] at hx); subst hx)
    ((first | ((with_reducible refine w_s hS ?_ ?_ ?_ (fun x hx => ?_)); (focus decide); (focus (first | decide | omega)); (focus (first | decide | (simp only [sl]; omega)))) | ((with_reducible refine w_m hS ?_ ?_ ?_ ?_ ?_ (fun x hx => ?_)); (focus decide); (focus (first | decide | omega)); (focus omega); (focus (first | decide | omega)); (focus (first | decide | (simp only [ml]; omega)))) | (with_reducible refine w_k (by simp (disch := omega) only [w32_id]; exact rfl) ?_; ((with_reducible refine w_s hS ?_ ?_ ?_ (fun x hx => ?_)); (focus decide); (focus (first | decide | omega)); (focus (first | decide | (simp only [sl]; omega))))) | (with_reducible refine w_k (by simp (disch := omega) only [w32_id]; exact rfl) ?_; ((with_reducible refine w_m hS ?_ ?_ ?_ ?_ ?_ (fun x hx => ?_)); (focus decide); (focus (first | decide | omega)); (focus omega); (focus (first | decide | omega)); (focus (first | decide | (simp only [ml]; omega)))))); (try simp (disch := omega) only [Int.reduceToNat, tn_c, tn8, tn8i, tn5, tn5z, tn6, tn6z, tn1, u3_ne, u3_eq, u3_ni, u3_nk, f_0_0 hF'] at hx); subst hx)
    refine w_settle hI' hh (fun V2 hs2 hI2 hd2 => ?_)
    have sm2 := hs2.same
    have hF2 := hI2.RF
    have hda : ∀ h, h < i + 1 → V2 30 h 2 = V2 100 0 29 := by
      intro h hlt
      by_cases e : h = i
      · subst e; exact hd2
      · rw [sm2.f 100 29 rfl, ← hd h (by omega)]
        refine hs2 _ _ _ ?_
        rintro (⟨z, _⟩ | ⟨z, _⟩ | ⟨_, z, _⟩)
        · omega
        · omega
        · exact e z
    have hc2 := TC_stl hI' hs2 hh hc'
    have hq2 : TQ V2 R q a m n := hq'.cg (sm2.r 101 rfl 0) (sm2.r 102 rfl 0) (sm2.r 109 rfl 0)
    obtain ⟨s, e30, es, hk⟩ := hI2.sht hh
    obtain ⟨l1, l2'⟩ := hq2.lt hI2 hh hd2
    have c1 := cod_all hI2 hh hd2 hq2.1.1 hq2.1.2.1 hq2.1.2.2
    rw [es] at l1 l2' c1
    have main : Wp (gjX8_table_151 self 0 (q : Int) a (q : Int) a (i : Int) (i : Int) ((l2 V2 a s : Nat) : Int) (V2, R)) Q := by
      unfold gjX8_table_151
      ((first | ((with_reducible refine w_s hS ?_ ?_ ?_ (fun x hx => ?_)); (focus decide); (focus (first | decide | omega)); (focus (first | decide | (simp only [sl]; omega)))) | ((with_reducible refine w_m hS ?_ ?_ ?_ ?_ ?_ (fun x hx => ?_)); (focus decide); (focus (first | decide | omega)); (focus omega); (focus (first | decide | omega)); (focus (first | decide | (simp only [ml]; omega)))) | (with_reducible refine w_k (by simp (disch := omega) only [w32_id]; exact rfl) ?_; ((with_reducible refine w_s hS ?_ ?_ ?_ (fun x hx => ?_)); (focus decide); (focus (first | decide | omega)); (focus (first | decide | (simp only [sl]; omega))))) | (with_reducible refine w_k (by simp (disch := omega) only [w32_id]; exact rfl) ?_; ((with_reducible refine w_m hS ?_ ?_ ?_ ?_ ?_ (fun x hx => ?_)); (focus decide); (focus (first | decide | omega)); (focus omega); (focus (first | decide | omega)); (focus (first | decide | (simp only [ml]; omega)))))); (try simp (disch := omega) only [Int.reduceToNat, tn_c, tn8, tn8i, tn5, tn5z, tn6, tn6z, tn1, u3_ne, u3_eq, u3_ni, u3_nk, f_0_5 hF2] at hx); subst hx)
      ((first | ((with_reducible refine w_s hS ?_ ?_ ?_ (fun x hx => ?_)); (focus decide); (focus (first | decide | omega)); (focus (first | decide | (simp only [sl]; omega)))) | ((with_reducible refine w_m hS ?_ ?_ ?_ ?_ ?_ (fun x hx => ?_)); (focus decide); (focus (first | decide | omega)); (focus omega); (focus (first | decide | omega)); (focus (first | decide | (simp only [ml]; omega)))) | (with_reducible refine w_k (by simp (disch := omega) only [w32_id]; exact rfl) ?_; ((with_reducible refine w_s hS ?_ ?_ ?_ (fun x hx => ?_)); (focus decide); (focus (first | decide | omega)); (focus (first | decide | (simp only [sl]; omega))))) | (with_reducible refine w_k (by simp (disch := omega) only [w32_id]; exact rfl) ?_; ((with_reducible refine w_m hS ?_ ?_ ?_ ?_ ?_ (fun x hx => ?_)); (focus decide); (focus (first | decide | omega)); (focus omega); (focus (first | decide | omega)); (focus (first | decide | (simp only [ml]; omega)))))); (try simp (disch := omega) only [Int.reduceToNat, tn_c, tn8, tn8i, tn5, tn5z, tn6, tn6z, tn1, u3_ne, u3_eq, u3_ni, u3_nk, e30] at hx); subst hx)
      have := hq2.1.1
      refine w_spotn (by omega) ?_
      refine w_lineOf hI2 hq2.1.1 hk c1 ?_
      dsimp only
      obtain ⟨w1, w2, w3⟩ := hI2.IW i hh
      ((first | ((with_reducible refine w_s hS ?_ ?_ ?_ (fun x hx => ?_)); (focus decide); (focus (first | decide | omega)); (focus (first | decide | (simp only [sl]; omega)))) | ((with_reducible refine w_m hS ?_ ?_ ?_ ?_ ?_ (fun x hx => ?_)); (focus decide); (focus (first | decide | omega)); (focus omega); (focus (first | decide | omega)); (focus (first | decide | (simp only [ml]; omega)))) | (with_reducible refine w_k (by simp (disch := omega) only [w32_id]; exact rfl) ?_; ((with_reducible refine w_s hS ?_ ?_ ?_ (fun x hx => ?_)); (focus decide); (focus (first | decide | omega)); (focus (first | decide | (simp only [sl]; omega))))) | (with_reducible refine w_k (by simp (disch := omega) only [w32_id]; exact rfl) ?_; ((with_reducible refine w_m hS ?_ ?_ ?_ ?_ ?_ (fun x hx => ?_)); (focus decide); (focus (first | decide | omega)); (focus omega); (focus (first | decide | omega)); (focus (first | decide | (simp only [ml]; omega)))))); (try simp (disch := omega) only [Int.reduceToNat, tn_c, tn8, tn8i, tn5, tn5z, tn6, tn6z, tn1, u3_ne, u3_eq, u3_ni, u3_nk, w1] at hx); subst hx)
      have tb := tct_b hI2 (q := q) (k := lns V2 q s * n + l2 V2 a s) (a := a) (i := i) (by omega)
      have wb := twt_b hI2 (q := q) (k := lns V2 q s * n + l2 V2 a s) (a := a) (i := i) (by omega)
      refine w_tadd hS hF2 hc2.1.1 hc2.1.2.1 hm9 hn9 l1 l2' (by rw [(hc2.2 _).1]; exact tb) (by rw [(hc2.2 _).2]; exact wb) ⟨w2, w3⟩ ?_
      dsimp only
      generalize hW : u3 (u3 V2 8 0 (lns V2 q s * n + l2 V2 a s) (V2 8 0 (lns V2 q s * n + l2 V2 a s) + 1)) 9 0 (lns V2 q s * n + l2 V2 a s) (V2 9 0 (lns V2 q s * n + l2 V2 a s) + V2 117 0 i) = W
      have sm : same V2 W [(8, none), (9, none)] := by
        rw [← hW]
        exact ((same.rf V2 _).u ⟨(8, none), by decide, rfl, Or.inl rfl⟩).u ⟨(9, none), by decide, rfl, Or.inl rfl⟩
      have cg : ∀ g, cel W q a g = cel V2 q a g := fun g => cel_cg (sm.f 30 0 rfl _) (fun k => ⟨sm.r 32 rfl _ _, sm.r 33 rfl _ _⟩) (sm.r 108 rfl 0) (sm.r 109 rfl 0)
      have ce : cel V2 q a i = lns V2 q s * n + l2 V2 a s := by unfold cel; rw [es, hq2.2.2.1]
      refine ih _ hh ⟨W, rfl, hI2.tb (sm.mono (by decide)), hq2.cg (sm.r 101 rfl 0) (sm.r 102 rfl 0) (sm.r 109 rfl 0), fun h hlt => ?_, ⟨hc2.1.cg sm rfl, fun k => ?_⟩, fun j => ?_⟩
      · rw [sm.f 30 2 rfl, sm.f 100 29 rfl]; exact hda h hlt
      · have h8 := hc2.2 k
        show W 8 0 k = tct W q a k i + _ ∧ W 9 0 k = twt W q a k i + _
        rw [tct_cg (V := V2) (V' := W) (fun g _ => cg g), twt_cg (V := V2) (V' := W) (fun g _ => ⟨cg g, sm.r 117 rfl 0 g⟩), cg, ce, sm.r 117 rfl, ← h8.1, ← h8.2]
        by_cases ek : lns V2 q s * n + l2 V2 a s = k
        · rw [if_pos ek, if_pos ek, ← hW, u3_ne (by decide), ek]
          exact ⟨u3_eq, by rw [u3_eq]⟩
        · rw [if_neg ek, if_neg ek, ← hW, u3_ne (by decide), u3_nk (Ne.symm ek), u3_nk (Ne.symm ek), u3_ne (by decide)]
          omega
      · rw [sm.r 100 rfl, sm2.r 100 rfl]; exact h100 j
    have ha := hq2.2.2.2
    refine w_ite (fun ha1 => ?_) (fun ha1 => ?_)
    · rcases ha with rfl | ⟨r, rfl, hr, k0, top⟩
      · exact absurd rfl ha1
      · dsimp only
        ((first | ((with_reducible refine w_s hS ?_ ?_ ?_ (fun x hx => ?_)); (focus decide); (focus (first | decide | omega)); (focus (first | decide | (simp only [sl]; omega)))) | ((with_reducible refine w_m hS ?_ ?_ ?_ ?_ ?_ (fun x hx => ?_)); (focus decide); (focus (first | decide | omega)); (focus omega); (focus (first | decide | omega)); (focus (first | decide | (simp only [ml]; omega)))) | (with_reducible refine w_k (by simp (disch := omega) only [w32_id]; exact rfl) ?_; ((with_reducible refine w_s hS ?_ ?_ ?_ (fun x hx => ?_)); (focus decide); (focus (first | decide | omega)); (focus (first | decide | (simp only [sl]; omega))))) | (with_reducible refine w_k (by simp (disch := omega) only [w32_id]; exact rfl) ?_; ((with_reducible refine w_m hS ?_ ?_ ?_ ?_ ?_ (fun x hx => ?_)); (focus decide); (focus (first | decide | omega)); (focus omega); (focus (first | decide | omega)); (focus (first | decide | (simp only [ml]; omega)))))); (try simp (disch := omega) only [Int.reduceToNat, tn_c, tn8, tn8i, tn5, tn5z, tn6, tn6z, tn1, u3_ne, u3_eq, u3_ni, u3_nk, e30] at hx); subst hx)
        refine w_spotn (by omega) ?_
        have c2 := cod_all hI2 hh hd2 hr k0 top
        rw [es] at c2
        refine w_lineOf hI2 hr hk c2 ?_
        have el : l2 V2 (r : Int) s = lns V2 r s := by unfold l2; rw [if_neg (by omega), tn_c]
        rw [el] at main
        exact main
    · have ea : a = -1 := by omega
      have el : l2 V2 a s = 0 := by unfold l2; rw [if_pos ea]
      rw [el] at main
      exact main
theorem w_makesLines {q : Nat} {f : Int × GS → GO} (hI : INV T V R) (hq : q < rC R 20) (k1 : qtp V R q → Wp (f (1, (V, R))) Q) (k0 : ¬ qtp V R q → Wp (f (0, (V, R))) Q) : Wp ((g_X5_makesLines (q : Int) (V, R)).bind f) Q := by
  have hS := hI.SH
  obtain ⟨⟨e0, _⟩, ⟨e1, _⟩, _⟩ := (hI.IQ.1 q hq).1
  refine w_bind ?_
  unfold g_X5_makesLines
  refine w_gv (by omega) ?_
  ((first | ((with_reducible refine w_s hS ?_ ?_ ?_ (fun x hx => ?_)); (focus decide); (focus (first | decide | omega)); (focus (first | decide | (simp only [sl]; omega)))) | ((with_reducible refine w_m hS ?_ ?_ ?_ ?_ ?_ (fun x hx => ?_)); (focus decide); (focus (first | decide | omega)); (focus omega); (focus (first | decide | omega)); (focus (first | decide | (simp only [ml]; omega)))) | (with_reducible refine w_k (by simp (disch := omega) only [w32_id]; exact rfl) ?_; ((with_reducible refine w_s hS ?_ ?_ ?_ (fun x hx => ?_)); (focus decide); (focus (first | decide | omega)); (focus (first | decide | (simp only [sl]; omega))))) | (with_reducible refine w_k (by simp (disch := omega) only [w32_id]; exact rfl) ?_; ((with_reducible refine w_m hS ?_ ?_ ?_ ?_ ?_ (fun x hx => ?_)); (focus decide); (focus (first | decide | omega)); (focus omega); (focus (first | decide | omega)); (focus (first | decide | (simp only [ml]; omega)))))); (try simp (disch := omega) only [Int.reduceToNat, tn_c, tn8, tn8i, tn5, tn5z, tn6, tn6z, tn1, u3_ne, u3_eq, u3_ni, u3_nk, e0] at hx); subst hx)
  refine w_ite (fun z => w_ret (k0 (fun y => z y.2.1))) (fun z => ?_)
  ((first | ((with_reducible refine w_s hS ?_ ?_ ?_ (fun x hx => ?_)); (focus decide); (focus (first | decide | omega)); (focus (first | decide | (simp only [sl]; omega)))) | ((with_reducible refine w_m hS ?_ ?_ ?_ ?_ ?_ (fun x hx => ?_)); (focus decide); (focus (first | decide | omega)); (focus omega); (focus (first | decide | omega)); (focus (first | decide | (simp only [ml]; omega)))) | (with_reducible refine w_k (by simp (disch := omega) only [w32_id]; exact rfl) ?_; ((with_reducible refine w_s hS ?_ ?_ ?_ (fun x hx => ?_)); (focus decide); (focus (first | decide | omega)); (focus (first | decide | (simp only [sl]; omega))))) | (with_reducible refine w_k (by simp (disch := omega) only [w32_id]; exact rfl) ?_; ((with_reducible refine w_m hS ?_ ?_ ?_ ?_ ?_ (fun x hx => ?_)); (focus decide); (focus (first | decide | omega)); (focus omega); (focus (first | decide | omega)); (focus (first | decide | (simp only [ml]; omega)))))); (try simp (disch := omega) only [Int.reduceToNat, tn_c, tn8, tn8i, tn5, tn5z, tn6, tn6z, tn1, u3_ne, u3_eq, u3_ni, u3_nk, e1] at hx); subst hx)
  exact w_ite (fun z' => w_ret (k0 (fun y => z' y.2.2))) (fun z' => w_ret (k1 ⟨hq, by omega, by omega⟩))
theorem w_isCAT {q : Nat} {f : Int × GS → GO} (hI : INV T V R) (hq : q < rC R 20) (k1 : qtp V R q → Wp (f (1, (V, R))) Q) (k0 : ¬ qtp V R q → Wp (f (0, (V, R))) Q) : Wp ((g_X9_isCodeAtTop 0 (q : Int) (V, R)).bind f) Q := by
  have hS := hI.SH
  have hF := hI.RF
  have b20 := hI.IN.1.1
  have e1 := (hI.IQ.1 q hq).1.2.1
  refine w_bind ?_
  unfold g_X9_isCodeAtTop
  refine w_gv (by omega) ?_
  ((first | ((with_reducible refine w_s hS ?_ ?_ ?_ (fun x hx => ?_)); (focus decide); (focus (first | decide | omega)); (focus (first | decide | (simp only [sl]; omega)))) | ((with_reducible refine w_m hS ?_ ?_ ?_ ?_ ?_ (fun x hx => ?_)); (focus decide); (focus (first | decide | omega)); (focus omega); (focus (first | decide | omega)); (focus (first | decide | (simp only [ml]; omega)))) | (with_reducible refine w_k (by simp (disch := omega) only [w32_id]; exact rfl) ?_; ((with_reducible refine w_s hS ?_ ?_ ?_ (fun x hx => ?_)); (focus decide); (focus (first | decide | omega)); (focus (first | decide | (simp only [sl]; omega))))) | (with_reducible refine w_k (by simp (disch := omega) only [w32_id]; exact rfl) ?_; ((with_reducible refine w_m hS ?_ ?_ ?_ ?_ ?_ (fun x hx => ?_)); (focus decide); (focus (first | decide | omega)); (focus omega); (focus (first | decide | omega)); (focus (first | decide | (simp only [ml]; omega)))))); (try simp (disch := omega) only [Int.reduceToNat, tn_c, tn8, tn8i, tn5, tn5z, tn6, tn6z, tn1, u3_ne, u3_eq, u3_ni, u3_nk, f_100_1 hF] at hx); subst hx)
  ((first | ((with_reducible refine w_s hS ?_ ?_ ?_ (fun x hx => ?_)); (focus decide); (focus (first | decide | omega)); (focus (first | decide | (simp only [sl]; omega)))) | ((with_reducible refine w_m hS ?_ ?_ ?_ ?_ ?_ (fun x hx => ?_)); (focus decide); (focus (first | decide | omega)); (focus omega); (focus (first | decide | omega)); (focus (first | decide | (simp only [ml]; omega)))) | (with_reducible refine w_k (by simp (disch := omega) only [w32_id]; exact rfl) ?_; ((with_reducible refine w_s hS ?_ ?_ ?_ (fun x hx => ?_)); (focus decide); (focus (first | decide | omega)); (focus (first | decide | (simp only [sl]; omega))))) | (with_reducible refine w_k (by simp (disch := omega) only [w32_id]; exact rfl) ?_; ((with_reducible refine w_m hS ?_ ?_ ?_ ?_ ?_ (fun x hx => ?_)); (focus decide); (focus (first | decide | omega)); (focus omega); (focus (first | decide | omega)); (focus (first | decide | (simp only [ml]; omega)))))); (try simp (disch := omega) only [Int.reduceToNat, tn_c, tn8, tn8i, tn5, tn5z, tn6, tn6z, tn1, u3_ne, u3_eq, u3_ni, u3_nk, tn_c] at hx); subst hx)
  refine w_ite (fun z => w_ret (k0 (fun y => z y.2.1))) (fun z => ?_)
  ((first | ((with_reducible refine w_s hS ?_ ?_ ?_ (fun x hx => ?_)); (focus decide); (focus (first | decide | omega)); (focus (first | decide | (simp only [sl]; omega)))) | ((with_reducible refine w_m hS ?_ ?_ ?_ ?_ ?_ (fun x hx => ?_)); (focus decide); (focus (first | decide | omega)); (focus omega); (focus (first | decide | omega)); (focus (first | decide | (simp only [ml]; omega)))) | (with_reducible refine w_k (by simp (disch := omega) only [w32_id]; exact rfl) ?_; ((with_reducible refine w_s hS ?_ ?_ ?_ (fun x hx => ?_)); (focus decide); (focus (first | decide | omega)); (focus (first | decide | (simp only [sl]; omega))))) | (with_reducible refine w_k (by simp (disch := omega) only [w32_id]; exact rfl) ?_; ((with_reducible refine w_m hS ?_ ?_ ?_ ?_ ?_ (fun x hx => ?_)); (focus decide); (focus (first | decide | omega)); (focus omega); (focus (first | decide | omega)); (focus (first | decide | (simp only [ml]; omega)))))); (try simp (disch := omega) only [Int.reduceToNat, tn_c, tn8, tn8i, tn5, tn5z, tn6, tn6z, tn1, u3_ne, u3_eq, u3_ni, u3_nk, f_100_2 hF] at hx); subst hx)
  ((first | ((with_reducible refine w_s hS ?_ ?_ ?_ (fun x hx => ?_)); (focus decide); (focus (first | decide | omega)); (focus (first | decide | (simp only [sl]; omega)))) | ((with_reducible refine w_m hS ?_ ?_ ?_ ?_ ?_ (fun x hx => ?_)); (focus decide); (focus (first | decide | omega)); (focus omega); (focus (first | decide | omega)); (focus (first | decide | (simp only [ml]; omega)))) | (with_reducible refine w_k (by simp (disch := omega) only [w32_id]; exact rfl) ?_; ((with_reducible refine w_s hS ?_ ?_ ?_ (fun x hx => ?_)); (focus decide); (focus (first | decide | omega)); (focus (first | decide | (simp only [sl]; omega))))) | (with_reducible refine w_k (by simp (disch := omega) only [w32_id]; exact rfl) ?_; ((with_reducible refine w_m hS ?_ ?_ ?_ ?_ ?_ (fun x hx => ?_)); (focus decide); (focus (first | decide | omega)); (focus omega); (focus (first | decide | omega)); (focus (first | decide | (simp only [ml]; omega)))))); (try simp (disch := omega) only [Int.reduceToNat, tn_c, tn8, tn8i, tn5, tn5z, tn6, tn6z, tn1, u3_ne, u3_eq, u3_ni, u3_nk, tn_c] at hx); subst hx)
  exact w_ite (fun z' => w_ret (k0 (fun y => by have := y.2.2; omega))) (fun z' => w_ret (k1 ⟨hq, by omega, by omega⟩))
def isq (R : GR) (x : Int) : Prop := 0 ≤ x ∧ x < (rC R 20 : Int)
theorem w_ctable {q' a : Int} (hI : INV IT V R)
  (K1 : ∀ V' (q m n : Nat), q' = (q : Int) → INV (fun _ => True) V' R → TQ V' R q a m n → (∀ h, h < rC R 30 → V' 30 h 2 = V' 100 0 29) → TC V' q a m n (rC R 30) → Q ((m * n : Nat) : Int) (V', R))
  (K0 : ¬ (isq R q' ∧ (a = -1 ∨ isq R a)) → Q (-1) (V, R))
  (K2 : isq R q' → (a = -1 ∨ isq R a) → ¬ (qtp V R q'.toNat ∧ (a = -1 ∨ qtp V R a.toNat)) → Q (-2) (V, R)) : Wp (g_X8_table 0 q' a (V, R)) Q := by
  have hS := hI.SH
  have hF := hI.RF
  have hL := hI.IL
  obtain ⟨b20, b30, b40, b50⟩ := hI.IN.1
  obtain ⟨n1, n2', n3, n4, n5, n6, _⟩ := hI.IN.2.1
  unfold g_X8_table
  refine w_gv (by omega) ?_
  ((first | ((with_reducible refine w_s hS ?_ ?_ ?_ (fun x hx => ?_)); (focus decide); (focus (first | decide | omega)); (focus (first | decide | (simp only [sl]; omega)))) | ((with_reducible refine w_m hS ?_ ?_ ?_ ?_ ?_ (fun x hx => ?_)); (focus decide); (focus (first | decide | omega)); (focus omega); (focus (first | decide | omega)); (focus (first | decide | (simp only [ml]; omega)))) | (with_reducible refine w_k (by simp (disch := omega) only [w32_id]; exact rfl) ?_; ((with_reducible refine w_s hS ?_ ?_ ?_ (fun x hx => ?_)); (focus decide); (focus (first | decide | omega)); (focus (first | decide | (simp only [sl]; omega))))) | (with_reducible refine w_k (by simp (disch := omega) only [w32_id]; exact rfl) ?_; ((with_reducible refine w_m hS ?_ ?_ ?_ ?_ ?_ (fun x hx => ?_)); (focus decide); (focus (first | decide | omega)); (focus omega); (focus (first | decide | omega)); (focus (first | decide | (simp only [ml]; omega)))))); (try simp (disch := omega) only [Int.reduceToNat, tn_c, tn8, tn8i, tn5, tn5z, tn6, tn6z, tn1, u3_ne, u3_eq, u3_ni, u3_nk, f_0_0 hF] at hx); subst hx)
  refine w_qO hS n2' (f_1_0 hF) b20 (fun n hn => l_2 hL hn) (fun q eq hq => ?_) (fun hn => ?_)
  · subst eq
    dsimp only
    ((first | ((with_reducible refine w_s hS ?_ ?_ ?_ (fun x hx => ?_)); (focus decide); (focus (first | decide | omega)); (focus (first | decide | (simp only [sl]; omega)))) | ((with_reducible refine w_m hS ?_ ?_ ?_ ?_ ?_ (fun x hx => ?_)); (focus decide); (focus (first | decide | omega)); (focus omega); (focus (first | decide | omega)); (focus (first | decide | (simp only [ml]; omega)))) | (with_reducible refine w_k (by simp (disch := omega) only [w32_id]; exact rfl) ?_; ((with_reducible refine w_s hS ?_ ?_ ?_ (fun x hx => ?_)); (focus decide); (focus (first | decide | omega)); (focus (first | decide | (simp only [sl]; omega))))) | (with_reducible refine w_k (by simp (disch := omega) only [w32_id]; exact rfl) ?_; ((with_reducible refine w_m hS ?_ ?_ ?_ ?_ ?_ (fun x hx => ?_)); (focus decide); (focus (first | decide | omega)); (focus omega); (focus (first | decide | omega)); (focus (first | decide | (simp only [ml]; omega)))))); (try simp (disch := omega) only [Int.reduceToNat, tn_c, tn8, tn8i, tn5, tn5z, tn6, tn6z, tn1, u3_ne, u3_eq, u3_ni, u3_nk, f_0_0 hF] at hx); subst hx)
    have core : (a = -1 ∨ ∃ r : Nat, a = (r : Int) ∧ r < rC R 20) → Wp (gjX8_table_35 0 (q : Int) a (q : Int) a (V, R)) Q := by
      intro ha
      have haq : a = -1 ∨ isq R a := by
        rcases ha with h | ⟨r, h, h'⟩
        · exact Or.inl h
        · exact Or.inr ⟨by omega, by omega⟩
      unfold gjX8_table_35
      have go : qtp V R q → (a = -1 ∨ ∃ r : Nat, a = (r : Int) ∧ qtp V R r) → Wp (gjX8_table_58 0 (q : Int) a (q : Int) a (V, R)) Q := by
        intro hq1 ha1
        have hTQ : TQ V R q a ((V 109 0 q).toNat + 1) (n2 V a) := ⟨hq1, rfl, rfl, ha1⟩
        obtain ⟨d1, d2, d3, d4⟩ := hTQ.dim hI
        have e5 := (hI.IQ.1 q hq).1.2.2.2.1
        have fin : ∀ b : Int, b = tb2 a → Wp (gjX8_table_94 0 (q : Int) a (q : Int) a 0 (((V 109 0 q).toNat + 1 : Nat) : Int) ((n2 V a : Nat) : Int) b (V, R)) Q := by
          intro b hb
          unfold gjX8_table_94
          refine w_tstart hS hF (by rw [hb]; unfold tb2; by_cases h : a = -1; exact Or.inl (if_pos h); exact Or.inr (if_neg h)) (fun V1 sm1 ht h8 h9 => ?_)
          refine w_tloop (hI.tb (LTC_TB sm1)) (hTQ.cg (sm1.r 101 rfl 0) (sm1.r 102 rfl 0) (sm1.r 109 rfl 0)) ⟨hb ▸ ht, fun k => ⟨h8 k, h9 k⟩⟩ (fun V' hI' hq' hd hc _ => ?_)
          exact K1 V' q _ _ rfl hI' hq' hd hc
        unfold gjX8_table_58 gjX8_table_84
        ((first | ((with_reducible refine w_s hS ?_ ?_ ?_ (fun x hx => ?_)); (focus decide); (focus (first | decide | omega)); (focus (first | decide | (simp only [sl]; omega)))) | ((with_reducible refine w_m hS ?_ ?_ ?_ ?_ ?_ (fun x hx => ?_)); (focus decide); (focus (first | decide | omega)); (focus omega); (focus (first | decide | omega)); (focus (first | decide | (simp only [ml]; omega)))) | (with_reducible refine w_k (by simp (disch := omega) only [w32_id]; exact rfl) ?_; ((with_reducible refine w_s hS ?_ ?_ ?_ (fun x hx => ?_)); (focus decide); (focus (first | decide | omega)); (focus (first | decide | (simp only [sl]; omega))))) | (with_reducible refine w_k (by simp (disch := omega) only [w32_id]; exact rfl) ?_; ((with_reducible refine w_m hS ?_ ?_ ?_ ?_ ?_ (fun x hx => ?_)); (focus decide); (focus (first | decide | omega)); (focus omega); (focus (first | decide | omega)); (focus (first | decide | (simp only [ml]; omega)))))); (try simp (disch := omega) only [Int.reduceToNat, tn_c, tn8, tn8i, tn5, tn5z, tn6, tn6z, tn1, u3_ne, u3_eq, u3_ni, u3_nk, f_0_5 hF] at hx); subst hx)
        ((first | ((with_reducible refine w_s hS ?_ ?_ ?_ (fun x hx => ?_)); (focus decide); (focus (first | decide | omega)); (focus (first | decide | (simp only [sl]; omega)))) | ((with_reducible refine w_m hS ?_ ?_ ?_ ?_ ?_ (fun x hx => ?_)); (focus decide); (focus (first | decide | omega)); (focus omega); (focus (first | decide | omega)); (focus (first | decide | (simp only [ml]; omega)))) | (with_reducible refine w_k (by simp (disch := omega) only [w32_id]; exact rfl) ?_; ((with_reducible refine w_s hS ?_ ?_ ?_ (fun x hx => ?_)); (focus decide); (focus (first | decide | omega)); (focus (first | decide | (simp only [sl]; omega))))) | (with_reducible refine w_k (by simp (disch := omega) only [w32_id]; exact rfl) ?_; ((with_reducible refine w_m hS ?_ ?_ ?_ ?_ ?_ (fun x hx => ?_)); (focus decide); (focus (first | decide | omega)); (focus omega); (focus (first | decide | omega)); (focus (first | decide | (simp only [ml]; omega)))))); (try simp (disch := omega) only [Int.reduceToNat, tn_c, tn8, tn8i, tn5, tn5z, tn6, tn6z, tn1, u3_ne, u3_eq, u3_ni, u3_nk, e5.1] at hx); subst hx)
        rw [w32_id (x := V 109 0 q + 1) (by omega) (by omega), show V 109 0 q + 1 = (((V 109 0 q).toNat + 1 : Nat) : Int) by omega]
        refine w_ite (fun h => ?_) (fun h => ?_)
        · rcases ha1 with rfl | ⟨r, rfl, hr⟩
          · exact absurd rfl h
          · have e6 := (hI.IQ.1 r hr.1).1.2.2.2.1
            have := hr.1
            ((first | ((with_reducible refine w_s hS ?_ ?_ ?_ (fun x hx => ?_)); (focus decide); (focus (first | decide | omega)); (focus (first | decide | (simp only [sl]; omega)))) | ((with_reducible refine w_m hS ?_ ?_ ?_ ?_ ?_ (fun x hx => ?_)); (focus decide); (focus (first | decide | omega)); (focus omega); (focus (first | decide | omega)); (focus (first | decide | (simp only [ml]; omega)))) | (with_reducible refine w_k (by simp (disch := omega) only [w32_id]; exact rfl) ?_; ((with_reducible refine w_s hS ?_ ?_ ?_ (fun x hx => ?_)); (focus decide); (focus (first | decide | omega)); (focus (first | decide | (simp only [sl]; omega))))) | (with_reducible refine w_k (by simp (disch := omega) only [w32_id]; exact rfl) ?_; ((with_reducible refine w_m hS ?_ ?_ ?_ ?_ ?_ (fun x hx => ?_)); (focus decide); (focus (first | decide | omega)); (focus omega); (focus (first | decide | omega)); (focus (first | decide | (simp only [ml]; omega)))))); (try simp (disch := omega) only [Int.reduceToNat, tn_c, tn8, tn8i, tn5, tn5z, tn6, tn6z, tn1, u3_ne, u3_eq, u3_ni, u3_nk, e6.1] at hx); subst hx)
            refine w_ite (fun z => absurd z h) (fun _ => ?_)
            have en : ((n2 V (r : Int) : Nat) : Int) = V 109 0 r + 1 := by unfold n2; rw [if_neg (by omega), tn_c]; omega
            rw [w32_id (x := V 109 0 r + 1) (by omega) (by omega), ← en]
            exact fin 1 (by unfold tb2; rw [if_neg h])
        · refine w_ite (fun _ => ?_) (fun z => absurd (show a = -1 by omega) z)
          have ea : a = -1 := by omega
          have en : n2 V a = 1 := by unfold n2; rw [if_pos ea]
          have := fin 0 (by unfold tb2; rw [if_pos ea])
          rw [en] at this
          exact this
      refine w_makesLines hI hq (fun y => ?_) (fun y => ?_)
      · refine w_ite (fun z => absurd (show (1 : Int) = 0 from z) (by decide)) (fun _ => ?_)
        refine w_ite (fun z => go y (Or.inl z)) (fun z => ?_)
        rcases ha with h | ⟨r, rfl, hr⟩
        · exact absurd h z
        · dsimp only
          refine w_makesLines hI hr (fun y' => ?_) (fun y' => ?_)
          · exact w_ite (fun _ => go y (Or.inr ⟨r, rfl, y'⟩)) (fun z => absurd (show (1 : Int) ≠ 0 by decide) z)
          · refine w_ite (fun z => absurd rfl z) (fun _ => w_ret (K2 ⟨by omega, by omega⟩ haq (fun w => ?_)))
            rcases w.2 with h | h
            · exact z h
            · rw [tn_c] at h; exact y' h
      · refine w_ite (fun _ => w_ret (K2 ⟨by omega, by omega⟩ haq (fun w => ?_))) (fun z => absurd rfl z)
        have := w.1
        rw [tn_c] at this; exact y this
    refine w_qO hS n2' (f_1_0 hF) b20 (fun n hn => l_2 hL hn) (fun r er hr => ?_) (fun hn => ?_)
    · subst er
      dsimp only
      refine w_ite (fun z => absurd z (by omega)) (fun _ => w_ite (fun z => absurd z (by omega)) (fun _ => w_ite (fun _ => core (Or.inr ⟨r, rfl, hr⟩)) (fun z => absurd (show (r : Int) ≠ -1 by omega) z)))
    · dsimp only
      refine w_ite (fun z => absurd z (by omega)) (fun _ => w_ite (fun z => ?_) (fun z => w_ite (fun y => absurd rfl y) (fun _ => w_ret (K0 (fun w => ?_)))))
      · have := core (Or.inl z)
        rw [z] at this ⊢
        exact this
      · rcases w.2 with h | h
        · exact z h
        · exact hn h
  · dsimp only
    ((first | ((with_reducible refine w_s hS ?_ ?_ ?_ (fun x hx => ?_)); (focus decide); (focus (first | decide | omega)); (focus (first | decide | (simp only [sl]; omega)))) | ((with_reducible refine w_m hS ?_ ?_ ?_ ?_ ?_ (fun x hx => ?_)); (focus decide); (focus (first | decide | omega)); (focus omega); (focus (first | decide | omega)); (focus (first | decide | (simp only [ml]; omega)))) | (with_reducible refine w_k (by simp (disch := omega) only [w32_id]; exact rfl) ?_; ((with_reducible refine w_s hS ?_ ?_ ?_ (fun x hx => ?_)); (focus decide); (focus (first | decide | omega)); (focus (first | decide | (simp only [sl]; omega))))) | (with_reducible refine w_k (by simp (disch := omega) only [w32_id]; exact rfl) ?_; ((with_reducible refine w_m hS ?_ ?_ ?_ ?_ ?_ (fun x hx => ?_)); (focus decide); (focus (first | decide | omega)); (focus omega); (focus (first | decide | omega)); (focus (first | decide | (simp only [ml]; omega)))))); (try simp (disch := omega) only [Int.reduceToNat, tn_c, tn8, tn8i, tn5, tn5z, tn6, tn6z, tn1, u3_ne, u3_eq, u3_ni, u3_nk, f_0_0 hF] at hx); subst hx)
    refine w_qO hS n2' (f_1_0 hF) b20 (fun n hn => l_2 hL hn) (fun r er hr => ?_) (fun hn' => ?_)
    · exact w_ite (fun _ => w_ret (K0 (fun w => hn w.1))) (fun z => absurd rfl z)
    · exact w_ite (fun _ => w_ret (K0 (fun w => hn w.1))) (fun z => absurd rfl z)
end CTable
