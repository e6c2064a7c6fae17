section RTable
variable {V : GV} {R : GR} {T : GV → Prop} {Q : Int → GS → Prop}
def LTR : PL' := [(100, some 35), (100, some 36), (100, some 37), (100, some 38), (139, none), (140, none), (141, none), (142, none), (143, none), (144, none), (145, none)]
def tdm (V : GV) (m n : Nat) (b : Int) : Prop := V 100 0 35 = 1 ∧ V 100 0 36 = b ∧ V 100 0 37 = (m : Int) ∧ V 100 0 38 = (n : Int)
def TR (V V1 : GV) (q : Nat) (a : Int) (i : Nat) : Prop := ∀ k, k < 81 → V1 139 0 k = tct V q a k i ∧ V1 140 0 k = twt V q a k i ∧ V1 141 0 k = 0 ∧ V1 142 0 k = 0
theorem hcnt_0 {k : Nat} (h : ∀ j, j < k → V 142 0 j = 0) : hcnt V k = 0 := by
  induction k with
  | zero => rfl
  | succ k ih => unfold hcnt; rw [ih (fun j hj => h j (by omega)), h k (by omega)]; rfl
theorem bt0 {j : Nat} : ¬ bt 0 j := by
  unfold bt; rw [Int.zero_ediv]; decide
theorem w_rtloop {q m n : Nat} {a : Int} {V1 : GV} (hI : INV (fun _ => True) V R) (hq : TQ V R q a m n) (hd : ∀ h, h < rC R 30 → V 30 h 2 = V 100 0 29) (sm1 : same V V1 LTR) (hm : tdm V1 m n (tb2 a)) (hr : TR V V1 q a 0)
  (K : ∀ V', same V V' LTR → tdm V' m n (tb2 a) → TR V V' q a (rC R 30) → Q ((m * n : Nat) : Int) (V', R)) : Wp (lh1 (glX9_table_140 0 (q : Int) a) 6000 0 (V1, R)) Q := by
  have hS := hI.SH
  obtain ⟨b20, b30, b40, b50⟩ := hI.IN.1
  obtain ⟨hm1, hm9, hn1, hn9⟩ := hq.dim hI
  refine w_for (rC R 30) (fun i G => ∃ V', G = (V', R) ∧ same V V' LTR ∧ tdm V' m n (tb2 a) ∧ TR V V' q a i) ?_ (i := 0) (by omega) (by omega) ⟨V1, rfl, sm1, hm, hr⟩
  rintro i G hi ⟨V', rfl, sm, hm', hr'⟩ self ih
  have hI' : INV (fun _ => True) V' R := hI.tb (sm.mono (by decide))
  have n3 := hI'.IN.2.1.2.2.1
  unfold glX9_table_140
  ((first | ((with_reducible refine w_s hS ?_ ?_ ?_ (fun x hx => ?_)); (focus decide); (focus (first | decide | omega)); (focus (first | decide | (simp only [sl]; omega)))) | ((with_reducible refine w_m hS ?_ ?_ ?_ ?_ ?_ (fun x hx => ?_)); (focus decide); (focus (first | decide | omega)); (focus omega); (focus (first | decide | omega)); (focus (first | decide | (simp only [ml]; omega)))) | (with_reducible refine w_k (by simp (disch := omega) only [w32_id]; exact rfl) ?_; ((with_reducible refine w_s hS ?_ ?_ ?_ (fun x hx => ?_)); (focus decide); (focus (first | decide | omega)); (focus (first | decide | (simp only [sl]; omega))))) | (with_reducible refine w_k (by simp (disch := omega) only [w32_id]; exact rfl) ?_; ((with_reducible refine w_m hS ?_ ?_ ?_ ?_ ?_ (fun x hx => ?_)); (focus decide); (focus (first | decide | omega)); (focus omega); (focus (first | decide | omega)); (focus (first | decide | (simp only [ml]; omega)))))); (try simp (disch := omega) only [Int.reduceToNat, tn_c, tn8, tn8i, tn5, tn5z, tn6, tn6z, tn1, u3_ne, u3_eq, u3_ni, u3_nk, n3] at hx); subst hx)
  refine w_ite (fun hx => ?_) (fun hx => ?_)
  · ((first | ((with_reducible refine w_s hS ?_ ?_ ?_ (fun x hx => ?_)); (focus decide); (focus (first | decide | omega)); (focus (first | decide | (simp only [sl]; omega)))) | ((with_reducible refine w_m hS ?_ ?_ ?_ ?_ ?_ (fun x hx => ?_)); (focus decide); (focus (first | decide | omega)); (focus omega); (focus (first | decide | omega)); (focus (first | decide | (simp only [ml]; omega)))) | (with_reducible refine w_k (by simp (disch := omega) only [w32_id]; exact rfl) ?_; ((with_reducible refine w_s hS ?_ ?_ ?_ (fun x hx => ?_)); (focus decide); (focus (first | decide | omega)); (focus (first | decide | (simp only [sl]; omega))))) | (with_reducible refine w_k (by simp (disch := omega) only [w32_id]; exact rfl) ?_; ((with_reducible refine w_m hS ?_ ?_ ?_ ?_ ?_ (fun x hx => ?_)); (focus decide); (focus (first | decide | omega)); (focus omega); (focus (first | decide | omega)); (focus (first | decide | (simp only [ml]; omega)))))); (try simp (disch := omega) only [Int.reduceToNat, tn_c, tn8, tn8i, tn5, tn5z, tn6, tn6z, tn1, u3_ne, u3_eq, u3_ni, u3_nk, hm'.2.2.1] at hx); subst hx)
    ((first | ((with_reducible refine w_s hS ?_ ?_ ?_ (fun x hx => ?_)); (focus decide); (focus (first | decide | omega)); (focus (first | decide | (simp only [sl]; omega)))) | ((with_reducible refine w_m hS ?_ ?_ ?_ ?_ ?_ (fun x hx => ?_)); (focus decide); (focus (first | decide | omega)); (focus omega); (focus (first | decide | omega)); (focus (first | decide | (simp only [ml]; omega)))) | (with_reducible refine w_k (by simp (disch := omega) only [w32_id]; exact rfl) ?_; ((with_reducible refine w_s hS ?_ ?_ ?_ (fun x hx => ?_)); (focus decide); (focus (first | decide | omega)); (focus (first | decide | (simp only [sl]; omega))))) | (with_reducible refine w_k (by simp (disch := omega) only [w32_id]; exact rfl) ?_; ((with_reducible refine w_m hS ?_ ?_ ?_ ?_ ?_ (fun x hx => ?_)); (focus decide); (focus (first | decide | omega)); (focus omega); (focus (first | decide | omega)); (focus (first | decide | (simp only [ml]; omega)))))); (try simp (disch := omega) only [Int.reduceToNat, tn_c, tn8, tn8i, tn5, tn5z, tn6, tn6z, tn1, u3_ne, u3_eq, u3_ni, u3_nk, hm'.2.2.2] at hx); subst hx)
    have := mn_le hm9 hn9
    rw [← Int.natCast_mul, w32_id (by omega) (by omega)]
    have ei : i = rC R 30 := by omega
    subst ei
    exact w_ret (K V' sm hm' hr')
  · have hh : i < rC R 30 := by omega
    have hdi : V' 30 i 2 = V' 100 0 29 := by rw [sm.r 30 rfl, sm.f 100 29 rfl]; exact hd i hh
    refine w_workOut hI' hh hdi (fun V2 sm2 hI2 hN2 => ?_)
    have sma : same V V2 LTR := sm.tr (sm2.mono (by decide))
    have hF2 := hI2.RF
    have hd2 : V2 30 i 2 = V2 100 0 29 := by rw [sm2.r 30 rfl, sm2.f 100 29 rfl]; exact hdi
    have hq2 : TQ V2 R q a m n := hq.cg (sma.r 101 rfl 0) (sma.r 102 rfl 0) (sma.r 109 rfl 0)
    have hm2 : tdm V2 m n (tb2 a) := by unfold tdm; simp only [sm2.r 100 rfl]; exact hm'
    have hr2 : TR V V2 q a i := by unfold TR; simp only [sm2.r 139 rfl, sm2.r 140 rfl, sm2.r 141 rfl, sm2.r 142 rfl]; exact hr'
    obtain ⟨l1, l2'⟩ := hq2.lt hI2 hh hd2
    have c1 := cod_all hI2 hh hd2 hq2.1.1 hq2.1.2.1 hq2.1.2.2
    have mn := mn_lt hm9 hn9 l1 l2'
    have ce : cel V q a i = lns V2 q (V2 30 i 0).toNat * n + l2 V2 a (V2 30 i 0).toNat := by
      rw [← cel_cg (V := V) (V' := V2) (sma.r 30 rfl _ _) (fun k => ⟨sma.r 32 rfl _ _, sma.r 33 rfl _ _⟩) (sma.r 108 rfl 0) (sma.r 109 rfl 0)]
      unfold cel; rw [hq2.2.2.1]
    have main : Wp (gjX9_table_176 self 0 (q : Int) a (i : Int) (w32 ((n : Int) * ((lns V2 q (V2 30 i 0).toNat : Nat) : Int))) ((l2 V2 a (V2 30 i 0).toNat : Nat) : Int) (V2, R)) Q := by
      unfold gjX9_table_176
      rw [wat' (by omega)]
      generalize lns V2 q (V2 30 i 0).toNat * n + l2 V2 a (V2 30 i 0).toNat = c at ce mn ⊢
      obtain ⟨r1, r2, r3, r4⟩ := hr2 c (by omega)
      ((first | ((with_reducible refine w_s hS ?_ ?_ ?_ (fun x hx => ?_)); (focus decide); (focus (first | decide | omega)); (focus (first | decide | (simp only [sl]; omega)))) | ((with_reducible refine w_m hS ?_ ?_ ?_ ?_ ?_ (fun x hx => ?_)); (focus decide); (focus (first | decide | omega)); (focus omega); (focus (first | decide | omega)); (focus (first | decide | (simp only [ml]; omega)))) | (with_reducible refine w_k (by simp (disch := omega) only [w32_id]; exact rfl) ?_; ((with_reducible refine w_s hS ?_ ?_ ?_ (fun x hx => ?_)); (focus decide); (focus (first | decide | omega)); (focus (first | decide | (simp only [sl]; omega))))) | (with_reducible refine w_k (by simp (disch := omega) only [w32_id]; exact rfl) ?_; ((with_reducible refine w_m hS ?_ ?_ ?_ ?_ ?_ (fun x hx => ?_)); (focus decide); (focus (first | decide | omega)); (focus omega); (focus (first | decide | omega)); (focus (first | decide | (simp only [ml]; omega)))))); (try simp (disch := omega) only [Int.reduceToNat, tn_c, tn8, tn8i, tn5, tn5z, tn6, tn6z, tn1, u3_ne, u3_eq, u3_ni, u3_nk, f_100_39 hF2] at hx); subst hx)
      ((first | ((with_reducible refine w_s hS ?_ ?_ ?_ (fun x hx => ?_)); (focus decide); (focus (first | decide | omega)); (focus (first | decide | (simp only [sl]; omega)))) | ((with_reducible refine w_m hS ?_ ?_ ?_ ?_ ?_ (fun x hx => ?_)); (focus decide); (focus (first | decide | omega)); (focus omega); (focus (first | decide | omega)); (focus (first | decide | (simp only [ml]; omega)))) | (with_reducible refine w_k (by simp (disch := omega) only [w32_id]; exact rfl) ?_; ((with_reducible refine w_s hS ?_ ?_ ?_ (fun x hx => ?_)); (focus decide); (focus (first | decide | omega)); (focus (first | decide | (simp only [sl]; omega))))) | (with_reducible refine w_k (by simp (disch := omega) only [w32_id]; exact rfl) ?_; ((with_reducible refine w_m hS ?_ ?_ ?_ ?_ ?_ (fun x hx => ?_)); (focus decide); (focus (first | decide | omega)); (focus omega); (focus (first | decide | omega)); (focus (first | decide | (simp only [ml]; omega)))))); (try simp (disch := omega) only [Int.reduceToNat, tn_c, tn8, tn8i, tn5, tn5z, tn6, tn6z, tn1, u3_ne, u3_eq, u3_ni, u3_nk, tn_c] at hx); subst hx)
      refine w_ss hS (by decide) (by omega) (by simp only [sl]; omega) ?_
      ((first | ((with_reducible refine w_s hS ?_ ?_ ?_ (fun x hx => ?_)); (focus decide); (focus (first | decide | omega)); (focus (first | decide | (simp only [sl]; omega)))) | ((with_reducible refine w_m hS ?_ ?_ ?_ ?_ ?_ (fun x hx => ?_)); (focus decide); (focus (first | decide | omega)); (focus omega); (focus (first | decide | omega)); (focus (first | decide | (simp only [ml]; omega)))) | (with_reducible refine w_k (by simp (disch := omega) only [w32_id]; exact rfl) ?_; ((with_reducible refine w_s hS ?_ ?_ ?_ (fun x hx => ?_)); (focus decide); (focus (first | decide | omega)); (focus (first | decide | (simp only [sl]; omega))))) | (with_reducible refine w_k (by simp (disch := omega) only [w32_id]; exact rfl) ?_; ((with_reducible refine w_m hS ?_ ?_ ?_ ?_ ?_ (fun x hx => ?_)); (focus decide); (focus (first | decide | omega)); (focus omega); (focus (first | decide | omega)); (focus (first | decide | (simp only [ml]; omega)))))); (try simp (disch := omega) only [Int.reduceToNat, tn_c, tn8, tn8i, tn5, tn5z, tn6, tn6z, tn1, u3_ne, u3_eq, u3_ni, u3_nk, f_100_40 hF2] at hx); subst hx)
      ((first | ((with_reducible refine w_s hS ?_ ?_ ?_ (fun x hx => ?_)); (focus decide); (focus (first | decide | omega)); (focus (first | decide | (simp only [sl]; omega)))) | ((with_reducible refine w_m hS ?_ ?_ ?_ ?_ ?_ (fun x hx => ?_)); (focus decide); (focus (first | decide | omega)); (focus omega); (focus (first | decide | omega)); (focus (first | decide | (simp only [ml]; omega)))) | (with_reducible refine w_k (by simp (disch := omega) only [w32_id]; exact rfl) ?_; ((with_reducible refine w_s hS ?_ ?_ ?_ (fun x hx => ?_)); (focus decide); (focus (first | decide | omega)); (focus (first | decide | (simp only [sl]; omega))))) | (with_reducible refine w_k (by simp (disch := omega) only [w32_id]; exact rfl) ?_; ((with_reducible refine w_m hS ?_ ?_ ?_ ?_ ?_ (fun x hx => ?_)); (focus decide); (focus (first | decide | omega)); (focus omega); (focus (first | decide | omega)); (focus (first | decide | (simp only [ml]; omega)))))); (try simp (disch := omega) only [Int.reduceToNat, tn_c, tn8, tn8i, tn5, tn5z, tn6, tn6z, tn1, u3_ne, u3_eq, u3_ni, u3_nk, tn_c] at hx); subst hx)
      ((first | ((with_reducible refine w_s hS ?_ ?_ ?_ (fun x hx => ?_)); (focus decide); (focus (first | decide | omega)); (focus (first | decide | (simp only [sl]; omega)))) | ((with_reducible refine w_m hS ?_ ?_ ?_ ?_ ?_ (fun x hx => ?_)); (focus decide); (focus (first | decide | omega)); (focus omega); (focus (first | decide | omega)); (focus (first | decide | (simp only [ml]; omega)))) | (with_reducible refine w_k (by simp (disch := omega) only [w32_id]; exact rfl) ?_; ((with_reducible refine w_s hS ?_ ?_ ?_ (fun x hx => ?_)); (focus decide); (focus (first | decide | omega)); (focus (first | decide | (simp only [sl]; omega))))) | (with_reducible refine w_k (by simp (disch := omega) only [w32_id]; exact rfl) ?_; ((with_reducible refine w_m hS ?_ ?_ ?_ ?_ ?_ (fun x hx => ?_)); (focus decide); (focus (first | decide | omega)); (focus omega); (focus (first | decide | omega)); (focus (first | decide | (simp only [ml]; omega)))))); (try simp (disch := omega) only [Int.reduceToNat, tn_c, tn8, tn8i, tn5, tn5z, tn6, tn6z, tn1, u3_ne, u3_eq, u3_ni, u3_nk, f_100_17 hF2] at hx); subst hx)
      ((first | ((with_reducible refine w_s hS ?_ ?_ ?_ (fun x hx => ?_)); (focus decide); (focus (first | decide | omega)); (focus (first | decide | (simp only [sl]; omega)))) | ((with_reducible refine w_m hS ?_ ?_ ?_ ?_ ?_ (fun x hx => ?_)); (focus decide); (focus (first | decide | omega)); (focus omega); (focus (first | decide | omega)); (focus (first | decide | (simp only [ml]; omega)))) | (with_reducible refine w_k (by simp (disch := omega) only [w32_id]; exact rfl) ?_; ((with_reducible refine w_s hS ?_ ?_ ?_ (fun x hx => ?_)); (focus decide); (focus (first | decide | omega)); (focus (first | decide | (simp only [sl]; omega))))) | (with_reducible refine w_k (by simp (disch := omega) only [w32_id]; exact rfl) ?_; ((with_reducible refine w_m hS ?_ ?_ ?_ ?_ ?_ (fun x hx => ?_)); (focus decide); (focus (first | decide | omega)); (focus omega); (focus (first | decide | omega)); (focus (first | decide | (simp only [ml]; omega)))))); (try simp (disch := omega) only [Int.reduceToNat, tn_c, tn8, tn8i, tn5, tn5z, tn6, tn6z, tn1, u3_ne, u3_eq, u3_ni, u3_nk, tn_c] at hx); subst hx)
      refine w_ss hS (by decide) (by omega) (by simp only [sl]; omega) ?_
      have tb := tct_b hI (q := q) (k := c) (a := a) (i := i) (by omega)
      have wb := twt_b hI (q := q) (k := c) (a := a) (i := i) (by omega)
      have ww := (hI2.IW i hh).2
      rw [tn_c, r1, r2, w32_id (x := tct V q a c i + 1) (by omega) (by omega), w64_id (by omega) (by omega)]
      generalize hW : u3 (u3 V2 139 0 c (tct V q a c i + 1)) 140 0 c (twt V q a c i + V2 117 0 i) = W
      have sm3 : same V2 W LTR := by
        rw [← hW]
        exact ((same.rf V2 _).u ⟨(139, none), by decide, rfl, Or.inl rfl⟩).u ⟨(140, none), by decide, rfl, Or.inl rfl⟩
      have hA : tdm W m n (tb2 a) := by
        rw [← hW]
        unfold tdm
        simp (disch := decide) only [u3_ne]
        exact hm2
      have hB : TR V W q a (i + 1) := by
        intro k hk
        obtain ⟨s1, s2, s3, s4⟩ := hr2 k hk
        show W 139 0 k = tct V q a k i + _ ∧ W 140 0 k = twt V q a k i + _ ∧ _
        rw [ce, ← hW]
        refine ⟨?_, ?_, ?_, ?_⟩
        · rw [u3_ne (by decide)]
          by_cases ek : c = k
          · subst ek; rw [if_pos rfl, u3_eq]
          · rw [if_neg ek, u3_nk (Ne.symm ek), s1]; omega
        · by_cases ek : c = k
          · subst ek; rw [if_pos rfl, u3_eq, sma.r 117 rfl]
          · rw [if_neg ek, u3_nk (Ne.symm ek), u3_ne (by decide), s2]; omega
        · rw [u3_ne (by decide), u3_ne (by decide)]; exact s3
        · rw [u3_ne (by decide), u3_ne (by decide)]; exact s4
      exact ih (W, R) hh ⟨W, rfl, sma.tr sm3, hA, hB⟩
    dsimp only
    ((first | ((with_reducible refine w_s hS ?_ ?_ ?_ (fun x hx => ?_)); (focus decide); (focus (first | decide | omega)); (focus (first | decide | (simp only [sl]; omega)))) | ((with_reducible refine w_m hS ?_ ?_ ?_ ?_ ?_ (fun x hx => ?_)); (focus decide); (focus (first | decide | omega)); (focus omega); (focus (first | decide | omega)); (focus (first | decide | (simp only [ml]; omega)))) | (with_reducible refine w_k (by simp (disch := omega) only [w32_id]; exact rfl) ?_; ((with_reducible refine w_s hS ?_ ?_ ?_ (fun x hx => ?_)); (focus decide); (focus (first | decide | omega)); (focus (first | decide | (simp only [sl]; omega))))) | (with_reducible refine w_k (by simp (disch := omega) only [w32_id]; exact rfl) ?_; ((with_reducible refine w_m hS ?_ ?_ ?_ ?_ ?_ (fun x hx => ?_)); (focus decide); (focus (first | decide | omega)); (focus omega); (focus (first | decide | omega)); (focus (first | decide | (simp only [ml]; omega)))))); (try simp (disch := omega) only [Int.reduceToNat, tn_c, tn8, tn8i, tn5, tn5z, tn6, tn6z, tn1, u3_ne, u3_eq, u3_ni, u3_nk, hm2.2.2.2] at hx); subst hx)
    refine w_line hI2 hq2.1.1 hq2.1.2.2 (hN2.1 q hq2.1.1) c1 ?_
    have ha := hq2.2.2.2
    refine w_ite (fun ha1 => ?_) (fun ha1 => ?_)
    · rcases ha with rfl | ⟨r, rfl, hr, k0, top⟩
      · exact absurd ha1 (by decide)
      · dsimp only
        have c2 := cod_all hI2 hh hd2 hr k0 top
        refine w_line hI2 hr top (hN2.1 r hr) c2 ?_
        have el : l2 V2 (r : Int) (V2 30 i 0).toNat = lns V2 r (V2 30 i 0).toNat := by unfold l2; rw [if_neg (by omega), tn_c]
        rw [el] at main
        exact main
    · have ea : a = -1 := by
        rcases ha with h | ⟨r, h, _⟩
        · exact h
        · omega
      have el : l2 V2 a (V2 30 i 0).toNat = 0 := by unfold l2; rw [if_pos ea]
      rw [el] at main
      exact main
theorem w_rtzero {q : Nat} {a : Int} {m n : Nat} {b : Int} {V1 : GV} (hI : INV (fun _ => True) V R) (sm1 : same V V1 LTR) (hm : tdm V1 m n b)
  (K : ∀ V', same V V' LTR → tdm V' m n b → TR V V' q a 0 → Wp (lh1 (glX9_table_140 0 (q : Int) a) 6000 0 (V', R)) Q) : Wp (lh1 (glX9_table_98 0 (q : Int) a) 6000 0 (V1, R)) Q := by
  have hS := hI.SH
  refine w_for 81 (fun i G => ∃ V', G = (V', R) ∧ same V V' LTR ∧ tdm V' m n b ∧ ∀ k, k < i → V' 139 0 k = 0 ∧ V' 140 0 k = 0 ∧ V' 141 0 k = 0 ∧ V' 142 0 k = 0) ?_ (i := 0) (by omega) (by omega) ⟨V1, rfl, sm1, hm, fun k hk => absurd hk (by omega)⟩
  rintro i G hi ⟨V', rfl, sm, hm', hz⟩ self ih
  have hF' := cg_RF sm rfl hI.RF
  unfold glX9_table_98
  refine w_ite (fun hx => ?_) (fun hx => ?_)
  · exact K V' sm hm' (fun k hk => hz k (by omega))
  · ((first | ((with_reducible refine w_s hS ?_ ?_ ?_ (fun x hx => ?_)); (focus decide); (focus (first | decide | omega)); (focus (first | decide | (simp only [sl]; omega)))) | ((with_reducible refine w_m hS ?_ ?_ ?_ ?_ ?_ (fun x hx => ?_)); (focus decide); (focus (first | decide | omega)); (focus omega); (focus (first | decide | omega)); (focus (first | decide | (simp only [ml]; omega)))) | (with_reducible refine w_k (by simp (disch := omega) only [w32_id]; exact rfl) ?_; ((with_reducible refine w_s hS ?_ ?_ ?_ (fun x hx => ?_)); (focus decide); (focus (first | decide | omega)); (focus (first | decide | (simp only [sl]; omega))))) | (with_reducible refine w_k (by simp (disch := omega) only [w32_id]; exact rfl) ?_; ((with_reducible refine w_m hS ?_ ?_ ?_ ?_ ?_ (fun x hx => ?_)); (focus decide); (focus (first | decide | omega)); (focus omega); (focus (first | decide | omega)); (focus (first | decide | (simp only [ml]; omega)))))); (try simp (disch := omega) only [Int.reduceToNat, tn_c, tn8, tn8i, tn5, tn5z, tn6, tn6z, tn1, u3_ne, u3_eq, u3_ni, u3_nk, f_100_39 hF'] at hx); subst hx)
    refine w_ss hS (by decide) (by omega) (by simp only [sl]; omega) ?_
    ((first | ((with_reducible refine w_s hS ?_ ?_ ?_ (fun x hx => ?_)); (focus decide); (focus (first | decide | omega)); (focus (first | decide | (simp only [sl]; omega)))) | ((with_reducible refine w_m hS ?_ ?_ ?_ ?_ ?_ (fun x hx => ?_)); (focus decide); (focus (first | decide | omega)); (focus omega); (focus (first | decide | omega)); (focus (first | decide | (simp only [ml]; omega)))) | (with_reducible refine w_k (by simp (disch := omega) only [w32_id]; exact rfl) ?_; ((with_reducible refine w_s hS ?_ ?_ ?_ (fun x hx => ?_)); (focus decide); (focus (first | decide | omega)); (focus (first | decide | (simp only [sl]; omega))))) | (with_reducible refine w_k (by simp (disch := omega) only [w32_id]; exact rfl) ?_; ((with_reducible refine w_m hS ?_ ?_ ?_ ?_ ?_ (fun x hx => ?_)); (focus decide); (focus (first | decide | omega)); (focus omega); (focus (first | decide | omega)); (focus (first | decide | (simp only [ml]; omega)))))); (try simp (disch := omega) only [Int.reduceToNat, tn_c, tn8, tn8i, tn5, tn5z, tn6, tn6z, tn1, u3_ne, u3_eq, u3_ni, u3_nk, f_100_40 hF'] at hx); subst hx)
    refine w_ss hS (by decide) (by omega) (by simp only [sl]; omega) ?_
    ((first | ((with_reducible refine w_s hS ?_ ?_ ?_ (fun x hx => ?_)); (focus decide); (focus (first | decide | omega)); (focus (first | decide | (simp only [sl]; omega)))) | ((with_reducible refine w_m hS ?_ ?_ ?_ ?_ ?_ (fun x hx => ?_)); (focus decide); (focus (first | decide | omega)); (focus omega); (focus (first | decide | omega)); (focus (first | decide | (simp only [ml]; omega)))) | (with_reducible refine w_k (by simp (disch := omega) only [w32_id]; exact rfl) ?_; ((with_reducible refine w_s hS ?_ ?_ ?_ (fun x hx => ?_)); (focus decide); (focus (first | decide | omega)); (focus (first | decide | (simp only [sl]; omega))))) | (with_reducible refine w_k (by simp (disch := omega) only [w32_id]; exact rfl) ?_; ((with_reducible refine w_m hS ?_ ?_ ?_ ?_ ?_ (fun x hx => ?_)); (focus decide); (focus (first | decide | omega)); (focus omega); (focus (first | decide | omega)); (focus (first | decide | (simp only [ml]; omega)))))); (try simp (disch := omega) only [Int.reduceToNat, tn_c, tn8, tn8i, tn5, tn5z, tn6, tn6z, tn1, u3_ne, u3_eq, u3_ni, u3_nk, f_100_41 hF'] at hx); subst hx)
    refine w_ss hS (by decide) (by omega) (by simp only [sl]; omega) ?_
    ((first | ((with_reducible refine w_s hS ?_ ?_ ?_ (fun x hx => ?_)); (focus decide); (focus (first | decide | omega)); (focus (first | decide | (simp only [sl]; omega)))) | ((with_reducible refine w_m hS ?_ ?_ ?_ ?_ ?_ (fun x hx => ?_)); (focus decide); (focus (first | decide | omega)); (focus omega); (focus (first | decide | omega)); (focus (first | decide | (simp only [ml]; omega)))) | (with_reducible refine w_k (by simp (disch := omega) only [w32_id]; exact rfl) ?_; ((with_reducible refine w_s hS ?_ ?_ ?_ (fun x hx => ?_)); (focus decide); (focus (first | decide | omega)); (focus (first | decide | (simp only [sl]; omega))))) | (with_reducible refine w_k (by simp (disch := omega) only [w32_id]; exact rfl) ?_; ((with_reducible refine w_m hS ?_ ?_ ?_ ?_ ?_ (fun x hx => ?_)); (focus decide); (focus (first | decide | omega)); (focus omega); (focus (first | decide | omega)); (focus (first | decide | (simp only [ml]; omega)))))); (try simp (disch := omega) only [Int.reduceToNat, tn_c, tn8, tn8i, tn5, tn5z, tn6, tn6z, tn1, u3_ne, u3_eq, u3_ni, u3_nk, f_100_42 hF'] at hx); subst hx)
    refine w_gsz (Or.inl rfl) ?_
    refine w_ss hS (by decide) (by omega) (by simp only [sl]; omega) ?_
    rw [tn_c]
    refine ih _ (by omega) ⟨_, rfl, ((((sm.u ⟨(139, none), by decide, rfl, Or.inl rfl⟩).u ⟨(140, none), by decide, rfl, Or.inl rfl⟩).u ⟨(141, none), by decide, rfl, Or.inl rfl⟩).u ⟨(142, none), by decide, rfl, Or.inl rfl⟩), ?_, fun k hk => ?_⟩
    · unfold tdm
      simp (disch := decide) only [u3_ne]
      exact hm'
    · by_cases ek : k = i
      · subst ek
        simp (disch := decide) only [u3_eq, u3_ne, and_self]
      · obtain ⟨z1, z2, z3, z4⟩ := hz k (by omega)
        simp (disch := first | decide | exact ek) only [u3_nk, u3_ne]
        exact ⟨z1, z2, z3, z4⟩
theorem w_rtgo {q m n : Nat} {a : Int} (hI : INV (fun _ => True) V R) (hq : TQ V R q a m n) (hd : ∀ h, h < rC R 30 → V 30 h 2 = V 100 0 29)
  (K : ∀ V', same V V' LTR → tdm V' m n (tb2 a) → TR V V' q a (rC R 30) → Q ((m * n : Nat) : Int) (V', R)) : Wp (gjX9_table_46 0 (q : Int) a (V, R)) Q := by
  have hS := hI.SH
  have hF := hI.RF
  have b20 := hI.IN.1.1
  have e5 := (hI.IQ.1 q hq.1.1).1.2.2.2.1
  have hq0 := hq.1.1
  have em := hq.2.1
  have main : ∀ b : Int, b = tb2 a → Wp (gjX9_table_61 0 (q : Int) a 0 b (u3 V 100 0 35 1, R)) Q := by
    intro b hb
    unfold gjX9_table_61 gjX9_table_93
    refine w_gsz (by rw [hb]; unfold tb2; by_cases h : a = -1; exact Or.inl (if_pos h); exact Or.inr (if_neg h)) ?_
    refine w_ss hS (by decide) (by decide) (by decide) ?_
    ((first | ((with_reducible refine w_s hS ?_ ?_ ?_ (fun x hx => ?_)); (focus decide); (focus (first | decide | omega)); (focus (first | decide | (simp only [sl]; omega)))) | ((with_reducible refine w_m hS ?_ ?_ ?_ ?_ ?_ (fun x hx => ?_)); (focus decide); (focus (first | decide | omega)); (focus omega); (focus (first | decide | omega)); (focus (first | decide | (simp only [ml]; omega)))) | (with_reducible refine w_k (by simp (disch := omega) only [w32_id]; exact rfl) ?_; ((with_reducible refine w_s hS ?_ ?_ ?_ (fun x hx => ?_)); (focus decide); (focus (first | decide | omega)); (focus (first | decide | (simp only [sl]; omega))))) | (with_reducible refine w_k (by simp (disch := omega) only [w32_id]; exact rfl) ?_; ((with_reducible refine w_m hS ?_ ?_ ?_ ?_ ?_ (fun x hx => ?_)); (focus decide); (focus (first | decide | omega)); (focus omega); (focus (first | decide | omega)); (focus (first | decide | (simp only [ml]; omega)))))); (try simp (disch := omega) only [Int.reduceToNat, tn_c, tn8, tn8i, tn5, tn5z, tn6, tn6z, tn1, u3_ne, u3_eq, u3_ni, u3_nk, f_100_9 hF] at hx); subst hx)
    ((first | ((with_reducible refine w_s hS ?_ ?_ ?_ (fun x hx => ?_)); (focus decide); (focus (first | decide | omega)); (focus (first | decide | (simp only [sl]; omega)))) | ((with_reducible refine w_m hS ?_ ?_ ?_ ?_ ?_ (fun x hx => ?_)); (focus decide); (focus (first | decide | omega)); (focus omega); (focus (first | decide | omega)); (focus (first | decide | (simp only [ml]; omega)))) | (with_reducible refine w_k (by simp (disch := omega) only [w32_id]; exact rfl) ?_; ((with_reducible refine w_s hS ?_ ?_ ?_ (fun x hx => ?_)); (focus decide); (focus (first | decide | omega)); (focus (first | decide | (simp only [sl]; omega))))) | (with_reducible refine w_k (by simp (disch := omega) only [w32_id]; exact rfl) ?_; ((with_reducible refine w_m hS ?_ ?_ ?_ ?_ ?_ (fun x hx => ?_)); (focus decide); (focus (first | decide | omega)); (focus omega); (focus (first | decide | omega)); (focus (first | decide | (simp only [ml]; omega)))))); (try simp (disch := omega) only [Int.reduceToNat, tn_c, tn8, tn8i, tn5, tn5z, tn6, tn6z, tn1, u3_ne, u3_eq, u3_ni, u3_nk, tn_c] at hx); subst hx)
    refine w_ss hS (by decide) (by decide) (by decide) ?_
    rw [w32_id (x := V 109 0 q + 1) (by omega) (by omega), show V 109 0 q + 1 = (m : Int) by omega]
    simp only [Int.reduceToNat]
    have fin : Wp (lh1 (glX9_table_98 0 (q : Int) a) 6000 0 (u3 (u3 (u3 (u3 V 100 0 35 1) 100 0 36 b) 100 0 37 (m : Int)) 100 0 38 (n : Int), R)) Q := by
      refine w_rtzero (m := m) (n := n) (b := b) hI ?_ ?_ (fun V' sm hm hr => ?_)
      · exact ((((same.rf V _).u ⟨(100, some 35), by decide, rfl, Or.inr rfl⟩).u ⟨(100, some 36), by decide, rfl, Or.inr rfl⟩).u ⟨(100, some 37), by decide, rfl, Or.inr rfl⟩).u ⟨(100, some 38), by decide, rfl, Or.inr rfl⟩
      · unfold tdm
        simp (disch := decide) only [u3_eq, u3_nk, and_self]
      · exact w_rtloop hI hq hd sm (hb ▸ hm) hr K
    have en := hq.2.2.1
    unfold n2 at en
    refine w_ite (fun h => ?_) (fun h => ?_)
    · rcases hq.2.2.2 with rfl | ⟨r, rfl, hr, _, _⟩
      · exact absurd h (by decide)
      · have e6 := (hI.IQ.1 r hr).1.2.2.2.1
        rw [if_neg (by omega), tn_c] at en
        ((first | ((with_reducible refine w_s hS ?_ ?_ ?_ (fun x hx => ?_)); (focus decide); (focus (first | decide | omega)); (focus (first | decide | (simp only [sl]; omega)))) | ((with_reducible refine w_m hS ?_ ?_ ?_ ?_ ?_ (fun x hx => ?_)); (focus decide); (focus (first | decide | omega)); (focus omega); (focus (first | decide | omega)); (focus (first | decide | (simp only [ml]; omega)))) | (with_reducible refine w_k (by simp (disch := omega) only [w32_id]; exact rfl) ?_; ((with_reducible refine w_s hS ?_ ?_ ?_ (fun x hx => ?_)); (focus decide); (focus (first | decide | omega)); (focus (first | decide | (simp only [sl]; omega))))) | (with_reducible refine w_k (by simp (disch := omega) only [w32_id]; exact rfl) ?_; ((with_reducible refine w_m hS ?_ ?_ ?_ ?_ ?_ (fun x hx => ?_)); (focus decide); (focus (first | decide | omega)); (focus omega); (focus (first | decide | omega)); (focus (first | decide | (simp only [ml]; omega)))))); (try simp (disch := omega) only [Int.reduceToNat, tn_c, tn8, tn8i, tn5, tn5z, tn6, tn6z, tn1, u3_ne, u3_eq, u3_ni, u3_nk, f_100_9 hF] at hx); subst hx)
        ((first | ((with_reducible refine w_s hS ?_ ?_ ?_ (fun x hx => ?_)); (focus decide); (focus (first | decide | omega)); (focus (first | decide | (simp only [sl]; omega)))) | ((with_reducible refine w_m hS ?_ ?_ ?_ ?_ ?_ (fun x hx => ?_)); (focus decide); (focus (first | decide | omega)); (focus omega); (focus (first | decide | omega)); (focus (first | decide | (simp only [ml]; omega)))) | (with_reducible refine w_k (by simp (disch := omega) only [w32_id]; exact rfl) ?_; ((with_reducible refine w_s hS ?_ ?_ ?_ (fun x hx => ?_)); (focus decide); (focus (first | decide | omega)); (focus (first | decide | (simp only [sl]; omega))))) | (with_reducible refine w_k (by simp (disch := omega) only [w32_id]; exact rfl) ?_; ((with_reducible refine w_m hS ?_ ?_ ?_ ?_ ?_ (fun x hx => ?_)); (focus decide); (focus (first | decide | omega)); (focus omega); (focus (first | decide | omega)); (focus (first | decide | (simp only [ml]; omega)))))); (try simp (disch := omega) only [Int.reduceToNat, tn_c, tn8, tn8i, tn5, tn5z, tn6, tn6z, tn1, u3_ne, u3_eq, u3_ni, u3_nk, tn_c] at hx); subst hx)
        refine w_ss hS (by decide) (by decide) (by decide) ?_
        rw [w32_id (x := V 109 0 r + 1) (by omega) (by omega), show V 109 0 r + 1 = (n : Int) by omega]
        exact fin
    · have ea : a = -1 := by
        rcases hq.2.2.2 with h | ⟨r, h, _⟩
        · exact h
        · omega
      rw [if_pos ea] at en
      refine w_ss hS (by decide) (by decide) (by decide) ?_
      subst en
      exact fin
  unfold gjX9_table_46
  refine w_gsz (Or.inr rfl) ?_
  refine w_ss hS (by decide) (by decide) (by decide) ?_
  refine w_ite (fun h => main 0 ?_) (fun h => main 1 ?_)
  · unfold tb2
    rcases hq.2.2.2 with e | ⟨r, e, _⟩
    · rw [if_pos e]
    · omega
  · unfold tb2; rw [if_neg (by omega)]
theorem T_table (hI : INV IT V R) (q' a : Int) : Wp (g_X8_table 0 q' a (V, R)) (fun r G => Wp (g_X9_table 0 q' a G) (PO r)) := by
  refine w_ctable hI (fun V1 q m n eq hI1 hq hd hc => ?_) (fun hn => ?_) (fun h1 h2 hn => ?_)
  · subst eq
    have hS := hI1.SH
    have hF := hI1.RF
    obtain ⟨b20, b30, b40, b50⟩ := hI1.IN.1
    obtain ⟨n1, _⟩ := hI1.IN.2.1
    obtain ⟨hm1, hm9, hn1, hn9⟩ := hq.dim hI1
    have go : Wp (gjX9_table_46 0 (q : Int) a (V1, R)) (PO ((m * n : Nat) : Int)) := by
      refine w_rtgo hI1 hq hd (fun V' sm hm hr => ⟨rfl, INV_it (hI1.tb (sm.mono (by decide))) ?_⟩)
      have hmn := mn_le hm9 hn9
      show IT V'
      refine Or.inr ⟨hm.1, m, n, ⟨hm1, hm9, hn1, hn9⟩, ⟨?_, hm.2.2.1, ?_, hm.2.2.2⟩, ⟨?_, ?_⟩, fun k hk => ?_, fun i hi => ?_, ?_⟩
      · rw [sm.r 7 rfl]; exact hc.1.1
      · rw [sm.r 7 rfl]; exact hc.1.2.1
      · rw [sm.r 7 rfl, hm.2.1]; exact hc.1.2.2.1
      · rw [hm.2.1]
        unfold tb2
        by_cases ea : a = -1
        · rw [if_pos ea]
          have := hq.2.2.1
          unfold n2 at this
          rw [if_pos ea] at this
          exact Or.inl ⟨rfl, this.symm⟩
        · rw [if_neg ea]; exact Or.inr rfl
      · obtain ⟨r1, r2, r3, r4⟩ := hr k (by omega)
        rw [sm.r 8 rfl, sm.r 9 rfl, sm.r 10 rfl, r1, r2, r3, r4]
        have tb := tct_b hI1 (q := q) (k := k) (a := a) (i := rC R 30) (by omega)
        have wb := twt_b hI1 (q := q) (k := k) (a := a) (i := rC R 30) (by omega)
        exact ⟨(hc.2 k).1, tb.1, tb.2, (hc.2 k).2, wb.1, wb.2, hc.1.2.2.2.2.2 k, Or.inl rfl⟩
      · rw [sm.r 12 rfl, hc.1.2.2.2.2.1 i]
        refine ⟨by omega, by have : 0 < 2 ^ n := Nat.two_pow_pos n; omega, fun j hj => ⟨fun h => absurd h bt0, fun h => ?_⟩⟩
        have := mn_lt hm9 hn9 hi hj
        rw [(hr (i * n + j) (by omega)).2.2.2] at h
        exact absurd h (by decide)
      · rw [sm.r 7 rfl, hc.1.2.2.2.1, hcnt_0 (fun j hj => (hr j (by omega)).2.2.2)]
    unfold g_X9_table gjX9_table_23
    refine w_gv (by omega) ?_
    refine w_isQ hS n1 b20 (fun q2 e2 hq2 => ?_) (fun hn => absurd (show 0 ≤ (q : Int) ∧ (q : Int) < (rC R 20 : Int) by have := hq.1.1; omega) hn)
    refine w_ite (fun z => absurd (show (1 : Int) = 0 from z) (by decide)) (fun _ => ?_)
    have t23 : Wp (gjX9_table_23 0 (q : Int) a (V1, R)) (PO ((m * n : Nat) : Int)) := by
      unfold gjX9_table_23
      refine w_isCAT hI1 hq.1.1 (fun _ => ?_) (fun z => absurd hq.1 z)
      refine w_ite (fun z => absurd (show (1 : Int) = 0 from z) (by decide)) (fun _ => ?_)
      refine w_ite (fun _ => go) (fun z => ?_)
      rcases hq.2.2.2 with e | ⟨r, e, hr⟩
      · exact absurd (show a < 0 by omega) z
      · subst e
        refine w_isCAT hI1 hr.1 (fun _ => ?_) (fun z => absurd hr z)
        exact w_ite (fun _ => go) (fun z => absurd (show (1 : Int) ≠ 0 by decide) z)
    refine w_ite (fun _ => t23) (fun z => ?_)
    rcases hq.2.2.2 with e | ⟨r, e, hr⟩
    · exact absurd e z
    · subst e
      refine w_isQ hS n1 b20 (fun q2 e2 hq2 => ?_) (fun hn => absurd (show 0 ≤ (r : Int) ∧ (r : Int) < (rC R 20 : Int) by have := hr.1; omega) hn)
      exact w_ite (fun _ => t23) (fun z => absurd (show (1 : Int) ≠ 0 by decide) z)
  · have hS := hI.SH
    obtain ⟨b20, b30, b40, b50⟩ := hI.IN.1
    obtain ⟨n1, _⟩ := hI.IN.2.1
    unfold g_X9_table
    refine w_gv (by omega) ?_
    refine w_isQ hS n1 b20 (fun q e2 hq => ?_) (fun _ => ?_)
    · refine w_ite (fun z => absurd (show (1 : Int) = 0 from z) (by decide)) (fun _ => ?_)
      have i1 : isq R q' := ⟨by omega, by omega⟩
      refine w_ite (fun z => absurd ⟨i1, Or.inl z⟩ hn) (fun z => ?_)
      refine w_isQ hS n1 b20 (fun r e hr => absurd ⟨i1, Or.inr ⟨by omega, by omega⟩⟩ hn) (fun _ => ?_)
      exact w_ite (fun z => absurd rfl z) (fun _ => w_ret ⟨rfl, hI⟩)
    · exact w_ite (fun _ => w_ret ⟨rfl, hI⟩) (fun z => absurd rfl z)
  · have hS := hI.SH
    obtain ⟨b20, b30, b40, b50⟩ := hI.IN.1
    obtain ⟨n1, _⟩ := hI.IN.2.1
    obtain ⟨q, eq⟩ : ∃ q : Nat, q' = (q : Int) := n_pos h1.1
    subst eq
    rw [tn_c] at hn
    have hq0 : q < rC R 20 := by have := h1.2; omega
    have t23 : Wp (gjX9_table_23 0 (q : Int) a (V, R)) (PO (-2)) := by
      unfold gjX9_table_23
      refine w_isCAT hI hq0 (fun y => ?_) (fun _ => ?_)
      · refine w_ite (fun z => absurd (show (1 : Int) = 0 from z) (by decide)) (fun _ => ?_)
        rcases h2 with e | e
        · exact absurd ⟨y, Or.inl e⟩ hn
        · refine w_ite (fun z => absurd z (by have := e.1; omega)) (fun _ => ?_)
          obtain ⟨r, er⟩ : ∃ r : Nat, a = (r : Int) := n_pos e.1
          subst er
          refine w_isCAT hI (by have := e.2; omega) (fun y' => absurd ⟨y, Or.inr (by rw [tn_c]; exact y')⟩ hn) (fun _ => ?_)
          exact w_ite (fun z => absurd rfl z) (fun _ => w_ret ⟨rfl, hI⟩)
      · exact w_ite (fun _ => w_ret ⟨rfl, hI⟩) (fun z => absurd rfl z)
    unfold g_X9_table
    refine w_gv (by omega) ?_
    refine w_isQ hS n1 b20 (fun q2 e2 hq2 => ?_) (fun hn => absurd h1 hn)
    refine w_ite (fun z => absurd (show (1 : Int) = 0 from z) (by decide)) (fun _ => ?_)
    refine w_ite (fun _ => t23) (fun z => ?_)
    rcases h2 with e | e
    · exact absurd e z
    · refine w_isQ hS n1 b20 (fun q2 e2 hq2 => ?_) (fun hn => absurd e hn)
      exact w_ite (fun _ => t23) (fun z => absurd (show (1 : Int) ≠ 0 by decide) z)
end RTable
