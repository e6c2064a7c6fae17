abbrev H3 : Type := Int × Int × Int
noncomputable def one (c : Prop) (x : H3) : List H3 := @ite _ c (Classical.propDecidable c) [x] []
theorem one_t {c : Prop} {x : H3} (h : c) : one c x = [x] := by unfold one; exact if_pos h
theorem one_f {c : Prop} {x : H3} (h : ¬ c) : one c x = [] := by unfold one; exact if_neg h
theorem one_cg {c c' : Prop} {x : H3} (h : c ↔ c') : one c x = one c' x := by
  by_cases e : c
  · rw [one_t e, one_t (h.mp e)]
  · rw [one_f e, one_f (fun z => e (h.mpr z))]
def lst (F : Nat → List H3) : Nat → List H3
  | 0 => []
  | n + 1 => lst F n ++ F n
theorem lst_cg {F F' : Nat → List H3} : ∀ {n : Nat}, (∀ i, i < n → F i = F' i) → lst F n = lst F' n
  | 0, _ => rfl
  | n + 1, h => by
    unfold lst
    rw [lst_cg (fun i hi => h i (by omega)), h n (by omega)]
theorem lst_len {F : Nat → List H3} {m : Nat} : ∀ {n : Nat}, (∀ i, i < n → (F i).length ≤ m) → (lst F n).length ≤ n * m
  | 0, _ => by unfold lst; simp
  | n + 1, h => by
    unfold lst
    rw [List.length_append, Nat.add_mul]
    have := lst_len (n := n) (fun i hi => h i (by omega))
    have := h n (by omega)
    omega
theorem one_len {c : Prop} {x : H3} : (one c x).length ≤ 1 := by
  by_cases e : c
  · rw [one_t e]; simp
  · rw [one_f e]; simp
section Find
variable {V : GV} {R : GR} {T : GV → Prop} {Q : Int → GS → Prop}
def LX : PL' := [(13, none), (14, none), (11, none), (143, none), (144, none), (145, none), (149, none), (150, none), (151, none), (152, none), (100, some 46), (100, some 47), (100, some 48)]
theorem INV.scr {V' : GV} (hI : INV T V R) (sm : same V V' LX) : INV T V' R :=
  ⟨⟨hI.SH, cg_RF sm rfl hI.RF, cg_IN sm rfl hI.IN, cg_IL sm rfl hI.IL, hI.IR⟩, cg_IQ sm rfl hI.IQ, cg_IC sm rfl hI.IC, cg_IOO sm rfl hI.IOO, cg_IHs sm rfl hI.IHs, cg_IA sm rfl hI.IA, cg_IW sm rfl hI.IW, cg_IS sm rfl hI.IS, cg_IE sm rfl hI.IE, cg_T sm rfl hI.TT⟩
theorem same.n {V V' : GV} (h : same V V' LN) : same V V' LX := h.mono (by decide)
def LF : PL' := [(13, none)]
theorem same.fx {V V' : GV} (h : same V V' LF) : same V V' LX := h.mono (by decide)
def LG : PL' := [(100, some 46), (100, some 47), (100, some 48)]
theorem same.gx {V V' : GV} (h : same V V' LG) : same V V' LX := h.mono (by decide)
def FS (V : GV) (L : List H3) (k : Int) : Prop := V 13 0 0 = k ∧ V 13 0 1 = (L.length : Int) ∧ ∀ n : Nat, k = (n : Int) → n < L.length → V 13 0 2 = (L.getD n (0, 0, 0)).1 ∧ V 13 0 3 = (L.getD n (0, 0, 0)).2.1 ∧ V 13 0 4 = (L.getD n (0, 0, 0)).2.2
def RSx (V : GV) (m : Int) (L : List H3) (k : Int) : Prop := m = (L.length : Int) ∧ ∀ n : Nat, k = (n : Int) → n < L.length → V 100 0 46 = (L.getD n (0, 0, 0)).1 ∧ V 100 0 47 = (L.getD n (0, 0, 0)).2.1 ∧ V 100 0 48 = (L.getD n (0, 0, 0)).2.2
theorem FS.cg {V' : GV} {L : List H3} {k : Int} (h : FS V L k) (e : ∀ j, V' 13 0 j = V 13 0 j) : FS V' L k := by
  unfold FS
  simp only [e]; exact h
theorem RSx.cg {V' : GV} {m : Int} {L : List H3} {k : Int} (h : RSx V m L k) (e46 : V' 100 0 46 = V 100 0 46) (e47 : V' 100 0 47 = V 100 0 47) (e48 : V' 100 0 48 = V 100 0 48) : RSx V' m L k := by
  unfold RSx
  rw [e46, e47, e48]; exact h
theorem getD_app1 {L M : List H3} {n : Nat} (h : n < L.length) : (L ++ M).getD n (0, 0, 0) = L.getD n (0, 0, 0) := by
  rw [List.getD_eq_getElem?_getD, List.getD_eq_getElem?_getD, List.getElem?_append_left h]
theorem getD_app2 {L : List H3} {x : H3} : (L ++ [x]).getD L.length (0, 0, 0) = x := by
  rw [List.getD_eq_getElem?_getD, List.getElem?_append_right (Nat.le_refl _), Nat.sub_self]; rfl
theorem w_start {k : Int} {f : Int × GS → GO} (hS : SH R) (q : ∀ V', same V V' LF → FS V' [] k → Wp (f (0, (V', R))) Q) : Wp ((g_X2_start 0 k (V, R)).bind f) Q := by
  refine w_bind ?_
  unfold g_X2_start
  refine w_gv (by omega) ?_
  refine w_ss hS (by decide) (by omega) (by decide) ?_
  refine w_ss hS (by decide) (by omega) (by decide) ?_
  refine w_ret (q _ (((same.rf V _).u ⟨(13, none), by decide, rfl, Or.inl rfl⟩).u ⟨(13, none), by decide, rfl, Or.inl rfl⟩) ⟨?_, ?_, fun n _ h => absurd h (by simp)⟩)
  · show u3 (u3 V 13 0 0 k) 13 0 1 0 13 0 0 = k
    rw [u3_nk (by decide), u3_eq]
  · show u3 (u3 V 13 0 0 k) 13 0 1 0 13 0 1 = _
    rw [u3_eq]; rfl
theorem w_meet {L : List H3} {k a b c : Int} {f : Int × GS → GO} (hS : SH R) (hf : FS V L k) (hlen : L.length < 100000) (q : ∀ V', same V V' LF → FS V' (L ++ [(a, b, c)]) k → Wp (f (0, (V', R))) Q) : Wp ((g_X2_meet 0 a b c (V, R)).bind f) Q := by
  obtain ⟨f0, f1, f2⟩ := hf
  refine w_bind ?_
  unfold g_X2_meet gjX2_meet_26
  refine w_gv (by omega) ?_
  ((first | ((with_reducible refine w_s hS ?_ ?_ ?_ (fun x hx => ?_)); (focus decide); (focus (first | decide | omega)); (focus (first | decide | (simp only [sl]; omega)))) | ((with_reducible refine w_m hS ?_ ?_ ?_ ?_ ?_ (fun x hx => ?_)); (focus decide); (focus (first | decide | omega)); (focus omega); (focus (first | decide | omega)); (focus (first | decide | (simp only [ml]; omega)))) | (with_reducible refine w_k (by simp (disch := omega) only [w32_id]; exact rfl) ?_; ((with_reducible refine w_s hS ?_ ?_ ?_ (fun x hx => ?_)); (focus decide); (focus (first | decide | omega)); (focus (first | decide | (simp only [sl]; omega))))) | (with_reducible refine w_k (by simp (disch := omega) only [w32_id]; exact rfl) ?_; ((with_reducible refine w_m hS ?_ ?_ ?_ ?_ ?_ (fun x hx => ?_)); (focus decide); (focus (first | decide | omega)); (focus omega); (focus (first | decide | omega)); (focus (first | decide | (simp only [ml]; omega)))))); (try simp (disch := omega) only [Int.reduceToNat, tn_c, tn8, tn8i, tn5, tn5z, tn6, tn6z, tn1, u3_ne, u3_eq, u3_ni, u3_nk, f1] at hx); subst hx)
  ((first | ((with_reducible refine w_s hS ?_ ?_ ?_ (fun x hx => ?_)); (focus decide); (focus (first | decide | omega)); (focus (first | decide | (simp only [sl]; omega)))) | ((with_reducible refine w_m hS ?_ ?_ ?_ ?_ ?_ (fun x hx => ?_)); (focus decide); (focus (first | decide | omega)); (focus omega); (focus (first | decide | omega)); (focus (first | decide | (simp only [ml]; omega)))) | (with_reducible refine w_k (by simp (disch := omega) only [w32_id]; exact rfl) ?_; ((with_reducible refine w_s hS ?_ ?_ ?_ (fun x hx => ?_)); (focus decide); (focus (first | decide | omega)); (focus (first | decide | (simp only [sl]; omega))))) | (with_reducible refine w_k (by simp (disch := omega) only [w32_id]; exact rfl) ?_; ((with_reducible refine w_m hS ?_ ?_ ?_ ?_ ?_ (fun x hx => ?_)); (focus decide); (focus (first | decide | omega)); (focus omega); (focus (first | decide | omega)); (focus (first | decide | (simp only [ml]; omega)))))); (try simp (disch := omega) only [Int.reduceToNat, tn_c, tn8, tn8i, tn5, tn5z, tn6, tn6z, tn1, u3_ne, u3_eq, u3_ni, u3_nk, f0] at hx); subst hx)
  refine w_ite (fun hne => ?_) (fun he => ?_)
  · ((first | ((with_reducible refine w_s hS ?_ ?_ ?_ (fun x hx => ?_)); (focus decide); (focus (first | decide | omega)); (focus (first | decide | (simp only [sl]; omega)))) | ((with_reducible refine w_m hS ?_ ?_ ?_ ?_ ?_ (fun x hx => ?_)); (focus decide); (focus (first | decide | omega)); (focus omega); (focus (first | decide | omega)); (focus (first | decide | (simp only [ml]; omega)))) | (with_reducible refine w_k (by simp (disch := omega) only [w32_id]; exact rfl) ?_; ((with_reducible refine w_s hS ?_ ?_ ?_ (fun x hx => ?_)); (focus decide); (focus (first | decide | omega)); (focus (first | decide | (simp only [sl]; omega))))) | (with_reducible refine w_k (by simp (disch := omega) only [w32_id]; exact rfl) ?_; ((with_reducible refine w_m hS ?_ ?_ ?_ ?_ ?_ (fun x hx => ?_)); (focus decide); (focus (first | decide | omega)); (focus omega); (focus (first | decide | omega)); (focus (first | decide | (simp only [ml]; omega)))))); (try simp (disch := omega) only [Int.reduceToNat, tn_c, tn8, tn8i, tn5, tn5z, tn6, tn6z, tn1, u3_ne, u3_eq, u3_ni, u3_nk, f1] at hx); subst hx)
    refine w_ss hS (by decide) (by omega) (by decide) ?_
    have sm : same V (u3 V 13 0 1 (w32 ((L.length : Int) + 1))) LF := (same.rf V _).u ⟨(13, none), by decide, rfl, Or.inl rfl⟩
    refine w_ret (q _ sm ⟨?_, ?_, fun n e h => ?_⟩)
    · show u3 V 13 0 1 _ 13 0 0 = _
      rw [u3_nk (by decide)]; exact f0
    · show u3 V 13 0 1 _ 13 0 1 = _
      rw [u3_eq, ws1 (by omega), List.length_append]; rfl
    · show u3 V 13 0 1 _ 13 0 2 = _ ∧ u3 V 13 0 1 _ 13 0 3 = _ ∧ u3 V 13 0 1 _ 13 0 4 = _
      rw [u3_nk (by decide), u3_nk (by decide), u3_nk (by decide)]
      rw [List.length_append] at h
      have h : n < L.length := by
        simp only [List.length_cons, List.length_nil] at h
        omega
      rw [getD_app1 h]
      exact f2 n e h
  · refine w_ss hS (by decide) (by omega) (by decide) ?_
    refine w_ss hS (by decide) (by omega) (by decide) ?_
    refine w_ss hS (by decide) (by omega) (by decide) ?_
    refine w_s hS (by decide) (by omega) (by decide) (fun x hx => ?_)
    simp only [Int.reduceToNat] at hx
    rw [u3_nk (by decide), u3_nk (by decide), u3_nk (by decide), f1] at hx
    subst hx
    refine w_ss hS (by decide) (by omega) (by decide) ?_
    simp only [Int.reduceToNat]
    refine w_ret (q _ (((((same.rf V _).u ⟨(13, none), by decide, rfl, Or.inl rfl⟩).u ⟨(13, none), by decide, rfl, Or.inl rfl⟩).u ⟨(13, none), by decide, rfl, Or.inl rfl⟩).u ⟨(13, none), by decide, rfl, Or.inl rfl⟩) ⟨?_, ?_, fun n e h => ?_⟩)
    · rw [u3_nk (by decide), u3_nk (by decide), u3_nk (by decide), u3_nk (by decide)]; exact f0
    · rw [u3_eq, ws1 (by omega), List.length_append]; rfl
    · rw [u3_nk (by decide), u3_nk (by decide), u3_nk (by decide), u3_eq, u3_nk (by decide), u3_nk (by decide), u3_eq, u3_nk (by decide), u3_eq]
      have e' : n = L.length := by omega
      subst e'
      rw [getD_app2]
      exact ⟨rfl, rfl, rfl⟩
theorem rs_meet {m : Int} {L : List H3} {k a b c : Int} (hr : RSx V m L k) (hne : m ≠ k) : RSx V (m + 1) (L ++ [(a, b, c)]) k := by
  obtain ⟨f1, f2⟩ := hr
  refine ⟨by rw [List.length_append, f1]; simp, fun n e h => ?_⟩
  rw [List.length_append] at h
  have h : n < L.length := by
    simp only [List.length_cons, List.length_nil] at h
    omega
  rw [getD_app1 h]
  exact f2 n e h
theorem rs_meet' {m : Int} {L : List H3} {k a b c : Int} (hr : RSx V m L k) (he : m = k) (e1 : V 100 0 46 = a) (e2 : V 100 0 47 = b) (e3 : V 100 0 48 = c) : RSx V (m + 1) (L ++ [(a, b, c)]) k := by
  obtain ⟨f1, f2⟩ := hr
  refine ⟨by rw [List.length_append, f1]; simp, fun n e h => ?_⟩
  have e' : n = L.length := by omega
  subst e'
  rw [getD_app2]
  exact ⟨e1, e2, e3⟩
theorem w_ftold {L : List H3} {n : Nat} {what most ref : Int} {f : Int × GS → GO} (hS : SH R) (hf : FS V L (n : Int)) (hm : most ≤ 3)
  (k : ∀ r : Int, r = (if what < 0 ∨ most ≤ what ∨ L.length ≤ n then ref else if what = 0 then (L.getD n (0, 0, 0)).1 else if what = 1 then (L.getD n (0, 0, 0)).2.1 else (L.getD n (0, 0, 0)).2.2) → Wp (f (r, (V, R))) Q) : Wp ((g_X2_told 0 what most ref (V, R)).bind f) Q := by
  obtain ⟨f0, f1, f2⟩ := hf
  refine w_bind ?_
  unfold g_X2_told
  refine w_gv (by omega) ?_
  refine w_ite (fun h => w_ret (k _ ?_)) (fun h => w_ite (fun h' => w_ret (k _ ?_)) (fun h' => ?_))
  · rw [if_pos (Or.inl h)]
  · rw [if_pos (Or.inr (Or.inl h'))]
  ((first | ((with_reducible refine w_s hS ?_ ?_ ?_ (fun x hx => ?_)); (focus decide); (focus (first | decide | omega)); (focus (first | decide | (simp only [sl]; omega)))) | ((with_reducible refine w_m hS ?_ ?_ ?_ ?_ ?_ (fun x hx => ?_)); (focus decide); (focus (first | decide | omega)); (focus omega); (focus (first | decide | omega)); (focus (first | decide | (simp only [ml]; omega)))) | (with_reducible refine w_k (by simp (disch := omega) only [w32_id]; exact rfl) ?_; ((with_reducible refine w_s hS ?_ ?_ ?_ (fun x hx => ?_)); (focus decide); (focus (first | decide | omega)); (focus (first | decide | (simp only [sl]; omega))))) | (with_reducible refine w_k (by simp (disch := omega) only [w32_id]; exact rfl) ?_; ((with_reducible refine w_m hS ?_ ?_ ?_ ?_ ?_ (fun x hx => ?_)); (focus decide); (focus (first | decide | omega)); (focus omega); (focus (first | decide | omega)); (focus (first | decide | (simp only [ml]; omega)))))); (try simp (disch := omega) only [Int.reduceToNat, tn_c, tn8, tn8i, tn5, tn5z, tn6, tn6z, tn1, u3_ne, u3_eq, u3_ni, u3_nk, f0] at hx); subst hx)
  ((first | ((with_reducible refine w_s hS ?_ ?_ ?_ (fun x hx => ?_)); (focus decide); (focus (first | decide | omega)); (focus (first | decide | (simp only [sl]; omega)))) | ((with_reducible refine w_m hS ?_ ?_ ?_ ?_ ?_ (fun x hx => ?_)); (focus decide); (focus (first | decide | omega)); (focus omega); (focus (first | decide | omega)); (focus (first | decide | (simp only [ml]; omega)))) | (with_reducible refine w_k (by simp (disch := omega) only [w32_id]; exact rfl) ?_; ((with_reducible refine w_s hS ?_ ?_ ?_ (fun x hx => ?_)); (focus decide); (focus (first | decide | omega)); (focus (first | decide | (simp only [sl]; omega))))) | (with_reducible refine w_k (by simp (disch := omega) only [w32_id]; exact rfl) ?_; ((with_reducible refine w_m hS ?_ ?_ ?_ ?_ ?_ (fun x hx => ?_)); (focus decide); (focus (first | decide | omega)); (focus omega); (focus (first | decide | omega)); (focus (first | decide | (simp only [ml]; omega)))))); (try simp (disch := omega) only [Int.reduceToNat, tn_c, tn8, tn8i, tn5, tn5z, tn6, tn6z, tn1, u3_ne, u3_eq, u3_ni, u3_nk, f1] at hx); subst hx)
  refine w_ite (fun hl => ?_) (fun hl => w_ret (k _ ?_))
  · obtain ⟨g0, g1, g2⟩ := f2 n rfl (by omega)
    refine w_ite (fun h0 => w_ite (fun h1 => ?_) (fun h1 => ?_)) (fun h0 => ?_)
    · ((first | ((with_reducible refine w_s hS ?_ ?_ ?_ (fun x hx => ?_)); (focus decide); (focus (first | decide | omega)); (focus (first | decide | (simp only [sl]; omega)))) | ((with_reducible refine w_m hS ?_ ?_ ?_ ?_ ?_ (fun x hx => ?_)); (focus decide); (focus (first | decide | omega)); (focus omega); (focus (first | decide | omega)); (focus (first | decide | (simp only [ml]; omega)))) | (with_reducible refine w_k (by simp (disch := omega) only [w32_id]; exact rfl) ?_; ((with_reducible refine w_s hS ?_ ?_ ?_ (fun x hx => ?_)); (focus decide); (focus (first | decide | omega)); (focus (first | decide | (simp only [sl]; omega))))) | (with_reducible refine w_k (by simp (disch := omega) only [w32_id]; exact rfl) ?_; ((with_reducible refine w_m hS ?_ ?_ ?_ ?_ ?_ (fun x hx => ?_)); (focus decide); (focus (first | decide | omega)); (focus omega); (focus (first | decide | omega)); (focus (first | decide | (simp only [ml]; omega)))))); (try simp (disch := omega) only [Int.reduceToNat, tn_c, tn8, tn8i, tn5, tn5z, tn6, tn6z, tn1, u3_ne, u3_eq, u3_ni, u3_nk, g2] at hx); subst hx)
      exact w_ret (k _ (by rw [if_neg (by omega), if_neg h0, if_neg h1]))
    · ((first | ((with_reducible refine w_s hS ?_ ?_ ?_ (fun x hx => ?_)); (focus decide); (focus (first | decide | omega)); (focus (first | decide | (simp only [sl]; omega)))) | ((with_reducible refine w_m hS ?_ ?_ ?_ ?_ ?_ (fun x hx => ?_)); (focus decide); (focus (first | decide | omega)); (focus omega); (focus (first | decide | omega)); (focus (first | decide | (simp only [ml]; omega)))) | (with_reducible refine w_k (by simp (disch := omega) only [w32_id]; exact rfl) ?_; ((with_reducible refine w_s hS ?_ ?_ ?_ (fun x hx => ?_)); (focus decide); (focus (first | decide | omega)); (focus (first | decide | (simp only [sl]; omega))))) | (with_reducible refine w_k (by simp (disch := omega) only [w32_id]; exact rfl) ?_; ((with_reducible refine w_m hS ?_ ?_ ?_ ?_ ?_ (fun x hx => ?_)); (focus decide); (focus (first | decide | omega)); (focus omega); (focus (first | decide | omega)); (focus (first | decide | (simp only [ml]; omega)))))); (try simp (disch := omega) only [Int.reduceToNat, tn_c, tn8, tn8i, tn5, tn5z, tn6, tn6z, tn1, u3_ne, u3_eq, u3_ni, u3_nk, g1] at hx); subst hx)
      exact w_ret (k _ (by rw [if_neg (by omega), if_neg h0, if_pos (by omega)]))
    · ((first | ((with_reducible refine w_s hS ?_ ?_ ?_ (fun x hx => ?_)); (focus decide); (focus (first | decide | omega)); (focus (first | decide | (simp only [sl]; omega)))) | ((with_reducible refine w_m hS ?_ ?_ ?_ ?_ ?_ (fun x hx => ?_)); (focus decide); (focus (first | decide | omega)); (focus omega); (focus (first | decide | omega)); (focus (first | decide | (simp only [ml]; omega)))) | (with_reducible refine w_k (by simp (disch := omega) only [w32_id]; exact rfl) ?_; ((with_reducible refine w_s hS ?_ ?_ ?_ (fun x hx => ?_)); (focus decide); (focus (first | decide | omega)); (focus (first | decide | (simp only [sl]; omega))))) | (with_reducible refine w_k (by simp (disch := omega) only [w32_id]; exact rfl) ?_; ((with_reducible refine w_m hS ?_ ?_ ?_ ?_ ?_ (fun x hx => ?_)); (focus decide); (focus (first | decide | omega)); (focus omega); (focus (first | decide | omega)); (focus (first | decide | (simp only [ml]; omega)))))); (try simp (disch := omega) only [Int.reduceToNat, tn_c, tn8, tn8i, tn5, tn5z, tn6, tn6z, tn1, u3_ne, u3_eq, u3_ni, u3_nk, g0] at hx); subst hx)
      exact w_ret (k _ (by rw [if_neg (by omega), if_pos (by omega)]))
  · rw [if_pos (by omega)]
theorem w_sought {m : Int} {L : List H3} {n : Nat} {what : Int} {f : Int × GS → GO} (hS : SH R) (hr : RSx V m L (n : Int)) (hl : n < L.length)
  (k : ∀ r : Int, r = (if what = 0 then (L.getD n (0, 0, 0)).1 else if what = 1 then (L.getD n (0, 0, 0)).2.1 else (L.getD n (0, 0, 0)).2.2) → Wp (f (r, (V, R))) Q) : Wp ((g_X9_sought 0 what (V, R)).bind f) Q := by
  obtain ⟨g0, g1, g2⟩ := hr.2 n rfl hl
  refine w_bind ?_
  unfold g_X9_sought
  refine w_gv (by omega) ?_
  refine w_ite (fun h0 => w_ite (fun h1 => ?_) (fun h1 => ?_)) (fun h0 => ?_)
  · ((first | ((with_reducible refine w_s hS ?_ ?_ ?_ (fun x hx => ?_)); (focus decide); (focus (first | decide | omega)); (focus (first | decide | (simp only [sl]; omega)))) | ((with_reducible refine w_m hS ?_ ?_ ?_ ?_ ?_ (fun x hx => ?_)); (focus decide); (focus (first | decide | omega)); (focus omega); (focus (first | decide | omega)); (focus (first | decide | (simp only [ml]; omega)))) | (with_reducible refine w_k (by simp (disch := omega) only [w32_id]; exact rfl) ?_; ((with_reducible refine w_s hS ?_ ?_ ?_ (fun x hx => ?_)); (focus decide); (focus (first | decide | omega)); (focus (first | decide | (simp only [sl]; omega))))) | (with_reducible refine w_k (by simp (disch := omega) only [w32_id]; exact rfl) ?_; ((with_reducible refine w_m hS ?_ ?_ ?_ ?_ ?_ (fun x hx => ?_)); (focus decide); (focus (first | decide | omega)); (focus omega); (focus (first | decide | omega)); (focus (first | decide | (simp only [ml]; omega)))))); (try simp (disch := omega) only [Int.reduceToNat, tn_c, tn8, tn8i, tn5, tn5z, tn6, tn6z, tn1, u3_ne, u3_eq, u3_ni, u3_nk, g2] at hx); subst hx)
    exact w_ret (k _ (by rw [if_neg h0, if_neg h1]))
  · ((first | ((with_reducible refine w_s hS ?_ ?_ ?_ (fun x hx => ?_)); (focus decide); (focus (first | decide | omega)); (focus (first | decide | (simp only [sl]; omega)))) | ((with_reducible refine w_m hS ?_ ?_ ?_ ?_ ?_ (fun x hx => ?_)); (focus decide); (focus (first | decide | omega)); (focus omega); (focus (first | decide | omega)); (focus (first | decide | (simp only [ml]; omega)))) | (with_reducible refine w_k (by simp (disch := omega) only [w32_id]; exact rfl) ?_; ((with_reducible refine w_s hS ?_ ?_ ?_ (fun x hx => ?_)); (focus decide); (focus (first | decide | omega)); (focus (first | decide | (simp only [sl]; omega))))) | (with_reducible refine w_k (by simp (disch := omega) only [w32_id]; exact rfl) ?_; ((with_reducible refine w_m hS ?_ ?_ ?_ ?_ ?_ (fun x hx => ?_)); (focus decide); (focus (first | decide | omega)); (focus omega); (focus (first | decide | omega)); (focus (first | decide | (simp only [ml]; omega)))))); (try simp (disch := omega) only [Int.reduceToNat, tn_c, tn8, tn8i, tn5, tn5z, tn6, tn6z, tn1, u3_ne, u3_eq, u3_ni, u3_nk, g1] at hx); subst hx)
    exact w_ret (k _ (by rw [if_neg h0, if_pos (by omega)]))
  · ((first | ((with_reducible refine w_s hS ?_ ?_ ?_ (fun x hx => ?_)); (focus decide); (focus (first | decide | omega)); (focus (first | decide | (simp only [sl]; omega)))) | ((with_reducible refine w_m hS ?_ ?_ ?_ ?_ ?_ (fun x hx => ?_)); (focus decide); (focus (first | decide | omega)); (focus omega); (focus (first | decide | omega)); (focus (first | decide | (simp only [ml]; omega)))) | (with_reducible refine w_k (by simp (disch := omega) only [w32_id]; exact rfl) ?_; ((with_reducible refine w_s hS ?_ ?_ ?_ (fun x hx => ?_)); (focus decide); (focus (first | decide | omega)); (focus (first | decide | (simp only [sl]; omega))))) | (with_reducible refine w_k (by simp (disch := omega) only [w32_id]; exact rfl) ?_; ((with_reducible refine w_m hS ?_ ?_ ?_ ?_ ?_ (fun x hx => ?_)); (focus decide); (focus (first | decide | omega)); (focus omega); (focus (first | decide | omega)); (focus (first | decide | (simp only [ml]; omega)))))); (try simp (disch := omega) only [Int.reduceToNat, tn_c, tn8, tn8i, tn5, tn5z, tn6, tn6z, tn1, u3_ne, u3_eq, u3_ni, u3_nk, g0] at hx); subst hx)
    exact w_ret (k _ (by rw [if_pos (by omega)]))
end Find
