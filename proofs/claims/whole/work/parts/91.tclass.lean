section TClass
variable {V : GV} {R : GR} {T : GV → Prop} {Q : Int → GS → Prop}
theorem same.al {V V' : GV} {L : PL'} (h : same V V' L) {r i : Nat} {g : Nat → Int} (hm : ∀ k, memP L r k) : same V (alv V' r i g) L := by
  intro r' i' k' hn
  by_cases e : r' = r ∧ i' = i
  · exact absurd (e.1 ▸ hm k') hn
  · exact (if_neg e).trans (h r' i' k' hn)
def LTC : PL' := [(7, some 0), (7, some 1), (7, some 2), (7, some 8), (8, none), (9, none), (10, none), (12, none)]
theorem LTC_TB {V' : GV} (h : same V V' LTC) : same V V' LTB := h.mono (by decide)
theorem w_gfl0 {r : Nat} {x : Int} {f : Int × GS → GO} (hS : SH R) (hr : sl r ≠ 0) (hs : sl r < 6000) (k : Wp (f (0, (alv V r 0 (fun _ => x), R))) Q) : Wp ((gfl r 0 x (V, R)).bind f) Q := by
  obtain ⟨e1, e2⟩ := hS.1 r hr
  exact w_gfl (i := 0) (by omega) (by omega) k
def tfr (V : GV) (m n : Nat) (b : Int) : Prop := V 7 0 0 = (m : Int) ∧ V 7 0 1 = (n : Int) ∧ V 7 0 2 = b ∧ V 7 0 8 = 0 ∧ (∀ k, V 12 0 k = 0) ∧ (∀ k, V 10 0 k = 0)
theorem w_holdNone {f : Int × GS → GO} (hS : SH R) (hF : RF V R) (K : ∀ V', same V V' [(7, some 8), (12, none)] → V' 7 0 8 = 0 → (∀ k, V' 12 0 k = 0) → Wp (f (0, (V', R))) Q) : Wp ((g_X7_holdNone 0 (V, R)).bind f) Q := by
  refine w_bind ?_
  unfold g_X7_holdNone
  refine w_gv (by omega) ?_
  ((first | ((with_reducible refine w_s hS ?_ ?_ ?_ (fun x hx => ?_)); (focus decide); (focus (first | decide | omega)); (focus (first | decide | (simp only [sl]; omega)))) | ((with_reducible refine w_m hS ?_ ?_ ?_ ?_ ?_ (fun x hx => ?_)); (focus decide); (focus (first | decide | omega)); (focus omega); (focus (first | decide | omega)); (focus (first | decide | (simp only [ml]; omega)))) | (with_reducible refine w_k (by simp (disch := omega) only [w32_id]; exact rfl) ?_; ((with_reducible refine w_s hS ?_ ?_ ?_ (fun x hx => ?_)); (focus decide); (focus (first | decide | omega)); (focus (first | decide | (simp only [sl]; omega))))) | (with_reducible refine w_k (by simp (disch := omega) only [w32_id]; exact rfl) ?_; ((with_reducible refine w_m hS ?_ ?_ ?_ ?_ ?_ (fun x hx => ?_)); (focus decide); (focus (first | decide | omega)); (focus omega); (focus (first | decide | omega)); (focus (first | decide | (simp only [ml]; omega)))))); (try simp (disch := omega) only [Int.reduceToNat, tn_c, tn8, tn8i, tn5, tn5z, tn6, tn6z, tn1, u3_ne, u3_eq, u3_ni, u3_nk, f_7_7 hF] at hx); subst hx)
  refine w_gfl0 hS (by decide) (by decide) ?_
  refine w_ss hS (by decide) (by decide) (by decide) (w_ret (K _ ?_ ?_ ?_))
  · exact ((same.rf V _).al (fun k => ⟨(12, none), by decide, rfl, Or.inl rfl⟩)).u ⟨(7, some 8), by decide, rfl, Or.inr rfl⟩
  · exact u3_eq
  · intro k
    rw [u3_ne (by decide)]; exact alv_e
theorem w_tstart {m n : Nat} {b : Int} {f : Int × GS → GO} (hS : SH R) (hF : RF V R) (hb : b = 0 ∨ b = 1) (K : ∀ V', same V V' LTC → tfr V' m n b → (∀ k, V' 8 0 k = 0) → (∀ k, V' 9 0 k = 0) → Wp (f (0, (V', R))) Q) : Wp ((g_X7_start 0 (m : Int) (n : Int) b (V, R)).bind f) Q := by
  refine w_bind ?_
  unfold g_X7_start
  refine w_gv (by omega) ?_
  refine w_ss hS (by decide) (by decide) (by decide) ?_
  refine w_ss hS (by decide) (by decide) (by decide) ?_
  refine w_gsz hb ?_
  refine w_ss hS (by decide) (by decide) (by decide) ?_
  simp only [Int.reduceToNat]
  ((first | ((with_reducible refine w_s hS ?_ ?_ ?_ (fun x hx => ?_)); (focus decide); (focus (first | decide | omega)); (focus (first | decide | (simp only [sl]; omega)))) | ((with_reducible refine w_m hS ?_ ?_ ?_ ?_ ?_ (fun x hx => ?_)); (focus decide); (focus (first | decide | omega)); (focus omega); (focus (first | decide | omega)); (focus (first | decide | (simp only [ml]; omega)))) | (with_reducible refine w_k (by simp (disch := omega) only [w32_id]; exact rfl) ?_; ((with_reducible refine w_s hS ?_ ?_ ?_ (fun x hx => ?_)); (focus decide); (focus (first | decide | omega)); (focus (first | decide | (simp only [sl]; omega))))) | (with_reducible refine w_k (by simp (disch := omega) only [w32_id]; exact rfl) ?_; ((with_reducible refine w_m hS ?_ ?_ ?_ ?_ ?_ (fun x hx => ?_)); (focus decide); (focus (first | decide | omega)); (focus omega); (focus (first | decide | omega)); (focus (first | decide | (simp only [ml]; omega)))))); (try simp (disch := omega) only [Int.reduceToNat, tn_c, tn8, tn8i, tn5, tn5z, tn6, tn6z, tn1, u3_ne, u3_eq, u3_ni, u3_nk, f_7_3 hF] at hx); subst hx)
  refine w_gfl0 hS (by decide) (by decide) ?_
  have av : ∀ {W : GV} {r r' i' k' : Nat} {g : Nat → Int}, r' ≠ r → alv W r 0 g r' i' k' = W r' i' k' := fun hh => alv_o (Or.inl hh)
  dsimp only
  ((first | ((with_reducible refine w_s hS ?_ ?_ ?_ (fun x hx => ?_)); (focus decide); (focus (first | decide | omega)); (focus (first | decide | (simp only [sl]; omega)))) | ((with_reducible refine w_m hS ?_ ?_ ?_ ?_ ?_ (fun x hx => ?_)); (focus decide); (focus (first | decide | omega)); (focus omega); (focus (first | decide | omega)); (focus (first | decide | (simp only [ml]; omega)))) | (with_reducible refine w_k (by simp (disch := omega) only [w32_id]; exact rfl) ?_; ((with_reducible refine w_s hS ?_ ?_ ?_ (fun x hx => ?_)); (focus decide); (focus (first | decide | omega)); (focus (first | decide | (simp only [sl]; omega))))) | (with_reducible refine w_k (by simp (disch := omega) only [w32_id]; exact rfl) ?_; ((with_reducible refine w_m hS ?_ ?_ ?_ ?_ ?_ (fun x hx => ?_)); (focus decide); (focus (first | decide | omega)); (focus omega); (focus (first | decide | omega)); (focus (first | decide | (simp only [ml]; omega)))))); (try simp (disch := omega) only [Int.reduceToNat, tn_c, tn8, tn8i, tn5, tn5z, tn6, tn6z, tn1, u3_ne, u3_eq, u3_ni, u3_nk, av, f_7_4 hF] at hx); subst hx)
  refine w_gfl0 hS (by decide) (by decide) ?_
  dsimp only
  ((first | ((with_reducible refine w_s hS ?_ ?_ ?_ (fun x hx => ?_)); (focus decide); (focus (first | decide | omega)); (focus (first | decide | (simp only [sl]; omega)))) | ((with_reducible refine w_m hS ?_ ?_ ?_ ?_ ?_ (fun x hx => ?_)); (focus decide); (focus (first | decide | omega)); (focus omega); (focus (first | decide | omega)); (focus (first | decide | (simp only [ml]; omega)))) | (with_reducible refine w_k (by simp (disch := omega) only [w32_id]; exact rfl) ?_; ((with_reducible refine w_s hS ?_ ?_ ?_ (fun x hx => ?_)); (focus decide); (focus (first | decide | omega)); (focus (first | decide | (simp only [sl]; omega))))) | (with_reducible refine w_k (by simp (disch := omega) only [w32_id]; exact rfl) ?_; ((with_reducible refine w_m hS ?_ ?_ ?_ ?_ ?_ (fun x hx => ?_)); (focus decide); (focus (first | decide | omega)); (focus omega); (focus (first | decide | omega)); (focus (first | decide | (simp only [ml]; omega)))))); (try simp (disch := omega) only [Int.reduceToNat, tn_c, tn8, tn8i, tn5, tn5z, tn6, tn6z, tn1, u3_ne, u3_eq, u3_ni, u3_nk, av, f_7_5 hF] at hx); subst hx)
  refine w_gfl0 hS (by decide) (by decide) ?_
  dsimp only
  generalize hW : alv (alv (alv (u3 (u3 (u3 V 7 0 0 (m : Int)) 7 0 1 (n : Int)) 7 0 2 b) 8 0 fun _ => 0) 9 0 fun _ => 0) 10 0 (fun _ => 0) = W
  have sm : same V W LTC := by
    rw [← hW]
    exact ((((((same.rf V _).u ⟨(7, some 0), by decide, rfl, Or.inr rfl⟩).u ⟨(7, some 1), by decide, rfl, Or.inr rfl⟩).u ⟨(7, some 2), by decide, rfl, Or.inr rfl⟩).al (fun k => ⟨(8, none), by decide, rfl, Or.inl rfl⟩)).al (fun k => ⟨(9, none), by decide, rfl, Or.inl rfl⟩)).al (fun k => ⟨(10, none), by decide, rfl, Or.inl rfl⟩)
  have c0 : W 7 0 0 = (m : Int) := by rw [← hW]; simp (disch := decide) only [av, u3_eq, u3_nk]
  have c1 : W 7 0 1 = (n : Int) := by rw [← hW]; simp (disch := decide) only [av, u3_eq, u3_nk]
  have c2 : W 7 0 2 = b := by rw [← hW]; simp (disch := decide) only [av, u3_eq, u3_nk]
  have c8 : ∀ k, W 8 0 k = 0 := by intro k; rw [← hW, av (by decide), av (by decide)]; exact alv_e
  have c9 : ∀ k, W 9 0 k = 0 := by intro k; rw [← hW, av (by decide)]; exact alv_e
  have c10 : ∀ k, W 10 0 k = 0 := by intro k; rw [← hW]; exact alv_e
  refine w_holdNone hS (cg_RF sm rfl hF) (fun V' sm' d8 d12 => w_ret (K V' (sm.tr (sm'.mono (by decide))) ⟨?_, ?_, ?_, d8, d12, ?_⟩ ?_ ?_))
  · rw [sm'.f 7 0 rfl]; exact c0
  · rw [sm'.f 7 1 rfl]; exact c1
  · rw [sm'.f 7 2 rfl]; exact c2
  · intro k; rw [sm'.r 10 rfl]; exact c10 k
  · intro k; rw [sm'.r 8 rfl]; exact c8 k
  · intro k; rw [sm'.r 9 rfl]; exact c9 k
def qtp (V : GV) (R : GR) (q : Nat) : Prop := q < rC R 20 ∧ V 101 0 q = 0 ∧ V 102 0 q = -1
def TQ (V : GV) (R : GR) (q : Nat) (a : Int) (m n : Nat) : Prop := qtp V R q ∧ (V 109 0 q).toNat + 1 = m ∧ n2 V a = n ∧ (a = -1 ∨ ∃ r : Nat, a = (r : Int) ∧ qtp V R r)
theorem TQ.cg {V' : GV} {q m n : Nat} {a : Int} (h : TQ V R q a m n) (e1 : ∀ k, V' 101 0 k = V 101 0 k) (e2 : ∀ k, V' 102 0 k = V 102 0 k) (e9 : ∀ k, V' 109 0 k = V 109 0 k) : TQ V' R q a m n := by
  unfold TQ qtp n2 at *
  simp only [e1, e2, e9]
  exact h
theorem TQ.dim {q m n : Nat} {a : Int} (hI : INV T V R) (h : TQ V R q a m n) : 1 ≤ m ∧ m ≤ 9 ∧ 1 ≤ n ∧ n ≤ 9 := by
  obtain ⟨⟨hq, _, _⟩, em, en, ha⟩ := h
  have := (hI.IQ.1 q hq).1.2.2.2.1
  unfold n2 at en
  rcases ha with rfl | ⟨r, rfl, hr, _, _⟩
  · rw [if_pos rfl] at en; omega
  · rw [if_neg (by omega), tn_c] at en
    have := (hI.IQ.1 r hr).1.2.2.2.1
    omega
theorem TQ.lt {q m n h : Nat} {a : Int} (hI : INV T V R) (H : TQ V R q a m n) (hh : h < rC R 30) (hd : V 30 h 2 = V 100 0 29) : lns V q (V 30 h 0).toNat < m ∧ l2 V a (V 30 h 0).toNat < n := by
  obtain ⟨⟨hq, k0, top⟩, em, en, ha⟩ := H
  have h1 := lns_lt hI hq (cod_all hI hh hd hq k0 top)
  refine ⟨by omega, ?_⟩
  unfold n2 at en
  unfold l2
  rcases ha with rfl | ⟨r, rfl, hr, k0', top'⟩
  · rw [if_pos rfl] at en; rw [if_pos rfl]; omega
  · rw [if_neg (by omega), tn_c] at en
    rw [if_neg (by omega), tn_c]
    have h1 := lns_lt hI hr (cod_all hI hh hd hr k0' top')
    omega
theorem cel_stl {V' : GV} {q h g : Nat} {a : Int} (hI : INV T V R) (hs : stl V V' h) (hh : h < rC R 30) (hg : g < rC R 30) (hne : g ≠ h) : cel V' q a g = cel V q a g := by
  have sm := hs.same
  have ne := hI.sh_ne hg hh hne
  refine cel_cg (sm.f 30 0 rfl _) (fun k => ⟨hs _ _ _ ?_, hs _ _ _ ?_⟩) (sm.r 108 rfl 0) (sm.r 109 rfl 0)
  · rintro (⟨_, e, _⟩ | ⟨e, _⟩ | ⟨e, _⟩)
    · exact ne e
    · omega
    · omega
  · rintro (⟨_, e, _⟩ | ⟨e, _⟩ | ⟨e, _⟩)
    · exact ne e
    · omega
    · omega
theorem w_hasC {i j m n : Nat} {f : Int × GS → GO} (hS : SH R) (e0 : V 7 0 0 = (m : Int)) (e1 : V 7 0 1 = (n : Int)) (hi : i < m) (hj : j < n) (k1 : Wp (f (1, (V, R))) Q) : Wp ((g_X7_hasCell 0 (i : Int) (j : Int) (V, R)).bind f) Q := by
  refine w_bind ?_
  unfold g_X7_hasCell
  refine w_gv (by omega) ?_
  refine w_ite (fun z => absurd z (by omega)) (fun z1 => ?_)
  ((first | ((with_reducible refine w_s hS ?_ ?_ ?_ (fun x hx => ?_)); (focus decide); (focus (first | decide | omega)); (focus (first | decide | (simp only [sl]; omega)))) | ((with_reducible refine w_m hS ?_ ?_ ?_ ?_ ?_ (fun x hx => ?_)); (focus decide); (focus (first | decide | omega)); (focus omega); (focus (first | decide | omega)); (focus (first | decide | (simp only [ml]; omega)))) | (with_reducible refine w_k (by simp (disch := omega) only [w32_id]; exact rfl) ?_; ((with_reducible refine w_s hS ?_ ?_ ?_ (fun x hx => ?_)); (focus decide); (focus (first | decide | omega)); (focus (first | decide | (simp only [sl]; omega))))) | (with_reducible refine w_k (by simp (disch := omega) only [w32_id]; exact rfl) ?_; ((with_reducible refine w_m hS ?_ ?_ ?_ ?_ ?_ (fun x hx => ?_)); (focus decide); (focus (first | decide | omega)); (focus omega); (focus (first | decide | omega)); (focus (first | decide | (simp only [ml]; omega)))))); (try simp (disch := omega) only [Int.reduceToNat, tn_c, tn8, tn8i, tn5, tn5z, tn6, tn6z, tn1, u3_ne, u3_eq, u3_ni, u3_nk, e0] at hx); subst hx)
  refine w_ite (fun z => absurd z (by omega)) (fun z2 => ?_)
  refine w_ite (fun z => absurd z (by omega)) (fun z3 => ?_)
  ((first | ((with_reducible refine w_s hS ?_ ?_ ?_ (fun x hx => ?_)); (focus decide); (focus (first | decide | omega)); (focus (first | decide | (simp only [sl]; omega)))) | ((with_reducible refine w_m hS ?_ ?_ ?_ ?_ ?_ (fun x hx => ?_)); (focus decide); (focus (first | decide | omega)); (focus omega); (focus (first | decide | omega)); (focus (first | decide | (simp only [ml]; omega)))) | (with_reducible refine w_k (by simp (disch := omega) only [w32_id]; exact rfl) ?_; ((with_reducible refine w_s hS ?_ ?_ ?_ (fun x hx => ?_)); (focus decide); (focus (first | decide | omega)); (focus (first | decide | (simp only [sl]; omega))))) | (with_reducible refine w_k (by simp (disch := omega) only [w32_id]; exact rfl) ?_; ((with_reducible refine w_m hS ?_ ?_ ?_ ?_ ?_ (fun x hx => ?_)); (focus decide); (focus (first | decide | omega)); (focus omega); (focus (first | decide | omega)); (focus (first | decide | (simp only [ml]; omega)))))); (try simp (disch := omega) only [Int.reduceToNat, tn_c, tn8, tn8i, tn5, tn5z, tn6, tn6z, tn1, u3_ne, u3_eq, u3_ni, u3_nk, e1] at hx); subst hx)
  exact w_ite (fun z => absurd z (by omega)) (fun z4 => w_ret k1)
theorem w_atn {i j n : Nat} {f : Int × GS → GO} (hS : SH R) (e1 : V 7 0 1 = (n : Int)) (hb : i * n + j < 100) (k : Wp (f (((i * n + j : Nat) : Int), (V, R))) Q) : Wp ((g_X7_at 0 (i : Int) (j : Int) (V, R)).bind f) Q := by
  refine w_bind ?_
  unfold g_X7_at
  refine w_gv (by omega) ?_
  ((first | ((with_reducible refine w_s hS ?_ ?_ ?_ (fun x hx => ?_)); (focus decide); (focus (first | decide | omega)); (focus (first | decide | (simp only [sl]; omega)))) | ((with_reducible refine w_m hS ?_ ?_ ?_ ?_ ?_ (fun x hx => ?_)); (focus decide); (focus (first | decide | omega)); (focus omega); (focus (first | decide | omega)); (focus (first | decide | (simp only [ml]; omega)))) | (with_reducible refine w_k (by simp (disch := omega) only [w32_id]; exact rfl) ?_; ((with_reducible refine w_s hS ?_ ?_ ?_ (fun x hx => ?_)); (focus decide); (focus (first | decide | omega)); (focus (first | decide | (simp only [sl]; omega))))) | (with_reducible refine w_k (by simp (disch := omega) only [w32_id]; exact rfl) ?_; ((with_reducible refine w_m hS ?_ ?_ ?_ ?_ ?_ (fun x hx => ?_)); (focus decide); (focus (first | decide | omega)); (focus omega); (focus (first | decide | omega)); (focus (first | decide | (simp only [ml]; omega)))))); (try simp (disch := omega) only [Int.reduceToNat, tn_c, tn8, tn8i, tn5, tn5z, tn6, tn6z, tn1, u3_ne, u3_eq, u3_ni, u3_nk, e1] at hx); subst hx)
  rw [wat hb]
  exact w_ret k
theorem w_tadd {i j m n : Nat} {w : Int} {f : Int × GS → GO} (hS : SH R) (hF : RF V R) (e0 : V 7 0 0 = (m : Int)) (e1 : V 7 0 1 = (n : Int)) (hm : m ≤ 9) (hn : n ≤ 9) (hi : i < m) (hj : j < n) (b8 : 0 ≤ V 8 0 (i * n + j) ∧ V 8 0 (i * n + j) ≤ 40) (b9 : 0 ≤ V 9 0 (i * n + j) ∧ V 9 0 (i * n + j) ≤ 100800000) (bw : 0 ≤ w ∧ w ≤ 2520000)
  (K : Wp (f (0, (u3 (u3 V 8 0 (i * n + j) (V 8 0 (i * n + j) + 1)) 9 0 (i * n + j) (V 9 0 (i * n + j) + w), R))) Q) : Wp ((g_X7_add 0 (i : Int) (j : Int) w (V, R)).bind f) Q := by
  have mn := mn_lt hm hn hi hj
  refine w_bind ?_
  unfold g_X7_add
  refine w_gv (by omega) ?_
  refine w_hasC hS e0 e1 hi hj ?_
  refine w_ite (fun _ => ?_) (fun z => absurd (show (1 : Int) ≠ 0 by decide) z)
  dsimp only
  ((first | ((with_reducible refine w_s hS ?_ ?_ ?_ (fun x hx => ?_)); (focus decide); (focus (first | decide | omega)); (focus (first | decide | (simp only [sl]; omega)))) | ((with_reducible refine w_m hS ?_ ?_ ?_ ?_ ?_ (fun x hx => ?_)); (focus decide); (focus (first | decide | omega)); (focus omega); (focus (first | decide | omega)); (focus (first | decide | (simp only [ml]; omega)))) | (with_reducible refine w_k (by simp (disch := omega) only [w32_id]; exact rfl) ?_; ((with_reducible refine w_s hS ?_ ?_ ?_ (fun x hx => ?_)); (focus decide); (focus (first | decide | omega)); (focus (first | decide | (simp only [sl]; omega))))) | (with_reducible refine w_k (by simp (disch := omega) only [w32_id]; exact rfl) ?_; ((with_reducible refine w_m hS ?_ ?_ ?_ ?_ ?_ (fun x hx => ?_)); (focus decide); (focus (first | decide | omega)); (focus omega); (focus (first | decide | omega)); (focus (first | decide | (simp only [ml]; omega)))))); (try simp (disch := omega) only [Int.reduceToNat, tn_c, tn8, tn8i, tn5, tn5z, tn6, tn6z, tn1, u3_ne, u3_eq, u3_ni, u3_nk, f_7_3 hF] at hx); subst hx)
  refine w_atn hS e1 (by omega) ?_
  dsimp only
  ((first | ((with_reducible refine w_s hS ?_ ?_ ?_ (fun x hx => ?_)); (focus decide); (focus (first | decide | omega)); (focus (first | decide | (simp only [sl]; omega)))) | ((with_reducible refine w_m hS ?_ ?_ ?_ ?_ ?_ (fun x hx => ?_)); (focus decide); (focus (first | decide | omega)); (focus omega); (focus (first | decide | omega)); (focus (first | decide | (simp only [ml]; omega)))) | (with_reducible refine w_k (by simp (disch := omega) only [w32_id]; exact rfl) ?_; ((with_reducible refine w_s hS ?_ ?_ ?_ (fun x hx => ?_)); (focus decide); (focus (first | decide | omega)); (focus (first | decide | (simp only [sl]; omega))))) | (with_reducible refine w_k (by simp (disch := omega) only [w32_id]; exact rfl) ?_; ((with_reducible refine w_m hS ?_ ?_ ?_ ?_ ?_ (fun x hx => ?_)); (focus decide); (focus (first | decide | omega)); (focus omega); (focus (first | decide | omega)); (focus (first | decide | (simp only [ml]; omega)))))); (try simp (disch := omega) only [Int.reduceToNat, tn_c, tn8, tn8i, tn5, tn5z, tn6, tn6z, tn1, u3_ne, u3_eq, u3_ni, u3_nk, tn_c] at hx); subst hx)
  refine w_ss hS (by decide) (by omega) (by simp only [sl]; omega) ?_
  ((first | ((with_reducible refine w_s hS ?_ ?_ ?_ (fun x hx => ?_)); (focus decide); (focus (first | decide | omega)); (focus (first | decide | (simp only [sl]; omega)))) | ((with_reducible refine w_m hS ?_ ?_ ?_ ?_ ?_ (fun x hx => ?_)); (focus decide); (focus (first | decide | omega)); (focus omega); (focus (first | decide | omega)); (focus (first | decide | (simp only [ml]; omega)))) | (with_reducible refine w_k (by simp (disch := omega) only [w32_id]; exact rfl) ?_; ((with_reducible refine w_s hS ?_ ?_ ?_ (fun x hx => ?_)); (focus decide); (focus (first | decide | omega)); (focus (first | decide | (simp only [sl]; omega))))) | (with_reducible refine w_k (by simp (disch := omega) only [w32_id]; exact rfl) ?_; ((with_reducible refine w_m hS ?_ ?_ ?_ ?_ ?_ (fun x hx => ?_)); (focus decide); (focus (first | decide | omega)); (focus omega); (focus (first | decide | omega)); (focus (first | decide | (simp only [ml]; omega)))))); (try simp (disch := omega) only [Int.reduceToNat, tn_c, tn8, tn8i, tn5, tn5z, tn6, tn6z, tn1, u3_ne, u3_eq, u3_ni, u3_nk, f_7_4 hF] at hx); subst hx)
  refine w_atn hS (by rw [u3_ne (by decide)]; exact e1) (by omega) ?_
  dsimp only
  ((first | ((with_reducible refine w_s hS ?_ ?_ ?_ (fun x hx => ?_)); (focus decide); (focus (first | decide | omega)); (focus (first | decide | (simp only [sl]; omega)))) | ((with_reducible refine w_m hS ?_ ?_ ?_ ?_ ?_ (fun x hx => ?_)); (focus decide); (focus (first | decide | omega)); (focus omega); (focus (first | decide | omega)); (focus (first | decide | (simp only [ml]; omega)))) | (with_reducible refine w_k (by simp (disch := omega) only [w32_id]; exact rfl) ?_; ((with_reducible refine w_s hS ?_ ?_ ?_ (fun x hx => ?_)); (focus decide); (focus (first | decide | omega)); (focus (first | decide | (simp only [sl]; omega))))) | (with_reducible refine w_k (by simp (disch := omega) only [w32_id]; exact rfl) ?_; ((with_reducible refine w_m hS ?_ ?_ ?_ ?_ ?_ (fun x hx => ?_)); (focus decide); (focus (first | decide | omega)); (focus omega); (focus (first | decide | omega)); (focus (first | decide | (simp only [ml]; omega)))))); (try simp (disch := omega) only [Int.reduceToNat, tn_c, tn8, tn8i, tn5, tn5z, tn6, tn6z, tn1, u3_ne, u3_eq, u3_ni, u3_nk, tn_c] at hx); subst hx)
  refine w_ss hS (by decide) (by omega) (by simp only [sl]; omega) ?_
  rw [tn_c, w32_id (by omega) (by omega), w64_id (by omega) (by omega)]
  exact w_ret K
end TClass
