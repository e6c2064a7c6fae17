section NewQ
variable {V : GV} {R : GR} {Q : Int → GS → Prop}
def rq5 (R : GR) (len : Nat) : GR := nr (nr (nr (nr (nr R 20 13) 21 8) 22 len) 23 len) 24 len
theorem RQ5 (hS : SH R) (len : Nat) (hl : len ≤ 8) : RQ R (rq5 R len) len := by
  obtain ⟨s21, s22, s23, s24, _⟩ := hS.2.2
  unfold rq5
  refine ⟨fun r h1 h2 => ?_, fun r h => ?_, ⟨?_, ?_, ?_, ?_, ?_⟩, fun r i h => ?_, rfl, ?_⟩
  · have : r = 20 ∨ r = 21 ∨ r = 22 ∨ r = 23 ∨ r = 24 := by omega
    rcases this with rfl | rfl | rfl | rfl | rfl
    · rw [nr_C (by decide), nr_C (by decide), nr_C (by decide), nr_C (by decide), nr_Ce]
    · rw [nr_C (by decide), nr_C (by decide), nr_C (by decide), nr_Ce, nr_C (by decide), s21]
    · rw [nr_C (by decide), nr_C (by decide), nr_Ce, nr_C (by decide), nr_C (by decide), s22]
    · rw [nr_C (by decide), nr_Ce, nr_C (by decide), nr_C (by decide), nr_C (by decide), s23]
    · rw [nr_Ce, nr_C (by decide), nr_C (by decide), nr_C (by decide), nr_C (by decide), s24]
  · rw [nr_C (by omega), nr_C (by omega), nr_C (by omega), nr_C (by omega), nr_C (by omega)]
  · rw [nr_N (Or.inl (by decide)), nr_N (Or.inl (by decide)), nr_N (Or.inl (by decide)), nr_N (Or.inl (by decide)), nr_Ne]
  · rw [nr_N (Or.inl (by decide)), nr_N (Or.inl (by decide)), nr_N (Or.inl (by decide))]
    have := nr_Ne (R := nr R 20 13) (r := 21) (n := 8)
    rw [nr_C (by decide), s21] at this; exact this
  · rw [nr_N (Or.inl (by decide)), nr_N (Or.inl (by decide))]
    have := nr_Ne (R := nr (nr R 20 13) 21 8) (r := 22) (n := len)
    rw [nr_C (by decide), nr_C (by decide), s22] at this; exact this
  · rw [nr_N (Or.inl (by decide))]
    have := nr_Ne (R := nr (nr (nr R 20 13) 21 8) 22 len) (r := 23) (n := len)
    rw [nr_C (by decide), nr_C (by decide), nr_C (by decide), s23] at this; exact this
  · have := nr_Ne (R := nr (nr (nr (nr R 20 13) 21 8) 22 len) 23 len) (r := 24) (n := len)
    rw [nr_C (by decide), nr_C (by decide), nr_C (by decide), nr_C (by decide), s24] at this; exact this
  · rw [nr_N ?_, nr_N ?_, nr_N ?_, nr_N ?_, nr_N ?_]
    · omega
    · rw [nr_C (by decide), s21]; omega
    · rw [nr_C (by decide), nr_C (by decide), s22]; omega
    · rw [nr_C (by decide), nr_C (by decide), nr_C (by decide), s23]; omega
    · rw [nr_C (by decide), nr_C (by decide), nr_C (by decide), nr_C (by decide), s24]; omega
  · show rZ R + 13 + 8 + len + len + len ≤ rZ R + 45
    omega
theorem w_g20 {W : GV} {R1 : GR} {q k : Nat} {v : Int} {f : GS → GO} (h1 : q < rC R1 20) (h2 : rN R1 20 q = 13) (hk : k < 13) (K : Wp (f (u3 W 20 q k v, R1)) Q) : Wp ((gs 20 (W, R1) (q : Int) (k : Int) v).bind f) Q := by
  refine w_gs (by omega) (by omega) (by omega) (by rw [tn_c, tn_c, h2]; exact hk) ?_
  rw [tn_c, tn_c]; exact K
def nqv (V : GV) (q : Nat) (kd ro mk so : Int) : GV := u3 (u3 (nv (u3 (nv (u3 (nv (u3 (nv (u3 (u3 (u3 (u3 (nv V 20 q) 20 q 0 kd) 20 q 1 ro) 20 q 2 mk) 20 q 3 so) 21 q) 20 q 4 (q : Int)) 22 q) 20 q 6 (q : Int)) 23 q) 20 q 7 (q : Int)) 24 q) 20 q 8 (q : Int)) 20 q 10 (-1)
theorem nv_ne {r i r' i' k' : Nat} (h : r' ≠ r) : nv V r i r' i' k' = V r' i' k' := nv_o (Or.inl h)
theorem nqv_o {q : Nat} {kd ro mk so : Int} {r i k : Nat} (h : r < 20 ∨ 24 < r ∨ i ≠ q) : nqv V q kd ro mk so r i k = V r i k := by
  have g : ∀ {W : GV} {j : Nat} {v : Int}, u3 W 20 q j v r i k = W r i k := by
    intro W j v
    by_cases e : r = 20
    · exact u3_ni (by omega)
    · exact u3_ne e
  have n : ∀ {W : GV} {j : Nat}, (20 ≤ j ∧ j ≤ 24) → nv W j q r i k = W r i k := fun hj => nv_o (by omega)
  unfold nqv
  rw [g, g, n (by omega), g, n (by omega), g, n (by omega), g, n (by omega), g, g, g, g, n (by omega)]
theorem nqv_f {q : Nat} {kd ro mk so : Int} : (nqv V q kd ro mk so 20 q 0 = kd ∧ nqv V q kd ro mk so 20 q 1 = ro ∧ nqv V q kd ro mk so 20 q 2 = mk ∧ nqv V q kd ro mk so 20 q 3 = so) ∧ (nqv V q kd ro mk so 20 q 4 = (q : Int) ∧ nqv V q kd ro mk so 20 q 6 = (q : Int) ∧ nqv V q kd ro mk so 20 q 7 = (q : Int) ∧ nqv V q kd ro mk so 20 q 8 = (q : Int)) ∧ (nqv V q kd ro mk so 20 q 5 = 0 ∧ nqv V q kd ro mk so 20 q 9 = 0 ∧ nqv V q kd ro mk so 20 q 10 = -1 ∧ nqv V q kd ro mk so 20 q 11 = 0) := by
  unfold nqv
  refine ⟨⟨?_, ?_, ?_, ?_⟩, ⟨?_, ?_, ?_, ?_⟩, ?_, ?_, ?_, ?_⟩
  all_goals simp (disch := decide) only [u3_eq, u3_nk, nv_ne]
  all_goals exact nv_e.trans (if_pos rfl)
theorem w_init5 {kd ro mk so : Int} {f : Int × GS → GO} (hS : SH R) (hk : rK R < 500000) (hz : rZ R < 7000000) {len : Nat} (hlen : len = if mk = 1 then 8 else 0)
  (K : Wp (f (0, (nqv V (rC R 20) kd ro mk so, rq5 R len))) Q) : Wp ((g_X5_init (rC R 20 : Int) kd ro mk so (nv V 20 (rC R 20), nr R 20 13)).bind f) Q := by
  obtain ⟨s21, s22, s23, s24, _⟩ := hS.2.2
  have l8 : len ≤ 8 := by
    by_cases z : mk = 1
    · rw [if_pos z] at hlen; omega
    · rw [if_neg z] at hlen; omega
  have a1 : rC R 20 < rC (nr R 20 13) 20 := by rw [nr_Ce]; omega
  have b1 : rN (nr R 20 13) 20 (rC R 20) = 13 := nr_Ne
  have a2 : rC R 20 < rC (nr (nr R 20 13) 21 8) 20 := by rw [nr_C (by decide)]; exact a1
  have b2 : rN (nr (nr R 20 13) 21 8) 20 (rC R 20) = 13 := by rw [nr_N (Or.inl (by decide))]; exact b1
  refine w_bind ?_
  unfold g_X5_init
  refine w_gv (by omega) ?_
  refine w_g20 (k := 0) a1 b1 (by decide) ?_
  refine w_g20 (k := 1) a1 b1 (by decide) ?_
  refine w_g20 (k := 2) a1 b1 (by decide) ?_
  refine w_g20 (k := 3) a1 b1 (by decide) ?_
  refine w_gn (n := 8) (by omega) (by rw [nr_K]; omega) (by rw [nr_Z]; omega) ?_
  have e21 : rC (nr R 20 13) 21 = rC R 20 := by rw [nr_C (by decide)]; exact s21
  rw [e21]
  refine w_g20 (k := 4) a2 b2 (by decide) ?_
  have tail : ∀ W : GV, Wp (gjX5_init_44 (rC R 20 : Int) (len : Int) (W, nr (nr R 20 13) 21 8)) (fun r G => r = 0 ∧ G = (u3 (u3 (nv (u3 (nv (u3 (nv W 22 (rC R 20)) 20 (rC R 20) 6 (rC R 20 : Int)) 23 (rC R 20)) 20 (rC R 20) 7 (rC R 20 : Int)) 24 (rC R 20)) 20 (rC R 20) 8 (rC R 20 : Int)) 20 (rC R 20) 10 (-1), rq5 R len)) := by
    intro W
    unfold gjX5_init_44
    have e22 : rC (nr (nr R 20 13) 21 8) 22 = rC R 20 := by rw [nr_C (by decide), nr_C (by decide)]; exact s22
    have e23 : rC (nr (nr (nr R 20 13) 21 8) 22 len) 23 = rC R 20 := by rw [nr_C (by decide), nr_C (by decide), nr_C (by decide)]; exact s23
    have e24 : rC (nr (nr (nr (nr R 20 13) 21 8) 22 len) 23 len) 24 = rC R 20 := by rw [nr_C (by decide), nr_C (by decide), nr_C (by decide), nr_C (by decide)]; exact s24
    refine w_gn (n := len) (by omega) (by rw [nr_K, nr_K]; omega) (by rw [nr_Z, nr_Z]; omega) ?_
    rw [e22]
    refine w_g20 (k := 6) (by rw [nr_C (by decide)]; exact a2) (by rw [nr_N (Or.inl (by decide))]; exact b2) (by decide) ?_
    refine w_gn (n := len) (by omega) (by rw [nr_K, nr_K, nr_K]; omega) (by rw [nr_Z, nr_Z, nr_Z]; omega) ?_
    rw [e23]
    refine w_g20 (k := 7) (by rw [nr_C (by decide), nr_C (by decide)]; exact a2) (by rw [nr_N (Or.inl (by decide)), nr_N (Or.inl (by decide))]; exact b2) (by decide) ?_
    refine w_gn (n := len) (by omega) (by rw [nr_K, nr_K, nr_K, nr_K]; omega) (by rw [nr_Z, nr_Z, nr_Z, nr_Z]; omega) ?_
    rw [e24]
    refine w_g20 (k := 8) (by rw [nr_C (by decide), nr_C (by decide), nr_C (by decide)]; exact a2) (by rw [nr_N (Or.inl (by decide)), nr_N (Or.inl (by decide)), nr_N (Or.inl (by decide))]; exact b2) (by decide) ?_
    refine w_g20 (k := 10) (by rw [nr_C (by decide), nr_C (by decide), nr_C (by decide)]; exact a2) (by rw [nr_N (Or.inl (by decide)), nr_N (Or.inl (by decide)), nr_N (Or.inl (by decide))]; exact b2) (by decide) ?_
    exact w_ret ⟨rfl, rfl⟩
  refine w_ite (fun z => ?_) (fun z => ?_)
  · rw [if_neg z] at hlen
    subst hlen
    refine w_mono (tail _) ?_
    rintro r G ⟨rfl, rfl⟩
    exact K
  · rw [if_pos (by omega)] at hlen
    subst hlen
    refine w_mono (tail _) ?_
    rintro r G ⟨rfl, rfl⟩
    exact K
def cqs (V : GV) (q o : Nat) (kd ro mk so : Int) : GV := if mk = 0 then u3 (u3 (nqv V q kd ro mk so) 2 0 q (q : Int)) 1 0 1 ((q : Int) + 1) else u3 (u3 (u3 (u3 (u3 (nqv V q kd ro mk so) 2 0 q (q : Int)) 4 0 o (q : Int)) 1 0 5 ((o : Int) + 1)) 20 q 12 (o : Int)) 1 0 1 ((q : Int) + 1)
theorem w_addQ {o : Nat} {kd ro mk so : Int} {R' : GR} {f : Int × GS → GO} (hI : INV IT V R) (q24 : rC R 20 < 24) (eo : V 100 0 29 = (o : Int)) (hS' : SH R') (c' : rC R' 20 = rC R 20 + 1)
  (K : Wp (f ((rC R 20 : Int), (cqs V (rC R 20) o kd ro mk so, R'))) Q) : Wp ((g_X3_addQuestion 0 (rC R 20 : Int) (nqv V (rC R 20) kd ro mk so, R')).bind f) Q := by
  have hF := hI.RF
  obtain ⟨b20, b30, b40, b50⟩ := hI.IN.1
  obtain ⟨n1, n2, _⟩ := hI.IN.2.1
  obtain ⟨p1, p2, p3⟩ := hI.IN.2.2
  have hS := hS'
  have wo : ∀ r i k, (r < 20 ∨ 24 < r) → nqv V (rC R 20) kd ro mk so r i k = V r i k := fun r i k h => nqv_o (by omega)
  have w2 := (nqv_f (V := V) (q := rC R 20) (kd := kd) (ro := ro) (mk := mk) (so := so)).1.2.2.1
  unfold cqs at K
  generalize nqv V (rC R 20) kd ro mk so = W at *
  have w11 : W 1 0 1 = (rC R 20 : Int) := by rw [wo 1 _ _ (by omega)]; exact n2
  have w10 : W 1 0 0 = 0 := by rw [wo 1 _ _ (by omega)]; exact f_1_0 hF
  have w14 : W 1 0 4 = 0 := by rw [wo 1 _ _ (by omega)]; exact f_1_4 hF
  have w15 : W 1 0 5 = (o : Int) := by rw [wo 1 _ _ (by omega)]; omega
  refine w_bind ?_
  unfold g_X3_addQuestion gjX3_addQuestion_39
  refine w_gv (by omega) ?_
  have full : ∀ {g : Int × GS → GO} {P : Int → GS → Prop}, Wp (g (0, (W, R'))) P → Wp ((g_X3_questionsAreFull 0 (W, R')).bind g) P := by
    intro g P kk
    refine w_bind ?_
    unfold g_X3_questionsAreFull
    refine w_gv (by omega) ?_
    ((first | ((with_reducible refine w_s hS ?_ ?_ ?_ (fun x hx => ?_)); (focus decide); (focus (first | decide | omega)); (focus (first | decide | (simp only [sl]; omega)))) | ((with_reducible refine w_m hS ?_ ?_ ?_ ?_ ?_ (fun x hx => ?_)); (focus decide); (focus (first | decide | omega)); (focus omega); (focus (first | decide | omega)); (focus (first | decide | (simp only [ml]; omega)))) | (with_reducible refine w_k (by simp (disch := omega) only [w32_id]; exact rfl) ?_; ((with_reducible refine w_s hS ?_ ?_ ?_ (fun x hx => ?_)); (focus decide); (focus (first | decide | omega)); (focus (first | decide | (simp only [sl]; omega))))) | (with_reducible refine w_k (by simp (disch := omega) only [w32_id]; exact rfl) ?_; ((with_reducible refine w_m hS ?_ ?_ ?_ ?_ ?_ (fun x hx => ?_)); (focus decide); (focus (first | decide | omega)); (focus omega); (focus (first | decide | omega)); (focus (first | decide | (simp only [ml]; omega)))))); (try simp (disch := omega) only [Int.reduceToNat, tn_c, tn8, tn8i, tn5, tn5z, tn6, tn6z, tn1, u3_ne, u3_eq, u3_ni, u3_nk, w11] at hx); subst hx)
    exact w_ite (fun _ => w_ret kk) (fun z => absurd (show (rC R 20 : Int) < 24 by omega) z)
  refine full ?_
  refine w_ite (fun _ => ?_) (fun z => absurd rfl z)
  ((first | ((with_reducible refine w_s hS ?_ ?_ ?_ (fun x hx => ?_)); (focus decide); (focus (first | decide | omega)); (focus (first | decide | (simp only [sl]; omega)))) | ((with_reducible refine w_m hS ?_ ?_ ?_ ?_ ?_ (fun x hx => ?_)); (focus decide); (focus (first | decide | omega)); (focus omega); (focus (first | decide | omega)); (focus (first | decide | (simp only [ml]; omega)))) | (with_reducible refine w_k (by simp (disch := omega) only [w32_id]; exact rfl) ?_; ((with_reducible refine w_s hS ?_ ?_ ?_ (fun x hx => ?_)); (focus decide); (focus (first | decide | omega)); (focus (first | decide | (simp only [sl]; omega))))) | (with_reducible refine w_k (by simp (disch := omega) only [w32_id]; exact rfl) ?_; ((with_reducible refine w_m hS ?_ ?_ ?_ ?_ ?_ (fun x hx => ?_)); (focus decide); (focus (first | decide | omega)); (focus omega); (focus (first | decide | omega)); (focus (first | decide | (simp only [ml]; omega)))))); (try simp (disch := omega) only [Int.reduceToNat, tn_c, tn8, tn8i, tn5, tn5z, tn6, tn6z, tn1, u3_ne, u3_eq, u3_ni, u3_nk, w10] at hx); subst hx)
  ((first | ((with_reducible refine w_s hS ?_ ?_ ?_ (fun x hx => ?_)); (focus decide); (focus (first | decide | omega)); (focus (first | decide | (simp only [sl]; omega)))) | ((with_reducible refine w_m hS ?_ ?_ ?_ ?_ ?_ (fun x hx => ?_)); (focus decide); (focus (first | decide | omega)); (focus omega); (focus (first | decide | omega)); (focus (first | decide | (simp only [ml]; omega)))) | (with_reducible refine w_k (by simp (disch := omega) only [w32_id]; exact rfl) ?_; ((with_reducible refine w_s hS ?_ ?_ ?_ (fun x hx => ?_)); (focus decide); (focus (first | decide | omega)); (focus (first | decide | (simp only [sl]; omega))))) | (with_reducible refine w_k (by simp (disch := omega) only [w32_id]; exact rfl) ?_; ((with_reducible refine w_m hS ?_ ?_ ?_ ?_ ?_ (fun x hx => ?_)); (focus decide); (focus (first | decide | omega)); (focus omega); (focus (first | decide | omega)); (focus (first | decide | (simp only [ml]; omega)))))); (try simp (disch := omega) only [Int.reduceToNat, tn_c, tn8, tn8i, tn5, tn5z, tn6, tn6z, tn1, u3_ne, u3_eq, u3_ni, u3_nk, w11] at hx); subst hx)
  refine w_gsa (by omega) ?_
  refine w_ss hS (by decide) (by omega) (by simp only [sl]; omega) ?_
  rw [tn_c]
  ((first | ((with_reducible refine w_s hS ?_ ?_ ?_ (fun x hx => ?_)); (focus decide); (focus (first | decide | omega)); (focus (first | decide | (simp only [sl]; omega)))) | ((with_reducible refine w_m hS ?_ ?_ ?_ ?_ ?_ (fun x hx => ?_)); (focus decide); (focus (first | decide | omega)); (focus omega); (focus (first | decide | omega)); (focus (first | decide | (simp only [ml]; omega)))) | (with_reducible refine w_k (by simp (disch := omega) only [w32_id]; exact rfl) ?_; ((with_reducible refine w_s hS ?_ ?_ ?_ (fun x hx => ?_)); (focus decide); (focus (first | decide | omega)); (focus (first | decide | (simp only [sl]; omega))))) | (with_reducible refine w_k (by simp (disch := omega) only [w32_id]; exact rfl) ?_; ((with_reducible refine w_m hS ?_ ?_ ?_ ?_ ?_ (fun x hx => ?_)); (focus decide); (focus (first | decide | omega)); (focus omega); (focus (first | decide | omega)); (focus (first | decide | (simp only [ml]; omega)))))); (try simp (disch := omega) only [Int.reduceToNat, tn_c, tn8, tn8i, tn5, tn5z, tn6, tn6z, tn1, u3_ne, u3_eq, u3_ni, u3_nk, u3_ne, w2] at hx); subst hx)
  refine w_ite (fun z => ?_) (fun z => ?_)
  · rw [if_pos z] at K
    ((first | ((with_reducible refine w_s hS ?_ ?_ ?_ (fun x hx => ?_)); (focus decide); (focus (first | decide | omega)); (focus (first | decide | (simp only [sl]; omega)))) | ((with_reducible refine w_m hS ?_ ?_ ?_ ?_ ?_ (fun x hx => ?_)); (focus decide); (focus (first | decide | omega)); (focus omega); (focus (first | decide | omega)); (focus (first | decide | (simp only [ml]; omega)))) | (with_reducible refine w_k (by simp (disch := omega) only [w32_id]; exact rfl) ?_; ((with_reducible refine w_s hS ?_ ?_ ?_ (fun x hx => ?_)); (focus decide); (focus (first | decide | omega)); (focus (first | decide | (simp only [sl]; omega))))) | (with_reducible refine w_k (by simp (disch := omega) only [w32_id]; exact rfl) ?_; ((with_reducible refine w_m hS ?_ ?_ ?_ ?_ ?_ (fun x hx => ?_)); (focus decide); (focus (first | decide | omega)); (focus omega); (focus (first | decide | omega)); (focus (first | decide | (simp only [ml]; omega)))))); (try simp (disch := omega) only [Int.reduceToNat, tn_c, tn8, tn8i, tn5, tn5z, tn6, tn6z, tn1, u3_ne, u3_eq, u3_ni, u3_nk, u3_ne, w11] at hx); subst hx)
    rw [w32_id (by omega) (by omega)]
    refine w_ss hS (by decide) (by omega) (by decide) ?_
    ((first | ((with_reducible refine w_s hS ?_ ?_ ?_ (fun x hx => ?_)); (focus decide); (focus (first | decide | omega)); (focus (first | decide | (simp only [sl]; omega)))) | ((with_reducible refine w_m hS ?_ ?_ ?_ ?_ ?_ (fun x hx => ?_)); (focus decide); (focus (first | decide | omega)); (focus omega); (focus (first | decide | omega)); (focus (first | decide | (simp only [ml]; omega)))) | (with_reducible refine w_k (by simp (disch := omega) only [w32_id]; exact rfl) ?_; ((with_reducible refine w_s hS ?_ ?_ ?_ (fun x hx => ?_)); (focus decide); (focus (first | decide | omega)); (focus (first | decide | (simp only [sl]; omega))))) | (with_reducible refine w_k (by simp (disch := omega) only [w32_id]; exact rfl) ?_; ((with_reducible refine w_m hS ?_ ?_ ?_ ?_ ?_ (fun x hx => ?_)); (focus decide); (focus (first | decide | omega)); (focus omega); (focus (first | decide | omega)); (focus (first | decide | (simp only [ml]; omega)))))); (try simp (disch := omega) only [Int.reduceToNat, tn_c, tn8, tn8i, tn5, tn5z, tn6, tn6z, tn1, u3_ne, u3_eq, u3_ni, u3_nk, u3_eq] at hx); subst hx)
    rw [w32_id (by omega) (by omega), show (rC R 20 : Int) + 1 - 1 = (rC R 20 : Int) by omega]
    exact w_ret K
  · rw [if_neg z] at K
    ((first | ((with_reducible refine w_s hS ?_ ?_ ?_ (fun x hx => ?_)); (focus decide); (focus (first | decide | omega)); (focus (first | decide | (simp only [sl]; omega)))) | ((with_reducible refine w_m hS ?_ ?_ ?_ ?_ ?_ (fun x hx => ?_)); (focus decide); (focus (first | decide | omega)); (focus omega); (focus (first | decide | omega)); (focus (first | decide | (simp only [ml]; omega)))) | (with_reducible refine w_k (by simp (disch := omega) only [w32_id]; exact rfl) ?_; ((with_reducible refine w_s hS ?_ ?_ ?_ (fun x hx => ?_)); (focus decide); (focus (first | decide | omega)); (focus (first | decide | (simp only [sl]; omega))))) | (with_reducible refine w_k (by simp (disch := omega) only [w32_id]; exact rfl) ?_; ((with_reducible refine w_m hS ?_ ?_ ?_ ?_ ?_ (fun x hx => ?_)); (focus decide); (focus (first | decide | omega)); (focus omega); (focus (first | decide | omega)); (focus (first | decide | (simp only [ml]; omega)))))); (try simp (disch := omega) only [Int.reduceToNat, tn_c, tn8, tn8i, tn5, tn5z, tn6, tn6z, tn1, u3_ne, u3_eq, u3_ni, u3_nk, u3_ne, w11] at hx); subst hx)
    refine w_bind ?_
    unfold g_X3_addStep
    refine w_gv (by omega) ?_
    ((first | ((with_reducible refine w_s hS ?_ ?_ ?_ (fun x hx => ?_)); (focus decide); (focus (first | decide | omega)); (focus (first | decide | (simp only [sl]; omega)))) | ((with_reducible refine w_m hS ?_ ?_ ?_ ?_ ?_ (fun x hx => ?_)); (focus decide); (focus (first | decide | omega)); (focus omega); (focus (first | decide | omega)); (focus (first | decide | (simp only [ml]; omega)))) | (with_reducible refine w_k (by simp (disch := omega) only [w32_id]; exact rfl) ?_; ((with_reducible refine w_s hS ?_ ?_ ?_ (fun x hx => ?_)); (focus decide); (focus (first | decide | omega)); (focus (first | decide | (simp only [sl]; omega))))) | (with_reducible refine w_k (by simp (disch := omega) only [w32_id]; exact rfl) ?_; ((with_reducible refine w_m hS ?_ ?_ ?_ ?_ ?_ (fun x hx => ?_)); (focus decide); (focus (first | decide | omega)); (focus omega); (focus (first | decide | omega)); (focus (first | decide | (simp only [ml]; omega)))))); (try simp (disch := omega) only [Int.reduceToNat, tn_c, tn8, tn8i, tn5, tn5z, tn6, tn6z, tn1, u3_ne, u3_eq, u3_ni, u3_nk, u3_ne, w14] at hx); subst hx)
    ((first | ((with_reducible refine w_s hS ?_ ?_ ?_ (fun x hx => ?_)); (focus decide); (focus (first | decide | omega)); (focus (first | decide | (simp only [sl]; omega)))) | ((with_reducible refine w_m hS ?_ ?_ ?_ ?_ ?_ (fun x hx => ?_)); (focus decide); (focus (first | decide | omega)); (focus omega); (focus (first | decide | omega)); (focus (first | decide | (simp only [ml]; omega)))) | (with_reducible refine w_k (by simp (disch := omega) only [w32_id]; exact rfl) ?_; ((with_reducible refine w_s hS ?_ ?_ ?_ (fun x hx => ?_)); (focus decide); (focus (first | decide | omega)); (focus (first | decide | (simp only [sl]; omega))))) | (with_reducible refine w_k (by simp (disch := omega) only [w32_id]; exact rfl) ?_; ((with_reducible refine w_m hS ?_ ?_ ?_ ?_ ?_ (fun x hx => ?_)); (focus decide); (focus (first | decide | omega)); (focus omega); (focus (first | decide | omega)); (focus (first | decide | (simp only [ml]; omega)))))); (try simp (disch := omega) only [Int.reduceToNat, tn_c, tn8, tn8i, tn5, tn5z, tn6, tn6z, tn1, u3_ne, u3_eq, u3_ni, u3_nk, u3_ne, w15] at hx); subst hx)
    refine w_ss hS (by decide) (by omega) (by simp only [sl]; omega) ?_
    rw [tn_c]
    ((first | ((with_reducible refine w_s hS ?_ ?_ ?_ (fun x hx => ?_)); (focus decide); (focus (first | decide | omega)); (focus (first | decide | (simp only [sl]; omega)))) | ((with_reducible refine w_m hS ?_ ?_ ?_ ?_ ?_ (fun x hx => ?_)); (focus decide); (focus (first | decide | omega)); (focus omega); (focus (first | decide | omega)); (focus (first | decide | (simp only [ml]; omega)))) | (with_reducible refine w_k (by simp (disch := omega) only [w32_id]; exact rfl) ?_; ((with_reducible refine w_s hS ?_ ?_ ?_ (fun x hx => ?_)); (focus decide); (focus (first | decide | omega)); (focus (first | decide | (simp only [sl]; omega))))) | (with_reducible refine w_k (by simp (disch := omega) only [w32_id]; exact rfl) ?_; ((with_reducible refine w_m hS ?_ ?_ ?_ ?_ ?_ (fun x hx => ?_)); (focus decide); (focus (first | decide | omega)); (focus omega); (focus (first | decide | omega)); (focus (first | decide | (simp only [ml]; omega)))))); (try simp (disch := omega) only [Int.reduceToNat, tn_c, tn8, tn8i, tn5, tn5z, tn6, tn6z, tn1, u3_ne, u3_eq, u3_ni, u3_nk, u3_ne, w15] at hx); subst hx)
    rw [w32_id (x := (o : Int) + 1) (by omega) (by omega)]
    refine w_ss hS (by decide) (by omega) (by decide) ?_
    ((first | ((with_reducible refine w_s hS ?_ ?_ ?_ (fun x hx => ?_)); (focus decide); (focus (first | decide | omega)); (focus (first | decide | (simp only [sl]; omega)))) | ((with_reducible refine w_m hS ?_ ?_ ?_ ?_ ?_ (fun x hx => ?_)); (focus decide); (focus (first | decide | omega)); (focus omega); (focus (first | decide | omega)); (focus (first | decide | (simp only [ml]; omega)))) | (with_reducible refine w_k (by simp (disch := omega) only [w32_id]; exact rfl) ?_; ((with_reducible refine w_s hS ?_ ?_ ?_ (fun x hx => ?_)); (focus decide); (focus (first | decide | omega)); (focus (first | decide | (simp only [sl]; omega))))) | (with_reducible refine w_k (by simp (disch := omega) only [w32_id]; exact rfl) ?_; ((with_reducible refine w_m hS ?_ ?_ ?_ ?_ ?_ (fun x hx => ?_)); (focus decide); (focus (first | decide | omega)); (focus omega); (focus (first | decide | omega)); (focus (first | decide | (simp only [ml]; omega)))))); (try simp (disch := omega) only [Int.reduceToNat, tn_c, tn8, tn8i, tn5, tn5z, tn6, tn6z, tn1, u3_ne, u3_eq, u3_ni, u3_nk, u3_eq] at hx); subst hx)
    rw [w32_id (by omega) (by omega), show (o : Int) + 1 - 1 = (o : Int) by omega]
    refine w_ret ?_
    refine w_ms hS (by decide) (by omega) (by omega) (by omega) (by decide) ?_
    simp only [tn_c, Int.reduceToNat]
    refine w_s hS (by decide) (by omega) (by decide) (fun y hy => ?_)
    simp only [Int.reduceToNat] at hy
    rw [u3_ne (by decide), u3_nk (by decide), u3_ne (by decide), u3_ne (by decide), w11] at hy
    subst hy
    rw [w32_id (by omega) (by omega)]
    refine w_ss hS (by decide) (by omega) (by decide) ?_
    refine w_s hS (by decide) (by omega) (by decide) (fun y hy => ?_)
    simp only [Int.reduceToNat] at hy
    rw [u3_eq] at hy
    subst hy
    rw [w32_id (by omega) (by omega), show (rC R 20 : Int) + 1 - 1 = (rC R 20 : Int) by omega]
    exact w_ret K
theorem cqs_f {q o : Nat} {kd ro mk so : Int} : (∀ r i k, ¬ ((20 ≤ r ∧ r ≤ 24 ∧ i = q) ∨ (r = 2 ∧ k = q) ∨ (r = 1 ∧ (k = 1 ∨ k = 5)) ∨ (r = 4 ∧ k = o)) → cqs V q o kd ro mk so r i k = V r i k) ∧ (cqs V q o kd ro mk so 20 q 0 = kd ∧ cqs V q o kd ro mk so 20 q 1 = ro ∧ cqs V q o kd ro mk so 20 q 2 = mk ∧ cqs V q o kd ro mk so 20 q 3 = so) ∧ (cqs V q o kd ro mk so 20 q 4 = (q : Int) ∧ cqs V q o kd ro mk so 20 q 6 = (q : Int) ∧ cqs V q o kd ro mk so 20 q 7 = (q : Int) ∧ cqs V q o kd ro mk so 20 q 8 = (q : Int)) ∧ (cqs V q o kd ro mk so 20 q 5 = 0 ∧ cqs V q o kd ro mk so 20 q 9 = 0 ∧ cqs V q o kd ro mk so 20 q 10 = -1 ∧ cqs V q o kd ro mk so 20 q 11 = 0) ∧ cqs V q o kd ro mk so 2 0 q = (q : Int) ∧ cqs V q o kd ro mk so 1 0 1 = (q : Int) + 1 ∧ (mk = 0 → cqs V q o kd ro mk so 1 0 5 = V 1 0 5 ∧ cqs V q o kd ro mk so 4 0 o = V 4 0 o) ∧ (mk ≠ 0 → cqs V q o kd ro mk so 1 0 5 = (o : Int) + 1 ∧ cqs V q o kd ro mk so 4 0 o = (q : Int) ∧ cqs V q o kd ro mk so 20 q 12 = (o : Int)) := by
  obtain ⟨f1, f2, f3⟩ := nqv_f (V := V) (q := q) (kd := kd) (ro := ro) (mk := mk) (so := so)
  have fo : ∀ r i k, (r < 20 ∨ 24 < r ∨ i ≠ q) → nqv V q kd ro mk so r i k = V r i k := fun r i k h => nqv_o h
  unfold cqs
  generalize nqv V q kd ro mk so = W at *
  by_cases z : mk = 0
  · rw [if_pos z]
    refine ⟨fun r i k h => ?_, ?_, ?_, ?_, ?_, ?_, fun _ => ⟨?_, ?_⟩, fun w => absurd z w⟩
    · have n1 : ¬ (r = 1 ∧ i = 0 ∧ k = 1) := fun w => h (Or.inr (Or.inr (Or.inl ⟨w.1, Or.inl w.2.2⟩)))
      have n2 : ¬ (r = 2 ∧ i = 0 ∧ k = q) := fun w => h (Or.inr (Or.inl ⟨w.1, w.2.2⟩))
      have no : r < 20 ∨ 24 < r ∨ i ≠ q := by
        have h0 : ¬ (20 ≤ r ∧ r ≤ 24 ∧ i = q) := fun w => h (Or.inl w)
        clear h f1 f2 f3 n1 n2
        omega
      exact ((if_neg n1).trans (if_neg n2)).trans (fo r i k no)
    · simp (disch := decide) only [u3_ne]; exact f1
    · simp (disch := decide) only [u3_ne]; exact f2
    · simp (disch := decide) only [u3_ne]; exact f3
    · rw [u3_ne (by decide), u3_eq]
    · rw [u3_eq]
    · rw [u3_nk (by decide), u3_ne (by decide)]; exact fo 1 _ _ (by omega)
    · rw [u3_ne (by decide), u3_ne (by decide)]; exact fo 4 _ _ (by omega)
  · rw [if_neg z]
    refine ⟨fun r i k h => ?_, ?_, ?_, ?_, ?_, ?_, fun w => absurd w z, fun _ => ⟨?_, ?_, ?_⟩⟩
    · have n1 : ¬ (r = 1 ∧ i = 0 ∧ k = 1) := fun w => h (Or.inr (Or.inr (Or.inl ⟨w.1, Or.inl w.2.2⟩)))
      have n2 : ¬ (r = 20 ∧ i = q ∧ k = 12) := fun w => h (Or.inl ⟨by rw [w.1]; decide, by rw [w.1]; decide, w.2.1⟩)
      have n3 : ¬ (r = 1 ∧ i = 0 ∧ k = 5) := fun w => h (Or.inr (Or.inr (Or.inl ⟨w.1, Or.inr w.2.2⟩)))
      have n4 : ¬ (r = 4 ∧ i = 0 ∧ k = o) := fun w => h (Or.inr (Or.inr (Or.inr ⟨w.1, w.2.2⟩)))
      have n5 : ¬ (r = 2 ∧ i = 0 ∧ k = q) := fun w => h (Or.inr (Or.inl ⟨w.1, w.2.2⟩))
      have no : r < 20 ∨ 24 < r ∨ i ≠ q := by
        have h0 : ¬ (20 ≤ r ∧ r ≤ 24 ∧ i = q) := fun w => h (Or.inl w)
        clear h f1 f2 f3 n1 n2 n3 n4 n5
        omega
      exact (((((if_neg n1).trans (if_neg n2)).trans (if_neg n3)).trans (if_neg n4)).trans (if_neg n5)).trans (fo r i k no)
    · simp (disch := decide) only [u3_ne, u3_nk]; exact f1
    · simp (disch := decide) only [u3_ne, u3_nk]; exact f2
    · simp (disch := decide) only [u3_ne, u3_nk]; exact f3
    · rw [u3_ne (by decide), u3_ne (by decide), u3_ne (by decide), u3_ne (by decide), u3_eq]
    · rw [u3_eq]
    · rw [u3_nk (by decide), u3_ne (by decide), u3_eq]
    · rw [u3_ne (by decide), u3_ne (by decide), u3_ne (by decide), u3_eq]
    · rw [u3_ne (by decide), u3_eq]
end NewQ
