section CShown
variable {V : GV} {R : GR} {Q : Int → GS → Prop} {m n : Nat} {two : Int} {hh ct : Nat → Int}
def LCH : PL' := [(12, none), (7, some 8)]
theorem tb_pow {j p : Nat} : (2 ^ j).testBit p = true ↔ p = j := by
  rw [Nat.testBit_two_pow, decide_eq_true_eq]
  exact ⟨fun h => h.symm, fun h => h.symm⟩
theorem w_hold {i j : Nat} {f : Int × GS → GO} (hS : SH R) (hF : RF V R) (ht : tabh V m n two hh) (hi : i < m) (hj : j < n) (h0 : hh (i * n + j) = 0)
  (K : ∀ V', same V V' LCH → tabh V' m n two (updx hh (i * n + j) 1) → Wp (f (0, (V', R))) Q) : Wp ((g_X7_hold 0 (i : Int) (j : Int) (V, R)).bind f) Q := by
  obtain ⟨⟨m1, m9, n1, n9⟩, ⟨e0, e1, e2, h36⟩, c3, c4, e8⟩ := id ht
  have p9 := pow_le9 n (by omega)
  have mn := mn_lt m9 n9 hi hj
  obtain ⟨ei, li, bi⟩ := tab_row ht hi
  have pj : 2 ^ j < 2 ^ n := Nat.pow_lt_pow_right (by decide) hj
  have b8 := wsm_nn c3
  refine w_bind ?_
  unfold g_X7_hold
  refine w_gv (by omega) ?_
  ((first | ((with_reducible refine w_s hS ?_ ?_ ?_ (fun x hx => ?_)); (focus decide); (focus (first | decide | omega)); (focus (first | decide | (simp only [sl]; omega)))) | ((with_reducible refine w_m hS ?_ ?_ ?_ ?_ ?_ (fun x hx => ?_)); (focus decide); (focus (first | decide | omega)); (focus omega); (focus (first | decide | omega)); (focus (first | decide | (simp only [ml]; omega)))) | (with_reducible refine w_k (by simp (disch := omega) only [w32_id]; exact rfl) ?_; ((with_reducible refine w_s hS ?_ ?_ ?_ (fun x hx => ?_)); (focus decide); (focus (first | decide | omega)); (focus (first | decide | (simp only [sl]; omega))))) | (with_reducible refine w_k (by simp (disch := omega) only [w32_id]; exact rfl) ?_; ((with_reducible refine w_m hS ?_ ?_ ?_ ?_ ?_ (fun x hx => ?_)); (focus decide); (focus (first | decide | omega)); (focus omega); (focus (first | decide | omega)); (focus (first | decide | (simp only [ml]; omega)))))); (try simp (disch := omega) only [Int.reduceToNat, tn_c, tn8, tn8i, tn5, tn5z, tn6, tn6z, tn1, u3_ne, u3_eq, u3_ni, u3_nk, f_7_7 hF] at hx); subst hx)
  ((first | ((with_reducible refine w_s hS ?_ ?_ ?_ (fun x hx => ?_)); (focus decide); (focus (first | decide | omega)); (focus (first | decide | (simp only [sl]; omega)))) | ((with_reducible refine w_m hS ?_ ?_ ?_ ?_ ?_ (fun x hx => ?_)); (focus decide); (focus (first | decide | omega)); (focus omega); (focus (first | decide | omega)); (focus (first | decide | (simp only [ml]; omega)))) | (with_reducible refine w_k (by simp (disch := omega) only [w32_id]; exact rfl) ?_; ((with_reducible refine w_s hS ?_ ?_ ?_ (fun x hx => ?_)); (focus decide); (focus (first | decide | omega)); (focus (first | decide | (simp only [sl]; omega))))) | (with_reducible refine w_k (by simp (disch := omega) only [w32_id]; exact rfl) ?_; ((with_reducible refine w_m hS ?_ ?_ ?_ ?_ ?_ (fun x hx => ?_)); (focus decide); (focus (first | decide | omega)); (focus omega); (focus (first | decide | omega)); (focus (first | decide | (simp only [ml]; omega)))))); (try simp (disch := omega) only [Int.reduceToNat, tn_c, tn8, tn8i, tn5, tn5z, tn6, tn6z, tn1, u3_ne, u3_eq, u3_ni, u3_nk, ei] at hx); subst hx)
  rw [i_shl_nat j (by omega), i_or_nat (by omega) (by omega)]
  refine w_ss hS (by decide) (by omega) (by simp only [sl]; omega) ?_
  ((first | ((with_reducible refine w_s hS ?_ ?_ ?_ (fun x hx => ?_)); (focus decide); (focus (first | decide | omega)); (focus (first | decide | (simp only [sl]; omega)))) | ((with_reducible refine w_m hS ?_ ?_ ?_ ?_ ?_ (fun x hx => ?_)); (focus decide); (focus (first | decide | omega)); (focus omega); (focus (first | decide | omega)); (focus (first | decide | (simp only [ml]; omega)))) | (with_reducible refine w_k (by simp (disch := omega) only [w32_id]; exact rfl) ?_; ((with_reducible refine w_s hS ?_ ?_ ?_ (fun x hx => ?_)); (focus decide); (focus (first | decide | omega)); (focus (first | decide | (simp only [sl]; omega))))) | (with_reducible refine w_k (by simp (disch := omega) only [w32_id]; exact rfl) ?_; ((with_reducible refine w_m hS ?_ ?_ ?_ ?_ ?_ (fun x hx => ?_)); (focus decide); (focus (first | decide | omega)); (focus omega); (focus (first | decide | omega)); (focus (first | decide | (simp only [ml]; omega)))))); (try simp (disch := omega) only [Int.reduceToNat, tn_c, tn8, tn8i, tn5, tn5z, tn6, tn6z, tn1, u3_ne, u3_eq, u3_ni, u3_nk, e8] at hx); subst hx)
  refine w_ss hS (by decide) (by omega) (by decide) ?_
  rw [w32_id (by omega) (by omega), tn_c]
  generalize hW : u3 (u3 V 12 0 i ((rwb V i ||| 2 ^ j : Nat) : Int)) 7 0 (8 : Int).toNat (wsm hh (m * n) + 1) = W
  have sm : same V W LCH := by
    rw [← hW]
    exact ((same.rf V _).u ⟨(12, none), by decide, rfl, Or.inl rfl⟩).u ⟨(7, some 8), by decide, rfl, Or.inr rfl⟩
  refine w_ret (K W sm ⟨⟨m1, m9, n1, n9⟩, ⟨(sm.f 7 0 rfl 0).trans e0, (sm.f 7 1 rfl 0).trans e1, (sm.f 7 2 rfl 0).trans e2, h36⟩, fun k hk => ?_, fun a ha => ?_, ?_⟩)
  · unfold updx
    by_cases e : k = i * n + j
    · rw [if_pos e]; exact Or.inr rfl
    · rw [if_neg e]; exact c3 k hk
  · by_cases e : a = i
    · subst e
      have ew : W 12 0 a = ((rwb V a ||| 2 ^ j : Nat) : Int) := by rw [← hW, u3_ne (by decide), u3_eq]
      have lw : rwb V a ||| 2 ^ j < 2 ^ n := Nat.or_lt_two_pow li pj
      rw [ew]
      refine ⟨by omega, by omega, fun b hb => ?_⟩
      rw [bt_tb, or_t, tb_pow, bi b]
      unfold updx
      by_cases e : b = j
      · subst e; rw [if_pos rfl]; exact ⟨fun _ => rfl, fun _ => Or.inr rfl⟩
      · rw [if_neg (by omega)]
        exact ⟨fun z => z.elim (fun y => y.2) (fun y => absurd y e), fun z => Or.inl ⟨hb, z⟩⟩
    · have ew : W 12 0 a = V 12 0 a := by rw [← hW, u3_ne (by decide), u3_nk e]
      rw [ew]
      refine ⟨(c4 a ha).1, (c4 a ha).2.1, fun b hb => ?_⟩
      unfold updx
      rw [if_neg (fun z => e (ij_un hb hj z).1)]
      exact (c4 a ha).2.2 b hb
  · rw [wsm_upd mn.1 h0, ← hW]; exact u3_eq
theorem tabh.cg {V' : GV} {L : PL'} (h : tabh V m n two hh) (sm : same V V' L) (hd : disP L [(7, some 0), (7, some 1), (7, some 2), (7, some 8), (12, none)] = true) : tabh V' m n two hh := by
  obtain ⟨a, ⟨b1, b2, b3, b4⟩, c, d, e⟩ := h
  refine ⟨a, ⟨(sm.at hd ⟨(7, some 0), by decide, rfl, Or.inr rfl⟩).trans b1, (sm.at hd ⟨(7, some 1), by decide, rfl, Or.inr rfl⟩).trans b2, (sm.at hd ⟨(7, some 2), by decide, rfl, Or.inr rfl⟩).trans b3, b4⟩, c, fun i hi => ?_, (sm.at hd ⟨(7, some 8), by decide, rfl, Or.inr rfl⟩).trans e⟩
  rw [sm.at hd ⟨(12, none), by decide, rfl, Or.inl rfl⟩]; exact d i hi
theorem w_holdBelow {th : Int} {f : Int × GS → GO} (hS : SH R) (hF : RF V R) (ht : tabh V m n two hh) (h8 : ∀ k, k < m * n → V 8 0 k = ct k)
  (K : ∀ V', same V V' LCH → tabh V' m n two (hb ct th (m * n)) → Wp (f (0, (V', R))) Q) : Wp ((g_X7_holdBelow 0 th (V, R)).bind f) Q := by
  obtain ⟨⟨m1, m9, n1, n9⟩, ⟨e0, e1, e2, h36⟩, _⟩ := id ht
  have mc := mn_le m9 n9
  have pn : 0 < 2 ^ n := Nat.two_pow_pos n
  refine w_bind ?_
  unfold g_X7_holdBelow
  refine w_gv (by omega) ?_
  refine w_holdNone hS hF (fun V1 sm1 d8 d12 => ?_)
  have z0 : wsm (hb ct th 0) (m * n) = 0 := by
    have : ∀ k, wsm (hb ct th 0) k = 0 := by
      intro k
      induction k with
      | zero => rfl
      | succ k ih => unfold wsm; rw [ih]; unfold hb; rw [if_neg (fun z => absurd z.1 (by omega))]; rfl
    exact this _
  have t1 : tabh V1 m n two (hb ct th 0) := by
    refine ⟨⟨m1, m9, n1, n9⟩, ⟨(sm1.f 7 0 rfl 0).trans e0, (sm1.f 7 1 rfl 0).trans e1, (sm1.f 7 2 rfl 0).trans e2, h36⟩, fun k _ => hb_01, fun a ha => ?_, by rw [z0]; exact d8⟩
    rw [d12]
    refine ⟨by omega, by omega, fun b _ => ⟨fun z => absurd z bt0, fun z => ?_⟩⟩
    unfold hb at z
    rw [if_neg (fun z => absurd z.1 (by omega))] at z
    exact absurd z (by decide)
  dsimp only
  refine w_for m (fun i G => ∃ W, G = (W, R) ∧ same V W LCH ∧ tabh W m n two (hb ct th (i * n))) ?_ (i := 0) (by omega) (by omega) ⟨V1, rfl, sm1.mono (by decide), by rw [Nat.zero_mul]; exact t1⟩
  rintro i G hi ⟨W, rfl, sm, tw⟩ self ih
  unfold glX7_holdBelow_6
  ((first | ((with_reducible refine w_s hS ?_ ?_ ?_ (fun x hx => ?_)); (focus decide); (focus (first | decide | omega)); (focus (first | decide | (simp only [sl]; omega)))) | ((with_reducible refine w_m hS ?_ ?_ ?_ ?_ ?_ (fun x hx => ?_)); (focus decide); (focus (first | decide | omega)); (focus omega); (focus (first | decide | omega)); (focus (first | decide | (simp only [ml]; omega)))) | (with_reducible refine w_k (by simp (disch := omega) only [w32_id]; exact rfl) ?_; ((with_reducible refine w_s hS ?_ ?_ ?_ (fun x hx => ?_)); (focus decide); (focus (first | decide | omega)); (focus (first | decide | (simp only [sl]; omega))))) | (with_reducible refine w_k (by simp (disch := omega) only [w32_id]; exact rfl) ?_; ((with_reducible refine w_m hS ?_ ?_ ?_ ?_ ?_ (fun x hx => ?_)); (focus decide); (focus (first | decide | omega)); (focus omega); (focus (first | decide | omega)); (focus (first | decide | (simp only [ml]; omega)))))); (try simp (disch := omega) only [Int.reduceToNat, tn_c, tn8, tn8i, tn5, tn5z, tn6, tn6z, tn1, u3_ne, u3_eq, u3_ni, u3_nk, tw.2.1.1] at hx); subst hx)
  refine w_ite (fun hx => w_ret ?_) (fun hx => ?_)
  · have ei : i = m := by omega
    subst ei
    exact K W sm tw
  · have him : i < m := by omega
    refine w_for n (fun j G => ∃ W, G = (W, R) ∧ same V W LCH ∧ tabh W m n two (hb ct th (i * n + j))) ?_ (i := 0) (by omega) (by omega) ⟨W, rfl, sm, tw⟩
    rintro j G hj ⟨W, rfl, sm, tw⟩ self2 ih2
    have hFW := cg_RF sm rfl hF
    unfold glX7_holdBelow_16 gjX7_holdBelow_54
    ((first | ((with_reducible refine w_s hS ?_ ?_ ?_ (fun x hx => ?_)); (focus decide); (focus (first | decide | omega)); (focus (first | decide | (simp only [sl]; omega)))) | ((with_reducible refine w_m hS ?_ ?_ ?_ ?_ ?_ (fun x hx => ?_)); (focus decide); (focus (first | decide | omega)); (focus omega); (focus (first | decide | omega)); (focus (first | decide | (simp only [ml]; omega)))) | (with_reducible refine w_k (by simp (disch := omega) only [w32_id]; exact rfl) ?_; ((with_reducible refine w_s hS ?_ ?_ ?_ (fun x hx => ?_)); (focus decide); (focus (first | decide | omega)); (focus (first | decide | (simp only [sl]; omega))))) | (with_reducible refine w_k (by simp (disch := omega) only [w32_id]; exact rfl) ?_; ((with_reducible refine w_m hS ?_ ?_ ?_ ?_ ?_ (fun x hx => ?_)); (focus decide); (focus (first | decide | omega)); (focus omega); (focus (first | decide | omega)); (focus (first | decide | (simp only [ml]; omega)))))); (try simp (disch := omega) only [Int.reduceToNat, tn_c, tn8, tn8i, tn5, tn5z, tn6, tn6z, tn1, u3_ne, u3_eq, u3_ni, u3_nk, tw.2.1.2.1] at hx); subst hx)
    refine w_ite (fun hy => ?_) (fun hy => ?_)
    · have ej : j = n := by omega
      subst ej
      refine ih _ him ⟨W, rfl, sm, ?_⟩
      rw [Nat.add_mul, Nat.one_mul]; exact tw
    · have hjn : j < n := by omega
      have mn := mn_lt m9 n9 him hjn
      ((first | ((with_reducible refine w_s hS ?_ ?_ ?_ (fun x hx => ?_)); (focus decide); (focus (first | decide | omega)); (focus (first | decide | (simp only [sl]; omega)))) | ((with_reducible refine w_m hS ?_ ?_ ?_ ?_ ?_ (fun x hx => ?_)); (focus decide); (focus (first | decide | omega)); (focus omega); (focus (first | decide | omega)); (focus (first | decide | (simp only [ml]; omega)))) | (with_reducible refine w_k (by simp (disch := omega) only [w32_id]; exact rfl) ?_; ((with_reducible refine w_s hS ?_ ?_ ?_ (fun x hx => ?_)); (focus decide); (focus (first | decide | omega)); (focus (first | decide | (simp only [sl]; omega))))) | (with_reducible refine w_k (by simp (disch := omega) only [w32_id]; exact rfl) ?_; ((with_reducible refine w_m hS ?_ ?_ ?_ ?_ ?_ (fun x hx => ?_)); (focus decide); (focus (first | decide | omega)); (focus omega); (focus (first | decide | omega)); (focus (first | decide | (simp only [ml]; omega)))))); (try simp (disch := omega) only [Int.reduceToNat, tn_c, tn8, tn8i, tn5, tn5z, tn6, tn6z, tn1, u3_ne, u3_eq, u3_ni, u3_nk, f_7_3 hFW] at hx); subst hx)
      refine w_atn hS tw.2.1.2.1 (by omega) ?_
      dsimp only
      ((first | ((with_reducible refine w_s hS ?_ ?_ ?_ (fun x hx => ?_)); (focus decide); (focus (first | decide | omega)); (focus (first | decide | (simp only [sl]; omega)))) | ((with_reducible refine w_m hS ?_ ?_ ?_ ?_ ?_ (fun x hx => ?_)); (focus decide); (focus (first | decide | omega)); (focus omega); (focus (first | decide | omega)); (focus (first | decide | (simp only [ml]; omega)))) | (with_reducible refine w_k (by simp (disch := omega) only [w32_id]; exact rfl) ?_; ((with_reducible refine w_s hS ?_ ?_ ?_ (fun x hx => ?_)); (focus decide); (focus (first | decide | omega)); (focus (first | decide | (simp only [sl]; omega))))) | (with_reducible refine w_k (by simp (disch := omega) only [w32_id]; exact rfl) ?_; ((with_reducible refine w_m hS ?_ ?_ ?_ ?_ ?_ (fun x hx => ?_)); (focus decide); (focus (first | decide | omega)); (focus omega); (focus (first | decide | omega)); (focus (first | decide | (simp only [ml]; omega)))))); (try simp (disch := omega) only [Int.reduceToNat, tn_c, tn8, tn8i, tn5, tn5z, tn6, tn6z, tn1, u3_ne, u3_eq, u3_ni, u3_nk, tn_c, sm.r 8 rfl, h8 _ mn.1] at hx); subst hx)
      refine w_ite (fun z => ?_) (fun z => w_ite (fun y => ?_) (fun y => ?_))
      · refine ih2 _ hjn ⟨W, rfl, sm, ?_⟩
        rw [← Nat.add_assoc, hb_s0 (by omega)]; exact tw
      · refine ih2 _ hjn ⟨W, rfl, sm, ?_⟩
        rw [← Nat.add_assoc, hb_s0 (by omega)]; exact tw
      · refine w_hold hS hFW tw him hjn hb_p (fun W' sm' tw' => ?_)
        refine ih2 _ hjn ⟨W', rfl, sm.tr sm', ?_⟩
        rw [← Nat.add_assoc, hb_s1 (by omega)]; exact tw'
theorem w_leastOpen {fr tr fc tc : Nat} {f : Int × GS → GO} (hS : SH R) (hF : RF V R) (ht : tabh V m n two hh) (h8 : ∀ k, k < m * n → V 8 0 k = ct k) (hr : fr ≤ tr) (hr' : tr ≤ m) (hc : fc ≤ tc) (hc' : tc ≤ n)
  (K : ∀ x, lo hh ct (m * n) (fun c => fr ≤ c / n ∧ c / n < tr ∧ fc ≤ c % n ∧ c % n < tc) x → Wp (f (x, (V, R))) Q) : Wp ((g_X7_leastOpen 0 (fr : Int) (tr : Int) (fc : Int) (tc : Int) (V, R)).bind f) Q := by
  obtain ⟨⟨m1, m9, n1, n9⟩, ⟨e0, e1, e2, h36⟩, c3, _⟩ := id ht
  have mc := mn_le m9 n9
  have dv : ∀ {a b : Nat}, b < n → (a * n + b) / n = a ∧ (a * n + b) % n = b := by
    intro a b hb
    rw [Nat.mul_comm, Nat.mul_add_div (by omega), Nat.div_eq_of_lt hb, Nat.mul_add_mod, Nat.mod_eq_of_lt hb]
    exact ⟨rfl, rfl⟩
  have dm : ∀ c : Nat, c / n * n + c % n = c ∧ c % n < n := fun c => ⟨by rw [Nat.mul_comm]; exact Nat.div_add_mod c n, Nat.mod_lt _ (by omega)⟩
  refine w_bind ?_
  unfold g_X7_leastOpen
  refine w_gv (by omega) ?_
  have st0 : ∀ c, c < fr * n → ¬ (fr ≤ c / n ∧ c / n < tr ∧ fc ≤ c % n ∧ c % n < tc) := by
    intro c hcl hp
    have : c / n < fr := (Nat.div_lt_iff_lt_mul (by omega)).mpr hcl
    omega
  refine w_for2 tr (fun i a G => G = (V, R) ∧ fr ≤ i ∧ lo hh ct (i * n) (fun c => fr ≤ c / n ∧ c / n < tr ∧ fc ≤ c % n ∧ c % n < tc) a) ?_ (i := fr) hr (by omega) ⟨rfl, Nat.le_refl _, lo_0 st0⟩
  rintro i a G hi ⟨rfl, hfi, hl⟩ self ih
  unfold glX7_leastOpen_6
  refine w_ite (fun hx => w_ret (K a ?_)) (fun hx => ?_)
  · have ei : i = tr := by omega
    subst ei
    refine lo_jump (Nat.mul_le_mul_right n hr') (fun c h1 h2 hp => ?_) hl
    have : c < i * n := (Nat.div_lt_iff_lt_mul (by omega)).mp hp.2.1
    omega
  · have hit : i < tr := by omega
    have st1 : ∀ c, i * n ≤ c → c < i * n + fc → ¬ (fr ≤ c / n ∧ c / n < tr ∧ fc ≤ c % n ∧ c % n < tc) := by
      intro c h1 h2 hp
      obtain ⟨d1, d2⟩ := dm c
      have d3 : i ≤ c / n := (Nat.le_div_iff_mul_le (by omega)).mpr h1
      have d4 : i * n ≤ c / n * n := Nat.mul_le_mul_right n d3
      omega
    refine w_for2 tc (fun j a G => G = (V, R) ∧ fc ≤ j ∧ lo hh ct (i * n + j) (fun c => fr ≤ c / n ∧ c / n < tr ∧ fc ≤ c % n ∧ c % n < tc) a) ?_ (i := fc) hc (by omega) ⟨rfl, Nat.le_refl _, lo_jump (by omega) st1 hl⟩
    rintro j a G hj ⟨rfl, hfj, hl2⟩ self2 ih2
    unfold glX7_leastOpen_15 gjX7_leastOpen_65 gjX7_leastOpen_75
    refine w_ite (fun hy => ?_) (fun hy => ?_)
    · have ej : j = tc := by omega
      subst ej
      refine ih _ _ hit ⟨rfl, by omega, ?_⟩
      refine lo_jump (by rw [Nat.add_mul]; omega) (fun c h1 h2 hp => ?_) hl2
      obtain ⟨d1, d2⟩ := dm c
      have d3 : i ≤ c / n := (Nat.le_div_iff_mul_le (by omega)).mpr (by omega)
      have d4 : c / n < i + 1 := (Nat.div_lt_iff_lt_mul (by omega)).mpr h2
      have d5 : c / n = i := by omega
      rw [d5] at d1
      omega
    · have hjt : j < tc := by omega
      have hjn : j < n := by omega
      have him : i < m := by omega
      have mn := mn_lt m9 n9 him hjn
      have pp : fr ≤ (i * n + j) / n ∧ (i * n + j) / n < tr ∧ fc ≤ (i * n + j) % n ∧ (i * n + j) % n < tc := by
        rw [(dv hjn).1, (dv hjn).2]; exact ⟨hfi, hit, hfj, hjt⟩
      refine w_isHeldh hS hF ht him hjn (fun h1 => ?_) (fun h0 => ?_)
      · refine w_ite (fun z => absurd (show (1 : Int) = 0 from z) (by decide)) (fun _ => ih2 _ _ hjt ⟨rfl, by omega, ?_⟩)
        exact lo_skip (p := i * n + j) (Or.inr (by rw [h1]; decide)) hl2
      · refine w_ite (fun _ => ?_) (fun z => absurd rfl z)
        have new : (a = -1 ∨ ∃ c : Nat, a = (c : Int) ∧ ct (i * n + j) < ct c) → Wp ((g_X7_at 0 (i : Int) (j : Int) (V, R)).bind fun z1 => self2 z1.1 (w32 ((j : Int) + 1)) z1.2) (fun r G => Wp (f (r, G)) Q) := by
          intro ha
          refine w_atn hS e1 (by omega) ?_
          exact ih2 _ _ hjt ⟨rfl, by omega, lo_new pp h0 ha hl2⟩
        refine w_ite (fun z => new (Or.inl z)) (fun z => ?_)
        have al := lo_lt hl2
        obtain ⟨c, ec⟩ : ∃ c : Nat, a = (c : Int) := n_pos (by omega)
        subst ec
        dsimp only
        ((first | ((with_reducible refine w_s hS ?_ ?_ ?_ (fun x hx => ?_)); (focus decide); (focus (first | decide | omega)); (focus (first | decide | (simp only [sl]; omega)))) | ((with_reducible refine w_m hS ?_ ?_ ?_ ?_ ?_ (fun x hx => ?_)); (focus decide); (focus (first | decide | omega)); (focus omega); (focus (first | decide | omega)); (focus (first | decide | (simp only [ml]; omega)))) | (with_reducible refine w_k (by simp (disch := omega) only [w32_id]; exact rfl) ?_; ((with_reducible refine w_s hS ?_ ?_ ?_ (fun x hx => ?_)); (focus decide); (focus (first | decide | omega)); (focus (first | decide | (simp only [sl]; omega))))) | (with_reducible refine w_k (by simp (disch := omega) only [w32_id]; exact rfl) ?_; ((with_reducible refine w_m hS ?_ ?_ ?_ ?_ ?_ (fun x hx => ?_)); (focus decide); (focus (first | decide | omega)); (focus omega); (focus (first | decide | omega)); (focus (first | decide | (simp only [ml]; omega)))))); (try simp (disch := omega) only [Int.reduceToNat, tn_c, tn8, tn8i, tn5, tn5z, tn6, tn6z, tn1, u3_ne, u3_eq, u3_ni, u3_nk, f_7_3 hF] at hx); subst hx)
        refine w_atn hS e1 (by omega) ?_
        dsimp only
        ((first | ((with_reducible refine w_s hS ?_ ?_ ?_ (fun x hx => ?_)); (focus decide); (focus (first | decide | omega)); (focus (first | decide | (simp only [sl]; omega)))) | ((with_reducible refine w_m hS ?_ ?_ ?_ ?_ ?_ (fun x hx => ?_)); (focus decide); (focus (first | decide | omega)); (focus omega); (focus (first | decide | omega)); (focus (first | decide | (simp only [ml]; omega)))) | (with_reducible refine w_k (by simp (disch := omega) only [w32_id]; exact rfl) ?_; ((with_reducible refine w_s hS ?_ ?_ ?_ (fun x hx => ?_)); (focus decide); (focus (first | decide | omega)); (focus (first | decide | (simp only [sl]; omega))))) | (with_reducible refine w_k (by simp (disch := omega) only [w32_id]; exact rfl) ?_; ((with_reducible refine w_m hS ?_ ?_ ?_ ?_ ?_ (fun x hx => ?_)); (focus decide); (focus (first | decide | omega)); (focus omega); (focus (first | decide | omega)); (focus (first | decide | (simp only [ml]; omega)))))); (try simp (disch := omega) only [Int.reduceToNat, tn_c, tn8, tn8i, tn5, tn5z, tn6, tn6z, tn1, u3_ne, u3_eq, u3_ni, u3_nk, tn_c, h8 _ mn.1] at hx); subst hx)
        ((first | ((with_reducible refine w_s hS ?_ ?_ ?_ (fun x hx => ?_)); (focus decide); (focus (first | decide | omega)); (focus (first | decide | (simp only [sl]; omega)))) | ((with_reducible refine w_m hS ?_ ?_ ?_ ?_ ?_ (fun x hx => ?_)); (focus decide); (focus (first | decide | omega)); (focus omega); (focus (first | decide | omega)); (focus (first | decide | (simp only [ml]; omega)))) | (with_reducible refine w_k (by simp (disch := omega) only [w32_id]; exact rfl) ?_; ((with_reducible refine w_s hS ?_ ?_ ?_ (fun x hx => ?_)); (focus decide); (focus (first | decide | omega)); (focus (first | decide | (simp only [sl]; omega))))) | (with_reducible refine w_k (by simp (disch := omega) only [w32_id]; exact rfl) ?_; ((with_reducible refine w_m hS ?_ ?_ ?_ ?_ ?_ (fun x hx => ?_)); (focus decide); (focus (first | decide | omega)); (focus omega); (focus (first | decide | omega)); (focus (first | decide | (simp only [ml]; omega)))))); (try simp (disch := omega) only [Int.reduceToNat, tn_c, tn8, tn8i, tn5, tn5z, tn6, tn6z, tn1, u3_ne, u3_eq, u3_ni, u3_nk, f_7_3 hF] at hx); subst hx)
        ((first | ((with_reducible refine w_s hS ?_ ?_ ?_ (fun x hx => ?_)); (focus decide); (focus (first | decide | omega)); (focus (first | decide | (simp only [sl]; omega)))) | ((with_reducible refine w_m hS ?_ ?_ ?_ ?_ ?_ (fun x hx => ?_)); (focus decide); (focus (first | decide | omega)); (focus omega); (focus (first | decide | omega)); (focus (first | decide | (simp only [ml]; omega)))) | (with_reducible refine w_k (by simp (disch := omega) only [w32_id]; exact rfl) ?_; ((with_reducible refine w_s hS ?_ ?_ ?_ (fun x hx => ?_)); (focus decide); (focus (first | decide | omega)); (focus (first | decide | (simp only [sl]; omega))))) | (with_reducible refine w_k (by simp (disch := omega) only [w32_id]; exact rfl) ?_; ((with_reducible refine w_m hS ?_ ?_ ?_ ?_ ?_ (fun x hx => ?_)); (focus decide); (focus (first | decide | omega)); (focus omega); (focus (first | decide | omega)); (focus (first | decide | (simp only [ml]; omega)))))); (try simp (disch := omega) only [Int.reduceToNat, tn_c, tn8, tn8i, tn5, tn5z, tn6, tn6z, tn1, u3_ne, u3_eq, u3_ni, u3_nk, tn_c, h8 c (by omega)] at hx); subst hx)
        refine w_ite (fun y => ?_) (fun y => new (Or.inr ⟨c, rfl, by omega⟩))
        exact ih2 _ _ hjt ⟨rfl, by omega, lo_keep rfl (by omega) hl2⟩
theorem w_cover {i j : Nat} {f : Int × GS → GO} (hS : SH R) (hF : RF V R) (ht : tabh V m n two hh) (h8 : ∀ k, k < m * n → V 8 0 k = ct k) (hi : i < m) (hj : j < n)
  (K : ∀ x, cov hh ct m n i j x → Wp (f (x, (V, R))) Q) : Wp ((g_X7_coverFor 0 (i : Int) (j : Int) (V, R)).bind f) Q := by
  obtain ⟨⟨m1, m9, n1, n9⟩, ⟨e0, e1, e2, h36⟩, c3, _⟩ := id ht
  have ml : ∀ c : Nat, c % n < n := fun c => Nat.mod_lt _ (by omega)
  have dl : ∀ c : Nat, c < m * n → c / n < m := fun c hc => div_lt n1 hc
  refine w_bind ?_
  unfold g_X7_coverFor gjX7_coverFor_33
  refine w_gv (by omega) ?_
  ((first | ((with_reducible refine w_s hS ?_ ?_ ?_ (fun x hx => ?_)); (focus decide); (focus (first | decide | omega)); (focus (first | decide | (simp only [sl]; omega)))) | ((with_reducible refine w_m hS ?_ ?_ ?_ ?_ ?_ (fun x hx => ?_)); (focus decide); (focus (first | decide | omega)); (focus omega); (focus (first | decide | omega)); (focus (first | decide | (simp only [ml]; omega)))) | (with_reducible refine w_k (by simp (disch := omega) only [w32_id]; exact rfl) ?_; ((with_reducible refine w_s hS ?_ ?_ ?_ (fun x hx => ?_)); (focus decide); (focus (first | decide | omega)); (focus (first | decide | (simp only [sl]; omega))))) | (with_reducible refine w_k (by simp (disch := omega) only [w32_id]; exact rfl) ?_; ((with_reducible refine w_m hS ?_ ?_ ?_ ?_ ?_ (fun x hx => ?_)); (focus decide); (focus (first | decide | omega)); (focus omega); (focus (first | decide | omega)); (focus (first | decide | (simp only [ml]; omega)))))); (try simp (disch := omega) only [Int.reduceToNat, tn_c, tn8, tn8i, tn5, tn5z, tn6, tn6z, tn1, u3_ne, u3_eq, u3_ni, u3_nk, e1] at hx); subst hx)
  rw [ws1 (i := i) (by omega)]
  refine w_leastOpen (fr := i) (tr := i + 1) (fc := 0) (tc := n) hS hF ht h8 (by omega) (by omega) (by omega) (by omega) (fun x0 l0 => ?_)
  have l0 : lo hh ct (m * n) (fun c => c / n = i) x0 := lo_cg (fun _ _ => rfl) (fun _ _ => rfl) (fun c _ => ⟨fun z => by
    have z : c / n = i := z
    exact ⟨by omega, by omega, Nat.zero_le _, ml c⟩, fun z => by
    have z : i ≤ c / n ∧ c / n < i + 1 ∧ 0 ≤ c % n ∧ c % n < n := z
    show c / n = i
    omega⟩) l0
  dsimp only
  refine w_ite (fun z => ?_) (fun z => ?_)
  · exact w_ite (fun _ => w_ret (K x0 ⟨x0, l0, Or.inl ⟨z, rfl⟩⟩)) (fun y => absurd z y)
  · ((first | ((with_reducible refine w_s hS ?_ ?_ ?_ (fun x hx => ?_)); (focus decide); (focus (first | decide | omega)); (focus (first | decide | (simp only [sl]; omega)))) | ((with_reducible refine w_m hS ?_ ?_ ?_ ?_ ?_ (fun x hx => ?_)); (focus decide); (focus (first | decide | omega)); (focus omega); (focus (first | decide | omega)); (focus (first | decide | (simp only [ml]; omega)))) | (with_reducible refine w_k (by simp (disch := omega) only [w32_id]; exact rfl) ?_; ((with_reducible refine w_s hS ?_ ?_ ?_ (fun x hx => ?_)); (focus decide); (focus (first | decide | omega)); (focus (first | decide | (simp only [sl]; omega))))) | (with_reducible refine w_k (by simp (disch := omega) only [w32_id]; exact rfl) ?_; ((with_reducible refine w_m hS ?_ ?_ ?_ ?_ ?_ (fun x hx => ?_)); (focus decide); (focus (first | decide | omega)); (focus omega); (focus (first | decide | omega)); (focus (first | decide | (simp only [ml]; omega)))))); (try simp (disch := omega) only [Int.reduceToNat, tn_c, tn8, tn8i, tn5, tn5z, tn6, tn6z, tn1, u3_ne, u3_eq, u3_ni, u3_nk, e0] at hx); subst hx)
    rw [ws1 (i := j) (by omega)]
    refine w_leastOpen (fr := 0) (tr := m) (fc := j) (tc := j + 1) hS hF ht h8 (by omega) (by omega) (by omega) (by omega) (fun x1 l1 => ?_)
    have l1 : lo hh ct (m * n) (fun c => c % n = j) x1 := lo_cg (fun _ _ => rfl) (fun _ _ => rfl) (fun c hc => ⟨fun z => by
      have z : c % n = j := z
      exact ⟨Nat.zero_le _, dl c hc, by omega, by omega⟩, fun z => by
      have z : 0 ≤ c / n ∧ c / n < m ∧ j ≤ c % n ∧ c % n < j + 1 := z
      show c % n = j
      omega⟩) l1
    dsimp only
    refine w_ite (fun y => w_ret (K x1 ⟨x0, l0, Or.inr ⟨by omega, x1, l1, Or.inl ⟨y, rfl⟩⟩⟩)) (fun y => ?_)
    ((first | ((with_reducible refine w_s hS ?_ ?_ ?_ (fun x hx => ?_)); (focus decide); (focus (first | decide | omega)); (focus (first | decide | (simp only [sl]; omega)))) | ((with_reducible refine w_m hS ?_ ?_ ?_ ?_ ?_ (fun x hx => ?_)); (focus decide); (focus (first | decide | omega)); (focus omega); (focus (first | decide | omega)); (focus (first | decide | (simp only [ml]; omega)))) | (with_reducible refine w_k (by simp (disch := omega) only [w32_id]; exact rfl) ?_; ((with_reducible refine w_s hS ?_ ?_ ?_ (fun x hx => ?_)); (focus decide); (focus (first | decide | omega)); (focus (first | decide | (simp only [sl]; omega))))) | (with_reducible refine w_k (by simp (disch := omega) only [w32_id]; exact rfl) ?_; ((with_reducible refine w_m hS ?_ ?_ ?_ ?_ ?_ (fun x hx => ?_)); (focus decide); (focus (first | decide | omega)); (focus omega); (focus (first | decide | omega)); (focus (first | decide | (simp only [ml]; omega)))))); (try simp (disch := omega) only [Int.reduceToNat, tn_c, tn8, tn8i, tn5, tn5z, tn6, tn6z, tn1, u3_ne, u3_eq, u3_ni, u3_nk, e0] at hx); subst hx)
    ((first | ((with_reducible refine w_s hS ?_ ?_ ?_ (fun x hx => ?_)); (focus decide); (focus (first | decide | omega)); (focus (first | decide | (simp only [sl]; omega)))) | ((with_reducible refine w_m hS ?_ ?_ ?_ ?_ ?_ (fun x hx => ?_)); (focus decide); (focus (first | decide | omega)); (focus omega); (focus (first | decide | omega)); (focus (first | decide | (simp only [ml]; omega)))) | (with_reducible refine w_k (by simp (disch := omega) only [w32_id]; exact rfl) ?_; ((with_reducible refine w_s hS ?_ ?_ ?_ (fun x hx => ?_)); (focus decide); (focus (first | decide | omega)); (focus (first | decide | (simp only [sl]; omega))))) | (with_reducible refine w_k (by simp (disch := omega) only [w32_id]; exact rfl) ?_; ((with_reducible refine w_m hS ?_ ?_ ?_ ?_ ?_ (fun x hx => ?_)); (focus decide); (focus (first | decide | omega)); (focus omega); (focus (first | decide | omega)); (focus (first | decide | (simp only [ml]; omega)))))); (try simp (disch := omega) only [Int.reduceToNat, tn_c, tn8, tn8i, tn5, tn5z, tn6, tn6z, tn1, u3_ne, u3_eq, u3_ni, u3_nk, e1] at hx); subst hx)
    refine w_leastOpen (fr := 0) (tr := m) (fc := 0) (tc := n) hS hF ht h8 (by omega) (by omega) (by omega) (by omega) (fun x2 l2 => w_ret ?_)
    have l2 : lo hh ct (m * n) (fun _ => True) x2 := lo_cg (fun _ _ => rfl) (fun _ _ => rfl) (fun c hc => ⟨fun _ => ⟨Nat.zero_le _, dl c hc, Nat.zero_le _, ml c⟩, fun _ => trivial⟩) l2
    exact K x2 ⟨x0, l0, Or.inr ⟨by omega, x1, l1, Or.inr ⟨by omega, l2⟩⟩⟩
def Runs (two : Int) (ct : Nat → Int) (m n : Nat) : Nat → (Nat → Int) → (Nat → Int) → Prop
  | 0, h, h' => h' = h
  | t + 1, h, h' => ∃ i j c : Nat, i < m ∧ j < n ∧ c < m * n ∧ ffs two h m n ((i * n + j : Nat) : Int) ∧ cov h ct m n i j (c : Int) ∧ Runs two ct m n t (updx h c 1) h'
theorem Runs_s {t : Nat} {h h' : Nat → Int} {i j c : Nat} (hr : Runs two ct m n t h h') (hi : i < m) (hj : j < n) (hc : c < m * n) (hf : ffs two h' m n ((i * n + j : Nat) : Int)) (hv : cov h' ct m n i j (c : Int)) : Runs two ct m n (t + 1) h (updx h' c 1) := by
  induction t generalizing h with
  | zero =>
    have e : h' = h := hr
    subst e
    exact ⟨i, j, c, hi, hj, hc, hf, hv, rfl⟩
  | succ t ih =>
    obtain ⟨a, b, d, ha, hb, hd, hf', hv', hr⟩ := hr
    exact ⟨a, b, d, ha, hb, hd, hf', hv', ih hr⟩
theorem Runs_run {t : Nat} {h h' : Nat → Int} (hr : Runs two ct m n t h h') (he : Runx two ct m n 0 h' h') : Runx two ct m n t h h' := by
  induction t generalizing h with
  | zero =>
    have e : h' = h := hr
    subst e; exact he
  | succ t ih =>
    obtain ⟨a, b, d, ha, hb, hd, hf', hv', hr⟩ := hr
    exact ⟨a, b, d, ha, hb, hd, hf', hv', ih hr⟩
theorem w_until {f : Int × GS → GO} (hS : SH R) (hF : RF V R) (ht : tabh V m n two hh) (h8 : ∀ k, k < m * n → V 8 0 k = ct k)
  (K : ∀ V' t h', t < 100 → same V V' LCH → Runx two ct m n t hh h' → tabh V' m n two h' → Wp (f (0, (V', R))) Q) : Wp ((g_X7_holdUntilNoneFollows 0 (V, R)).bind f) Q := by
  obtain ⟨⟨m1, m9, n1, n9⟩, _⟩ := id ht
  have mc := mn_le m9 n9
  refine w_bind ?_
  unfold g_X7_holdUntilNoneFollows
  refine w_gv (by omega) ?_
  refine w_for 81 (fun t G => ∃ W h', G = (W, R) ∧ same V W LCH ∧ Runs two ct m n t hh h' ∧ tabh W m n two h' ∧ (t = 0 ∨ (t : Int) + 1 ≤ wsm h' (m * n))) ?_ (i := 0) (by omega) (by omega) ⟨V, hh, rfl, same.rf V _, rfl, ht, Or.inl rfl⟩
  rintro t G hi ⟨W, h', rfl, sm, hr, tw, hcn⟩ self ih
  have hFW := cg_RF sm rfl hF
  obtain ⟨_, ⟨e0, e1, e2, h36⟩, c3, _⟩ := id tw
  have wb := wsm_nn c3
  have t81 : t < 81 := by omega
  unfold glX7_holdUntilNoneFollows_2
  refine w_ite (fun hx => absurd hx (by omega)) (fun _ => ?_)
  refine w_cff hS hFW tw (fun r hf => ?_)
  dsimp only
  refine w_ite (fun z => ?_) (fun z => ?_)
  · subst z
    exact w_ret (K W t h' (by omega) sm (Runs_run hr ⟨rfl, Or.inl hf⟩) tw)
  · obtain ⟨i, j, him, hjn, er, hfol⟩ : ∃ i j : Nat, i < m ∧ j < n ∧ r = ((i * n + j : Nat) : Int) ∧ fol two h' m n i j := by
      rcases hf with ⟨e, _⟩ | ⟨i, j, h1, h2, h3, h4, _⟩
      · exact absurd e z
      · exact ⟨i, j, h1, h2, h3, h4⟩
    subst er
    have mn := mn_lt m9 n9 him hjn
    obtain ⟨d1, d2, dm, ml⟩ := divmod n1 n9 (k := i * n + j) (by omega)
    have un := ij_un ml hjn dm
    ((first | ((with_reducible refine w_s hS ?_ ?_ ?_ (fun x hx => ?_)); (focus decide); (focus (first | decide | omega)); (focus (first | decide | (simp only [sl]; omega)))) | ((with_reducible refine w_m hS ?_ ?_ ?_ ?_ ?_ (fun x hx => ?_)); (focus decide); (focus (first | decide | omega)); (focus omega); (focus (first | decide | omega)); (focus (first | decide | (simp only [ml]; omega)))) | (with_reducible refine w_k (by simp (disch := omega) only [w32_id]; exact rfl) ?_; ((with_reducible refine w_s hS ?_ ?_ ?_ (fun x hx => ?_)); (focus decide); (focus (first | decide | omega)); (focus (first | decide | (simp only [sl]; omega))))) | (with_reducible refine w_k (by simp (disch := omega) only [w32_id]; exact rfl) ?_; ((with_reducible refine w_m hS ?_ ?_ ?_ ?_ ?_ (fun x hx => ?_)); (focus decide); (focus (first | decide | omega)); (focus omega); (focus (first | decide | omega)); (focus (first | decide | (simp only [ml]; omega)))))); (try simp (disch := omega) only [Int.reduceToNat, tn_c, tn8, tn8i, tn5, tn5z, tn6, tn6z, tn1, u3_ne, u3_eq, u3_ni, u3_nk, e1] at hx); subst hx)
    refine w_ite (fun _ => ?_) (fun y => absurd (show (n : Int) ≠ 0 by omega) y)
    ((first | ((with_reducible refine w_s hS ?_ ?_ ?_ (fun x hx => ?_)); (focus decide); (focus (first | decide | omega)); (focus (first | decide | (simp only [sl]; omega)))) | ((with_reducible refine w_m hS ?_ ?_ ?_ ?_ ?_ (fun x hx => ?_)); (focus decide); (focus (first | decide | omega)); (focus omega); (focus (first | decide | omega)); (focus (first | decide | (simp only [ml]; omega)))) | (with_reducible refine w_k (by simp (disch := omega) only [w32_id]; exact rfl) ?_; ((with_reducible refine w_s hS ?_ ?_ ?_ (fun x hx => ?_)); (focus decide); (focus (first | decide | omega)); (focus (first | decide | (simp only [sl]; omega))))) | (with_reducible refine w_k (by simp (disch := omega) only [w32_id]; exact rfl) ?_; ((with_reducible refine w_m hS ?_ ?_ ?_ ?_ ?_ (fun x hx => ?_)); (focus decide); (focus (first | decide | omega)); (focus omega); (focus (first | decide | omega)); (focus (first | decide | (simp only [ml]; omega)))))); (try simp (disch := omega) only [Int.reduceToNat, tn_c, tn8, tn8i, tn5, tn5z, tn6, tn6z, tn1, u3_ne, u3_eq, u3_ni, u3_nk, e1] at hx); subst hx)
    refine w_ite (fun y => absurd y (by omega)) (fun _ => ?_)
    ((first | ((with_reducible refine w_s hS ?_ ?_ ?_ (fun x hx => ?_)); (focus decide); (focus (first | decide | omega)); (focus (first | decide | (simp only [sl]; omega)))) | ((with_reducible refine w_m hS ?_ ?_ ?_ ?_ ?_ (fun x hx => ?_)); (focus decide); (focus (first | decide | omega)); (focus omega); (focus (first | decide | omega)); (focus (first | decide | (simp only [ml]; omega)))) | (with_reducible refine w_k (by simp (disch := omega) only [w32_id]; exact rfl) ?_; ((with_reducible refine w_s hS ?_ ?_ ?_ (fun x hx => ?_)); (focus decide); (focus (first | decide | omega)); (focus (first | decide | (simp only [sl]; omega))))) | (with_reducible refine w_k (by simp (disch := omega) only [w32_id]; exact rfl) ?_; ((with_reducible refine w_m hS ?_ ?_ ?_ ?_ ?_ (fun x hx => ?_)); (focus decide); (focus (first | decide | omega)); (focus omega); (focus (first | decide | omega)); (focus (first | decide | (simp only [ml]; omega)))))); (try simp (disch := omega) only [Int.reduceToNat, tn_c, tn8, tn8i, tn5, tn5z, tn6, tn6z, tn1, u3_ne, u3_eq, u3_ni, u3_nk, e1] at hx); subst hx)
    refine w_ite (fun y => absurd y (by omega)) (fun _ => ?_)
    rw [d1, d2, un.1, un.2]
    have h8' : ∀ k, k < m * n → W 8 0 k = ct k := fun k hk => by rw [sm.r 8 rfl]; exact h8 k hk
    refine w_cover hS hFW tw h8' him hjn (fun x hv => ?_)
    dsimp only
    refine w_ite (fun y => ?_) (fun y => ?_)
    · obtain ⟨c, ec, hc, h0⟩ := (cov_open hv).resolve_left y
      subst ec
      obtain ⟨f1, f2, fm, fl⟩ := divmod n1 n9 (k := c) (by omega)
      ((first | ((with_reducible refine w_s hS ?_ ?_ ?_ (fun x hx => ?_)); (focus decide); (focus (first | decide | omega)); (focus (first | decide | (simp only [sl]; omega)))) | ((with_reducible refine w_m hS ?_ ?_ ?_ ?_ ?_ (fun x hx => ?_)); (focus decide); (focus (first | decide | omega)); (focus omega); (focus (first | decide | omega)); (focus (first | decide | (simp only [ml]; omega)))) | (with_reducible refine w_k (by simp (disch := omega) only [w32_id]; exact rfl) ?_; ((with_reducible refine w_s hS ?_ ?_ ?_ (fun x hx => ?_)); (focus decide); (focus (first | decide | omega)); (focus (first | decide | (simp only [sl]; omega))))) | (with_reducible refine w_k (by simp (disch := omega) only [w32_id]; exact rfl) ?_; ((with_reducible refine w_m hS ?_ ?_ ?_ ?_ ?_ (fun x hx => ?_)); (focus decide); (focus (first | decide | omega)); (focus omega); (focus (first | decide | omega)); (focus (first | decide | (simp only [ml]; omega)))))); (try simp (disch := omega) only [Int.reduceToNat, tn_c, tn8, tn8i, tn5, tn5z, tn6, tn6z, tn1, u3_ne, u3_eq, u3_ni, u3_nk, e1] at hx); subst hx)
      refine w_ite (fun y => absurd y (by omega)) (fun _ => ?_)
      ((first | ((with_reducible refine w_s hS ?_ ?_ ?_ (fun x hx => ?_)); (focus decide); (focus (first | decide | omega)); (focus (first | decide | (simp only [sl]; omega)))) | ((with_reducible refine w_m hS ?_ ?_ ?_ ?_ ?_ (fun x hx => ?_)); (focus decide); (focus (first | decide | omega)); (focus omega); (focus (first | decide | omega)); (focus (first | decide | (simp only [ml]; omega)))) | (with_reducible refine w_k (by simp (disch := omega) only [w32_id]; exact rfl) ?_; ((with_reducible refine w_s hS ?_ ?_ ?_ (fun x hx => ?_)); (focus decide); (focus (first | decide | omega)); (focus (first | decide | (simp only [sl]; omega))))) | (with_reducible refine w_k (by simp (disch := omega) only [w32_id]; exact rfl) ?_; ((with_reducible refine w_m hS ?_ ?_ ?_ ?_ ?_ (fun x hx => ?_)); (focus decide); (focus (first | decide | omega)); (focus omega); (focus (first | decide | omega)); (focus (first | decide | (simp only [ml]; omega)))))); (try simp (disch := omega) only [Int.reduceToNat, tn_c, tn8, tn8i, tn5, tn5z, tn6, tn6z, tn1, u3_ne, u3_eq, u3_ni, u3_nk, e1] at hx); subst hx)
      refine w_ite (fun y => absurd y (by omega)) (fun _ => ?_)
      rw [f1, f2]
      refine w_hold hS hFW tw (div_lt n1 hc) fl (by rw [fm]; exact h0) (fun W' sm' tw' => ?_)
      rw [fm] at tw'
      refine ih _ t81 ⟨W', _, rfl, sm.tr sm', Runs_s hr him hjn hc hf hv, tw', Or.inr ?_⟩
      rw [wsm_upd hc h0]
      have ge := wsm_ge mn.1 c3 hfol.1
      omega
    · have y : x = -1 := by omega
      subst y
      exact w_ret (K W t h' (by omega) sm (Runs_run hr ⟨rfl, Or.inr ⟨i, j, him, hjn, hf, hv⟩⟩) tw)
end CShown
