section Calls
variable {V : GV} {R : GR} {Q : Int → GS → Prop}
theorem l_2 (h : IL V R) {q : Nat} (hq : q < rC R 20) : V 2 0 q = (q : Int) := h.1 q hq
theorem l_3 (h : IL V R) {q : Nat} (hq : q < rC R 40) : V 3 0 q = (q : Int) := h.2.1 q hq
theorem l_5 (h : IL V R) {q : Nat} (hq : q < rC R 30) : V 5 0 q = (q : Int) := h.2.2.1 q hq
theorem l_6 (h : IL V R) {q : Nat} (hq : q < rC R 50) : V 6 0 q = (q : Int) := h.2.2.2 q hq
theorem n_pos {q : Int} (h : 0 ≤ q) : ∃ n : Nat, q = (n : Int) := ⟨q.toNat, by omega⟩
theorem w_qO {q : Int} {f : Int × GS → GO} (hS : SH R) (e1 : V 1 0 1 = (rC R 20 : Int)) (e2 : V 1 0 0 = 0) (b : rC R 20 ≤ 24) (hL : ∀ n, n < rC R 20 → V 2 0 n = (n : Int)) (k1 : ∀ n : Nat, q = (n : Int) → n < rC R 20 → Wp (f ((n : Int), (V, R))) Q) (k2 : ¬ (0 ≤ q ∧ q < (rC R 20 : Int)) → Wp (f (-1, (V, R))) Q) : Wp ((g_X3_questionOf 0 q (V, R)).bind f) Q := by
  refine w_bind ?_
  unfold g_X3_questionOf
  refine w_gv (by omega) (w_ite (fun hc => w_ret (k2 (by omega))) (fun hc => ?_))
  refine w_s hS (by decide) (by omega) (by simp only [sl]; omega) (fun x hx => ?_)
  simp only [Int.reduceToNat, e1] at hx; subst hx
  refine w_ite (fun hd => w_ret (k2 (by omega))) (fun hd => ?_)
  refine w_s hS (by decide) (by omega) (by simp only [sl]; omega) (fun x hx => ?_)
  simp only [Int.reduceToNat, e2] at hx; subst hx
  obtain ⟨n, rfl⟩ := n_pos (q := q) (by omega)
  refine w_s hS (by decide) (by omega) (by simp only [sl]; omega) (fun x hx => ?_)
  simp only [tn_c, hL n (by omega)] at hx; subst hx
  exact w_ret (k1 n rfl (by omega))
theorem w_cO {q : Int} {f : Int × GS → GO} (hS : SH R) (e1 : V 1 0 3 = (rC R 40 : Int)) (e2 : V 1 0 2 = 0) (b : rC R 40 ≤ 60) (hL : ∀ n, n < rC R 40 → V 3 0 n = (n : Int)) (k1 : ∀ n : Nat, q = (n : Int) → n < rC R 40 → Wp (f ((n : Int), (V, R))) Q) (k2 : ¬ (0 ≤ q ∧ q < (rC R 40 : Int)) → Wp (f (-1, (V, R))) Q) : Wp ((g_X3_conditionOf 0 q (V, R)).bind f) Q := by
  refine w_bind ?_
  unfold g_X3_conditionOf
  refine w_gv (by omega) (w_ite (fun hc => w_ret (k2 (by omega))) (fun hc => ?_))
  refine w_s hS (by decide) (by omega) (by simp only [sl]; omega) (fun x hx => ?_)
  simp only [Int.reduceToNat, e1] at hx; subst hx
  refine w_ite (fun hd => w_ret (k2 (by omega))) (fun hd => ?_)
  refine w_s hS (by decide) (by omega) (by simp only [sl]; omega) (fun x hx => ?_)
  simp only [Int.reduceToNat, e2] at hx; subst hx
  obtain ⟨n, rfl⟩ := n_pos (q := q) (by omega)
  refine w_s hS (by decide) (by omega) (by simp only [sl]; omega) (fun x hx => ?_)
  simp only [tn_c, hL n (by omega)] at hx; subst hx
  exact w_ret (k1 n rfl (by omega))
theorem w_hO {q : Int} {f : Int × GS → GO} (hS : SH R) (e1 : V 0 0 2 = (rC R 30 : Int)) (e2 : V 0 0 1 = 0) (b : rC R 30 ≤ 40) (hL : ∀ n, n < rC R 30 → V 5 0 n = (n : Int)) (k1 : ∀ n : Nat, q = (n : Int) → n < rC R 30 → Wp (f ((n : Int), (V, R))) Q) (k2 : ¬ (0 ≤ q ∧ q < (rC R 30 : Int)) → Wp (f (-1, (V, R))) Q) : Wp ((g_X8_homeOf 0 q (V, R)).bind f) Q := by
  refine w_bind ?_
  unfold g_X8_homeOf
  refine w_gv (by omega) (w_ite (fun hc => w_ret (k2 (by omega))) (fun hc => ?_))
  refine w_s hS (by decide) (by omega) (by simp only [sl]; omega) (fun x hx => ?_)
  simp only [Int.reduceToNat, e1] at hx; subst hx
  refine w_ite (fun hd => w_ret (k2 (by omega))) (fun hd => ?_)
  refine w_s hS (by decide) (by omega) (by simp only [sl]; omega) (fun x hx => ?_)
  simp only [Int.reduceToNat, e2] at hx; subst hx
  obtain ⟨n, rfl⟩ := n_pos (q := q) (by omega)
  refine w_s hS (by decide) (by omega) (by simp only [sl]; omega) (fun x hx => ?_)
  simp only [tn_c, hL n (by omega)] at hx; subst hx
  exact w_ret (k1 n rfl (by omega))
theorem w_eO {q : Int} {f : Int × GS → GO} (hS : SH R) (e1 : V 0 0 4 = (rC R 50 : Int)) (e2 : V 0 0 3 = 0) (b : rC R 50 ≤ 6) (hL : ∀ n, n < rC R 50 → V 6 0 n = (n : Int)) (k1 : ∀ n : Nat, q = (n : Int) → n < rC R 50 → Wp (f ((n : Int), (V, R))) Q) (k2 : ¬ (0 ≤ q ∧ q < (rC R 50 : Int)) → Wp (f (-1, (V, R))) Q) : Wp ((g_X8_editionOf 0 q (V, R)).bind f) Q := by
  refine w_bind ?_
  unfold g_X8_editionOf
  refine w_gv (by omega) (w_ite (fun hc => w_ret (k2 (by omega))) (fun hc => ?_))
  refine w_s hS (by decide) (by omega) (by simp only [sl]; omega) (fun x hx => ?_)
  simp only [Int.reduceToNat, e1] at hx; subst hx
  refine w_ite (fun hd => w_ret (k2 (by omega))) (fun hd => ?_)
  refine w_s hS (by decide) (by omega) (by simp only [sl]; omega) (fun x hx => ?_)
  simp only [Int.reduceToNat, e2] at hx; subst hx
  obtain ⟨n, rfl⟩ := n_pos (q := q) (by omega)
  refine w_s hS (by decide) (by omega) (by simp only [sl]; omega) (fun x hx => ?_)
  simp only [tn_c, hL n (by omega)] at hx; subst hx
  exact w_ret (k1 n rfl (by omega))
theorem w_in {a b c : Int} {G : GS} {f : Int × GS → GO} (k1 : b ≤ a ∧ a ≤ c → Wp (f (1, G)) Q) (k2 : ¬ (b ≤ a ∧ a ≤ c) → Wp (f (0, G)) Q) : Wp ((g_X9_in a b c G).bind f) Q := by
  refine w_bind ?_
  unfold g_X9_in
  refine w_ite (fun h => w_ret (k2 ?_)) (fun h => w_ite (fun h' => w_ret (k2 ?_)) (fun h' => w_ret (k1 ?_)))
  · have := lc_lt.mp h; omega
  · have := lc_gt.mp h'; omega
  · have h1 : ¬ a < b := fun z => h (lc_lt.mpr z)
    have h2 : ¬ c < a := fun z => h' (lc_gt.mpr z)
    omega
theorem w_inw {a b c : Int} {G : GS} {f : Int × GS → GO} (h1 : -2147483648 ≤ c) (h2 : c ≤ 2147483647) (k1 : b ≤ a ∧ a ≤ c → Wp (f (1, G)) Q) (k2 : ¬ (b ≤ a ∧ a ≤ c) → Wp (f (0, G)) Q) : Wp ((g_X9_in a b (w32 c) G).bind f) Q := by
  rw [w32_id h1 h2]; exact w_in k1 k2
theorem w_isQ {q : Int} {f : Int × GS → GO} (hS : SH R) (e1 : V 100 0 0 = (rC R 20 : Int)) (b : rC R 20 ≤ 24) (k1 : ∀ n : Nat, q = (n : Int) → n < rC R 20 → Wp (f (1, (V, R))) Q) (k2 : ¬ (0 ≤ q ∧ q < (rC R 20 : Int)) → Wp (f (0, (V, R))) Q) : Wp ((g_X9_isQuestion 0 q (V, R)).bind f) Q := by
  refine w_bind ?_
  unfold g_X9_isQuestion
  refine w_gv (by omega) ?_
  refine w_s hS (by decide) (by omega) (by simp only [sl]; omega) (fun x hx => ?_)
  simp only [Int.reduceToNat, e1] at hx; subst hx
  rw [w32_id (by omega) (by omega)]
  refine w_in (fun h => w_gzr (Or.inr rfl) (k1 q.toNat (by omega) (by omega))) (fun h => w_gzr (Or.inl rfl) (k2 (by omega)))
theorem w_isH {q : Int} {f : Int × GS → GO} (hS : SH R) (e1 : V 100 0 14 = (rC R 30 : Int)) (b : rC R 30 ≤ 40) (k1 : ∀ n : Nat, q = (n : Int) → n < rC R 30 → Wp (f (1, (V, R))) Q) (k2 : ¬ (0 ≤ q ∧ q < (rC R 30 : Int)) → Wp (f (0, (V, R))) Q) : Wp ((g_X9_isHousehold 0 q (V, R)).bind f) Q := by
  refine w_bind ?_
  unfold g_X9_isHousehold
  refine w_gv (by omega) ?_
  refine w_s hS (by decide) (by omega) (by simp only [sl]; omega) (fun x hx => ?_)
  simp only [Int.reduceToNat, e1] at hx; subst hx
  rw [w32_id (by omega) (by omega)]
  refine w_in (fun h => w_gzr (Or.inr rfl) (k1 q.toNat (by omega) (by omega))) (fun h => w_gzr (Or.inl rfl) (k2 (by omega)))
theorem w_isC {q : Int} {f : Int × GS → GO} (hS : SH R) (e1 : V 100 0 18 = (rC R 40 : Int)) (b : rC R 40 ≤ 60) (k1 : ∀ n : Nat, q = (n : Int) → n < rC R 40 → Wp (f (1, (V, R))) Q) (k2 : ¬ (0 ≤ q ∧ q < (rC R 40 : Int)) → Wp (f (0, (V, R))) Q) : Wp ((g_X9_isCondition 0 q (V, R)).bind f) Q := by
  refine w_bind ?_
  unfold g_X9_isCondition
  refine w_gv (by omega) ?_
  refine w_s hS (by decide) (by omega) (by simp only [sl]; omega) (fun x hx => ?_)
  simp only [Int.reduceToNat, e1] at hx; subst hx
  rw [w32_id (by omega) (by omega)]
  refine w_in (fun h => w_gzr (Or.inr rfl) (k1 q.toNat (by omega) (by omega))) (fun h => w_gzr (Or.inl rfl) (k2 (by omega)))
theorem w_isE {q : Int} {f : Int × GS → GO} (hS : SH R) (e1 : V 100 0 30 = (rC R 50 : Int)) (b : rC R 50 ≤ 6) (k1 : ∀ n : Nat, q = (n : Int) → n < rC R 50 → Wp (f (1, (V, R))) Q) (k2 : ¬ (0 ≤ q ∧ q < (rC R 50 : Int)) → Wp (f (0, (V, R))) Q) : Wp ((g_X9_isEdition 0 q (V, R)).bind f) Q := by
  refine w_bind ?_
  unfold g_X9_isEdition
  refine w_gv (by omega) ?_
  refine w_s hS (by decide) (by omega) (by simp only [sl]; omega) (fun x hx => ?_)
  simp only [Int.reduceToNat, e1] at hx; subst hx
  rw [w32_id (by omega) (by omega)]
  refine w_in (fun h => w_gzr (Or.inr rfl) (k1 q.toNat (by omega) (by omega))) (fun h => w_gzr (Or.inl rfl) (k2 (by omega)))
theorem w_place {h q s : Nat} {G : GS} {f : Int × GS → GO} (h0 : h < 40) (q0 : q < 24) (s0 : s < 6) (k : Wp (f (((144 * h + 6 * q + s : Nat) : Int), G)) Q) : Wp ((g_X9_place (h : Int) (q : Int) (s : Int) G).bind f) Q := by
  refine w_bind ?_
  unfold g_X9_place
  rw [w32_id (x := 24 * (h : Int)) (by omega) (by omega), w32_id (x := 24 * (h : Int) + q) (by omega) (by omega), w32_id (x := (24 * (h : Int) + q) * 6) (by omega) (by omega), w32_id (by omega) (by omega)]
  refine w_ret ?_
  rw [show (24 * (h : Int) + q) * 6 + s = ((144 * h + 6 * q + s : Nat) : Int) by omega]
  exact k
theorem w_spot {q p : Nat} {G : GS} {f : Int × GS → GO} (q0 : q < 24) (p0 : p < 5) (k : Wp (f (((5 * q + p : Nat) : Int), G)) Q) : Wp ((g_X8_spot (q : Int) (p : Int) G).bind f) Q := by
  refine w_bind ?_
  unfold g_X8_spot gjX8_spot_12
  rw [w32_id (x := (q : Int) * 5) (by omega) (by omega)]
  have e : ∀ z : Int, z = (p : Int) → w32 ((q : Int) * 5 + z) = ((5 * q + p : Nat) : Int) := by
    intro z ez
    rw [ez, w32_id (by omega) (by omega)]; omega
  refine w_ite (fun h => w_ret ?_) (fun h => w_ret ?_)
  · rw [e 0 (by omega)]; exact k
  · rw [e (p : Int) rfl]; exact k
theorem w_spotn {q : Nat} {G : GS} {f : Int × GS → GO} (q0 : q < 24) (k : Wp (f (((5 * q : Nat) : Int), G)) Q) : Wp ((g_X8_spot (q : Int) (-1) G).bind f) Q := by
  refine w_bind ?_
  unfold g_X8_spot gjX8_spot_12
  rw [w32_id (x := (q : Int) * 5) (by omega) (by omega)]
  have e : w32 ((q : Int) * 5 + 0) = ((5 * q : Nat) : Int) := by
    rw [w32_id (by omega) (by omega)]; omega
  refine w_ite (fun h => w_ret ?_) (fun h => absurd h (by decide))
  rw [e]; exact k
theorem w_sw3 {a0 a1 a2 : GO} {n : Nat} (h : n < 3) (k0 : n = 0 → Wp a0 Q) (k1 : n = 1 → Wp a1 Q) (k2 : n = 2 → Wp a2 Q) : Wp (List.getD [a0, a1, a2] n none) Q := by
  match n, h with
  | 0, _ => exact k0 rfl
  | 1, _ => exact k1 rfl
  | 2, _ => exact k2 rfl
theorem w_sw4 {a0 a1 a2 a3 : GO} {n : Nat} (h : n < 4) (k0 : n = 0 → Wp a0 Q) (k1 : n = 1 → Wp a1 Q) (k2 : n = 2 → Wp a2 Q) (k3 : n = 3 → Wp a3 Q) : Wp (List.getD [a0, a1, a2, a3] n none) Q := by
  match n, h with
  | 0, _ => exact k0 rfl
  | 1, _ => exact k1 rfl
  | 2, _ => exact k2 rfl
  | 3, _ => exact k3 rfl
theorem w_sw5 {a0 a1 a2 a3 a4 : GO} {n : Nat} (h : n < 5) (k0 : n = 0 → Wp a0 Q) (k1 : n = 1 → Wp a1 Q) (k2 : n = 2 → Wp a2 Q) (k3 : n = 3 → Wp a3 Q) (k4 : n = 4 → Wp a4 Q) : Wp (List.getD [a0, a1, a2, a3, a4] n none) Q := by
  match n, h with
  | 0, _ => exact k0 rfl
  | 1, _ => exact k1 rfl
  | 2, _ => exact k2 rfl
  | 3, _ => exact k3 rfl
  | 4, _ => exact k4 rfl
theorem w_sw6 {a0 a1 a2 a3 a4 a5 : GO} {n : Nat} (h : n < 6) (k0 : n = 0 → Wp a0 Q) (k1 : n = 1 → Wp a1 Q) (k2 : n = 2 → Wp a2 Q) (k3 : n = 3 → Wp a3 Q) (k4 : n = 4 → Wp a4 Q) (k5 : n = 5 → Wp a5 Q) : Wp (List.getD [a0, a1, a2, a3, a4, a5] n none) Q := by
  match n, h with
  | 0, _ => exact k0 rfl
  | 1, _ => exact k1 rfl
  | 2, _ => exact k2 rfl
  | 3, _ => exact k3 rfl
  | 4, _ => exact k4 rfl
  | 5, _ => exact k5 rfl
end Calls
