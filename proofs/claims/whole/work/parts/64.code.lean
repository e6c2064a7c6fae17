/-! codes: search on both sides, and promise 3 (code) -/
section Codes
variable {G : GS}
theorem lastc_none {V : Nat → Nat → Nat → Int} {q : Nat} {c : Int} : ∀ {m : Nat}, (∀ i, i < m → V 108 0 (8 * q + i) ≠ c) → lastc V q c m = -1
  | 0, _ => rfl
  | m + 1, h => by
    show (if V 108 0 (8 * q + m) = c then (m : Int) else lastc V q c m) = -1
    rw [if_neg (h m (by omega))]
    exact lastc_none (fun i hi => h i (by omega))
theorem lastc_some {V : Nat → Nat → Nat → Int} {q j : Nat} {c : Int} : ∀ {m : Nat}, j < m → V 108 0 (8 * q + j) = c → (∀ i, j < i → i < m → V 108 0 (8 * q + i) ≠ c) → lastc V q c m = (j : Int)
  | 0, h, _, _ => absurd h (by omega)
  | m + 1, h, hj, hn => by
    show (if V 108 0 (8 * q + m) = c then (m : Int) else lastc V q c m) = (j : Int)
    by_cases e : j = m
    · subst e; rw [if_pos hj]
    · rw [if_neg (hn m (by omega) (by omega))]
      exact lastc_some (by omega) hj (fun i h1 h2 => hn i h1 (by omega))
theorem lastc_cases {V : Nat → Nat → Nat → Int} {q : Nat} {c : Int} : ∀ {m : Nat}, (lastc V q c m = -1 ∧ ∀ i, i < m → V 108 0 (8 * q + i) ≠ c) ∨ ∃ j, j < m ∧ lastc V q c m = (j : Int) ∧ V 108 0 (8 * q + j) = c
  | 0 => Or.inl ⟨rfl, fun i h => absurd h (by omega)⟩
  | m + 1 => by
    by_cases e : V 108 0 (8 * q + m) = c
    · exact Or.inr ⟨m, by omega, by show (if V 108 0 (8 * q + m) = c then (m : Int) else lastc V q c m) = _; rw [if_pos e], e⟩
    · have h1 : lastc V q c (m + 1) = lastc V q c m := by
        show (if V 108 0 (8 * q + m) = c then (m : Int) else lastc V q c m) = _
        rw [if_neg e]
      rcases lastc_cases (V := V) (q := q) (c := c) (m := m) with ⟨h2, h3⟩ | ⟨j, h2, h3, h4⟩
      · refine Or.inl ⟨h1.trans h2, fun i hi => ?_⟩
        by_cases ei : i = m
        · subst ei; exact e
        · exact h3 i (by omega)
      · exact Or.inr ⟨j, by omega, h1.trans h3, h4⟩
theorem c_codeIndex_loop (hC : CS G) {q : Int} (q0 : 0 ≤ q) (hql : q.toNat < gC G 20) (hQ : IQ1 G q.toNat) (c : Int) (m : Nat) (hm : gV G 109 0 q.toNat = (m : Int)) : ∀ (n i : Nat), i ≤ m → m - i ≤ n → (∀ j, j < i → gV G 108 0 (8 * q.toNat + j) ≠ c) → lh1 (glX5_codeIndex_2 q c) (n + 1) (i : Int) G = some (lastc (gV G) q.toNat c m, G) := by
  obtain ⟨-, -, -, ⟨c1, c2, c3⟩, -, -, -, q8, q9, -⟩ := hQ
  have key : ∀ (i : Nat) (self : Int → GS → GO), i ≤ m → (∀ j, j < i → gV G 108 0 (8 * q.toNat + j) ≠ c) → (i < m → gV G 108 0 (8 * q.toNat + i) ≠ c → self ((i + 1 : Nat) : Int) G = some (lastc (gV G) q.toNat c m, G)) → glX5_codeIndex_2 q c self (i : Int) G = some (lastc (gV G) q.toNat c m, G) := by
    intro i self him hno hrec
    unfold glX5_codeIndex_2
    refine bs (df_20_5 hC q0 hql) ?_
    by_cases hi : i = m
    · refine it (show (i : Int) ≥ gV G 20 q.toNat 5 by omega) ?_
      rw [lastc_none (fun j hj => hno j (by omega))]
    · refine ie (show ¬ (i : Int) ≥ gV G 20 q.toNat 5 by omega) (bs (da_20_4 hC q0 hql) (bs (dg_21 hC q0 hql (by omega) (by omega)) ?_))
      have e8 := (q8 i (by omega)).1
      rw [show ((i : Nat) : Int).toNat = i by omega, e8]
      by_cases hc : gV G 108 0 (8 * q.toNat + i) = c
      · refine ie (fun z => lc_ne.mp z hc) ?_
        rw [lastc_some (by omega) hc (fun j h1 h2 => by rw [← hc]; exact (q9 i j h1 (by omega)).symm)]
      · refine it (lc_ne.mpr hc) ?_
        rw [w32_id (by omega) (by omega)]
        exact hrec (by omega) hc
  intro n
  induction n with
  | zero =>
    intro i hi hn hno
    rw [lh1_s]
    exact key i _ hi hno (fun h => absurd h (by omega))
  | succ n ih =>
    intro i hi hn hno
    rw [lh1_s]
    refine key i _ hi hno (fun h hc => ih (i + 1) (by omega) (by omega) (fun j hj => ?_))
    by_cases ej : j = i
    · subst ej; exact hc
    · exact hno j (by omega)
theorem c_codeIndex (hC : CS G) {q : Int} (q0 : 0 ≤ q) (hql : q.toNat < gC G 20) (hQ : IQ1 G q.toNat) (c : Int) (m : Nat) (hm : gV G 109 0 q.toNat = (m : Int)) : g_X5_codeIndex q c G = some (lastc (gV G) q.toNat c m, G) := by
  obtain ⟨-, -, -, ⟨c1, c2, c3⟩, -⟩ := id hQ
  unfold g_X5_codeIndex
  exact gv q0 (c_codeIndex_loop hC q0 hql hQ c m hm 5999 0 (by omega) (by omega) (fun j hj => absurd hj (by omega)))
end Codes
