section Freeze
variable {V : GV} {R : GR} {Q : Int → GS → Prop}
def SHl (R : GR) : Prop := (∀ r, sl r ≠ 0 → rC R r = 1 ∧ rN R r 0 = sl r) ∧ (∀ r, ml r ≠ 0 → ∀ i, i < rC R r → rN R r i = ml r)
theorem w_sq {r k : Nat} {f : Int → GO} (hS : SHl R) (hr : sl r ≠ 0) (h3 : k < sl r) (q : Wp (f (V r 0 k)) Q) : Wp ((gl r (V, R) 0 (k : Int)).bind f) Q := by
  obtain ⟨e1, e2⟩ := hS.1 r hr
  refine w_gl (by decide) (by rw [e1]; decide) (by omega) (by show (k : Int).toNat < rN R r 0; rw [e2, tn_c]; exact h3) (fun x hx => ?_)
  rw [tn_c] at hx; subst hx; exact q
theorem w_mq {r i k : Nat} {f : Int → GO} (hS : SHl R) (hr : ml r ≠ 0) (h1 : i < rC R r) (h3 : k < ml r) (q : Wp (f (V r i k)) Q) : Wp ((gl r (V, R) (i : Int) (k : Int)).bind f) Q := by
  refine w_gl (by omega) (by rw [tn_c]; exact h1) (by omega) (by rw [tn_c, tn_c, hS.2 r hr i h1]; exact h3) (fun x hx => ?_)
  rw [tn_c, tn_c] at hx; subst hx; exact q
theorem w_gcp {r i n : Nat} {f : Int × GS → GO} (h1 : i < rC R r) (hn : n ≤ 100000) (hk : rK R < 600000) (hz : rZ R + n ≤ 7302250) (k : Wp (f ((rC R r : Int), (alv (nv V r (rC R r)) r (rC R r) (fun k => if k < rN R r i then V r i k else 0), nr R r n))) Q) : Wp ((gcp r r (i : Int) (n : Int) (V, R)).bind f) Q := by
  have e : gcp r r (i : Int) (n : Int) (V, R) = some ((rC R r : Int), (alv (nv V r (rC R r)) r (rC R r) (fun k => if k < rN R r i then V r i k else 0), nr R r n)) := by
    unfold gcp
    rw [if_pos ⟨by omega, by rw [tn_c]; exact h1⟩]
    have e2 : gn r (n : Int) (V, R) = some ((rC R r : Int), (nv V r (rC R r), nr R r n)) := by
      unfold gn
      rw [if_pos ⟨by omega, by omega, hk, by rw [tn_c]; exact hz⟩, tn_c]
      rfl
    rw [e2, tn_c]
    rfl
  rw [e]; exact k
theorem w_gs' {W : GV} {R1 : GR} {r i k : Nat} {v : Int} {g : GS → GO} (h1 : i < rC R1 r) (h2 : k < rN R1 r i) (kk : Wp (g (u3 W r i k v, R1)) Q) : Wp ((gs r (W, R1) (i : Int) (k : Int) v).bind g) Q := by
  refine w_gs (by omega) (by omega) (by omega) (by rw [tn_c, tn_c]; exact h2) ?_
  rw [tn_c, tn_c]; exact kk
def RM (R R' : GR) (i : Nat) : Prop := (rC R' 51 = rC R 50 + 1 ∧ rC R' 31 = rC R 31 + i ∧ rC R' 32 = rC R 31 + i ∧ rC R' 33 = rC R 31 + i) ∧ (∀ r, (r < 31 ∨ (33 < r ∧ r < 51) ∨ 51 < r) → rC R' r = rC R r) ∧ rN R' 51 (rC R 50) = rC R 30 ∧ (∀ h, h < i → rN R' 31 (rC R 31 + h) = 2 ∧ rN R' 32 (rC R 31 + h) = 5 * rC R 20 ∧ rN R' 33 (rC R 31 + h) = 5 * rC R 20) ∧ (∀ r j, (r < 31 ∨ (33 < r ∧ r < 51) ∨ 51 < r ∨ (r = 51 ∧ j ≠ rC R 50) ∨ ((r = 31 ∨ r = 32 ∨ r = 33) ∧ j < rC R 31)) → rN R' r j = rN R r j) ∧ rK R' = rK R + 1 + 3 * i ∧ rZ R' = rZ R + rC R 30 + i * (2 + 10 * rC R 20)
theorem SHl_RM {R' : GR} {i : Nat} (hS : SH R) (h : RM R R' i) : SHl R' := by
  obtain ⟨⟨c51, c31, c32, c33⟩, c2, l51, lh, ln, _, _⟩ := h
  obtain ⟨s1, s2, _⟩ := hS
  refine ⟨fun r hr => ?_, fun r hr j hj => ?_⟩
  · have : r < 31 ∨ (33 < r ∧ r < 51) ∨ 51 < r := by
      by_cases z : r = 31 ∨ r = 32 ∨ r = 33 ∨ r = 51
      · exfalso
        rcases z with rfl | rfl | rfl | rfl <;> exact hr rfl
      · omega
    rw [c2 r this, ln r 0 (by omega)]; exact s1 r hr
  · by_cases e : r = 31
    · subst e
      rw [c31] at hj
      by_cases e' : j < rC R 31
      · rw [ln 31 j (by omega)]; exact s2 31 hr j e'
      · obtain ⟨h, rfl⟩ : ∃ h, j = rC R 31 + h := ⟨j - rC R 31, by omega⟩
        exact (lh h (by omega)).1
    · have : r < 31 ∨ (33 < r ∧ r < 51) ∨ 51 < r := by
        by_cases z : r = 32 ∨ r = 33 ∨ r = 51
        · exfalso
          rcases z with rfl | rfl | rfl <;> exact hr rfl
        · omega
      rw [c2 r this] at hj
      rw [ln r j (by omega)]; exact s2 r hr j hj
theorem RM_next {R' : GR} {i : Nat} (h : RM R R' i) (hi : i < rC R 30) : RM R (nr (nr (nr R' 31 2) 32 (5 * rC R 20)) 33 (5 * rC R 20)) (i + 1) := by
  obtain ⟨⟨c51, c31, c32, c33⟩, c2, l51, lh, ln, rk, rz⟩ := h
  have a2 : rC (nr R' 31 2) 32 = rC R 31 + i := by rw [nr_C (by decide)]; exact c32
  have a3 : rC (nr (nr R' 31 2) 32 (5 * rC R 20)) 33 = rC R 31 + i := by rw [nr_C (by decide), nr_C (by decide)]; exact c33
  refine ⟨⟨?_, ?_, ?_, ?_⟩, fun r h => ?_, ?_, fun h hh => ⟨?_, ?_, ?_⟩, fun r j h => ?_, ?_, ?_⟩
  · rw [nr_C (by decide), nr_C (by decide), nr_C (by decide)]; exact c51
  · rw [nr_C (by decide), nr_C (by decide), nr_Ce, c31]; omega
  · rw [nr_C (by decide), nr_Ce, a2]; omega
  · rw [nr_Ce, a3]; omega
  · rw [nr_C (by omega), nr_C (by omega), nr_C (by omega)]; exact c2 r h
  · rw [nr_N (Or.inl (by decide)), nr_N (Or.inl (by decide)), nr_N (Or.inl (by decide))]; exact l51
  · rw [nr_N (Or.inl (by decide)), nr_N (Or.inl (by decide))]
    by_cases e : h = i
    · subst e
      have := nr_Ne (R := R') (r := 31) (n := 2)
      rw [c31] at this; exact this
    · rw [nr_N (Or.inr (by rw [c31]; omega))]; exact (lh h (by omega)).1
  · rw [nr_N (Or.inl (by decide))]
    by_cases e : h = i
    · subst e
      have := nr_Ne (R := nr R' 31 2) (r := 32) (n := 5 * rC R 20)
      rw [a2] at this; exact this
    · rw [nr_N (Or.inr (by rw [a2]; omega)), nr_N (Or.inl (by decide))]; exact (lh h (by omega)).2.1
  · by_cases e : h = i
    · subst e
      have := nr_Ne (R := nr (nr R' 31 2) 32 (5 * rC R 20)) (r := 33) (n := 5 * rC R 20)
      rw [a3] at this; exact this
    · rw [nr_N (Or.inr (by rw [a3]; omega)), nr_N (Or.inl (by decide)), nr_N (Or.inl (by decide))]; exact (lh h (by omega)).2.2
  · rw [nr_N (by rw [a3]; omega), nr_N (by rw [a2]; omega), nr_N (by rw [c31]; omega)]; exact ln r j h
  · rw [nr_K, nr_K, nr_K, rk]; omega
  · rw [nr_Z, nr_Z, nr_Z, rz, Nat.add_mul]; omega
theorem w_init6 {W : GV} {R' : GR} {i s : Nat} {f : Int × GS → GO} (hm : RM R R' i) (hi : i < rC R 30) (h30 : rC R 30 ≤ 40) (b20 : rC R 20 ≤ 24) (hK : rK R < 10000) (hZ : rZ R < 800000) (hl : SHl R') (hs : s < rC R 31) (ws0 : W 31 s 0 = (s : Int)) (ws1 : W 31 s 1 = (s : Int)) (l32 : rN R' 32 s = 120) (l33 : rN R' 33 s = 120)
  (K : ∀ W', (∀ r j k, ¬ ((r = 31 ∨ r = 32 ∨ r = 33) ∧ j = rC R 31 + i) → W' r j k = W r j k) → (W' 31 (rC R 31 + i) 0 = ((rC R 31 + i : Nat) : Int) ∧ W' 31 (rC R 31 + i) 1 = ((rC R 31 + i : Nat) : Int)) → (∀ k, k < 5 * rC R 20 → W' 32 (rC R 31 + i) k = W 32 s k ∧ W' 33 (rC R 31 + i) k = W 33 s k) → Wp (f (0, (W', nr (nr (nr R' 31 2) 32 (5 * rC R 20)) 33 (5 * rC R 20)))) Q) :
  Wp ((g_X6_init_ ((rC R 31 + i : Nat) : Int) (s : Int) (rC R 20 : Int) (nv W 31 (rC R 31 + i), nr R' 31 2)).bind f) Q := by
  obtain ⟨⟨c51, c31, c32, c33⟩, c2, l51, lh, ln, rk, rz⟩ := hm
  have zb : rZ R' ≤ rZ R + 40 + 40 * 242 := by
    have : i * (2 + 10 * rC R 20) ≤ 40 * 242 := Nat.mul_le_mul (by omega) (by omega)
    omega
  have a1 : rC (nr R' 31 2) 31 = rC R 31 + i + 1 := by rw [nr_Ce, c31]
  have a2 : rC (nr R' 31 2) 32 = rC R 31 + i := by rw [nr_C (by decide)]; exact c32
  have a3 : rC (nr (nr R' 31 2) 32 (5 * rC R 20)) 33 = rC R 31 + i := by rw [nr_C (by decide), nr_C (by decide)]; exact c33
  have n31 : rN (nr R' 31 2) 31 (rC R 31 + i) = 2 := by
    have := nr_Ne (R := R') (r := 31) (n := 2)
    rw [c31] at this; exact this
  have n31s : rN (nr R' 31 2) 31 s = 2 := by rw [nr_N (Or.inr (by rw [c31]; omega)), hl.2 31 (by decide) s (by omega)]; rfl
  have cnt : w32 (imin (imax (rC R 20 : Int) 0) 24 * 5) = ((5 * rC R 20 : Nat) : Int) := by
    have e1 : imax (rC R 20 : Int) 0 = (rC R 20 : Int) := by unfold imax; rw [if_neg (by omega)]
    have e2 : imin (rC R 20 : Int) 24 = (rC R 20 : Int) := by unfold imin; rw [if_neg (by omega)]
    rw [e1, e2, w32_id (by omega) (by omega)]; omega
  refine w_bind ?_
  unfold g_X6_init_
  refine w_gv (by omega) ?_
  refine w_gl (by omega) (by rw [tn_c, a1]; omega) (by omega) (by rw [tn_c, n31s]; decide) (fun x hx => ?_)
  simp only [tn_c, Int.reduceToNat] at hx
  rw [nv_o (Or.inr (by omega)), ws0] at hx
  subst hx
  rw [cnt]
  refine w_gcp (by rw [a2]; omega) (by omega) (by rw [nr_K, rk]; omega) (by rw [nr_Z]; omega) ?_
  rw [a2]
  refine w_gs' (k := 0) (by rw [nr_C (by decide), a1]; omega) (by rw [nr_N (Or.inl (by decide)), n31]; decide) ?_
  refine w_gl (by omega) (by rw [tn_c, nr_C (by decide), a1]; omega) (by omega) (by rw [tn_c, nr_N (Or.inl (by decide)), n31s]; decide) (fun x hx => ?_)
  simp only [tn_c, Int.reduceToNat] at hx
  rw [u3_nk (by decide), alv_o (Or.inl (by decide)), nv_o (Or.inl (by decide)), nv_o (Or.inr (by omega)), ws1] at hx
  subst hx
  refine w_gcp (by rw [a3]; omega) (by omega) (by rw [nr_K, nr_K, rk]; omega) (by rw [nr_Z, nr_Z]; omega) ?_
  rw [a3]
  refine w_gs' (k := 1) (by rw [nr_C (by decide), nr_C (by decide), a1]; omega) (by rw [nr_N (Or.inl (by decide)), nr_N (Or.inl (by decide)), n31]; decide) ?_
  refine w_ret (K _ (fun r j k h => ?_) ⟨?_, ?_⟩ (fun k hk => ⟨?_, ?_⟩))
  · have g : ∀ {Z : GV} {m : Nat} {v : Int}, u3 Z 31 (rC R 31 + i) m v r j k = Z r j k := by
      intro Z m v
      by_cases e : r = 31
      · exact u3_ni (fun z => h ⟨Or.inl e, z⟩)
      · exact u3_ne e
    have d33 : r ≠ 33 ∨ j ≠ rC R 31 + i := by
      by_cases e : r = 33
      · exact Or.inr (fun z => h ⟨Or.inr (Or.inr e), z⟩)
      · exact Or.inl e
    have d32 : r ≠ 32 ∨ j ≠ rC R 31 + i := by
      by_cases e : r = 32
      · exact Or.inr (fun z => h ⟨Or.inr (Or.inl e), z⟩)
      · exact Or.inl e
    have d31 : r ≠ 31 ∨ j ≠ rC R 31 + i := by
      by_cases e : r = 31
      · exact Or.inr (fun z => h ⟨Or.inl e, z⟩)
      · exact Or.inl e
    rw [g, alv_o d33, nv_o d33, g, alv_o d32, nv_o d32, nv_o d31]
  · rw [u3_nk (by decide), alv_o (Or.inl (by decide)), nv_o (Or.inl (by decide)), u3_eq]
  · rw [u3_eq]
  · rw [u3_ne (by decide), alv_o (Or.inl (by decide)), nv_o (Or.inl (by decide)), u3_ne (by decide), alv_e, nr_N (Or.inl (by decide)), l32, if_pos (by omega), nv_o (Or.inl (by decide))]
  · rw [u3_ne (by decide), alv_e, nr_N (Or.inl (by decide)), nr_N (Or.inl (by decide)), l33, if_pos (by omega), u3_ne (by decide), alv_o (Or.inl (by decide)), nv_o (Or.inl (by decide)), nv_o (Or.inl (by decide))]
end Freeze
