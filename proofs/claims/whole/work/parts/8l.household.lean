section Household
variable {V : GV} {R : GR} {Q : Int → GS → Prop}
def alv (V : GV) (r i : Nat) (g : Nat → Int) : GV := fun r' i' k' => if r' = r ∧ i' = i then g k' else V r' i' k'
theorem w_gfl {r i : Nat} {x : Int} {f : Int × GS → GO} (h1 : i < rC R r) (h2 : rN R r i < 6000) (k : Wp (f (0, (alv V r i (fun _ => x), R))) Q) : Wp ((gfl r (i : Int) x (V, R)).bind f) Q := by
  have e : gfl r (i : Int) x (V, R) = some (0, (alv V r i (fun _ => x), R)) := by
    unfold gfl
    rw [if_pos ⟨by omega, by rw [tn_c]; exact h1, by rw [tn_c]; exact h2⟩, tn_c]
    rfl
  rw [e]; exact k
theorem alv_o {r i r' i' k' : Nat} {g : Nat → Int} (h : r' ≠ r ∨ i' ≠ i) : alv V r i g r' i' k' = V r' i' k' := if_neg (fun z => by rcases h with h | h; exact h z.1; exact h z.2)
theorem alv_e {r i k' : Nat} {g : Nat → Int} : alv V r i g r i k' = g k' := if_pos ⟨rfl, rfl⟩
def rh5 (R : GR) : GR := nr (nr (nr (nr (nr R 30 4) 31 2) 32 120) 33 120) 34 60
theorem RH5 (hS : SH R) : RH R (rh5 R) := by
  obtain ⟨_, _, _, _, s34, s32, s33, _⟩ := hS.2.2
  have a1 : rC (nr R 30 4) 31 = rC R 31 := nr_C (by decide)
  have a2 : rC (nr (nr R 30 4) 31 2) 32 = rC R 31 := by rw [nr_C (by decide), nr_C (by decide)]; exact s32
  have a3 : rC (nr (nr (nr R 30 4) 31 2) 32 120) 33 = rC R 31 := by rw [nr_C (by decide), nr_C (by decide), nr_C (by decide)]; exact s33
  have a4 : rC (nr (nr (nr (nr R 30 4) 31 2) 32 120) 33 120) 34 = rC R 30 := by rw [nr_C (by decide), nr_C (by decide), nr_C (by decide), nr_C (by decide)]; exact s34
  unfold rh5
  refine ⟨⟨?_, ?_, ?_, ?_, ?_⟩, fun r h => ?_, ⟨?_, ?_, ?_, ?_, ?_⟩, fun r i h => ?_, rfl, ?_⟩
  · rw [nr_C (by decide), nr_C (by decide), nr_C (by decide), nr_C (by decide), nr_Ce]
  · rw [nr_Ce, a4]
  · rw [nr_C (by decide), nr_C (by decide), nr_C (by decide), nr_Ce, a1]
  · rw [nr_C (by decide), nr_C (by decide), nr_Ce, a2]
  · rw [nr_C (by decide), nr_Ce, a3]
  · rw [nr_C (by omega), nr_C (by omega), nr_C (by omega), nr_C (by omega), nr_C (by omega)]
  · rw [nr_N (Or.inl (by decide)), nr_N (Or.inl (by decide)), nr_N (Or.inl (by decide)), nr_N (Or.inl (by decide)), nr_Ne]
  · have := nr_Ne (R := nr (nr (nr (nr R 30 4) 31 2) 32 120) 33 120) (r := 34) (n := 60)
    rw [a4] at this; exact this
  · rw [nr_N (Or.inl (by decide)), nr_N (Or.inl (by decide)), nr_N (Or.inl (by decide))]
    have := nr_Ne (R := nr R 30 4) (r := 31) (n := 2)
    rw [a1] at this; exact this
  · rw [nr_N (Or.inl (by decide)), nr_N (Or.inl (by decide))]
    have := nr_Ne (R := nr (nr R 30 4) 31 2) (r := 32) (n := 120)
    rw [a2] at this; exact this
  · rw [nr_N (Or.inl (by decide))]
    have := nr_Ne (R := nr (nr (nr R 30 4) 31 2) 32 120) (r := 33) (n := 120)
    rw [a3] at this; exact this
  · rw [nr_N ?_, nr_N ?_, nr_N ?_, nr_N ?_, nr_N ?_]
    · omega
    · rw [a1]; omega
    · rw [a2]; omega
    · rw [a3]; omega
    · rw [a4]; omega
  · show rZ R + 4 + 2 + 120 + 120 + 60 ≤ rZ R + 306
    omega
def nhv (V : GV) (h s : Nat) : GV := u3 (u3 (nv (u3 (alv (u3 (nv (u3 (nv (nv (nv V 30 h) 31 s) 32 s) 31 s 0 (s : Int)) 33 s) 31 s 1 (s : Int)) 33 s (fun _ => 1)) 30 h 0 (s : Int)) 34 h) 30 h 1 (h : Int)) 30 h 3 2520
theorem nhv_o {h s r i k : Nat} (h1 : (r ≠ 30 ∧ r ≠ 34) ∨ i ≠ h) (h2 : (r ≠ 31 ∧ r ≠ 32 ∧ r ≠ 33) ∨ i ≠ s) : nhv V h s r i k = V r i k := by
  have g30 : ∀ {W : GV} {j : Nat} {v : Int}, u3 W 30 h j v r i k = W r i k := by
    intro W j v
    rcases h1 with h1 | h1
    · exact u3_ne h1.1
    · exact u3_ni h1
  have g31 : ∀ {W : GV} {j : Nat} {v : Int}, u3 W 31 s j v r i k = W r i k := by
    intro W j v
    rcases h2 with h2 | h2
    · exact u3_ne h2.1
    · exact u3_ni h2
  unfold nhv
  rw [g30, g30, nv_o (by omega), g30, alv_o (by omega), g31, nv_o (by omega), g31, nv_o (by omega), nv_o (by omega), nv_o (by omega)]
theorem nhv_f {h s : Nat} : (nhv V h s 30 h 0 = (s : Int) ∧ nhv V h s 30 h 1 = (h : Int) ∧ nhv V h s 30 h 2 = 0 ∧ nhv V h s 30 h 3 = 2520) ∧ (nhv V h s 31 s 0 = (s : Int) ∧ nhv V h s 31 s 1 = (s : Int)) ∧ (∀ k, nhv V h s 32 s k = 0) ∧ (∀ k, nhv V h s 33 s k = 1) := by
  have av : ∀ {W : GV} {r' i' k' : Nat}, r' ≠ 33 → alv W 33 s (fun _ => 1) r' i' k' = W r' i' k' := fun hh => alv_o (Or.inl hh)
  unfold nhv
  refine ⟨⟨?_, ?_, ?_, ?_⟩, ⟨?_, ?_⟩, fun k => ?_, fun k => ?_⟩
  · simp (disch := decide) only [u3_eq, u3_nk, nv_ne]
  · simp (disch := decide) only [u3_eq, u3_nk, nv_ne]
  · simp (disch := decide) only [u3_nk, nv_ne, av, u3_ne]; exact nv_e.trans (if_pos rfl)
  · simp (disch := decide) only [u3_eq]
  · simp (disch := decide) only [u3_eq, u3_nk, u3_ne, nv_ne, av]
  · simp (disch := decide) only [u3_eq, u3_nk, u3_ne, nv_ne, av]
  · simp (disch := decide) only [u3_ne, nv_ne, av]; exact nv_e.trans (if_pos rfl)
  · simp (disch := decide) only [u3_ne, nv_ne]; exact alv_e
theorem w_init4 {f : Int × GS → GO} (hS : SH R) (hk : rK R < 500000) (hz : rZ R < 7000000) (K : Wp (f (0, (nhv V (rC R 30) (rC R 31), rh5 R))) Q) : Wp ((g_X4_init (rC R 30 : Int) (nv V 30 (rC R 30), nr R 30 4)).bind f) Q := by
  obtain ⟨_, _, _, _, s34, s32, s33, _⟩ := hS.2.2
  have a1 : rC (nr R 30 4) 31 = rC R 31 := nr_C (by decide)
  have a2 : rC (nr (nr R 30 4) 31 2) 32 = rC R 31 := by rw [nr_C (by decide), nr_C (by decide)]; exact s32
  have a3 : rC (nr (nr (nr R 30 4) 31 2) 32 120) 33 = rC R 31 := by rw [nr_C (by decide), nr_C (by decide), nr_C (by decide)]; exact s33
  have a4 : rC (nr (nr (nr (nr R 30 4) 31 2) 32 120) 33 120) 34 = rC R 30 := by rw [nr_C (by decide), nr_C (by decide), nr_C (by decide), nr_C (by decide)]; exact s34
  have n31 : rN (nr (nr R 30 4) 31 2) 31 (rC R 31) = 2 := by
    have := nr_Ne (R := nr R 30 4) (r := 31) (n := 2)
    rw [a1] at this; exact this
  have c31 : rC R 31 < rC (nr (nr R 30 4) 31 2) 31 := by rw [nr_Ce, a1]; omega
  have n30 : rN (nr (nr R 30 4) 31 2) 30 (rC R 30) = 4 := by rw [nr_N (Or.inl (by decide))]; exact nr_Ne
  have c30 : rC R 30 < rC (nr (nr R 30 4) 31 2) 30 := by rw [nr_C (by decide), nr_Ce]; omega
  have ws : ∀ {W : GV} {R1 : GR} {r i k : Nat} {v : Int} {g : GS → GO} {P : Int → GS → Prop}, i < rC R1 r → k < rN R1 r i → Wp (g (u3 W r i k v, R1)) P → Wp ((gs r (W, R1) (i : Int) (k : Int) v).bind g) P := by
    intro W R1 r i k v g P h1 h2 kk
    refine w_gs (by omega) (by omega) (by omega) (by rw [tn_c, tn_c]; exact h2) ?_
    rw [tn_c, tn_c]; exact kk
  refine w_bind ?_
  unfold g_X4_init
  refine w_gv (by omega) ?_
  refine w_gn (n := 2) (by omega) (by rw [nr_K]; omega) (by rw [nr_Z]; omega) ?_
  rw [a1]
  refine w_bind ?_
  unfold g_X6_init
  refine w_gv (by omega) ?_
  refine w_gn (n := 120) (by omega) (by rw [nr_K, nr_K]; omega) (by rw [nr_Z, nr_Z]; omega) ?_
  rw [a2]
  refine ws (k := 0) (by rw [nr_C (by decide)]; exact c31) (by rw [nr_N (Or.inl (by decide)), n31]; decide) ?_
  refine w_gn (n := 120) (by omega) (by rw [nr_K, nr_K, nr_K]; omega) (by rw [nr_Z, nr_Z, nr_Z]; omega) ?_
  rw [a3]
  refine ws (k := 1) (by rw [nr_C (by decide), nr_C (by decide)]; exact c31) (by rw [nr_N (Or.inl (by decide)), nr_N (Or.inl (by decide)), n31]; decide) ?_
  refine w_gl (by omega) (by rw [tn_c, nr_C (by decide), nr_C (by decide)]; exact c31) (by omega) (by rw [tn_c, nr_N (Or.inl (by decide)), nr_N (Or.inl (by decide)), n31]; decide) (fun x hx => ?_)
  simp only [tn_c, Int.reduceToNat] at hx
  rw [u3_eq] at hx
  subst hx
  have l33 : rN (nr (nr (nr (nr R 30 4) 31 2) 32 120) 33 120) 33 (rC R 31) = 120 := by
    have := nr_Ne (R := nr (nr (nr R 30 4) 31 2) 32 120) (r := 33) (n := 120)
    rw [a3] at this; exact this
  refine w_gfl (by rw [nr_Ce, a3]; omega) (by rw [l33]; decide) (w_ret ?_)
  refine ws (k := 0) (by rw [nr_C (by decide), nr_C (by decide)]; exact c30) (by rw [nr_N (Or.inl (by decide)), nr_N (Or.inl (by decide)), n30]; decide) ?_
  refine w_gn (n := 60) (by omega) (by rw [nr_K, nr_K, nr_K, nr_K]; omega) (by rw [nr_Z, nr_Z, nr_Z, nr_Z]; omega) ?_
  rw [a4]
  refine ws (k := 1) (by rw [nr_C (by decide), nr_C (by decide), nr_C (by decide)]; exact c30) (by rw [nr_N (Or.inl (by decide)), nr_N (Or.inl (by decide)), nr_N (Or.inl (by decide)), n30]; decide) ?_
  refine ws (k := 3) (by rw [nr_C (by decide), nr_C (by decide), nr_C (by decide)]; exact c30) (by rw [nr_N (Or.inl (by decide)), nr_N (Or.inl (by decide)), nr_N (Or.inl (by decide)), n30]; decide) ?_
  exact w_ret K
end Household
