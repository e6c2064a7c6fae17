section ShPure
def wsm (w : Nat → Int) : Nat → Int
  | 0 => 0
  | k + 1 => wsm w k + w k
def flr (w : Nat → Int) (nn tot : Int) (k : Nat) : Int := nn * w k / tot
def rmr (w : Nat → Int) (nn tot : Int) (k : Nat) : Int := nn * w k % tot
def rst (w : Nat → Int) (nn tot : Int) : Nat → Int
  | 0 => nn
  | k + 1 => rst w nn tot k - flr w nn tot k
def rsm (w : Nat → Int) (nn tot : Int) : Nat → Int
  | 0 => 0
  | k + 1 => rsm w nn tot k + rmr w nn tot k
variable {w : Nat → Int} {nn tot : Int} {N : Nat}
theorem wsm_cg {w' : Nat → Int} : ∀ {k : Nat}, (∀ j, j < k → w' j = w j) → wsm w' k = wsm w k
  | 0, _ => rfl
  | k + 1, h => by unfold wsm; rw [wsm_cg (fun j hj => h j (by omega)), h k (by omega)]
theorem wsm_b : ∀ {k : Nat}, (∀ j, j < k → 0 ≤ w j ∧ w j ≤ 100800000) → 0 ≤ wsm w k ∧ wsm w k ≤ 100800000 * (k : Int)
  | 0, _ => by unfold wsm; omega
  | k + 1, h => by
    have h1 := wsm_b (k := k) (fun j hj => h j (by omega))
    have h2 := h k (by omega)
    unfold wsm; omega
theorem wsm_mono : ∀ {n k : Nat}, k ≤ n → (∀ j, j < n → 0 ≤ w j) → wsm w k ≤ wsm w n
  | 0, k, hk, _ => by have : k = 0 := by omega
                      subst this; exact Int.le_refl _
  | n + 1, k, hk, h => by
    by_cases e : k = n + 1
    · subst e; exact Int.le_refl _
    · have h1 := wsm_mono (n := n) (k := k) (by omega) (fun j hj => h j (by omega))
      have h2 := h n (by omega)
      show wsm w k ≤ wsm w n + w n
      omega
theorem wsm_one {k n : Nat} (hk : k < n) (h : ∀ j, j < n → 0 ≤ w j) : w k ≤ wsm w n := by
  have h1 := wsm_mono (w := w) (n := n) (k := k + 1) (by omega) h
  have h2 := wsm_mono (w := w) (n := k) (k := 0) (by omega) (fun j hj => h j (by omega))
  have e : wsm w (k + 1) = wsm w k + w k := rfl
  have e0 : wsm w 0 = 0 := rfl
  omega
theorem mul_b {a b A B : Int} (a0 : 0 ≤ a) (aA : a ≤ A) (b0 : 0 ≤ b) (bB : b ≤ B) : 0 ≤ a * b ∧ a * b ≤ A * B :=
  ⟨Int.mul_nonneg a0 b0, Int.mul_le_mul aA bB b0 (Int.le_trans a0 aA)⟩
def shok (w : Nat → Int) (nn tot : Int) (N : Nat) : Prop := (0 ≤ nn ∧ nn ≤ 1000000) ∧ (∀ k, k < N → 0 ≤ w k ∧ w k ≤ 100800000) ∧ tot = wsm w N ∧ 0 < tot ∧ N ≤ 81
theorem shok.p (h : shok w nn tot N) {k : Nat} (hk : k < N) : 0 ≤ nn * w k ∧ nn * w k ≤ 100800000000000 := by
  obtain ⟨⟨h0, h1⟩, h2, _⟩ := h
  have := mul_b h0 h1 (h2 k hk).1 (h2 k hk).2
  omega
theorem shok.f (h : shok w nn tot N) {k : Nat} (hk : k < N) : 0 ≤ flr w nn tot k ∧ flr w nn tot k ≤ nn := by
  have hp := h.p hk
  obtain ⟨⟨h0, h1⟩, h2, h3, h4, h5⟩ := h
  unfold flr
  refine ⟨Int.ediv_nonneg hp.1 (Int.le_of_lt h4), Int.ediv_le_of_le_mul h4 ?_⟩
  refine Int.mul_le_mul_of_nonneg_left ?_ h0
  rw [h3]
  exact wsm_one hk (fun j hj => (h2 j hj).1)
theorem shok.r (h : shok w nn tot N) (k : Nat) : 0 ≤ rmr w nn tot k ∧ rmr w nn tot k ≤ tot - 1 := by
  have h4 := h.2.2.2.1
  unfold rmr
  have a := Int.emod_nonneg (nn * w k) (Int.ne_of_gt h4)
  have b := Int.emod_lt_of_pos (nn * w k) h4
  omega
theorem shok.w1 (h : shok w nn tot N) {k : Nat} (hk : k < N) : w32 (w64 (Int.tdiv (w64 (nn * w k)) tot)) = flr w nn tot k := by
  have hp := h.p hk
  have hf := h.f hk
  have hn := h.1
  rw [w64_id (x := nn * w k) (by omega) (by omega), Int.tdiv_eq_ediv_of_nonneg hp.1]
  show w32 (w64 (flr w nn tot k)) = _
  rw [w64_id (by omega) (by omega), w32_id (by omega) (by omega)]
theorem shok.w2 (h : shok w nn tot N) {k : Nat} (hk : k < N) : Int.tmod (w64 (nn * w k)) tot = rmr w nn tot k := by
  have hp := h.p hk
  rw [w64_id (x := nn * w k) (by omega) (by omega), Int.tmod_eq_emod_of_nonneg hp.1]
  rfl
theorem shok.eq (h : shok w nn tot N) : ∀ {k : Nat}, k ≤ N → tot * rst w nn tot k = nn * tot - nn * wsm w k + rsm w nn tot k ∧ rst w nn tot k ≤ nn ∧ 0 ≤ rsm w nn tot k ∧ rsm w nn tot k ≤ (k : Int) * (tot - 1)
  | 0, _ => by
    unfold rst rsm wsm
    refine ⟨?_, Int.le_refl _, Int.le_refl _, by simp⟩
    rw [Int.mul_zero, Int.mul_comm]; omega
  | k + 1, hk => by
    obtain ⟨i1, i2, i3, i4⟩ := shok.eq h (k := k) (by omega)
    have hf := h.f (k := k) (by omega)
    have hr := h.r k
    have e : rmr w nn tot k + tot * flr w nn tot k = nn * w k := Int.emod_add_mul_ediv (nn * w k) tot
    refine ⟨?_, ?_, ?_, ?_⟩
    · show tot * (rst w nn tot k - flr w nn tot k) = nn * tot - nn * (wsm w k + w k) + (rsm w nn tot k + rmr w nn tot k)
      rw [Int.mul_sub, Int.mul_add]
      omega
    · show rst w nn tot k - flr w nn tot k ≤ nn
      omega
    · show 0 ≤ rsm w nn tot k + rmr w nn tot k
      omega
    · show rsm w nn tot k + rmr w nn tot k ≤ ((k + 1 : Nat) : Int) * (tot - 1)
      have : ((k + 1 : Nat) : Int) * (tot - 1) = (k : Int) * (tot - 1) + (tot - 1) := by
        rw [Int.natCast_add, Int.add_mul]; omega
      omega
theorem shok.n0 (h : shok w nn tot N) {k : Nat} (hk : k ≤ N) : 0 ≤ rst w nn tot k := by
  obtain ⟨i1, i2, i3, i4⟩ := h.eq hk
  obtain ⟨⟨h0, h1⟩, h2, h3, h4, h5⟩ := h
  have m : nn * wsm w k ≤ nn * tot := by
    refine Int.mul_le_mul_of_nonneg_left ?_ h0
    rw [h3]; exact wsm_mono hk (fun j hj => (h2 j hj).1)
  have : 0 ≤ tot * rst w nn tot k := by omega
  exact Int.nonneg_of_mul_nonneg_right this h4
theorem shok.st (h : shok w nn tot N) {k : Nat} (hk : k < N) : w32 (rst w nn tot k - flr w nn tot k) = rst w nn tot (k + 1) := by
  have a := (h.eq (k := k) (by omega)).2.1
  have b := h.n0 (k := k) (by omega)
  have c := h.f hk
  have d := h.1
  exact w32_id (by omega) (by omega)
theorem shok.lt (h : shok w nn tot N) (h1 : 1 ≤ N) : 0 ≤ rst w nn tot N ∧ rst w nn tot N < (N : Int) := by
  refine ⟨h.n0 (Nat.le_refl _), ?_⟩
  obtain ⟨i1, i2, i3, i4⟩ := h.eq (k := N) (Nat.le_refl _)
  have h3 := h.2.2.1
  have h4 := h.2.2.2.1
  rw [← h3] at i1
  have : tot * rst w nn tot N < tot * (N : Int) := by
    have e : (N : Int) * (tot - 1) = tot * (N : Int) - N := by rw [Int.mul_sub, Int.mul_comm]; omega
    omega
  exact Int.lt_of_mul_lt_mul_left this (Int.le_of_lt h4)
def bst (f : Nat → Int) : Nat → Nat
  | 0 => 0
  | k + 1 => if f (bst f k) < f k then k else bst f k
theorem bst_lt {f : Nat → Int} : ∀ {k : Nat}, 1 ≤ k → bst f k < k
  | 0, h => absurd h (by omega)
  | k + 1, _ => by
    unfold bst
    by_cases c : f (bst f k) < f k
    · rw [if_pos c]; omega
    · rw [if_neg c]
      by_cases e : k = 0
      · subst e; show 0 < 1; omega
      · have := bst_lt (f := f) (k := k) (by omega); omega
theorem bst_1 {f : Nat → Int} : bst f 1 = 0 := by
  unfold bst
  by_cases c : f (bst f 0) < f 0
  · rw [if_pos c]
  · rw [if_neg c]; rfl
def updx (f : Nat → Int) (b : Nat) (v : Int) : Nat → Int := fun k => if k = b then v else f k
def gst (N : Nat) (z : (Nat → Int) × (Nat → Int)) : (Nat → Int) × (Nat → Int) := (updx z.1 (bst z.2 N) (w32 (z.1 (bst z.2 N) + 1)), updx z.2 (bst z.2 N) (-1))
def giv (N : Nat) (z : (Nat → Int) × (Nat → Int)) : Nat → (Nat → Int) × (Nat → Int)
  | 0 => z
  | t + 1 => gst N (giv N z t)
end ShPure
