section SortP
def ipos (f : Nat → Int) (v : Int) : Nat → Nat
  | 0 => 0
  | t + 1 => if v < f t then ipos f v t else t + 1
def insn (a : Nat → Nat) (p h : Nat) : Nat → Nat := fun k => if k < p then a k else if k = p then h else a (k - 1)
def srt (sel : Nat → Prop) (ds : ∀ g, Decidable (sel g)) (ht : Nat → Int) : Nat → (Nat → Nat) × Nat
  | 0 => (fun _ => 0, 0)
  | i + 1 => @ite _ (sel i) (ds i) (insn (srt sel ds ht i).1 (ipos (fun k => ht ((srt sel ds ht i).1 k)) (ht i) (srt sel ds ht i).2) i, (srt sel ds ht i).2 + 1) (srt sel ds ht i)
theorem ipos_le {f : Nat → Int} {v : Int} : ∀ {t : Nat}, ipos f v t ≤ t
  | 0 => Nat.le_refl _
  | t + 1 => by
    unfold ipos
    split
    · exact Nat.le_trans ipos_le (Nat.le_succ _)
    · exact Nat.le_refl _
theorem ipos_s {f : Nat → Int} {v : Int} {t : Nat} (h : v < f t) : ipos f v (t + 1) = ipos f v t := if_pos h
theorem ipos_e {f : Nat → Int} {v : Int} {t : Nat} (h : ¬ v < f t) : ipos f v (t + 1) = t + 1 := if_neg h
theorem ipos_cg {f g : Nat → Int} {v : Int} : ∀ {t : Nat}, (∀ k, k < t → f k = g k) → ipos f v t = ipos g v t
  | 0, _ => rfl
  | t + 1, h => by
    unfold ipos
    rw [h t (by omega), ipos_cg (fun k hk => h k (by omega))]
theorem ipos_up {f : Nat → Int} {v : Int} {t : Nat} : ∀ {n : Nat}, t ≤ n → (∀ k, t ≤ k → k < n → v < f k) → ipos f v n = ipos f v t
  | 0, h, _ => by have : t = 0 := by omega
                  rw [this]
  | n + 1, h, hk => by
    by_cases e : t = n + 1
    · rw [e]
    · rw [ipos_s (hk n (by omega) (by omega)), ipos_up (by omega) (fun k h1 h2 => hk k h1 (by omega))]
variable {sel : Nat → Prop} {ds : ∀ g, Decidable (sel g)} {ht : Nat → Int}
theorem srt_1 {i : Nat} (h : sel i) : srt sel ds ht (i + 1) = (insn (srt sel ds ht i).1 (ipos (fun k => ht ((srt sel ds ht i).1 k)) (ht i) (srt sel ds ht i).2) i, (srt sel ds ht i).2 + 1) := if_pos h
theorem srt_0 {i : Nat} (h : ¬ sel i) : srt sel ds ht (i + 1) = srt sel ds ht i := if_neg h
theorem insn_P {a : Nat → Nat} {p h n : Nat} {P : Nat → Prop} (hp : p ≤ n) (h1 : ∀ k, k < n → P (a k)) (h2 : P h) : ∀ k, k < n + 1 → P (insn a p h k) := by
  intro k hk
  unfold insn
  by_cases c1 : k < p
  · rw [if_pos c1]; exact h1 k (by omega)
  · rw [if_neg c1]
    by_cases c2 : k = p
    · rw [if_pos c2]; exact h2
    · rw [if_neg c2]; exact h1 (k - 1) (by omega)
theorem srt_lt : ∀ {i : Nat}, (srt sel ds ht i).2 ≤ i ∧ ∀ k, k < (srt sel ds ht i).2 → (srt sel ds ht i).1 k < i ∧ sel ((srt sel ds ht i).1 k)
  | 0 => ⟨Nat.le_refl _, fun k h => absurd h (Nat.not_lt_zero _)⟩
  | i + 1 => by
    have ih := srt_lt (i := i)
    by_cases c : sel i
    · rw [srt_1 c]
      refine ⟨Nat.succ_le_succ ih.1, ?_⟩
      exact insn_P (P := fun g => g < i + 1 ∧ sel g) ipos_le (fun k hk => ⟨Nat.lt_succ_of_lt (ih.2 k hk).1, (ih.2 k hk).2⟩) ⟨Nat.lt_succ_self _, c⟩
    · rw [srt_0 c]
      exact ⟨Nat.le_succ_of_le ih.1, fun k hk => ⟨Nat.lt_succ_of_lt (ih.2 k hk).1, (ih.2 k hk).2⟩⟩
theorem srt_cg {sel' : Nat → Prop} {ds' : ∀ g, Decidable (sel' g)} {ht' : Nat → Int} : ∀ {i : Nat}, (∀ g, g < i → (sel' g ↔ sel g) ∧ (sel g → ht' g = ht g)) → (srt sel' ds' ht' i).2 = (srt sel ds ht i).2 ∧ ∀ k, k < (srt sel ds ht i).2 → (srt sel' ds' ht' i).1 k = (srt sel ds ht i).1 k
  | 0, _ => ⟨rfl, fun k h => absurd h (Nat.not_lt_zero _)⟩
  | i + 1, h => by
    obtain ⟨e2, e1⟩ := srt_cg (i := i) (ds' := ds') (fun g hg => h g (by omega))
    have l := srt_lt (i := i) (sel := sel) (ds := ds) (ht := ht)
    by_cases c : sel i
    · rw [srt_1 c, srt_1 ((h i (by omega)).1.mpr c)]
      have ep : ipos (fun k => ht' ((srt sel' ds' ht' i).1 k)) (ht' i) (srt sel' ds' ht' i).2 = ipos (fun k => ht ((srt sel ds ht i).1 k)) (ht i) (srt sel ds ht i).2 := by
        rw [e2, (h i (by omega)).2 c]
        refine ipos_cg (fun k hk => ?_)
        rw [e1 k hk]
        exact (h _ (by have := (l.2 k hk).1; omega)).2 (l.2 k hk).2
      have lp := ipos_le (f := fun k => ht ((srt sel ds ht i).1 k)) (v := ht i) (t := (srt sel ds ht i).2)
      refine ⟨by show _ + 1 = _ + 1; rw [e2], fun k hk => ?_⟩
      dsimp only at hk ⊢
      rw [ep]
      unfold insn
      by_cases c1 : k < ipos (fun k => ht ((srt sel ds ht i).1 k)) (ht i) (srt sel ds ht i).2
      · rw [if_pos c1, if_pos c1]; exact e1 k (by omega)
      · rw [if_neg c1, if_neg c1]
        by_cases c2 : k = ipos (fun k => ht ((srt sel ds ht i).1 k)) (ht i) (srt sel ds ht i).2
        · rw [if_pos c2, if_pos c2]
        · rw [if_neg c2, if_neg c2]; exact e1 (k - 1) (by omega)
    · rw [srt_0 c, srt_0 (fun z => c ((h i (by omega)).1.mp z))]
      exact ⟨e2, e1⟩
def mct (sel : Nat → Prop) (ds : ∀ g, Decidable (sel g)) : Nat → Nat
  | 0 => 0
  | i + 1 => @ite _ (sel i) (ds i) (mct sel ds i) (mct sel ds i + 1)
theorem mct_1 {i : Nat} (h : sel i) : mct sel ds (i + 1) = mct sel ds i := if_pos h
theorem mct_0 {i : Nat} (h : ¬ sel i) : mct sel ds (i + 1) = mct sel ds i + 1 := if_neg h
def rkk (sel : Nat → Prop) (ds : ∀ g, Decidable (sel g)) (ht : Nat → Int) (g : Nat) : Int := @ite _ (sel g) (ds g) (ht g) 9223372036854775807
theorem rkk_1 {g : Nat} (h : sel g) : rkk sel ds ht g = ht g := if_pos h
theorem rkk_0 {g : Nat} (h : ¬ sel g) : rkk sel ds ht g = 9223372036854775807 := if_neg h
def dT : ∀ g : Nat, Decidable ((fun _ : Nat => True) g) := fun _ => isTrue trivial
theorem rank_eq (hm : ∀ g, sel g → ht g < 9223372036854775807) : ∀ {i : Nat}, (srt (fun _ => True) dT (rkk sel ds ht) i).2 = i ∧ (srt sel ds ht i).2 + mct sel ds i = i ∧ (∀ k, k < (srt sel ds ht i).2 → (srt (fun _ => True) dT (rkk sel ds ht) i).1 k = (srt sel ds ht i).1 k) ∧ (∀ k, (srt sel ds ht i).2 ≤ k → k < i → ¬ sel ((srt (fun _ => True) dT (rkk sel ds ht) i).1 k)) ∧ (∀ g, g < i → ¬ sel g → (srt (fun _ => True) dT (rkk sel ds ht) i).1 ((srt sel ds ht i).2 + mct sel ds g) = g)
  | 0 => ⟨rfl, rfl, fun k h => absurd h (Nat.not_lt_zero _), fun k _ h => absurd h (Nat.not_lt_zero _), fun g h => absurd h (Nat.not_lt_zero _)⟩
  | i + 1 => by
    obtain ⟨r1, r2, r3, r4, r5⟩ := rank_eq hm (i := i)
    have l := srt_lt (i := i) (sel := sel) (ds := ds) (ht := ht)
    have mono : ∀ {n g : Nat}, g ≤ n → mct sel ds g ≤ mct sel ds n := by
      intro n
      induction n with
      | zero => intro g h; have : g = 0 := by omega
                rw [this]; exact Nat.le_refl _
      | succ n ih =>
        intro g h
        by_cases e : g = n + 1
        · rw [e]; exact Nat.le_refl _
        · refine Nat.le_trans (ih (by omega)) ?_
          by_cases c : sel n
          · rw [mct_1 c]; exact Nat.le_refl _
          · rw [mct_0 c]; exact Nat.le_succ _
    have mlt : ∀ {g : Nat}, g < i → ¬ sel g → mct sel ds g < mct sel ds i := by
      intro g hg hn
      have := mono (n := i) (g := g + 1) hg
      rw [mct_0 hn] at this; omega
    rw [srt_1 (sel := fun _ => True) (ds := dT) trivial, r1]
    generalize hy : (srt (fun _ => True) dT (rkk sel ds ht) i).1 = y at *
    by_cases c : sel i
    · rw [srt_1 c, mct_1 c]
      generalize hz : (srt sel ds ht i).1 = z at *
      generalize hn : (srt sel ds ht i).2 = n at *
      have ep : ipos (fun k => rkk sel ds ht (y k)) (rkk sel ds ht i) i = ipos (fun k => ht (z k)) (ht i) n := by
        rw [rkk_1 c, ipos_up (t := n) l.1 (fun k h1 h2 => by rw [rkk_0 (r4 k h1 h2)]; exact hm i c)]
        refine ipos_cg (fun k hk => ?_)
        rw [r3 k hk, rkk_1 (l.2 k hk).2]
      have lp := ipos_le (f := fun k => ht (z k)) (v := ht i) (t := n)
      dsimp only
      rw [ep]
      generalize ipos (fun k => ht (z k)) (ht i) n = p at *
      refine ⟨rfl, by omega, fun k hk => ?_, fun k h1 h2 => ?_, fun g hg hn' => ?_⟩
      · unfold insn
        by_cases c1 : k < p
        · rw [if_pos c1, if_pos c1]; exact r3 k (by omega)
        · rw [if_neg c1, if_neg c1]
          by_cases c2 : k = p
          · rw [if_pos c2, if_pos c2]
          · rw [if_neg c2, if_neg c2]; exact r3 (k - 1) (by omega)
      · unfold insn
        rw [if_neg (by omega), if_neg (by omega)]
        exact r4 (k - 1) (by omega) (by omega)
      · have hgi : g ≠ i := fun e => hn' (e ▸ c)
        unfold insn
        rw [if_neg (by omega), if_neg (by omega), show n + 1 + mct sel ds g - 1 = n + mct sel ds g by omega]
        exact r5 g (by omega) hn'
    · rw [srt_0 c, mct_0 c]
      generalize hz : (srt sel ds ht i).1 = z at *
      generalize hn : (srt sel ds ht i).2 = n at *
      have ep : ipos (fun k => rkk sel ds ht (y k)) (rkk sel ds ht i) i = i := by
        by_cases e : i = 0
        · rw [e]; rfl
        · obtain ⟨j, rfl⟩ : ∃ j, i = j + 1 := ⟨i - 1, by omega⟩
          refine ipos_e ?_
          rw [rkk_0 c]
          by_cases s : sel (y j)
          · rw [rkk_1 s]; have := hm _ s; omega
          · rw [rkk_0 s]; omega
      dsimp only
      rw [ep]
      refine ⟨rfl, by omega, fun k hk => ?_, fun k h1 h2 => ?_, fun g hg hn' => ?_⟩
      · unfold insn
        rw [if_pos (by omega)]; exact r3 k hk
      · unfold insn
        by_cases c1 : k < i
        · rw [if_pos c1]; exact r4 k h1 c1
        · rw [if_neg c1, if_pos (by omega)]; exact c
      · unfold insn
        by_cases e : g = i
        · subst e
          rw [if_neg (by omega), if_pos (by omega)]
        · have := mlt (g := g) (by omega) hn'
          rw [if_pos (by omega)]; exact r5 g (by omega) hn'
end SortP
