section Ring
def clo (H : Nat → Nat → Prop) (m i j : Nat) (A B : Nat → Prop) : Prop := ∀ a b, a < m → H a b → ¬ (a = i ∧ b = j) → (A a ↔ B b)
def rch (H : Nat → Nat → Prop) (m i j b : Nat) : Prop := ∀ A B : Nat → Prop, A i → clo H m i j A B → B b
def hrw (H : Nat → Nat → Prop) (r : Nat → Nat) (m : Nat) : Prop := ∀ a b, a < m → (H a b ↔ (r a).testBit b = true)
theorem and_z {a b : Nat} : a &&& b = 0 ↔ ∀ p, ¬ (a.testBit p = true ∧ b.testBit p = true) := by
  constructor
  · intro h p hp
    have : (a &&& b).testBit p = true := by rw [Nat.testBit_and, hp.1, hp.2]; rfl
    rw [h, Nat.zero_testBit] at this
    exact absurd this (by decide)
  · intro h
    refine Nat.eq_of_testBit_eq (fun p => ?_)
    rw [Nat.zero_testBit, Nat.testBit_and]
    have := h p
    revert this
    cases a.testBit p <;> cases b.testBit p <;> simp
theorem or_t {a b p : Nat} : (a ||| b).testBit p = true ↔ (a.testBit p = true ∨ b.testBit p = true) := by
  rw [Nat.testBit_or, Bool.or_eq_true]
theorem or_s {a b : Nat} : a ||| b = a ↔ ∀ p, b.testBit p = true → a.testBit p = true := by
  constructor
  · intro h p hp
    rw [← h, or_t]; exact Or.inr hp
  · intro h
    refine Nat.eq_of_testBit_eq (fun p => ?_)
    have := h p
    rw [Nat.testBit_or]
    revert this
    cases a.testBit p <;> cases b.testBit p <;> simp
theorem tb_lt {a n p : Nat} (h : a < 2 ^ n) (hp : a.testBit p = true) : p < n := by
  by_cases c : p < n
  · exact c
  · have : a < 2 ^ p := Nat.lt_of_lt_of_le h (Nat.pow_le_pow_right (by decide) (by omega))
    rw [Nat.testBit_lt_two_pow this] at hp
    exact absurd hp (by decide)
def abd (r : Nat → Nat) (i T o : Nat) : Prop := o ≠ i ∧ r o &&& T ≠ 0 ∧ T ||| r o = T
def abb (r : Nat → Nat) (i T o : Nat) : Nat := if o ≠ i ∧ r o &&& T ≠ 0 ∧ T ||| r o = T then 1 else 0
theorem abb_1 {r : Nat → Nat} {i T o : Nat} (h : abd r i T o) : abb r i T o = 1 := if_pos h
theorem abb_0 {r : Nat → Nat} {i T o : Nat} (h : ¬ abd r i T o) : abb r i T o = 0 := if_neg h
def nab (r : Nat → Nat) (i T : Nat) : Nat → Nat
  | 0 => 0
  | o + 1 => nab r i T o + abb r i T o
theorem abb_le {r : Nat → Nat} {i T o : Nat} : abb r i T o ≤ 1 := by
  unfold abb; split <;> omega
theorem nab_le {r : Nat → Nat} {i T : Nat} : ∀ {k : Nat}, nab r i T k ≤ k ∧ (i < k → nab r i T k + 1 ≤ k)
  | 0 => ⟨Nat.le_refl _, fun h => absurd h (by omega)⟩
  | k + 1 => by
    have h := nab_le (r := r) (i := i) (T := T) (k := k)
    have b := abb_le (r := r) (i := i) (T := T) (o := k)
    show nab r i T k + abb r i T k ≤ k + 1 ∧ (i < k + 1 → nab r i T k + abb r i T k + 1 ≤ k + 1)
    refine ⟨by omega, fun hi => ?_⟩
    by_cases e : i = k
    · have : abb r i T k = 0 := abb_0 (fun z => z.1 e.symm)
      omega
    · have := h.2 (by omega); omega
theorem abd_mono {r : Nat → Nat} {i T T' o : Nat} (hs : ∀ p, T.testBit p = true → T'.testBit p = true) (h : abd r i T o) : abd r i T' o := by
  obtain ⟨h1, h2, h3⟩ := h
  refine ⟨h1, fun z => h2 (and_z.mpr (fun p hp => and_z.mp z p ⟨hp.1, hs p hp.2⟩)), or_s.mpr (fun p hp => hs p (or_s.mp h3 p hp))⟩
theorem abb_mono {r : Nat → Nat} {i T T' o : Nat} (hs : ∀ p, T.testBit p = true → T'.testBit p = true) : abb r i T o ≤ abb r i T' o := by
  by_cases c : abd r i T o
  · rw [abb_1 c, abb_1 (abd_mono hs c)]; exact Nat.le_refl _
  · rw [abb_0 c]; exact Nat.zero_le _
theorem nab_mono {r : Nat → Nat} {i T T' : Nat} (hs : ∀ p, T.testBit p = true → T'.testBit p = true) : ∀ {k : Nat}, nab r i T k ≤ nab r i T' k
  | 0 => Nat.le_refl _
  | k + 1 => Nat.add_le_add (nab_mono hs) (abb_mono hs)
theorem nab_lt {r : Nat → Nat} {i T T' o : Nat} (hs : ∀ p, T.testBit p = true → T'.testBit p = true) (h0 : ¬ abd r i T o) (h1 : abd r i T' o) : ∀ {k : Nat}, o < k → nab r i T k + 1 ≤ nab r i T' k
  | 0, h => absurd h (by omega)
  | k + 1, h => by
    show nab r i T k + abb r i T k + 1 ≤ nab r i T' k + abb r i T' k
    by_cases e : o = k
    · subst e
      have := nab_mono (r := r) (i := i) hs (k := o)
      rw [abb_0 h0, abb_1 h1]; omega
    · have := nab_lt (r := r) (i := i) hs h0 h1 (k := k) (by omega)
      have := abb_mono (r := r) (i := i) (o := k) hs
      omega
def rndx (H : Nat → Nat → Prop) (r : Nat → Nat) (m n i j t B o T : Nat) : Prop := T < 2 ^ n ∧ (∀ p, B.testBit p = true → T.testBit p = true) ∧ (∀ p, T.testBit p = true → rch H m i j p) ∧ (T = B → ∀ o', o' < o → o' ≠ i → r o' &&& T ≠ 0 → T ||| r o' = T) ∧ (T ≠ B → t + 1 ≤ nab r i T m)
def rou (H : Nat → Nat → Prop) (r : Nat → Nat) (m n i j t T : Nat) : Prop := T < 2 ^ n ∧ (∀ p, T.testBit p = true → rch H m i j p) ∧ (∀ p, (r i).testBit p = true → p ≠ j → T.testBit p = true) ∧ t ≤ nab r i T m
variable {H : Nat → Nat → Prop} {r : Nat → Nat} {m n i j t B o T : Nat}
theorem rou_rnd (h : rou H r m n i j t T) : rndx H r m n i j t T 0 T := ⟨h.1, fun _ hp => hp, h.2.1, fun _ o' h' => absurd h' (by omega), fun z => absurd rfl z⟩
theorem rou_0 (hH : hrw H r m) (hi : i < m) (h1 : T < 2 ^ n) (h2 : ∀ p, T.testBit p = true ↔ ((r i).testBit p = true ∧ p ≠ j)) : rou H r m n i j 0 T :=
  ⟨h1, fun p hp A B hA hc => (hc i p hi ((hH i p hi).mpr ((h2 p).mp hp).1) (fun z => ((h2 p).mp hp).2 z.2)).mp hA, fun p hp hj => (h2 p).mpr ⟨hp, hj⟩, Nat.zero_le _⟩
theorem rnd_i (h : rndx H r m n i j t B o T) (ho : o = i ∨ r o &&& T = 0) : rndx H r m n i j t B (o + 1) T := by
  refine ⟨h.1, h.2.1, h.2.2.1, fun e o' h' hn hz => ?_, h.2.2.2.2⟩
  by_cases c : o' = o
  · subst c
    rcases ho with z | z
    · exact absurd z hn
    · exact absurd z hz
  · exact h.2.2.2.1 e o' (by omega) hn hz
theorem rnd_s (hH : hrw H r m) (hu : rou H r m n i j t B) (h : rndx H r m n i j t B o T) (hr : r o < 2 ^ n) (hom : o < m) (ho : o ≠ i) (hz : r o &&& T ≠ 0) : rndx H r m n i j t B (o + 1) (T ||| r o) := by
  have hs : ∀ p, T.testBit p = true → (T ||| r o).testBit p = true := fun p hp => or_t.mpr (Or.inl hp)
  have hB := h.2.1
  have BT' : T ||| r o = B → T = B := fun e => Nat.eq_of_testBit_eq (fun p => by
    have a1 := hB p
    have a2 := hs p
    rw [e] at a2
    revert a1 a2
    cases B.testBit p <;> cases T.testBit p <;> simp)
  refine ⟨Nat.or_lt_two_pow h.1 hr, fun p hp => hs p (hB p hp), fun p hp => ?_, fun e o' h' hn hz' => ?_, fun e => ?_⟩
  · rcases or_t.mp hp with z | z
    · exact h.2.2.1 p z
    · intro A B' hA hc
      have : ∃ q, (r o).testBit q = true ∧ T.testBit q = true := Classical.byContradiction (fun y => hz (and_z.mpr (fun q hq => y ⟨q, hq⟩)))
      obtain ⟨q, q1, q2⟩ := this
      have b1 := h.2.2.1 q q2 A B' hA hc
      have a1 := (hc o q hom ((hH o q hom).mpr q1) (fun y => ho y.1)).mpr b1
      exact (hc o p hom ((hH o p hom).mpr z) (fun y => ho y.1)).mp a1
  · have eT := BT' e
    have eT' : T ||| r o = T := by rw [e, eT]
    rw [eT'] at hz' ⊢
    by_cases c : o' = o
    · subst c; exact eT'
    · exact h.2.2.2.1 eT o' (by omega) hn hz'
  · by_cases c : T = B
    · have ne : T ||| r o ≠ T := fun y => e (y.trans c)
      have := nab_lt (r := r) (i := i) (T := T) (T' := T ||| r o) (o := o) hs (fun y => ne y.2.2) ⟨ho, fun y => hz (and_z.mpr (fun p hp => and_z.mp y p ⟨hp.1, hs p hp.2⟩)), or_s.mpr (fun p hp => or_t.mpr (Or.inr hp))⟩ hom
      have u := hu.2.2.2
      rw [← c] at u
      omega
    · exact Nat.le_trans (h.2.2.2.2 c) (nab_mono hs)
theorem rnd_n (hu : rou H r m n i j t B) (h : rndx H r m n i j t B m T) (hc : T ≠ B) : rou H r m n i j (t + 1) T :=
  ⟨h.1, h.2.2.1, fun p hp hj => h.2.1 p (hu.2.2.1 p hp hj), h.2.2.2.2 hc⟩
theorem rnd_0 (hH : hrw H r m) (hu : rou H r m n i j t B) (h : rndx H r m n i j t B m T) (hc : T = B) (hj : ¬ T.testBit j = true) : ¬ rch H m i j j := by
  intro hr
  refine hj (hr (fun a => a = i ∨ r a &&& T ≠ 0) (fun b => T.testBit b = true) (Or.inl rfl) (fun a b ha hb hn => ?_))
  have hb := (hH a b ha).mp hb
  by_cases c : a = i
  · subst c
    refine ⟨fun _ => ?_, fun _ => Or.inl rfl⟩
    rw [hc]
    exact hu.2.2.1 b hb (fun e => hn ⟨rfl, e⟩)
  · refine ⟨fun z => ?_, fun z => Or.inr (fun y => and_z.mp y b ⟨hb, z⟩)⟩
    rcases z with z | z
    · exact absurd z c
    · exact or_s.mp (h.2.2.2.1 hc a ha c z) b hb
theorem rou_m (hi : i < m) (hu : rou H r m n i j t T) : t < m := by
  have a := (nab_le (r := r) (i := i) (T := T) (k := m)).2 hi
  have b := hu.2.2.2
  omega
theorem but_tb : ∀ a : Nat, a < 512 → ∀ j : Nat, j < 9 → ∀ p : Nat, p < 9 → ((if a / 2 ^ j % 2 = 1 then a - 2 ^ j else a).testBit p = true ↔ (a.testBit p = true ∧ p ≠ j)) := by decide +kernel
theorem but_le {a j : Nat} : (if a / 2 ^ j % 2 = 1 then a - 2 ^ j else a) ≤ a := by
  split
  · exact Nat.sub_le _ _
  · exact Nat.le_refl _
end Ring
