section Ref
variable {V : GV} {R : GR} {T : GV → Prop} {Q : Int → GS → Prop}
def okr (V : GV) (s q : Nat) : Prop := ∀ p : Nat, (p : Int) < plc V s (V 102 0 q) → (0 ≤ V 33 s (5 * q + p) ∧ V 33 s (5 * q + p) ≤ 5) ∧ (V 33 s (5 * q + p) ≠ 0 → V 32 s (5 * q + p) = 0) ∧ (-5000000000000000 ≤ V 32 s (5 * q + p) ∧ V 32 s (5 * q + p) ≤ 5000000000000000) ∧ (V 102 0 q ≠ -1 → -1000000000000000 ≤ V 32 s (5 * q + p) ∧ V 32 s (5 * q + p) ≤ 1000000000000000)
theorem plc_le {r : Int} {s p : Nat} (h : (p : Int) < plc V s r) (h5 : plc V s r ≤ 5) : p < 5 := by omega
theorem sumv_cgp {s b : Nat} {V' : GV} : ∀ n : Nat, (∀ p, p < n → V' 32 s (5 * b + p) = V 32 s (5 * b + p) ∧ V' 33 s (5 * b + p) = V 33 s (5 * b + p)) → sumv V' s b n = sumv V s b n
  | 0, _ => rfl
  | n + 1, h => by
    unfold sumv
    rw [sumv_cgp n (fun p hp => h p (by omega)), (h n (by omega)).1, (h n (by omega)).2]
theorem sumv_rng' {s b : Nat} : ∀ n : Nat, n ≤ 5 → (∀ p, p < n → -1000000000000000 ≤ V 32 s (5 * b + p) ∧ V 32 s (5 * b + p) ≤ 1000000000000000) → -1000000000000000 * (n : Int) ≤ (sumv V s b n).1 ∧ (sumv V s b n).1 ≤ 1000000000000000 * (n : Int)
  | 0, _, _ => by unfold sumv; omega
  | n + 1, hn, h => by
    have ih := sumv_rng' n (by omega) (fun p hp => h p (by omega))
    unfold sumv
    by_cases c : V 33 s (5 * b + n) = 0
    · rw [if_pos c]
      have := h n (by omega)
      show _ ≤ w64 ((sumv V s b n).1 + V 32 s (5 * b + n)) ∧ w64 ((sumv V s b n).1 + V 32 s (5 * b + n)) ≤ _
      rw [w64_id (by omega) (by omega)]; omega
    · rw [if_neg c]; omega
theorem okr_told {h s q : Nat} (hI : INV T V R) (hh : h < rC R 30) (es : (V 30 h 0).toNat = s) (hq : q < rC R 20) (m0 : V 103 0 q = 0) : okr V s q := by
  intro p hp
  have hpers := hI.pers hh
  rw [es] at hpers
  have p5 := plc_q hI.IQ hpers hq
  have A := (hI.IA h hh).1 q hq m0
  rw [es] at A
  by_cases t : V 102 0 q = -1
  · rw [t] at hp
    have : p = 0 := by unfold plc at hp; rw [if_pos rfl] at hp; omega
    subst this
    obtain ⟨e1, e2, ok⟩ := A.1 t
    rw [Nat.add_zero, e1, e2]
    exact ⟨⟨ok.1, ok.2.1⟩, ok.2.2.2.1, by have := ok.2.2.1; omega, fun z => absurd t z⟩
  · obtain ⟨r, er, _⟩ := hI.IQ.ro hq t
    obtain ⟨e1, e2, ok, _⟩ := A.2 (by omega) p (by omega)
    rw [e1, e2]
    exact ⟨⟨ok.1, ok.2.1⟩, ok.2.2.2.1, by have := ok.2.2.1; omega, fun z => ok.2.2.1⟩
theorem okr_made {h s q : Nat} (hI : INV T V R) (hh : h < rC R 30) (es : (V 30 h 0).toNat = s) (hq : q < rC R 20) (mk : V 103 0 q ≠ 0) (hb : ∀ b : Nat, V 104 0 q = (b : Int) → V 103 0 q ≠ 2 → okr V s b) (hl : LEq V s h q) : okr V s q := by
  intro p hp
  have hQ := hI.IQ
  have hpers := hI.pers hh
  rw [es] at hpers
  have p5 := plc_q hQ hpers hq
  obtain ⟨_, _, ⟨_, m0, m3⟩, _⟩ := (hQ.1 q hq).1
  obtain ⟨l1, l2, l3⟩ := hl
  by_cases m1 : V 103 0 q = 1
  · have e := l1 m1 p hp
    obtain ⟨_, b0, b1, _, rb⟩ := (hQ.1 q hq).2.2.2.1 m1
    obtain ⟨b, eb⟩ : ∃ b : Nat, V 104 0 q = (b : Int) := ⟨(V 104 0 q).toNat, by omega⟩
    rw [eb, tn_c] at e rb
    have B := hb b eb (by omega) p (by rw [← rb]; exact hp)
    have e1 := congrArg Prod.fst e
    have e2 := congrArg Prod.snd e
    dsimp only at e1 e2
    rw [e1, e2]
    unfold mapv
    by_cases c1 : V 33 s (5 * b + p) = 0
    · rw [if_neg (by omega)]
      rcases rowf_lt (V := V) (q := q) (v := V 32 s (5 * b + p)) (k := (V 113 0 q).toNat) (i := 0) with x | x
      · rw [if_pos x]; exact ⟨by omega, fun _ => rfl, by omega, fun _ => by omega⟩
      · rw [if_neg (by omega)]
        obtain ⟨j, hj, ej⟩ := (hQ.1 q hq).2.2.1.2.2 (rowf V q (V 32 s (5 * b + p)) (V 113 0 q).toNat 0).toNat (by omega)
        have := (hQ.1 q hq).2.1.1 j hj
        rw [← ej]
        exact ⟨by omega, fun z => absurd rfl z, by omega, fun _ => by omega⟩
    · rw [if_pos c1]; exact ⟨B.1, fun _ => rfl, by omega, fun _ => by omega⟩
  · have t : V 102 0 q = -1 := by
      by_cases m2 : V 103 0 q = 2
      · exact ((hQ.1 q hq).2.2.2.2.1 m2).2.2.2.2.2.2.1
      · exact ((hQ.1 q hq).2.2.2.2.2 (by omega)).2.2.2.2.1
    rw [t] at hp
    have : p = 0 := by unfold plc at hp; rw [if_pos rfl] at hp; omega
    subst this
    rw [Nat.add_zero]
    by_cases m2 : V 103 0 q = 2
    · obtain ⟨e1, e2⟩ := l2 m2
      obtain ⟨_, c0, c1, b0, b1, rb, _, _⟩ := (hQ.1 q hq).2.2.2.2.1 m2
      obtain ⟨r, er, hr, k5⟩ := hI.IC.re (c := (V 105 0 q).toNat) (by omega) (by omega)
      have pr := hpers r hr k5
      have := cnt_le (T := V 34 h (V 105 0 q).toNat) (V 32 s (5 * (V 104 0 q).toNat)).toNat
      rw [show (V 104 0 q).toNat = r by omega] at this e1
      rw [e1, e2]
      exact ⟨by omega, fun z => absurd rfl z, by omega, fun z => absurd t z⟩
    · have m3 : V 103 0 q = 3 := by omega
      obtain ⟨_, b0, b1, rb, _, _⟩ := (hQ.1 q hq).2.2.2.2.2 m3
      obtain ⟨b, eb⟩ : ∃ b : Nat, V 104 0 q = (b : Int) := ⟨(V 104 0 q).toNat, by omega⟩
      have e := l3 m3
      rw [eb, tn_c] at e rb
      obtain ⟨r, er, _, hr, k5, _, _⟩ := hQ.ro (q := b) (by omega) (by omega)
      have pr := hpers r hr k5
      rw [er, tn_c] at e
      have B := hb b eb (by omega)
      have e1 := congrArg Prod.fst e
      have e2 := congrArg Prod.snd e
      dsimp only at e1 e2
      rw [e1, e2]
      have rg := sumv_rng' (V := V) (s := s) (b := b) (V 32 s (5 * r)).toNat (by omega) (fun p hp => (B p (by unfold plc; rw [if_neg (by omega), er, tn_c]; omega)).2.2.2 (by omega))
      unfold sumr
      by_cases c : (sumv V s b (V 32 s (5 * r)).toNat).2 = 0 ∨ (V 101 0 q = 2 ∧ (sumv V s b (V 32 s (5 * r)).toNat).1 ≠ w32 (sumv V s b (V 32 s (5 * r)).toNat).1)
      · rw [if_pos c]; exact ⟨by decide, fun _ => rfl, by decide, fun z => absurd t z⟩
      · rw [if_neg c]; exact ⟨by dsimp only; omega, fun z => absurd rfl z, by dsimp only; omega, fun z => absurd t z⟩
theorem okr_all {h s : Nat} (hI : INV T V R) (hh : h < rC R 30) (es : (V 30 h 0).toNat = s) {n : Nat} (hl : ∀ j, j < n → (j : Int) < V 100 0 29 ∧ LE V h j) : ∀ m q, q < m → q < rC R 20 → (V 103 0 q = 0 ∨ bef V n (q : Int)) → okr V s q := by
  intro m
  induction m with
  | zero => intro q h; exact absurd h (by omega)
  | succ m ih =>
    intro q hm hq hb
    by_cases m0 : V 103 0 q = 0
    · exact okr_told hI hh es hq m0
    · obtain ⟨j, hj, ej⟩ := hb.resolve_left m0
      obtain ⟨hjo, hle⟩ := hl j hj
      have hn := hI.IN.1.1
      have hO := (hI.IOO.1 j hjo).1 (by omega)
      have hle := hle.1 (by omega)
      rw [es, ej, tn_c] at hle
      rw [ej, tn_c] at hO
      refine okr_made hI hh es hq m0 (fun b eb m2 => ?_) hle
      have hbq : b < q := by
        by_cases m1 : V 103 0 q = 1
        · have := ((hI.IQ.1 q hq).2.2.2.1 m1).2.2.1; omega
        · have m03 := (hI.IQ.1 q hq).1.2.2.1.2
          have := ((hI.IQ.1 q hq).2.2.2.2.2 (by omega)).2.2.1; omega
      refine ih b (by omega) (by omega) ?_
      by_cases mb : V 103 0 b = 0
      · exact Or.inl mb
      · have := hO.2.2.2.2.2.2 m2
        rw [eb, tn_c] at this
        obtain ⟨i, hi, ei⟩ := this mb
        exact Or.inr ⟨i, by omega, ei⟩
end Ref
