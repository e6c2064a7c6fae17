def alq (V V' : GV) (s q : Nat) : Prop := ∀ p, p < 5 → V' 32 s (5 * q + p) = V 32 s (5 * q + p) ∧ V' 33 s (5 * q + p) = V 33 s (5 * q + p)
theorem alq.z {V V' : GV} {s q : Nat} (h : alq V V' s q) : V' 32 s (5 * q) = V 32 s (5 * q) ∧ V' 33 s (5 * q) = V 33 s (5 * q) := h 0 (by omega)
theorem rowf_cg8 {V V' : GV} {q : Nat} {v : Int} (e : ∀ i, i < 8 → V' 110 0 (8 * q + i) = V 110 0 (8 * q + i) ∧ V' 111 0 (8 * q + i) = V 111 0 (8 * q + i)) : ∀ {k i : Nat}, k + i ≤ 8 → rowf V' q v k i = rowf V q v k i
  | 0, _, _ => rfl
  | k + 1, i, h => by
    unfold rowf
    rw [(e i (by omega)).1, (e i (by omega)).2, rowf_cg8 e (by omega)]
theorem rowf_lt {V : GV} {q : Nat} {v : Int} : ∀ {k i : Nat}, rowf V q v k i = -1 ∨ ((i : Int) ≤ rowf V q v k i ∧ rowf V q v k i < ((k + i : Nat) : Int))
  | 0, _ => Or.inl rfl
  | k + 1, i => by
    unfold rowf
    by_cases c : V 110 0 (8 * q + i) ≤ v ∧ v ≤ V 111 0 (8 * q + i)
    · rw [if_pos c]; omega
    · rw [if_neg c]; have := rowf_lt (V := V) (q := q) (v := v) (k := k) (i := i + 1); omega
theorem mapv_cg {V V' : GV} {q : Nat} {v r : Int} (hn : 0 ≤ V 113 0 q ∧ V 113 0 q ≤ 8) (e : V' 113 0 q = V 113 0 q ∧ ∀ i, i < 8 → V' 110 0 (8 * q + i) = V 110 0 (8 * q + i) ∧ V' 111 0 (8 * q + i) = V 111 0 (8 * q + i) ∧ V' 112 0 (8 * q + i) = V 112 0 (8 * q + i)) : mapv V' q v r = mapv V q v r := by
  unfold mapv
  have e1 : rowf V' q v (V' 113 0 q).toNat 0 = rowf V q v (V 113 0 q).toNat 0 := by
    rw [e.1]; exact rowf_cg8 (fun i hi => ⟨(e.2 i hi).1, (e.2 i hi).2.1⟩) (by omega)
  rw [e1]
  rcases rowf_lt (V := V) (q := q) (v := v) (k := (V 113 0 q).toNat) (i := 0) with h | h
  · rw [h]; rfl
  · rw [(e.2 _ (by omega)).2.2]
theorem sumv_cg5 {V V' : GV} {s b : Nat} (e : alq V V' s b) : ∀ {n : Nat}, n ≤ 5 → sumv V' s b n = sumv V s b n
  | 0, _ => rfl
  | n + 1, h => by
    unfold sumv
    rw [(e n (by omega)).1, (e n (by omega)).2, sumv_cg5 e (by omega)]
theorem sumr_cg {V V' : GV} {q : Nat} {z : Int × Int} (e : V' 101 0 q = V 101 0 q) : sumr V' q z = sumr V q z := by unfold sumr; rw [e]
theorem IQ.ro {V : GV} {R : GR} (hQ : IQ V R) {q : Nat} (hq : q < rC R 20) (h : V 102 0 q ≠ -1) : ∃ r : Nat, V 102 0 q = (r : Int) ∧ r < q ∧ r < rC R 20 ∧ V 101 0 r = 5 ∧ V 103 0 r = 0 ∧ V 102 0 r = -1 := by
  have h1 := (hQ.1 q hq).1.2.2.2.2.2.2.2.1
  unfold IQro at h1
  rcases h1 with h1 | ⟨h1, h2, h3, h4⟩
  · exact absurd h1 h
  · obtain ⟨r, er⟩ : ∃ r : Nat, V 102 0 q = (r : Int) := ⟨_, (Int.toNat_of_nonneg h1).symm⟩
    rw [er] at h2 h3
    have hr : r < rC R 20 := by omega
    refine ⟨r, er, by omega, hr, h3, (hQ.1 r hr).1.2.2.2.2.2.2.2.2.2.2 h3, ?_⟩
    rcases (hQ.1 r hr).1.2.2.2.2.2.2.2.1 with h5 | h5
    · exact h5
    · exact absurd h3 h5.2.2.2
theorem IQ.k5 {V : GV} {R : GR} (hQ : IQ V R) {r : Nat} (hr : r < rC R 20) (h3 : V 101 0 r = 5) : V 103 0 r = 0 ∧ V 102 0 r = -1 := by
  refine ⟨(hQ.1 r hr).1.2.2.2.2.2.2.2.2.2.2 h3, ?_⟩
  rcases (hQ.1 r hr).1.2.2.2.2.2.2.2.1 with h5 | h5
  · exact h5
  · exact absurd h3 h5.2.2.2
theorem IC.re {V : GV} {R : GR} (hC : IC V R) {c : Nat} (hc : c < rC R 40) (h : V 125 0 c ≠ -1) : ∃ r : Nat, V 125 0 c = (r : Int) ∧ r < rC R 20 ∧ V 101 0 r = 5 := by
  have h1 := (hC c hc).2.2.2.2.1
  unfold ICre at h1
  rcases h1 with h1 | ⟨h1, h2, h3⟩
  · exact absurd h1 h
  · obtain ⟨r, er⟩ : ∃ r : Nat, V 125 0 c = (r : Int) := ⟨_, (Int.toNat_of_nonneg h1).symm⟩
    rw [er] at h2 h3
    exact ⟨r, er, by omega, h3⟩
def pers (V : GV) (R : GR) (s : Nat) : Prop := ∀ r, r < rC R 20 → V 101 0 r = 5 → 0 ≤ V 32 s (5 * r) ∧ V 32 s (5 * r) ≤ 5
theorem plc_q {V : GV} {R : GR} (hQ : IQ V R) {s : Nat} (hp : pers V R s) {q : Nat} (hq : q < rC R 20) : 0 ≤ plc V s (V 102 0 q) ∧ plc V s (V 102 0 q) ≤ 5 := by
  unfold plc
  by_cases h : V 102 0 q = -1
  · rw [if_pos h]; omega
  · obtain ⟨r, er, _, hr, k5, _, _⟩ := hQ.ro hq h
    rw [if_neg h, er]; exact hp r hr k5
theorem plc_c {V : GV} {R : GR} (hC : IC V R) {s : Nat} (hp : pers V R s) {c : Nat} (hc : c < rC R 40) : 0 ≤ plc V s (V 125 0 c) ∧ plc V s (V 125 0 c) ≤ 5 := by
  unfold plc
  by_cases h : V 125 0 c = -1
  · rw [if_pos h]; omega
  · obtain ⟨r, er, hr, k5⟩ := hC.re hc h
    rw [if_neg h, er]; exact hp r hr k5
theorem LE_cg {V V' : GV} {R : GR} {h j : Nat} (hn : rC R 20 ≤ 24) (hQ : IQ V R) (hC : IC V R) (hO : IO1 V R j)
  (fq : ∀ q, q < rC R 20 → V' 101 0 q = V 101 0 q ∧ V' 102 0 q = V 102 0 q ∧ V' 103 0 q = V 103 0 q ∧ V' 104 0 q = V 104 0 q ∧ V' 105 0 q = V 105 0 q)
  (fr : ∀ q, q < rC R 20 → (q : Int) = V 4 0 j → V 103 0 q = 1 → V' 113 0 q = V 113 0 q ∧ ∀ i, i < 8 → V' 110 0 (8 * q + i) = V 110 0 (8 * q + i) ∧ V' 111 0 (8 * q + i) = V 111 0 (8 * q + i) ∧ V' 112 0 (8 * q + i) = V 112 0 (8 * q + i))
  (fc : ∀ c, c < rC R 40 → V' 119 0 c = V 119 0 c ∧ V' 120 0 c = V 120 0 c ∧ V' 121 0 c = V 121 0 c ∧ V' 122 0 c = V 122 0 c ∧ V' 123 0 c = V 123 0 c ∧ V' 124 0 c = V 124 0 c ∧ V' 125 0 c = V 125 0 c)
  (f4 : V' 4 0 j = V 4 0 j) (fs : V' 30 h 0 = V 30 h 0) (hp : pers V R (V 30 h 0).toNat)
  (ft : ∀ q, q < rC R 20 → V 103 0 q = 0 → alq V V' (V 30 h 0).toNat q)
  (fm : ∀ i, i ≤ j → V 4 0 i < 24 → alq V V' (V 30 h 0).toNat (V 4 0 i).toNat)
  (fk : ∀ i, i ≤ j → 24 ≤ V 4 0 i → V' 34 h (V 4 0 i - 24).toNat = V 34 h (V 4 0 i - 24).toNat)
  (hl : LE V h j) : LE V' h j := by
  have pc : ∀ r : Int, (r = -1 ∨ ∃ n : Nat, r = (n : Int) ∧ n < rC R 20 ∧ V 101 0 n = 5) → plc V' (V 30 h 0).toNat r = plc V (V 30 h 0).toNat r := by
    intro r hr
    unfold plc
    rcases hr with hr | ⟨n, rfl, hn, k5⟩
    · rw [if_pos hr, if_pos hr]
    · rw [if_neg (by omega), if_neg (by omega)]; exact (ft n hn (hQ.k5 hn k5).1).z.1
  have pq : ∀ q, q < rC R 20 → plc V' (V 30 h 0).toNat (V 102 0 q) = plc V (V 30 h 0).toNat (V 102 0 q) := by
    intro q hq
    refine pc _ ?_
    by_cases e : V 102 0 q = -1
    · exact Or.inl e
    · obtain ⟨r, er, _, hr, k5, _, _⟩ := hQ.ro hq e
      exact Or.inr ⟨r, er, hr, k5⟩
  have pC : ∀ c, c < rC R 40 → plc V' (V 30 h 0).toNat (V 125 0 c) = plc V (V 30 h 0).toNat (V 125 0 c) := by
    intro c hc
    refine pc _ ?_
    by_cases e : V 125 0 c = -1
    · exact Or.inl e
    · obtain ⟨r, er, hr, k5⟩ := hC.re hc e
      exact Or.inr ⟨r, er, hr, k5⟩
  unfold LE at hl ⊢
  rw [f4, fs]
  refine ⟨fun lt => ?_, fun ge => ?_⟩
  · have hl := hl.1 lt
    obtain ⟨_, t0, t1, mk, _, b2, b13⟩ := hO.1 lt
    have aQ := fm j (Nat.le_refl j) lt
    generalize hq : (V 4 0 j).toNat = q at *
    have et : (q : Int) = V 4 0 j := by omega
    have hq : q < rC R 20 := by omega
    obtain ⟨e101, e102, e103, e104, e105⟩ := fq q hq
    have aB : ∀ b : Nat, V 104 0 q = (b : Int) → b < q → V 103 0 q ≠ 2 → alq V V' (V 30 h 0).toNat b := by
      intro b eb hb m2
      by_cases m0 : V 103 0 b = 0
      · exact ft b (by omega) m0
      · have := b13 m2
        rw [eb] at this
        obtain ⟨i, hi, ei⟩ := this m0
        have := fm i (Nat.le_of_lt hi) (by omega)
        rw [ei] at this; exact this
    obtain ⟨l1, l2, l3⟩ := hl
    unfold LEq
    rw [e103, e102, e104, e105]
    refine ⟨fun m => ?_, fun m => ?_, fun m => ?_⟩
    · intro p hpp
      rw [pq q hq] at hpp
      have hp5 := plc_q hQ hp hq
      obtain ⟨_, b0, b1, _, _⟩ := (hQ.1 q hq).2.2.2.1 m
      have aB := aB (V 104 0 q).toNat (by omega) (by omega) (by omega)
      rw [(aQ p (by omega)).1, (aQ p (by omega)).2, (aB p (by omega)).1, (aB p (by omega)).2, mapv_cg (by have := (hQ.1 q hq).1.2.2.2.2.1; omega) (fr q hq et m)]
      exact l1 m p hpp
    · obtain ⟨_, c0, c1, b0, b1, rb, _, _⟩ := (hQ.1 q hq).2.2.2.2.1 m
      obtain ⟨i, hi, ei⟩ := b2 m
      have k := fk i (Nat.le_of_lt hi) (by omega)
      rw [show V 4 0 i - 24 = V 105 0 q by omega] at k
      obtain ⟨r, er, hr, k5⟩ := hC.re (c := (V 105 0 q).toNat) (by omega) (by omega)
      have aR := (ft r hr (hQ.k5 hr k5).1).z.1
      rw [show (V 104 0 q).toNat = r by omega]
      have := l2 m
      rw [show (V 104 0 q).toNat = r by omega] at this
      rw [aQ.z.1, aQ.z.2, k, aR]; exact this
    · obtain ⟨_, b0, b1, rb, _, _⟩ := (hQ.1 q hq).2.2.2.2.2 m
      have hb : (V 104 0 q).toNat < rC R 20 := by omega
      have aB := aB (V 104 0 q).toNat (by omega) (by omega) (by omega)
      obtain ⟨r, er, _, hr, k5, m0, _⟩ := hQ.ro hb (by omega)
      have aR := (ft r hr m0).z.1
      have pr := hp r hr k5
      have := l3 m
      rw [(fq _ hb).2.1, er]
      rw [er] at this
      rw [aQ.z.1, aQ.z.2, sumr_cg e101, show ((r : Nat) : Int).toNat = r by omega, aR, sumv_cg5 aB (by omega)]
      rw [show ((r : Nat) : Int).toNat = r by omega] at this
      exact this
  · have hl := hl.2 ge
    obtain ⟨_, t1, b0, ba, bb⟩ := hO.2 ge
    have aC := fk j (Nat.le_refl j) ge
    generalize hcn : (V 4 0 j - 24).toNat = c at *
    have hc : c < rC R 40 := by omega
    have hC1 := hC c hc
    obtain ⟨e119, e120, e121, e122, e123, e124, e125⟩ := fc c hc
    have kA : ∀ a : Nat, bef V j (24 + (a : Int)) → V' 34 h a = V 34 h a := by
      rintro a ⟨i, hi, ei⟩
      have k := fk i (Nat.le_of_lt hi) (by omega)
      rw [show (V 4 0 i - 24).toNat = a by omega] at k; exact k
    unfold LEc at hl ⊢
    rw [aC, e125, pC c hc]
    refine ⟨hl.1, hl.2.1, fun p hpp => ?_⟩
    rw [hl.2.2 p hpp]
    have hp5 := plc_c hC hp hc
    unfold conf
    rw [e119]
    by_cases s0 : V 119 0 c = 0
    · rw [if_pos s0, if_pos s0]
      obtain ⟨_, ⟨_, q0, q1⟩, _⟩ := hC1.2.2.2.2.2.1 s0
      obtain ⟨q, eq⟩ : ∃ q : Nat, V 121 0 c = (q : Int) := ⟨(V 121 0 c).toNat, by omega⟩
      have hq : q < rC R 20 := by omega
      have aQ : alq V V' (V 30 h 0).toNat q := by
        by_cases m0 : V 103 0 q = 0
        · exact ft q hq m0
        · have b0 := b0 s0
          rw [eq] at b0
          obtain ⟨i, hi, ei⟩ := b0 m0
          have := fm i (Nat.le_of_lt hi) (by omega)
          rw [ei] at this; exact this
      unfold askf
      rw [e120, e121, e122, eq, show ((q : Nat) : Int).toNat = q by omega, (aQ p (by omega)).1, (aQ p (by omega)).2, (fq q hq).1]
    · rw [if_neg s0, if_neg s0]
      obtain ⟨_, _, a0, a1⟩ := hC1.2.2.2.2.2.2.1 s0
      obtain ⟨a, ea⟩ : ∃ a : Nat, V 123 0 c = (a : Int) := ⟨(V 123 0 c).toNat, by omega⟩
      have ha : a < rC R 40 := by omega
      have kA1 := ba s0
      rw [ea] at kA1
      have kA1 := kA a kA1
      have sA : so V' h a p ↔ so V h a p := by
        unfold so; rw [kA1, (fc a ha).2.2.2.2.2.2]
      rw [e123, ea, show ((a : Nat) : Int).toNat = a by omega]
      have sB : V 119 0 c = 1 ∨ V 119 0 c = 2 → (so V' h (V 124 0 c).toNat p ↔ so V h (V 124 0 c).toNat p) := by
        intro s12
        obtain ⟨_, x0, x1, _⟩ := hC1.2.2.2.2.2.2.2.1 s12
        obtain ⟨b, eb⟩ : ∃ b : Nat, V 124 0 c = (b : Int) := ⟨(V 124 0 c).toNat, by omega⟩
        have k := bb s12
        rw [eb] at k ⊢
        have k := kA b k
        unfold so; rw [show ((b : Nat) : Int).toNat = b by omega, k, (fc b (by omega)).2.2.2.2.2.2]
      rw [e124]
      by_cases s1 : V 119 0 c = 1
      · rw [if_pos s1, if_pos s1, sA, sB (Or.inl s1)]
      · rw [if_neg s1, if_neg s1]
        by_cases s2 : V 119 0 c = 2
        · rw [if_pos s2, if_pos s2, sA, sB (Or.inr s2)]
        · rw [if_neg s2, if_neg s2]
          by_cases s3 : V 119 0 c = 3
          · rw [if_pos s3, if_pos s3, sA]
          · rw [if_neg s3, if_neg s3, e120, kA1, (fc a ha).2.2.2.2.2.2, pC a ha]
