section Pt
variable {V V' : GV} {R R' : GR}
theorem IQ_pt {q : Nat} (hq : q < rC R 20) (hc : rC R 40 ≤ rC R' 40) (h20 : ∀ k, k < 12 → V' 20 q k = V 20 q k)
  (h101 : V' 101 0 q = V 101 0 q) (h102 : V' 102 0 q = V 102 0 q) (h103 : V' 103 0 q = V 103 0 q) (h104 : V' 104 0 q = V 104 0 q) (h105 : V' 105 0 q = V 105 0 q) (h106 : V' 106 0 q = V 106 0 q) (h107 : V' 107 0 q = V 107 0 q) (h109 : V' 109 0 q = V 109 0 q) (h113 : V' 113 0 q = V 113 0 q)
  (h8 : ∀ i, i < 8 → V' 108 0 (8 * q + i) = V 108 0 (8 * q + i) ∧ V' 110 0 (8 * q + i) = V 110 0 (8 * q + i) ∧ V' 111 0 (8 * q + i) = V 111 0 (8 * q + i) ∧ V' 112 0 (8 * q + i) = V 112 0 (8 * q + i) ∧ V' 21 q i = V 21 q i ∧ V' 22 q i = V 22 q i ∧ V' 23 q i = V 23 q i ∧ V' 24 q i = V 24 q i)
  (hg : ∀ k, k < q → V' 101 0 k = V 101 0 k ∧ V' 102 0 k = V 102 0 k) (hre : ∀ c, c < rC R 40 → V' 125 0 c = V 125 0 c) (hN : rN R' 22 q = rN R 22 q ∧ rN R' 23 q = rN R 23 q ∧ rN R' 24 q = rN R 24 q)
  (h : IQ1 V R q ∧ IQc V q ∧ IQr V R q ∧ IQm V R q) : IQ1 V' R' q ∧ IQc V' q ∧ IQr V' R' q ∧ IQm V' R' q := by
  obtain ⟨⟨a1, a2, a3, a4, a5, a6, a7, ro, fi, ma, kr⟩, ⟨c1, c2⟩, ⟨r1, r2, r3⟩, m1, m2, m3⟩ := h
  refine ⟨⟨?_, ?_, ?_, ?_, ?_, ?_, ?_, ?_, ?_, ?_, ?_⟩, ⟨?_, ?_⟩, ⟨?_, ?_, ?_⟩, ?_, ?_, ?_⟩
  · rw [h20 0 (by omega), h101]; exact a1
  · rw [h20 1 (by omega), h102]; exact a2
  · rw [h20 2 (by omega), h103]; exact a3
  · rw [h20 5 (by omega), h109]; exact a4
  · rw [h20 9 (by omega), h113]; exact a5
  · rw [h20 10 (by omega), h106]; exact ⟨a6.1, a6.2.1, by omega⟩
  · rw [h20 11 (by omega), h107]; exact a7
  · unfold IQro at ro ⊢
    rw [h102, h101]
    rcases ro with ro | ⟨b0, b1, b2, b3⟩
    · exact Or.inl ro
    · exact Or.inr ⟨b0, b1, by rw [(hg _ (by omega)).1]; exact b2, b3⟩
  · unfold IQfi at fi ⊢
    rw [h106, h102]
    rcases fi with fi | ⟨b0, b1, b2⟩
    · exact Or.inl fi
    · exact Or.inr ⟨b0, by omega, by rw [hre _ (by omega)]; exact b2⟩
  · unfold IQma at ma ⊢
    rw [h107, h102, h103]; exact ma
  · unfold IQkr at kr ⊢
    rw [h101, h103]; exact kr
  · intro i hi
    rw [h109] at hi
    obtain ⟨e1, _, _, _, e5, _⟩ := h8 i (by omega)
    rw [e1, e5]; exact c1 i hi
  · intro i j hij hj
    rw [h109] at hj
    rw [(h8 i (by omega)).1, (h8 j (by omega)).1]; exact c2 i j hij hj
  · intro i hi
    rw [h113] at hi
    obtain ⟨_, e2, e3, e4, _, e6, e7, e8⟩ := h8 i (by omega)
    rw [e2, e3, e4, e6, e7, e8]; exact r1 i hi
  · intro z
    rw [h103] at z
    rw [hN.1, hN.2.1, hN.2.2, h109, h113]; exact r2 z
  · intro i hi
    rw [h113] at hi
    obtain ⟨j, hj, ej⟩ := r3 i hi
    refine ⟨j, by rw [h109]; exact hj, ?_⟩
    rw [(h8 j (by omega)).1, (h8 i (by omega)).2.2.2.1]; exact ej
  · intro z
    rw [h103] at z
    obtain ⟨b1, b2, b3, b4, b5⟩ := m1 z
    rw [h20 3 (by omega), h104, h101, h102, (hg _ (by omega)).2]
    exact ⟨b1, b2, b3, b4, b5⟩
  · intro z
    rw [h103] at z
    obtain ⟨b1, b2, b3, b4, b5, b6, b7, b8⟩ := m2 z
    rw [h20 3 (by omega), h104, h105, h101, h102, hre _ (by omega)]
    exact ⟨b1, b2, by omega, b4, b5, b6, b7, b8⟩
  · intro z
    rw [h103] at z
    obtain ⟨b1, b2, b3, b4, b5, b6⟩ := m3 z
    rw [h20 3 (by omega), h104, h101, h102, (hg _ (by omega)).2]
    exact ⟨b1, b2, b3, b4, b5, b6⟩
theorem IC_pt {c : Nat} (hcc : c < rC R 40) (hq : rC R 20 ≤ rC R' 20) (h40 : ∀ k, k < 7 → V' 40 c k = V 40 c k)
  (h119 : V' 119 0 c = V 119 0 c) (h120 : V' 120 0 c = V 120 0 c) (h121 : V' 121 0 c = V 121 0 c) (h122 : V' 122 0 c = V 122 0 c) (h123 : V' 123 0 c = V 123 0 c) (h124 : V' 124 0 c = V 124 0 c) (h126 : V' 126 0 c = V 126 0 c) (h127 : V' 127 0 c = V 127 0 c)
  (hg : ∀ k, k < rC R 20 → V' 101 0 k = V 101 0 k ∧ V' 102 0 k = V 102 0 k) (hre : ∀ c', c' < rC R 40 → V' 125 0 c' = V 125 0 c') (h : IC1 V R c) : IC1 V' R' c := by
  obtain ⟨a1, a2, a3, a4, re, c0, cn, c12, c3, c4⟩ := h
  have hrec := hre c hcc
  refine ⟨?_, ?_, ?_, ?_, ?_, ?_, ?_, ?_, ?_, ?_⟩
  · rw [h40 4 (by omega), hrec]; exact ⟨a1.1, a1.2.1, by omega⟩
  · rw [h40 5 (by omega), h126]; exact a2
  · rw [h40 6 (by omega), h127]; exact ⟨a3.1, a3.2.1, by omega⟩
  · rw [h119]; exact a4
  · unfold ICre at re ⊢
    rw [hrec]
    rcases re with re | ⟨b0, b1, b2⟩
    · exact Or.inl re
    · exact Or.inr ⟨b0, by omega, by rw [(hg _ (by omega)).1]; exact b2⟩
  · intro z
    rw [h119] at z
    obtain ⟨b1, b2, b3, b4, b5, b6⟩ := c0 z
    have : (V 121 0 c).toNat < rC R 20 := by omega
    rw [h40 0 (by omega), h120, h40 1 (by omega), h121, h40 3 (by omega), h122, hrec, (hg _ this).1, (hg _ this).2]
    exact ⟨b1, ⟨b2.1, b2.2.1, by omega⟩, b3, b4, b5, b6⟩
  · intro z
    rw [h119] at z
    rw [h40 0 (by omega), h119, h40 1 (by omega), h123]; exact cn z
  · intro z
    rw [h119] at z
    obtain ⟨b1, b2, b3, b4, b5⟩ := c12 z
    obtain ⟨_, _, d1, d2⟩ := cn (by omega)
    rw [h40 2 (by omega), h124, h123, hrec, hre _ (by omega), hre _ (by omega)]
    exact ⟨b1, b2, b3, b4, b5⟩
  · intro z
    rw [h119] at z
    obtain ⟨_, _, d1, d2⟩ := cn (by omega)
    rw [hrec, h123, hre _ (by omega)]; exact c3 z
  · intro z
    rw [h119] at z
    obtain ⟨_, _, d1, d2⟩ := cn (by omega)
    rw [h40 3 (by omega), h120, hrec, h123, hre _ (by omega)]; exact c4 z
theorem bef_cg {j : Nat} {t : Int} (f4 : ∀ i, i < j → V' 4 0 i = V 4 0 i) (h : bef V j t) : bef V' j t := by
  obtain ⟨i, hi, e⟩ := h
  exact ⟨i, hi, by rw [f4 i hi]; exact e⟩
theorem IO1_pt {j : Nat} (hQ : IQ V R) (hC : IC V R) (hq : rC R 20 ≤ rC R' 20) (hc : rC R 40 ≤ rC R' 40) (f4 : ∀ i, i ≤ j → V' 4 0 i = V 4 0 i) (f128 : V' 128 0 j = V 128 0 j)
  (fq : ∀ q, q < rC R 20 → V' 103 0 q = V 103 0 q ∧ V' 104 0 q = V 104 0 q ∧ V' 105 0 q = V 105 0 q ∧ V' 20 q 12 = V 20 q 12) (fc : ∀ c, c < rC R 40 → V' 119 0 c = V 119 0 c ∧ V' 121 0 c = V 121 0 c ∧ V' 123 0 c = V 123 0 c ∧ V' 124 0 c = V 124 0 c) (h : IO1 V R j) : IO1 V' R' j := by
  unfold IO1
  rw [f4 j (Nat.le_refl j), f128]
  have b : ∀ t, bef V j t → bef V' j t := fun t => bef_cg (fun i hi => f4 i (Nat.le_of_lt hi))
  refine ⟨fun lt => ?_, fun ge => ?_⟩
  · obtain ⟨a1, a2, a3, a4, a5, a6, a7⟩ := h.1 lt
    have hq' : (V 4 0 j).toNat < rC R 20 := by omega
    obtain ⟨e1, e2, e3, e4⟩ := fq _ hq'
    rw [e1, e2, e3, e4]
    refine ⟨a1, a2, by omega, a4, a5, fun m => b _ (a6 m), fun m => ?_⟩
    have hb : (V 104 0 (V 4 0 j).toNat).toNat < rC R 20 := by
      obtain ⟨_, _, ⟨_, m0, m3⟩, _⟩ := (hQ.1 _ hq').1
      by_cases m1 : V 103 0 (V 4 0 j).toNat = 1
      · have := ((hQ.1 _ hq').2.2.2.1 m1).2; omega
      · have := ((hQ.1 _ hq').2.2.2.2.2 (by omega)).2; omega
    rw [(fq _ hb).1]
    exact fun z => b _ (a7 m z)
  · obtain ⟨a1, a2, a3, a4, a5⟩ := h.2 ge
    have hc' : (V 4 0 j - 24).toNat < rC R 40 := by omega
    obtain ⟨e1, e2, e3, e4⟩ := fc _ hc'
    rw [e1, e2, e3, e4]
    refine ⟨a1, by omega, fun z => ?_, fun z => b _ (a4 z), fun z => b _ (a5 z)⟩
    have := ((hC _ hc').2.2.2.2.2.1 z).2.1
    rw [(fq _ (by omega)).1]
    exact fun y => b _ (a3 z y)
theorem okv_pt {q : Nat} {v r : Int} (h101 : V' 101 0 q = V 101 0 q) (hn : V 109 0 q ≤ V' 109 0 q) (h8 : ∀ i : Nat, (i : Int) < V 109 0 q → V' 108 0 (8 * q + i) = V 108 0 (8 * q + i)) (h : okv V q v r) : okv V' q v r := by
  obtain ⟨a, b, c, d, e, f⟩ := h
  unfold okv
  rw [h101]
  refine ⟨a, b, c, d, e, fun k r0 => ?_⟩
  obtain ⟨j, hj, ej⟩ := f k r0
  exact ⟨j, by omega, by rw [h8 j hj]; exact ej⟩
theorem AR_pt {s a b o n : Nat} (hn : n ≤ 24) (hro : ∀ q, q < n → V 102 0 q < (q : Int)) (e102 : ∀ q, q < n → V' 102 0 q = V 102 0 q) (e103 : ∀ q, q < n → V' 103 0 q = V 103 0 q) (ok : ∀ q, q < n → ∀ v r, okv V q v r → okv V' q v r) (ea : ∀ k, o ≤ k → k < o + 144 → V' a 0 k = V a 0 k) (eb : ∀ k, o ≤ k → k < o + 144 → V' b 0 k = V b 0 k)
  (h : ∀ q, q < n → V 103 0 q = 0 → alq V V' s q) (hv : AR V s a b o n) : AR V' s a b o n := by
  intro q hq m0
  rw [e103 q hq] at m0
  have aQ := h q hq m0
  have hv := hv q hq m0
  have rq := hro q hq
  refine ⟨fun r => ?_, fun r p hp => ?_⟩
  · rw [e102 q hq] at r
    rw [aQ.z.1, aQ.z.2, ea _ (by omega) (by omega), eb _ (by omega) (by omega)]
    exact ⟨(hv.1 r).1, (hv.1 r).2.1, ok q hq _ _ (hv.1 r).2.2⟩
  · rw [e102 q hq] at r
    rw [(aQ p hp).1, (aQ p hp).2, ea _ (by omega) (by omega), eb _ (by omega) (by omega), e102 q hq, ea _ (by omega) (by omega)]
    have := hv.2 r p hp
    exact ⟨this.1, this.2.1, ok q hq _ _ this.2.2.1, this.2.2.2⟩
theorem IQ.rlt (hQ : IQ V R) {q : Nat} (hq : q < rC R 20) : V 102 0 q < (q : Int) := (hQ.1 q hq).1.2.1.2.2
end Pt
