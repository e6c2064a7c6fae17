section AddH
variable {V : GV} {R : GR} {Q : Int → GS → Prop}
def LAH : PL' := [(30, none), (31, none), (32, none), (33, none), (34, none), (5, none), (0, some 2), (117, none), (100, some 14), (115, none), (116, none)]
def RH (R R' : GR) : Prop := (rC R' 30 = rC R 30 + 1 ∧ rC R' 34 = rC R 30 + 1 ∧ rC R' 31 = rC R 31 + 1 ∧ rC R' 32 = rC R 31 + 1 ∧ rC R' 33 = rC R 31 + 1) ∧ (∀ r, (r < 30 ∨ 34 < r) → rC R' r = rC R r) ∧ (rN R' 30 (rC R 30) = 4 ∧ rN R' 34 (rC R 30) = 60 ∧ rN R' 31 (rC R 31) = 2 ∧ rN R' 32 (rC R 31) = 120 ∧ rN R' 33 (rC R 31) = 120) ∧ (∀ r i, (r < 30 ∨ 34 < r ∨ ((r = 30 ∨ r = 34) ∧ i ≠ rC R 30) ∨ ((r = 31 ∨ r = 32 ∨ r = 33) ∧ i ≠ rC R 31)) → rN R' r i = rN R r i) ∧ rK R' = rK R + 5 ∧ rZ R' ≤ rZ R + 306
theorem SH_RH {R' : GR} (hS : SH R) (h : RH R R') : SH R' := by
  obtain ⟨⟨c30, c34, c31, c32, c33⟩, c2, ⟨l30, l34, l31, l32, l33⟩, ln, _, _⟩ := h
  obtain ⟨s1, s2, s3⟩ := hS
  refine ⟨fun r hr => ?_, fun r hr i hi => ?_, ?_⟩
  · have : r < 30 ∨ 34 < r := by
      rcases Nat.lt_or_ge r 30 with h | h
      · exact Or.inl h
      · rcases Nat.lt_or_ge 34 r with h' | h'
        · exact Or.inr h'
        · exfalso
          have : r = 30 ∨ r = 31 ∨ r = 32 ∨ r = 33 ∨ r = 34 := by omega
          rcases this with rfl | rfl | rfl | rfl | rfl <;> exact hr rfl
    rw [c2 r this, ln r 0 (by omega)]; exact s1 r hr
  · by_cases e : r < 30 ∨ 34 < r
    · rw [c2 r e] at hi
      rw [ln r i (by omega)]; exact s2 r hr i hi
    · have : r = 30 ∨ r = 31 ∨ r = 32 ∨ r = 33 ∨ r = 34 := by omega
      rcases this with rfl | rfl | rfl | rfl | rfl
      · rw [c30] at hi
        by_cases e' : i = rC R 30
        · subst e'; exact l30
        · rw [ln 30 i (by omega)]; exact s2 30 hr i (by omega)
      · rw [c31] at hi
        by_cases e' : i = rC R 31
        · subst e'; exact l31
        · rw [ln 31 i (by omega)]; exact s2 31 hr i (by omega)
      · exact absurd rfl hr
      · exact absurd rfl hr
      · rw [c34] at hi
        by_cases e' : i = rC R 30
        · subst e'; exact l34
        · rw [ln 34 i (by omega)]; exact s2 34 hr i (by omega)
  · obtain ⟨t1, t2, t3, t4, t5, t6, t7, t8⟩ := s3
    rw [c30, c31, c32, c33, c34, c2 20 (by omega), c2 21 (by omega), c2 22 (by omega), c2 23 (by omega), c2 24 (by omega), c2 50 (by omega), c2 51 (by omega)]
    exact ⟨t1, t2, t3, t4, rfl, rfl, rfl, t8⟩
theorem INV_addH {V' : GV} {R' : GR} (hI : INV IT V R) (h40 : rC R 30 < 40) (sm : same V V' LAH) (hR : RH R R')
  (x30 : ∀ r i k, (r = 30 ∨ r = 34) → i ≠ rC R 30 → V' r i k = V r i k) (x31 : ∀ r i k, (r = 31 ∨ r = 32 ∨ r = 33) → i ≠ rC R 31 → V' r i k = V r i k) (x5 : ∀ k, k ≠ rC R 30 → V' 5 0 k = V 5 0 k ∧ V' 117 0 k = V 117 0 k) (x115 : ∀ k, (k < 144 * rC R 30) → V' 115 0 k = V 115 0 k ∧ V' 116 0 k = V 116 0 k)
  (y30 : hid (V' 30 (rC R 30) 0 = (rC R 31 : Int) ∧ V' 30 (rC R 30) 1 = (rC R 30 : Int) ∧ V' 30 (rC R 30) 2 = 0 ∧ V' 30 (rC R 30) 3 = 2520)) (y31 : hid (V' 31 (rC R 31) 0 = (rC R 31 : Int) ∧ V' 31 (rC R 31) 1 = (rC R 31 : Int))) (y5 : hid (V' 5 0 (rC R 30) = (rC R 30 : Int) ∧ V' 117 0 (rC R 30) = 2520 ∧ V' 0 0 2 = (rC R 30 : Int) + 1 ∧ V' 100 0 14 = (rC R 30 : Int) + 1))
  (ys : ∀ q p, q < 24 → p < 5 → V' 32 (rC R 31) (5 * q + p) = 0 ∧ ((q < rC R 20 ∧ V 101 0 q = 5 ∧ p = 0) → V' 33 (rC R 31) (5 * q + p) = 0) ∧ (¬ (q < rC R 20 ∧ V 101 0 q = 5 ∧ p = 0) → V' 33 (rC R 31) (5 * q + p) = 1))
  (yt : ∀ q t, q < rC R 20 → t < 6 → V' 115 0 (144 * rC R 30 + 6 * q + t) = 0 ∧ (V 101 0 q = 5 → V' 116 0 (144 * rC R 30 + 6 * q + t) = 0) ∧ (V 101 0 q ≠ 5 → V' 116 0 (144 * rC R 30 + 6 * q + t) = 1)) : INV IT V' R' := by
  have hS' := SH_RH hI.SH hR
  obtain ⟨hc, c2, hl, ln, rk, rz⟩ := hR
  have hl' : hid _ := hl
  clear hl
  obtain ⟨b20, b30, b40, b50⟩ := hI.IN.1
  have hQ := hI.IQ
  have e20 := c2 20 (by omega)
  have e40 := c2 40 (by omega)
  have e50 := c2 50 (by omega)
  have e30 := hc.1
  have e31 := hc.2.2.1
  clear hc
  have n22 : ∀ r i, 20 ≤ r → r ≤ 24 → rN R' r i = rN R r i := fun r i h1 h2 => ln r i (by omega)
  have n51 : ∀ i, rN R' 51 i = rN R 51 i := fun i => ln 51 i (by omega)
  have nsh : ∀ g, g < rC R 30 → (V 30 g 0).toNat < rC R 31 := fun g hg => by have := hI.IHs.1 g hg; omega
  have v30 : ∀ g k, g < rC R 30 → V' 30 g k = V 30 g k := fun g k hg => x30 30 g k (Or.inl rfl) (by omega)
  have vsh : ∀ s k, s < rC R 31 → V' 32 s k = V 32 s k ∧ V' 33 s k = V 33 s k := fun s k hs => ⟨x31 32 s k (by omega) (by omega), x31 33 s k (by omega) (by omega)⟩
  have nN : ∀ s, s < rC R 31 → rN R' 32 s = rN R 32 s ∧ rN R' 33 s = rN R 33 s := fun s hs => ⟨ln 32 s (by omega), ln 33 s (by omega)⟩
  refine ⟨⟨hS', ?_, ?_, ?_, ?_⟩, ?_, ?_, ?_, ?_, ?_, ?_, ?_, ?_, cg_T sm rfl hI.TT⟩
  · obtain ⟨f1, f2⟩ := hI.RF
    refine ⟨fun e he => ?_, fun e he i hi => ?_⟩
    · rw [sm.at (M := RL0.map (fun e => (e.1, some e.2))) rfl ⟨(e.1, some e.2), List.mem_map.mpr ⟨e, he, rfl⟩, rfl, Or.inr rfl⟩]; exact f1 e he
    · have hd : ∀ e, e ∈ RL1 → e.1 = 20 ∨ e.1 = 50 ∨ (e.1 = 30 ∧ e.2 = 1) ∨ (e.1 = 31 ∧ (e.2 = 0 ∨ e.2 = 1)) := by decide
      rcases hd e he with h | h | ⟨h, h'⟩ | ⟨h, h'⟩
      · have := f2 e he i
        rw [h] at hi this ⊢
        rw [sm.r 20 rfl]; exact this (by omega)
      · have := f2 e he i
        rw [h] at hi this ⊢
        rw [sm.r 50 rfl]; exact this (by omega)
      · have := f2 e he i
        rw [h, h'] at this
        rw [h] at hi
        rw [h, h']
        by_cases ei : i = rC R 30
        · subst ei; exact (And.right y30).1
        · rw [v30 i 1 (by omega)]; exact this (by omega)
      · have := f2 e he i
        rw [h] at hi this ⊢
        by_cases ei : i = rC R 31
        · subst ei
          rcases h' with h' | h'
          · rw [h']; exact And.left y31
          · rw [h']; exact And.right y31
        · rw [x31 31 i e.2 (Or.inl rfl) ei]; exact this (by omega)
  · obtain ⟨n1, n2, n3, n4, n5, n6, n7, n8⟩ := hI.IN.2.1
    obtain ⟨p1, p2, p3⟩ := hI.IN.2.2
    obtain ⟨_, _, w1, w2⟩ := y5
    refine ⟨⟨by omega, by omega, by omega, by omega⟩, ⟨?_, ?_, ?_, ?_, ?_, ?_, ?_, ?_⟩, ?_, ?_, ?_⟩
    · rw [sm.f 100 0 rfl, e20]; exact n1
    · rw [sm.f 1 1 rfl, e20]; exact n2
    · rw [w2, e30]; omega
    · rw [w1, e30]; omega
    · rw [sm.f 100 18 rfl, e40]; exact n5
    · rw [sm.f 1 3 rfl, e40]; exact n6
    · rw [sm.f 100 30 rfl, e50]; exact n7
    · rw [sm.f 0 4 rfl, e50]; exact n8
    · rw [sm.f 1 5 rfl, sm.f 100 29 rfl]; exact p1
    · rw [sm.f 100 29 rfl]; exact p2
    · rw [sm.f 100 29 rfl, e20, e40]; exact p3
  · obtain ⟨l1, l2, l3, l4⟩ := hI.IL
    refine ⟨fun q hq => ?_, fun c hc => ?_, fun h hh => ?_, fun e he => ?_⟩
    · rw [sm.r 2 rfl]; exact l1 q (by omega)
    · rw [sm.r 3 rfl]; exact l2 c (by omega)
    · rw [e30] at hh
      by_cases e : h = rC R 30
      · subst e; exact And.left y5
      · rw [(x5 h e).1]; exact l3 h (by omega)
    · rw [sm.r 6 rfl]; exact l4 e (by omega)
  · obtain ⟨r1, r2⟩ := hI.IR
    unfold IR
    rw [rk, e20, e30, e40, e50]; omega
  · have F := cg_IQ sm rfl hQ
    unfold IQ at F ⊢
    simp only [IQ1, IQfi, IQr, IQm, e20, e40, n22 22 _ (by decide) (by decide), n22 23 _ (by decide) (by decide), n22 24 _ (by decide) (by decide)] at F ⊢
    exact F
  · have F := cg_IC sm rfl hI.IC
    unfold IC at F ⊢
    simp only [IC1, ICre, IC_0, e20, e40] at F ⊢
    exact F
  · have F := cg_IOO sm rfl hI.IOO
    unfold IOO at F ⊢
    simp only [IO1, e20, e40] at F ⊢
    exact F
  · obtain ⟨a1, a2, a3⟩ := hI.IHs
    refine ⟨fun h hh => ?_, fun g h hgh hh => ?_, fun e h he hh => ?_⟩
    · rw [e30] at hh
      by_cases e : h = rC R 30
      · subst e
        rw [And.left y30, e31, tn_c]
        obtain ⟨_, _, _, l32, l33⟩ := hl'
        exact ⟨by omega, by omega, l32, l33⟩
      · obtain ⟨w1, w2, w3, w4⟩ := a1 h (by omega)
        have := nN _ (nsh h (by omega))
        rw [v30 h 0 (by omega), e31, this.1, this.2]
        exact ⟨w1, by omega, w3, w4⟩
    · rw [e30] at hh
      rw [v30 g 0 (by omega)]
      by_cases e : h = rC R 30
      · subst e
        rw [And.left y30]
        have := (a1 g (by omega)).2.1
        omega
      · rw [v30 h 0 (by omega)]; exact a2 g h hgh (by omega)
    · rw [e50] at he
      rw [n51] at hh
      obtain ⟨w1, w2, w3⟩ := a3 e h he hh
      rw [sm.r 51 rfl, e31]
      refine ⟨w1, by omega, fun g hg => ?_⟩
      rw [e30] at hg
      by_cases eg : g = rC R 30
      · subst eg
        rw [And.left y30]
        omega
      · rw [v30 g 0 (by omega)]; exact w3 g (by omega)
  · intro h hh
    rw [e30] at hh
    have okc : ∀ q v r, okv V q v r → okv V' q v r := by intro q v r; unfold okv; simp only [sm.r 101 rfl, sm.r 108 rfl, sm.r 109 rfl]; exact id
    unfold IA1
    rw [e20]
    by_cases e : h = rC R 30
    · subst e
      rw [And.left y30, tn_c]
      refine ⟨fun q hq m0 => ?_, fun q h1 h2 p hp => ?_⟩
      · rw [sm.r 103 rfl] at m0
        rw [sm.r 102 rfl]
        refine ⟨fun t => ?_, fun t p hp => ?_⟩
        · have s := ys q 0 (by omega) (by omega)
          have u := yt q 0 hq (by omega)
          rw [Nat.add_zero] at s u
          rw [s.1, u.1]
          by_cases k5 : V 101 0 q = 5
          · rw [s.2.1 ⟨hq, k5, rfl⟩, u.2.1 k5]
            exact ⟨rfl, rfl, okc _ _ _ ⟨by omega, by omega, by omega, fun z => absurd rfl z, fun _ => by omega, fun z => by omega⟩⟩
          · rw [s.2.2 (fun z => k5 z.2.1), u.2.2 k5]
            exact ⟨rfl, rfl, okc _ _ _ ⟨by omega, by omega, by omega, fun _ => rfl, fun z => absurd z k5, fun _ z => absurd z (by decide)⟩⟩
        · have k5 : V 101 0 q ≠ 5 := fun z => by have := hQ.k5 hq z; omega
          have s := ys q p (by omega) hp
          have u := yt q (p + 1) hq (by omega)
          rw [s.1, u.1, s.2.2 (fun z => k5 z.2.1), u.2.2 k5]
          exact ⟨rfl, rfl, okc _ _ _ ⟨by omega, by omega, by omega, fun _ => rfl, fun z => absurd z k5, fun _ z => absurd z (by decide)⟩, fun _ => ⟨rfl, rfl⟩⟩
      · have s := ys q p h2 hp
        exact ⟨s.1, s.2.2 (fun z => by omega)⟩
    · have hh : h < rC R 30 := by omega
      obtain ⟨A, B⟩ := hI.IA h hh
      rw [v30 h 0 hh]
      have ns := nsh h hh
      refine ⟨AR_pt b20 (fun q hq => hQ.rlt hq) (fun q _ => sm.r 102 rfl _ _) (fun q _ => sm.r 103 rfl _ _) (fun q _ => okc q) (fun k _ h2 => (x115 k (by omega)).1) (fun k _ h2 => (x115 k (by omega)).2) (fun q _ _ p _ => vsh _ _ ns) A, fun q h1 h2 p hp => ?_⟩
      rw [(vsh _ _ ns).1, (vsh _ _ ns).2]; exact B q h1 h2 p hp
  · intro h hh
    rw [e30] at hh
    by_cases e : h = rC R 30
    · subst e
      rw [(And.right y30).2.2, (And.right y5).1]; decide
    · rw [v30 h 3 (by omega), (x5 h e).2]; exact hI.IW h (by omega)
  · intro h hh
    rw [e30] at hh
    unfold IS1
    rw [sm.f 100 29 rfl]
    by_cases e : h = rC R 30
    · subst e
      rw [(And.right y30).2.1]
      exact ⟨Int.le_refl _, hI.IN.2.2.2.1, fun j hj => absurd hj (by omega)⟩
    · have hh : h < rC R 30 := by omega
      obtain ⟨a, b, d⟩ := hI.IS h hh
      rw [v30 h 2 hh]
      have ns := nsh h hh
      refine ⟨a, b, fun j hj => ?_⟩
      exact LE_cg b20 hQ hI.IC (hI.IOO.1 j (by omega)) (fun q _ => ⟨sm.r 101 rfl _ _, sm.r 102 rfl _ _, sm.r 103 rfl _ _, sm.r 104 rfl _ _, sm.r 105 rfl _ _⟩) (fun q _ _ _ => ⟨sm.r 113 rfl _ _, fun _ _ => ⟨sm.r 110 rfl _ _, sm.r 111 rfl _ _, sm.r 112 rfl _ _⟩⟩) (fun c _ => ⟨sm.r 119 rfl _ _, sm.r 120 rfl _ _, sm.r 121 rfl _ _, sm.r 122 rfl _ _, sm.r 123 rfl _ _, sm.r 124 rfl _ _, sm.r 125 rfl _ _⟩) (sm.r 4 rfl _ _) (v30 h 0 hh) (hI.pers hh) (fun q _ _ p _ => vsh _ _ ns) (fun i' h1 h2 p _ => vsh _ _ ns) (fun i' h1 h2 => x30 34 h _ (Or.inr rfl) e) (d j hj)
  · intro e he
    rw [e50] at he
    obtain ⟨⟨a1, a2⟩, b, d⟩ := hI.IE e he
    unfold IE1
    rw [sm.r 131 rfl, sm.r 132 rfl, sm.f 50 1 rfl, n51, e30, e20]
    refine ⟨⟨a1, by omega⟩, b, fun g hg => ?_⟩
    obtain ⟨w1, w2, _⟩ := hI.IHs.2.2 e g he hg
    have ns : (V 51 e g).toNat < rC R 31 := by omega
    have := nN _ ns
    rw [sm.r 51 rfl, this.1, this.2]
    have d := d g hg
    exact ⟨d.1, d.2.1, AR_pt (by omega) (fun q hq => hQ.rlt (by omega)) (fun q _ => sm.r 102 rfl _ _) (fun q _ => sm.r 103 rfl _ _) (fun q _ v r => okv_pt (sm.r 101 rfl _ _) (by rw [sm.r 109 rfl]; exact Int.le_refl _) (fun i _ => sm.r 108 rfl _ _)) (fun k _ _ => sm.r 133 rfl _ _) (fun k _ _ => sm.r 134 rfl _ _) (fun q _ _ p _ => vsh _ _ ns) d.2.2⟩
end AddH
