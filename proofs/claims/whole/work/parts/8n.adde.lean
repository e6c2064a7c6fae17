section AddE
variable {V : GV} {R : GR} {Q : Int → GS → Prop}
def LAE : PL' := [(50, none), (51, none), (31, none), (32, none), (33, none), (6, none), (0, some 4), (131, none), (132, none), (133, none), (134, none), (100, some 30)]
def RE (R R' : GR) : Prop := (rC R' 50 = rC R 50 + 1 ∧ rC R' 51 = rC R 50 + 1 ∧ rC R' 31 = rC R 31 + rC R 30 ∧ rC R' 32 = rC R 31 + rC R 30 ∧ rC R' 33 = rC R 31 + rC R 30) ∧ (∀ r, (r < 31 ∨ (33 < r ∧ r < 50) ∨ 51 < r) → rC R' r = rC R r) ∧ (rN R' 50 (rC R 50) = 2 ∧ rN R' 51 (rC R 50) = rC R 30) ∧ (∀ h, h < rC R 30 → rN R' 31 (rC R 31 + h) = 2 ∧ rN R' 32 (rC R 31 + h) = 5 * rC R 20 ∧ rN R' 33 (rC R 31 + h) = 5 * rC R 20) ∧ (∀ r i, (r < 31 ∨ (33 < r ∧ r < 50) ∨ 51 < r ∨ ((r = 50 ∨ r = 51) ∧ i ≠ rC R 50) ∨ ((r = 31 ∨ r = 32 ∨ r = 33) ∧ i < rC R 31)) → rN R' r i = rN R r i) ∧ rK R' ≤ rK R + 500 ∧ rZ R' ≤ rZ R + 50000
theorem SH_RE {R' : GR} (hS : SH R) (h : RE R R') : SH R' := by
  obtain ⟨⟨c50, c51, c31, c32, c33⟩, c2, ⟨l50, l51⟩, lh, ln, _, _⟩ := h
  obtain ⟨s1, s2, s3⟩ := hS
  refine ⟨fun r hr => ?_, fun r hr i hi => ?_, ?_⟩
  · have : r < 31 ∨ (33 < r ∧ r < 50) ∨ 51 < r := by
      by_cases z : r = 31 ∨ r = 32 ∨ r = 33 ∨ r = 50 ∨ r = 51
      · exfalso
        rcases z with rfl | rfl | rfl | rfl | rfl <;> exact hr rfl
      · omega
    rw [c2 r this, ln r 0 (by omega)]; exact s1 r hr
  · by_cases e : r < 31 ∨ (33 < r ∧ r < 50) ∨ 51 < r
    · rw [c2 r e] at hi
      rw [ln r i (by omega)]; exact s2 r hr i hi
    · have : r = 31 ∨ r = 32 ∨ r = 33 ∨ r = 50 ∨ r = 51 := by omega
      rcases this with rfl | rfl | rfl | rfl | rfl
      · rw [c31] at hi
        by_cases e' : i < rC R 31
        · rw [ln 31 i (by omega)]; exact s2 31 hr i e'
        · obtain ⟨h, rfl⟩ : ∃ h, i = rC R 31 + h := ⟨i - rC R 31, by omega⟩
          exact (lh h (by omega)).1
      · exact absurd rfl hr
      · exact absurd rfl hr
      · rw [c50] at hi
        by_cases e' : i = rC R 50
        · subst e'; exact l50
        · rw [ln 50 i (by omega)]; exact s2 50 hr i (by omega)
      · exact absurd rfl hr
  · obtain ⟨t1, t2, t3, t4, t5, t6, t7, t8⟩ := s3
    rw [c31, c32, c33, c50, c51, c2 20 (by omega), c2 21 (by omega), c2 22 (by omega), c2 23 (by omega), c2 24 (by omega), c2 30 (by omega), c2 34 (by omega)]
    exact ⟨t1, t2, t3, t4, t5, rfl, rfl, rfl⟩
theorem INV_addE {V' : GV} {R' : GR} (hI : INV IT V R) (e6 : rC R 50 < 6) (sm : same V V' LAE) (hR : RE R R')
  (x50 : ∀ r i k, (r = 50 ∨ r = 51) → i ≠ rC R 50 → V' r i k = V r i k) (x31 : ∀ r i k, (r = 31 ∨ r = 32 ∨ r = 33) → i < rC R 31 → V' r i k = V r i k) (x6 : ∀ r k, (r = 6 ∨ r = 131 ∨ r = 132) → k ≠ rC R 50 → V' r 0 k = V r 0 k) (x133 : ∀ r k, (r = 133 ∨ r = 134) → k < 5760 * rC R 50 → V' r 0 k = V r 0 k)
  (y50 : hid (V' 50 (rC R 50) 0 = (rC R 50 : Int) ∧ V' 50 (rC R 50) 1 = (rC R 20 : Int))) (y6 : hid (V' 6 0 (rC R 50) = (rC R 50 : Int) ∧ V' 131 0 (rC R 50) = (rC R 30 : Int) ∧ V' 132 0 (rC R 50) = (rC R 20 : Int) ∧ V' 0 0 4 = (rC R 50 : Int) + 1 ∧ V' 100 0 30 = (rC R 50 : Int) + 1))
  (y31 : ∀ h, h < rC R 30 → V' 51 (rC R 50) h = ((rC R 31 + h : Nat) : Int) ∧ V' 31 (rC R 31 + h) 0 = ((rC R 31 + h : Nat) : Int) ∧ V' 31 (rC R 31 + h) 1 = ((rC R 31 + h : Nat) : Int) ∧ ∀ k, k < 5 * rC R 20 → V' 32 (rC R 31 + h) k = V 32 (V 30 h 0).toNat k ∧ V' 33 (rC R 31 + h) k = V 33 (V 30 h 0).toNat k)
  (y133 : ∀ k, k < 5760 → V' 133 0 (5760 * rC R 50 + k) = V 115 0 k ∧ V' 134 0 (5760 * rC R 50 + k) = V 116 0 k) : INV IT V' R' := by
  have hS' := SH_RE hI.SH hR
  obtain ⟨hc, c2, hl, lh, ln, rk, rz⟩ := hR
  have hl' : hid _ := hl
  clear hl
  obtain ⟨b20, b30, b40, b50⟩ := hI.IN.1
  have hQ := hI.IQ
  have e20 := c2 20 (by omega)
  have e30 := c2 30 (by omega)
  have e40 := c2 40 (by omega)
  have e50 := hc.1
  have e31 := hc.2.2.1
  clear hc
  have n22 : ∀ r i, 20 ≤ r → r ≤ 24 → rN R' r i = rN R r i := fun r i h1 h2 => ln r i (by omega)
  have nsh : ∀ g, g < rC R 30 → (V 30 g 0).toNat < rC R 31 := fun g hg => by have := hI.IHs.1 g hg; omega
  have vsh : ∀ s k, s < rC R 31 → V' 32 s k = V 32 s k ∧ V' 33 s k = V 33 s k := fun s k hs => ⟨x31 32 s k (by omega) hs, x31 33 s k (by omega) hs⟩
  have nN : ∀ s, s < rC R 31 → rN R' 32 s = rN R 32 s ∧ rN R' 33 s = rN R 33 s := fun s hs => ⟨ln 32 s (by omega), ln 33 s (by omega)⟩
  have okc : ∀ q v r, okv V q v r → okv V' q v r := by intro q v r; unfold okv; simp only [sm.r 101 rfl, sm.r 108 rfl, sm.r 109 rfl]; exact id
  refine ⟨⟨hS', ?_, ?_, ?_, ?_⟩, ?_, ?_, ?_, ?_, ?_, ?_, ?_, ?_, cg_T sm rfl hI.TT⟩
  · obtain ⟨f1, f2⟩ := hI.RF
    refine ⟨fun e he => ?_, fun e he i hi => ?_⟩
    · rw [sm.at (M := RL0.map (fun e => (e.1, some e.2))) rfl ⟨(e.1, some e.2), List.mem_map.mpr ⟨e, he, rfl⟩, rfl, Or.inr rfl⟩]; exact f1 e he
    · have hd : ∀ e, e ∈ RL1 → e.1 = 20 ∨ e.1 = 30 ∨ (e.1 = 50 ∧ e.2 = 0) ∨ (e.1 = 31 ∧ (e.2 = 0 ∨ e.2 = 1)) := by decide
      rcases hd e he with h | h | ⟨h, h'⟩ | ⟨h, h'⟩
      · have := f2 e he i
        rw [h] at hi this ⊢
        rw [sm.r 20 rfl]; exact this (by omega)
      · have := f2 e he i
        rw [h] at hi this ⊢
        rw [sm.r 30 rfl]; exact this (by omega)
      · have := f2 e he i
        rw [h, h'] at this
        rw [h] at hi
        rw [h, h']
        by_cases ei : i = rC R 50
        · subst ei; exact And.left y50
        · rw [x50 50 i 0 (Or.inl rfl) ei]; exact this (by omega)
      · have := f2 e he i
        rw [h] at hi this ⊢
        by_cases ei : i < rC R 31
        · rw [x31 31 i e.2 (Or.inl rfl) ei]; exact this ei
        · obtain ⟨g, rfl⟩ : ∃ g, i = rC R 31 + g := ⟨i - rC R 31, by omega⟩
          have y := y31 g (by omega)
          rcases h' with h' | h'
          · rw [h']; exact y.2.1
          · rw [h']; exact y.2.2.1
  · obtain ⟨n1, n2, n3, n4, n5, n6, n7, n8⟩ := hI.IN.2.1
    obtain ⟨p1, p2, p3⟩ := hI.IN.2.2
    obtain ⟨_, _, _, w1, w2⟩ := y6
    refine ⟨⟨by omega, by omega, by omega, by omega⟩, ⟨?_, ?_, ?_, ?_, ?_, ?_, ?_, ?_⟩, ?_, ?_, ?_⟩
    · rw [sm.f 100 0 rfl, e20]; exact n1
    · rw [sm.f 1 1 rfl, e20]; exact n2
    · rw [sm.f 100 14 rfl, e30]; exact n3
    · rw [sm.f 0 2 rfl, e30]; exact n4
    · rw [sm.f 100 18 rfl, e40]; exact n5
    · rw [sm.f 1 3 rfl, e40]; exact n6
    · rw [w2, e50]; omega
    · rw [w1, e50]; omega
    · rw [sm.f 1 5 rfl, sm.f 100 29 rfl]; exact p1
    · rw [sm.f 100 29 rfl]; exact p2
    · rw [sm.f 100 29 rfl, e20, e40]; exact p3
  · obtain ⟨l1, l2, l3, l4⟩ := hI.IL
    refine ⟨fun q hq => ?_, fun c hc => ?_, fun h hh => ?_, fun e he => ?_⟩
    · rw [sm.r 2 rfl]; exact l1 q (by omega)
    · rw [sm.r 3 rfl]; exact l2 c (by omega)
    · rw [sm.r 5 rfl]; exact l3 h (by omega)
    · rw [e50] at he
      by_cases z : e = rC R 50
      · subst z; exact And.left y6
      · rw [x6 6 e (Or.inl rfl) z]; exact l4 e (by omega)
  · obtain ⟨r1, r2⟩ := hI.IR
    unfold IR
    rw [e20, e30, e40, e50]; omega
  · have F := cg_IQ sm rfl hQ
    unfold IQ at F ⊢
    simp only [IQ1, IQfi, IQr, IQm, e20, e40, n22 22 _ (by decide) (by decide), n22 23 _ (by decide) (by decide), n22 24 _ (by decide) (by decide)] at F ⊢
    exact F
  · have F := cg_IC sm rfl hI.IC
    unfold IC at F ⊢
    simp only [IC1, ICre, IC_0, e20, e40] at F ⊢
    exact F
  · have F := cg_IOO sm rfl hI.IOO
    unfold IOO at F ⊢
    simp only [IO1, e20, e40] at F ⊢
    exact F
  · obtain ⟨a1, a2, a3⟩ := hI.IHs
    refine ⟨fun h hh => ?_, fun g h hgh hh => ?_, fun e h he hh => ?_⟩
    · rw [e30] at hh
      obtain ⟨w1, w2, w3, w4⟩ := a1 h hh
      have := nN _ (nsh h hh)
      rw [sm.r 30 rfl, e31, this.1, this.2]
      exact ⟨w1, by omega, w3, w4⟩
    · rw [sm.r 30 rfl, sm.r 30 rfl]; exact a2 g h hgh (by omega)
    · rw [e50] at he
      by_cases z : e = rC R 50
      · subst z
        rw [hl'.2] at hh
        rw [(y31 h hh).1, e31]
        refine ⟨by omega, by omega, fun g hg => ?_⟩
        rw [sm.r 30 rfl]
        have := a1 g (by omega)
        omega
      · rw [ln 51 e (by omega)] at hh
        obtain ⟨w1, w2, w3⟩ := a3 e h (by omega) hh
        rw [x50 51 e h (Or.inr rfl) z, e31]
        refine ⟨w1, by omega, fun g hg => ?_⟩
        rw [sm.r 30 rfl]; exact w3 g (by omega)
  · intro h hh
    rw [e30] at hh
    obtain ⟨A, B⟩ := hI.IA h hh
    unfold IA1
    rw [e20, sm.r 30 rfl]
    have ns := nsh h hh
    refine ⟨AR_pt b20 (fun q hq => hQ.rlt hq) (fun q _ => sm.r 102 rfl _ _) (fun q _ => sm.r 103 rfl _ _) (fun q _ => okc q) (fun k _ _ => sm.r 115 rfl _ _) (fun k _ _ => sm.r 116 rfl _ _) (fun q _ _ p _ => vsh _ _ ns) A, fun q h1 h2 p hp => ?_⟩
    rw [(vsh _ _ ns).1, (vsh _ _ ns).2]; exact B q h1 h2 p hp
  · have F := cg_IW sm rfl hI.IW
    unfold IW at F ⊢
    rw [e30]; exact F
  · intro h hh
    rw [e30] at hh
    obtain ⟨a, b, d⟩ := hI.IS h hh
    unfold IS1
    rw [sm.f 100 29 rfl, sm.r 30 rfl]
    have ns := nsh h hh
    refine ⟨a, b, fun j hj => ?_⟩
    exact LE_cg b20 hQ hI.IC (hI.IOO.1 j (by omega)) (fun q _ => ⟨sm.r 101 rfl _ _, sm.r 102 rfl _ _, sm.r 103 rfl _ _, sm.r 104 rfl _ _, sm.r 105 rfl _ _⟩) (fun q _ _ _ => ⟨sm.r 113 rfl _ _, fun _ _ => ⟨sm.r 110 rfl _ _, sm.r 111 rfl _ _, sm.r 112 rfl _ _⟩⟩) (fun c _ => ⟨sm.r 119 rfl _ _, sm.r 120 rfl _ _, sm.r 121 rfl _ _, sm.r 122 rfl _ _, sm.r 123 rfl _ _, sm.r 124 rfl _ _, sm.r 125 rfl _ _⟩) (sm.r 4 rfl _ _) (sm.r 30 rfl _ _) (hI.pers hh) (fun q _ _ p _ => vsh _ _ ns) (fun i' h1 h2 p _ => vsh _ _ ns) (fun i' h1 h2 => sm.r 34 rfl _ _) (d j hj)
  · intro e he
    rw [e50] at he
    by_cases z : e = rC R 50
    · subst z
      unfold IE1
      rw [hl'.2, (And.right y6).1, (And.right y6).2.1, And.right y50, e30, e20, tn_c]
      refine ⟨⟨rfl, Nat.le_refl _⟩, ⟨rfl, by omega, Int.le_refl _⟩, fun h hh => ?_⟩
      have y := y31 h hh
      rw [y.1, tn_c, (lh h hh).2.1, (lh h hh).2.2]
      refine ⟨rfl, rfl, fun q hq m0 => ?_⟩
      rw [sm.r 103 rfl] at m0
      rw [sm.r 102 rfl]
      obtain ⟨A1, A2⟩ := (hI.IA h hh).1 q hq m0
      have rl := hQ.rlt hq
      have ya : ∀ k, k < 144 → V' 133 0 (5760 * rC R 50 + 144 * h + k) = V 115 0 (144 * h + k) ∧ V' 134 0 (5760 * rC R 50 + 144 * h + k) = V 116 0 (144 * h + k) := by
        intro k hk
        have := y133 (144 * h + k) (by omega)
        rw [← Nat.add_assoc] at this; exact this
      refine ⟨fun t => ?_, fun t p hp => ?_⟩
      · have s := y.2.2.2 (5 * q) (by omega)
        have u := ya (6 * q) (by omega)
        rw [s.1, s.2, u.1, u.2]
        exact ⟨(A1 t).1, (A1 t).2.1, okc _ _ _ (A1 t).2.2⟩
      · have s := y.2.2.2 (5 * q + p) (by omega)
        have u := ya (6 * q + (p + 1)) (by omega)
        have w := ya (6 * (V 102 0 q).toNat) (by omega)
        rw [← Nat.add_assoc] at u
        rw [s.1, s.2, u.1, u.2, w.1]
        obtain ⟨B1, B2, B3, B4⟩ := A2 t p hp
        rw [← Nat.add_assoc]
        exact ⟨B1, B2, okc _ _ _ B3, B4⟩
    · have he : e < rC R 50 := by omega
      obtain ⟨⟨a1, a2⟩, b, d⟩ := hI.IE e he
      unfold IE1
      rw [x6 131 e (by omega) z, x6 132 e (by omega) z, x50 50 e 1 (Or.inl rfl) z, ln 51 e (by omega), e30, e20]
      refine ⟨⟨a1, a2⟩, b, fun g hg => ?_⟩
      obtain ⟨w1, w2, _⟩ := hI.IHs.2.2 e g he hg
      have ns : (V 51 e g).toNat < rC R 31 := by omega
      have := nN _ ns
      rw [x50 51 e g (Or.inr rfl) z, this.1, this.2]
      have d := d g hg
      exact ⟨d.1, d.2.1, AR_pt (by omega) (fun q hq => hQ.rlt (by omega)) (fun q _ => sm.r 102 rfl _ _) (fun q _ => sm.r 103 rfl _ _) (fun q _ => okc q) (fun k _ _ => x133 133 k (Or.inl rfl) (by omega)) (fun k _ _ => x133 134 k (Or.inr rfl) (by omega)) (fun q _ _ p _ => vsh _ _ ns) d.2.2⟩
end AddE
