def hid (p : Prop) : Prop := p
section AddQ
variable {V : GV} {R : GR} {Q : Int → GS → Prop}
def LAQ : PL' := [(20, none), (21, none), (22, none), (23, none), (24, none), (2, none), (1, some 1), (1, some 5), (4, none), (128, none), (100, some 0), (100, some 29), (101, none), (102, none), (103, none), (104, none), (105, none), (106, none), (115, none), (116, none), (32, none), (33, none)]
def RQ (R R' : GR) (len : Nat) : Prop := (∀ r, 20 ≤ r → r ≤ 24 → rC R' r = rC R 20 + 1) ∧ (∀ r, (r < 20 ∨ 24 < r) → rC R' r = rC R r) ∧ (rN R' 20 (rC R 20) = 13 ∧ rN R' 21 (rC R 20) = 8 ∧ rN R' 22 (rC R 20) = len ∧ rN R' 23 (rC R 20) = len ∧ rN R' 24 (rC R 20) = len) ∧ (∀ r i, (r < 20 ∨ 24 < r ∨ i ≠ rC R 20) → rN R' r i = rN R r i) ∧ rK R' = rK R + 5 ∧ rZ R' ≤ rZ R + 45
theorem SH_RQ {R' : GR} {len : Nat} (hS : SH R) (h : RQ R R' len) : SH R' := by
  obtain ⟨c1, c2, ⟨l20, l21, l22, l23, l24⟩, ln, _, _⟩ := h
  obtain ⟨s1, s2, s3⟩ := hS
  refine ⟨fun r hr => ?_, fun r hr i hi => ?_, ?_⟩
  · have : r < 20 ∨ 24 < r := by
      rcases Nat.lt_or_ge r 20 with h | h
      · exact Or.inl h
      · rcases Nat.lt_or_ge 24 r with h' | h'
        · exact Or.inr h'
        · exfalso
          have : r = 20 ∨ r = 21 ∨ r = 22 ∨ r = 23 ∨ r = 24 := by omega
          rcases this with rfl | rfl | rfl | rfl | rfl <;> exact hr rfl
    rw [c2 r this, ln r 0 (by omega)]; exact s1 r hr
  · by_cases e : r < 20 ∨ 24 < r
    · rw [c2 r e] at hi
      rw [ln r i (by omega)]; exact s2 r hr i hi
    · have : r = 20 ∨ r = 21 ∨ r = 22 ∨ r = 23 ∨ r = 24 := by omega
      rw [c1 r (by omega) (by omega)] at hi
      rcases this with rfl | rfl | rfl | rfl | rfl
      · by_cases e' : i = rC R 20
        · subst e'; exact l20
        · rw [ln 20 i (by omega)]; exact s2 20 hr i (by omega)
      · by_cases e' : i = rC R 20
        · subst e'; exact l21
        · rw [ln 21 i (by omega)]; exact s2 21 hr i (by omega)
      · exact absurd rfl hr
      · exact absurd rfl hr
      · exact absurd rfl hr
  · rw [c1 20 (by omega) (by omega), c1 21 (by omega) (by omega), c1 22 (by omega) (by omega), c1 23 (by omega) (by omega), c1 24 (by omega) (by omega), c2 34 (by omega), c2 30 (by omega), c2 32 (by omega), c2 33 (by omega), c2 31 (by omega), c2 51 (by omega), c2 50 (by omega)]
    exact ⟨rfl, rfl, rfl, rfl, s3.2.2.2.2⟩
set_option maxHeartbeats 4000000 in
theorem INV_addQ {V' : GV} {R' : GR} {o : Nat} {kd ro mk : Int} (hI : INV IT V R) (q24 : rC R 20 < 24) (eo : V 100 0 29 = (o : Int)) (sm : same V V' LAQ) (hR : RQ R R' (if mk = 1 then 8 else 0))
  (x20 : ∀ r i k, 20 ≤ r → r ≤ 24 → i ≠ rC R 20 → V' r i k = V r i k) (x2 : ∀ k, k ≠ rC R 20 → V' 2 0 k = V 2 0 k) (y2 : hid (V' 2 0 (rC R 20) = (rC R 20 : Int)))
  (x101 : ∀ r k, 101 ≤ r → r ≤ 106 → k ≠ rC R 20 → V' r 0 k = V r 0 k) (x4 : ∀ k, k ≠ o → V' 4 0 k = V 4 0 k ∧ V' 128 0 k = V 128 0 k) (y1 : hid (V' 1 0 1 = (rC R 20 : Int) + 1 ∧ V' 100 0 0 = (rC R 20 : Int) + 1))
  (ys0 : hid (mk = 0 → V' 1 0 5 = (o : Int) ∧ V' 100 0 29 = (o : Int) ∧ V' 4 0 o = V 4 0 o ∧ V' 128 0 o = V 128 0 o)) (ys1 : hid (mk ≠ 0 → V' 1 0 5 = (o : Int) + 1 ∧ V' 100 0 29 = (o : Int) + 1 ∧ V' 4 0 o = (rC R 20 : Int) ∧ V' 128 0 o = (rC R 20 : Int) ∧ V' 20 (rC R 20) 12 = (o : Int)))
  (x32 : ∀ s k, (k ≠ 5 * rC R 20 ∨ kd ≠ 5 ∨ ∀ h, h < rC R 30 → s ≠ (V 30 h 0).toNat) → V' 32 s k = V 32 s k ∧ V' 33 s k = V 33 s k) (y32 : kd = 5 → ∀ h, h < rC R 30 → V' 32 (V 30 h 0).toNat (5 * rC R 20) = 0 ∧ V' 33 (V 30 h 0).toNat (5 * rC R 20) = 0)
  (x115 : ∀ h q t, h < rC R 30 → q ≠ rC R 20 → q < 24 → t < 6 → V' 115 0 (144 * h + 6 * q + t) = V 115 0 (144 * h + 6 * q + t) ∧ V' 116 0 (144 * h + 6 * q + t) = V 116 0 (144 * h + 6 * q + t)) (y115 : ∀ h t, h < rC R 30 → t < 6 → V' 115 0 (144 * h + 6 * rC R 20 + t) = 0 ∧ (kd = 5 → V' 116 0 (144 * h + 6 * rC R 20 + t) = 0) ∧ (kd ≠ 5 → V' 116 0 (144 * h + 6 * rC R 20 + t) = 1))
  (y20 : hid (V' 20 (rC R 20) 0 = kd ∧ V' 20 (rC R 20) 1 = ro ∧ V' 20 (rC R 20) 2 = mk ∧ V' 20 (rC R 20) 5 = 0 ∧ V' 20 (rC R 20) 9 = 0 ∧ V' 20 (rC R 20) 10 = -1 ∧ V' 20 (rC R 20) 11 = 0)) (yr : hid (V' 20 (rC R 20) 4 = (rC R 20 : Int) ∧ V' 20 (rC R 20) 6 = (rC R 20 : Int) ∧ V' 20 (rC R 20) 7 = (rC R 20 : Int) ∧ V' 20 (rC R 20) 8 = (rC R 20 : Int)))
  (y101 : hid (V' 101 0 (rC R 20) = kd ∧ V' 102 0 (rC R 20) = ro ∧ V' 103 0 (rC R 20) = mk ∧ V' 106 0 (rC R 20) = -1))
  (hk : 0 ≤ kd ∧ kd ≤ 5) (hr : hid (ro = -1 ∨ (0 ≤ ro ∧ ro < (rC R 20 : Int) ∧ V 101 0 ro.toNat = 5 ∧ kd ≠ 5))) (hm : 0 ≤ mk ∧ mk ≤ 3) (hkm : hid (kd = 5 → mk = 0))
  (m1 : hid (mk = 1 → V' 20 (rC R 20) 3 = V' 104 0 (rC R 20) ∧ 0 ≤ V' 104 0 (rC R 20) ∧ V' 104 0 (rC R 20) < (rC R 20 : Int) ∧ kd = 0 ∧ ro = V 102 0 (V' 104 0 (rC R 20)).toNat))
  (m2 : hid (mk = 2 → V' 20 (rC R 20) 3 = V' 105 0 (rC R 20) ∧ 0 ≤ V' 105 0 (rC R 20) ∧ V' 105 0 (rC R 20) < (rC R 40 : Int) ∧ 0 ≤ V' 104 0 (rC R 20) ∧ V' 104 0 (rC R 20) < (rC R 20 : Int) ∧ V 125 0 (V' 105 0 (rC R 20)).toNat = V' 104 0 (rC R 20) ∧ ro = -1 ∧ kd = 2))
  (m3 : hid (mk = 3 → V' 20 (rC R 20) 3 = V' 104 0 (rC R 20) ∧ 0 ≤ V' 104 0 (rC R 20) ∧ V' 104 0 (rC R 20) < (rC R 20 : Int) ∧ 0 ≤ V 102 0 (V' 104 0 (rC R 20)).toNat ∧ ro = -1 ∧ kd ≠ 0)) : INV IT V' R' := by
  have hS' := SH_RQ hI.SH hR
  obtain ⟨c1, c2, hl', ln, rk, rz⟩ := hR
  have hl : hid _ := hl'
  clear hl'
  obtain ⟨b20, b30, b40, b50⟩ := hI.IN.1
  have hQ := hI.IQ
  have e20 := c1 20 (by decide) (by decide)
  have e30 := c2 30 (by decide)
  have e31 := c2 31 (by decide)
  have e40 := c2 40 (by decide)
  have e50 := c2 50 (by decide)
  have z109 : hid _ := hQ.2 (rC R 20) (Nat.le_refl _) q24
  have fq : ∀ q, q < rC R 20 → V' 101 0 q = V 101 0 q ∧ V' 102 0 q = V 102 0 q ∧ V' 103 0 q = V 103 0 q ∧ V' 104 0 q = V 104 0 q ∧ V' 105 0 q = V 105 0 q ∧ V' 106 0 q = V 106 0 q := fun q hq => ⟨x101 101 q (by decide) (by decide) (by omega), x101 102 q (by decide) (by decide) (by omega), x101 103 q (by decide) (by decide) (by omega), x101 104 q (by decide) (by decide) (by omega), x101 105 q (by decide) (by decide) (by omega), x101 106 q (by decide) (by decide) (by omega)⟩
  have ord : V' 100 0 29 = V' 1 0 5 ∧ (o : Int) ≤ V' 100 0 29 ∧ V' 100 0 29 ≤ (o : Int) + 1 := by
    by_cases z : mk = 0
    · have := ys0 z; omega
    · have := ys1 z; omega
  have xs4 : ∀ k, k < o → V' 4 0 k = V 4 0 k ∧ V' 128 0 k = V 128 0 k := fun k hk => x4 k (by omega)
  refine ⟨⟨hS', ?_, ?_, ?_, ?_⟩, ?_, ?_, ?_, ?_, ?_, ?_, ?_, ?_, cg_T sm rfl hI.TT⟩
  · obtain ⟨f1, f2⟩ := hI.RF
    refine ⟨fun e he => ?_, fun e he i hi => ?_⟩
    · rw [sm.at (M := RL0.map (fun e => (e.1, some e.2))) rfl ⟨(e.1, some e.2), List.mem_map.mpr ⟨e, he, rfl⟩, rfl, Or.inr rfl⟩]; exact f1 e he
    · by_cases e2 : e.1 = 20
      · by_cases ei : i = rC R 20
        · subst ei
          have : ∀ e, e ∈ RL1 → e.1 = 20 → e.2 = 4 ∨ e.2 = 6 ∨ e.2 = 7 ∨ e.2 = 8 := by decide
          rw [e2]
          rcases this e he e2 with h | h | h | h
          · rw [h]; exact (And.left yr)
          · rw [h]; exact (And.right yr).1
          · rw [h]; exact (And.right yr).2.1
          · rw [h]; exact (And.right yr).2.2
        · rw [e2] at hi
          rw [e20] at hi
          rw [e2, x20 20 i e.2 (by decide) (by decide) ei]
          have := f2 e he i (by rw [e2]; omega)
          rw [e2] at this; exact this
      · have hd : ∀ e, e ∈ RL1 → e.1 ≠ 20 → e.1 = 30 ∨ e.1 = 31 ∨ e.1 = 50 := by decide
        have := hd e he e2
        rw [c2 e.1 (by omega)] at hi
        have sr : V' e.1 i e.2 = V e.1 i e.2 := by
          rcases this with h | h | h
          · rw [h, sm.r 30 rfl]
          · rw [h, sm.r 31 rfl]
          · rw [h, sm.r 50 rfl]
        rw [sr]; exact f2 e he i hi
  · obtain ⟨n1, n2, n3, n4, n5, n6, n7, n8⟩ := hI.IN.2.1
    obtain ⟨p1, p2, p3⟩ := hI.IN.2.2
    refine ⟨⟨by omega, by omega, by omega, by omega⟩, ⟨?_, ?_, ?_, ?_, ?_, ?_, ?_, ?_⟩, ?_, ?_, ?_⟩
    · rw [(And.right y1), e20]; omega
    · rw [(And.left y1), e20]; omega
    · rw [sm.f 100 14 rfl, e30]; exact n3
    · rw [sm.f 0 2 rfl, e30]; exact n4
    · rw [sm.f 100 18 rfl, e40]; exact n5
    · rw [sm.f 1 3 rfl, e40]; exact n6
    · rw [sm.f 100 30 rfl, e50]; exact n7
    · rw [sm.f 0 4 rfl, e50]; exact n8
    · exact ord.1.symm
    · omega
    · rw [e20, e40]; omega
  · obtain ⟨l1, l2, l3, l4⟩ := hI.IL
    refine ⟨fun q hq => ?_, fun c hc => ?_, fun h hh => ?_, fun e he => ?_⟩
    · rw [e20] at hq
      by_cases e : q = rC R 20
      · subst e; exact y2
      · rw [x2 q e]; exact l1 q (by omega)
    · rw [sm.r 3 rfl]; exact l2 c (by omega)
    · rw [sm.r 5 rfl]; exact l3 h (by omega)
    · rw [sm.r 6 rfl]; exact l4 e (by omega)
  · obtain ⟨r1, r2⟩ := hI.IR
    unfold IR
    rw [rk, e20, e30, e40, e50]; omega
  · refine ⟨fun q hq => ?_, fun q h1 h2 => ?_⟩
    · rw [e20] at hq
      by_cases e : q = rC R 20
      · subst e
        obtain ⟨d0, d1, d2, d5, d9, d10, d11⟩ := y20
        obtain ⟨g1, g2, g3, g6⟩ := y101
        have h109 : V' 109 0 (rC R 20) = 0 := by rw [sm.r 109 rfl]; exact (And.left z109)
        have h113 : V' 113 0 (rC R 20) = 0 := by rw [sm.r 113 rfl]; exact (And.right z109).1
        have h107 : V' 107 0 (rC R 20) = 0 := by rw [sm.r 107 rfl]; exact (And.right z109).2
        refine ⟨⟨?_, ?_, ?_, ?_, ?_, ?_, ?_, ?_, ?_, ?_, ?_⟩, ⟨?_, ?_⟩, ⟨?_, ?_, ?_⟩, ?_, ?_, ?_⟩
        · rw [d0, g1]; exact ⟨rfl, hk⟩
        · rw [d1, g2]
          rcases hr with hr | hr
          · omega
          · omega
        · rw [d2, g3]; exact ⟨rfl, hm⟩
        · rw [d5, h109]; omega
        · rw [d9, h113]; omega
        · rw [d10, g6]; omega
        · rw [d11, h107]; omega
        · unfold IQro
          rw [g2, g1]
          rcases hr with hr | ⟨a, b, c, d⟩
          · exact Or.inl hr
          · exact Or.inr ⟨a, b, by rw [(fq _ (by omega)).1]; exact c, d⟩
        · exact Or.inl g6
        · intro z; omega
        · intro z; rw [g1] at z; rw [g3]; exact hkm z
        · intro i hi; omega
        · intro i j _ hj; omega
        · intro i hi; omega
        · intro z
          rw [g3] at z
          obtain ⟨l20, l21, l22, l23, l24⟩ := hl
          rw [if_pos z] at l22 l23 l24
          exact ⟨l22, l23, l24, by omega⟩
        · intro i hi; omega
        · intro z
          rw [g3] at z
          obtain ⟨a, b, c, d, e⟩ := m1 z
          rw [g1, g2, (fq _ (by omega)).2.1]; exact ⟨a, b, c, d, e⟩
        · intro z
          rw [g3] at z
          obtain ⟨a, b, c, d, e, f, g, h⟩ := m2 z
          rw [g1, g2, sm.r 125 rfl, e40]; exact ⟨a, b, c, d, e, f, g, h⟩
        · intro z
          rw [g3] at z
          obtain ⟨a, b, c, d, e, f⟩ := m3 z
          rw [g1, g2, (fq _ (by omega)).2.1]; exact ⟨a, b, c, d, e, f⟩
      · have hq : q < rC R 20 := by omega
        obtain ⟨a1, a2, a3, a4, a5, a6⟩ := fq q hq
        exact IQ_pt hq (by omega) (fun k _ => x20 20 q k (by decide) (by decide) e) a1 a2 a3 a4 a5 a6 (sm.r 107 rfl _ _) (sm.r 109 rfl _ _) (sm.r 113 rfl _ _) (fun i _ => ⟨sm.r 108 rfl _ _, sm.r 110 rfl _ _, sm.r 111 rfl _ _, sm.r 112 rfl _ _, x20 21 q i (by decide) (by decide) e, x20 22 q i (by decide) (by decide) e, x20 23 q i (by decide) (by decide) e, x20 24 q i (by decide) (by decide) e⟩) (fun k hk => ⟨(fq k (by omega)).1, (fq k (by omega)).2.1⟩) (fun c _ => sm.r 125 rfl _ _) ⟨ln 22 q (by omega), ln 23 q (by omega), ln 24 q (by omega)⟩ (hQ.1 q hq)
    · rw [sm.r 109 rfl, sm.r 113 rfl, sm.r 107 rfl]; exact hQ.2 q (by omega) h2
  · intro c hc
    rw [e40] at hc
    exact IC_pt hc (by omega) (fun k _ => sm.r 40 rfl _ _) (sm.r 119 rfl _ _) (sm.r 120 rfl _ _) (sm.r 121 rfl _ _) (sm.r 122 rfl _ _) (sm.r 123 rfl _ _) (sm.r 124 rfl _ _) (sm.r 126 rfl _ _) (sm.r 127 rfl _ _) (fun k hk => ⟨(fq k hk).1, (fq k hk).2.1⟩) (fun c _ => sm.r 125 rfl _ _) (hI.IC c hc)
  · obtain ⟨o1, o2, o3, o4⟩ := hI.IOO
    have old : ∀ j : Nat, j < o → IO1 V' R' j := fun j hj => IO1_pt hQ hI.IC (by omega) (by omega) (fun i hi => (xs4 i (by omega)).1) (xs4 j hj).2 (fun q hq => ⟨(fq q hq).2.2.1, (fq q hq).2.2.2.1, (fq q hq).2.2.2.2.1, x20 20 q 12 (by decide) (by decide) (by omega)⟩) (fun c _ => ⟨sm.r 119 rfl _ _, sm.r 121 rfl _ _, sm.r 123 rfl _ _, sm.r 124 rfl _ _⟩) (o1 j (by omega))
    have bq : ∀ q, q < rC R 20 → V 103 0 q ≠ 0 → bef V' o (q : Int) := by
      intro q hq mkk
      obtain ⟨j, hj, ej⟩ := o3 q hq mkk
      exact ⟨j, by omega, by rw [(xs4 j (by omega)).1]; exact ej⟩
    have bc : ∀ c, c < rC R 40 → bef V' o (24 + (c : Int)) := by
      intro c hc
      obtain ⟨j, hj, ej⟩ := o4 c hc
      exact ⟨j, by omega, by rw [(xs4 j (by omega)).1]; exact ej⟩
    refine ⟨fun j hj => ?_, fun i j hij hj => ?_, fun q hq mkk => ?_, fun c hc' => ?_⟩
    · by_cases e : j = o
      · subst e
        have z : mk ≠ 0 := fun z => by have := ys0 z; omega
        obtain ⟨_, _, w4, w128, w12⟩ := ys1 z
        unfold IO1
        rw [w4, w128, tn_c]
        refine ⟨fun _ => ?_, fun w => absurd w (by omega)⟩
        obtain ⟨g1, g2, g3, g6⟩ := y101
        rw [g3]
        refine ⟨rfl, by omega, by rw [e20]; omega, z, w12, fun y => ?_, fun y w => ?_⟩
        · obtain ⟨_, a, b, _⟩ := m2 y
          have := bc (V' 105 0 (rC R 20)).toNat (by omega)
          rw [Int.toNat_of_nonneg a] at this; exact this
        · have ab : 0 ≤ V' 104 0 (rC R 20) ∧ V' 104 0 (rC R 20) < (rC R 20 : Int) := by
            by_cases h1 : mk = 1
            · exact ⟨(m1 h1).2.1, (m1 h1).2.2.1⟩
            · have h3 := m3 (by omega)
              exact ⟨h3.2.1, h3.2.2.1⟩
          rw [(fq _ (by omega)).2.2.1] at w
          have := bq (V' 104 0 (rC R 20)).toNat (by omega) w
          rw [Int.toNat_of_nonneg ab.1] at this; exact this
      · exact old j (by omega)
    · rw [(xs4 i (by omega)).1]
      by_cases e : j = o
      · subst e
        have z : mk ≠ 0 := fun z => by have := ys0 z; omega
        rw [(ys1 z).2.2.1]
        intro w
        have := ((o1 i (by omega)).1 (by omega)).2.2.1
        omega
      · rw [(xs4 j (by omega)).1]; exact o2 i j hij (by omega)
    · rw [e20] at hq
      by_cases e : q = rC R 20
      · subst e
        rw [(And.right y101).2.1] at mkk
        obtain ⟨_, w29, w4, _⟩ := ys1 mkk
        exact ⟨o, by omega, w4⟩
      · rw [(fq q (by omega)).2.2.1] at mkk
        obtain ⟨j, hj, ej⟩ := o3 q (by omega) mkk
        exact ⟨j, by omega, by rw [(xs4 j (by omega)).1]; exact ej⟩
    · obtain ⟨j, hj, ej⟩ := o4 c (by omega)
      exact ⟨j, by omega, by rw [(xs4 j (by omega)).1]; exact ej⟩
  · have F := cg_IHs sm rfl hI.IHs
    unfold IHs at F ⊢
    simp only [e30, e31, e50, ln 32 _ (Or.inr (Or.inl (by decide))), ln 33 _ (Or.inr (Or.inl (by decide))), ln 51 _ (Or.inr (Or.inl (by decide)))]
    exact F
  · intro h hh
    rw [e30] at hh
    obtain ⟨A, B⟩ := hI.IA h hh
    unfold IA1
    rw [sm.f 30 0 rfl, e20]
    have bl := B (rC R 20) (Nat.le_refl _) q24
    refine ⟨fun q hq m0 => ?_, fun q h1 h2 p hp => ?_⟩
    · by_cases e : q = rC R 20
      · subst e
        obtain ⟨g1, g2, g3, g6⟩ := y101
        rw [g3] at m0
        rw [g2]
        have ok1 : okv V' (rC R 20) 0 1 ∨ kd = 5 := by
          by_cases k5 : kd = 5
          · exact Or.inr k5
          · exact Or.inl ⟨by omega, by omega, by omega, fun _ => rfl, fun z => absurd (g1.symm.trans z) k5, fun _ z => absurd z (by decide)⟩
        refine ⟨fun t => ?_, fun t p hp => ?_⟩
        · have y := y115 h 0 hh (by omega)
          rw [Nat.add_zero] at y
          by_cases k5 : kd = 5
          · have x := y32 k5 h hh
            rw [x.1, x.2, y.1, y.2.1 k5]
            exact ⟨rfl, rfl, by omega, by omega, by omega, fun z => absurd rfl z, fun _ => by omega, fun z => by omega⟩
          · have x := x32 (V 30 h 0).toNat (5 * rC R 20) (Or.inr (Or.inl k5))
            have b0 := bl 0 (by omega)
            rw [Nat.add_zero] at b0
            rw [x.1, x.2, b0.1, b0.2, y.1, y.2.2 k5]
            exact ⟨rfl, rfl, ok1.resolve_right k5⟩
        · have k5 : kd ≠ 5 := (Or.resolve_left hr (by omega)).2.2.2
          have x := x32 (V 30 h 0).toNat (5 * rC R 20 + p) (Or.inr (Or.inl k5))
          have b0 := bl p hp
          have y := y115 h (p + 1) hh (by omega)
          rw [x.1, x.2, b0.1, b0.2, y.1, y.2.2 k5]
          exact ⟨rfl, rfl, ok1.resolve_right k5, fun _ => ⟨rfl, rfl⟩⟩
      · have hq : q < rC R 20 := by omega
        obtain ⟨a1, a2, a3, _⟩ := fq q hq
        rw [a3] at m0
        rw [a2]
        have ok : ∀ v r, okv V q v r → okv V' q v r := fun v r => okv_pt a1 (by rw [sm.r 109 rfl]; exact Int.le_refl _) (fun i _ => sm.r 108 rfl _ _)
        obtain ⟨A1, A2⟩ := A q hq m0
        have rl := hQ.rlt hq
        refine ⟨fun t => ?_, fun t p hp => ?_⟩
        · have x := x32 (V 30 h 0).toNat (5 * q) (Or.inl (by omega))
          have y := x115 h q 0 hh e (by omega) (by omega)
          rw [Nat.add_zero] at y
          rw [x.1, x.2, y.1, y.2]
          exact ⟨(A1 t).1, (A1 t).2.1, ok _ _ (A1 t).2.2⟩
        · have x := x32 (V 30 h 0).toNat (5 * q + p) (Or.inl (by omega))
          have y := x115 h q (p + 1) hh e (by omega) (by omega)
          have w := x115 h (V 102 0 q).toNat 0 hh (by omega) (by omega) (by omega)
          rw [Nat.add_zero] at w
          rw [x.1, x.2, y.1, y.2, w.1]
          obtain ⟨B1, B2, B3, B4⟩ := A2 t p hp
          exact ⟨B1, B2, ok _ _ B3, B4⟩
    · have x := x32 (V 30 h 0).toNat (5 * q + p) (Or.inl (by omega))
      rw [x.1, x.2]; exact B q (by omega) h2 p hp
  · have F := cg_IW sm rfl hI.IW
    unfold IW at F ⊢
    rw [e30]; exact F
  · intro h hh
    rw [e30] at hh
    obtain ⟨a, b, d⟩ := hI.IS h hh
    unfold IS1
    rw [sm.f 30 2 rfl]
    refine ⟨a, by omega, fun j hj => ?_⟩
    have nq : ∀ q, q < rC R 20 → alq V V' (V 30 h 0).toNat q := fun q hq p hp => x32 _ _ (Or.inl (by omega))
    exact LE_cg b20 hQ hI.IC (hI.IOO.1 j (by omega)) (fun q hq => ⟨(fq q hq).1, (fq q hq).2.1, (fq q hq).2.2.1, (fq q hq).2.2.2.1, (fq q hq).2.2.2.2.1⟩) (fun q _ _ _ => ⟨sm.r 113 rfl _ _, fun _ _ => ⟨sm.r 110 rfl _ _, sm.r 111 rfl _ _, sm.r 112 rfl _ _⟩⟩) (fun c _ => ⟨sm.r 119 rfl _ _, sm.r 120 rfl _ _, sm.r 121 rfl _ _, sm.r 122 rfl _ _, sm.r 123 rfl _ _, sm.r 124 rfl _ _, sm.r 125 rfl _ _⟩) (xs4 j (by omega)).1 (sm.f 30 0 rfl h) (hI.pers hh) (fun q hq _ => nq q hq) (fun i' h1 h2 => nq _ (by have := ((hI.IOO.1 i' (by omega)).1 h2).2.2.1; have := ((hI.IOO.1 i' (by omega)).1 h2).2.1; omega)) (fun i' h1 h2 => sm.r 34 rfl _ _) (d j hj)
  · intro e he
    rw [e50] at he
    obtain ⟨⟨a1, a2⟩, b, d⟩ := hI.IE e he
    unfold IE1
    rw [sm.r 131 rfl, sm.r 132 rfl, sm.f 50 1 rfl, ln 51 e (by omega), e30, e20]
    refine ⟨⟨a1, a2⟩, ⟨b.1, b.2.1, by omega⟩, fun g hg => ?_⟩
    rw [sm.r 51 rfl, ln 32 _ (by omega), ln 33 _ (by omega)]
    have d := d g hg
    obtain ⟨d0, _, dd⟩ := hI.IHs.2.2 e g he hg
    refine ⟨d.1, d.2.1, AR_pt (by omega) (fun q hq => hQ.rlt (by omega)) (fun q hq => (fq q (by omega)).2.1) (fun q hq => (fq q (by omega)).2.2.1) (fun q hq v r => okv_pt (fq q (by omega)).1 (by rw [sm.r 109 rfl]; exact Int.le_refl _) (fun i _ => sm.r 108 rfl _ _)) (fun k _ _ => sm.r 133 rfl _ _) (fun k _ _ => sm.r 134 rfl _ _) (fun q hq _ p _ => x32 _ _ (Or.inr (Or.inr (fun h hh => ?_)))) d.2.2⟩
    have := dd h hh
    have := (hI.IHs.1 h hh).1
    omega
end AddQ
