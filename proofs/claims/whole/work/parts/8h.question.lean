section Question
variable {V : GV} {R : GR} {Q : Int → GS → Prop}
theorem QFIN {E W' V' : GV} {o : Nat} {kd ro mk so : Int} (hI : INV IT V R) (q24 : rC R 20 < 24) (eo : V 100 0 29 = (o : Int))
  (eE : ∀ r i k, ¬ ((r = 32 ∨ r = 33) ∧ k = 5 * rC R 20 ∧ kd = 5 ∧ ∃ h, h < rC R 30 ∧ i = (V 30 h 0).toNat) → E r i k = cqs V (rC R 20) o kd ro mk so r i k) (yE : kd = 5 → ∀ h, h < rC R 30 → E 32 (V 30 h 0).toNat (5 * rC R 20) = 0 ∧ E 33 (V 30 h 0).toNat (5 * rC R 20) = 0)
  (fW : ∀ r i k, ¬ rset (rC R 20) o (rC R 30) mk r k → W' r i k = E r i k) (ya : hid (W' 101 0 (rC R 20) = kd ∧ W' 102 0 (rC R 20) = ro ∧ W' 103 0 (rC R 20) = mk ∧ W' 106 0 (rC R 20) = -1)) (yb : hid (W' 100 0 0 = (rC R 20 : Int) + 1)) (yc : hid (mk ≠ 0 → W' 128 0 o = (rC R 20 : Int) ∧ W' 100 0 29 = (o : Int) + 1)) (yd : ∀ h t, h < rC R 30 → t < 6 → W' 115 0 (144 * h + 6 * rC R 20 + t) = 0 ∧ (kd = 5 → W' 116 0 (144 * h + 6 * rC R 20 + t) = 0) ∧ (kd ≠ 5 → W' 116 0 (144 * h + 6 * rC R 20 + t) = 1))
  (fV : ∀ r i k, ¬ ((r = 104 ∨ r = 105) ∧ k = rC R 20) → V' r i k = W' r i k)
  (hk : 0 ≤ kd ∧ kd ≤ 5) (hr : hid (ro = -1 ∨ (0 ≤ ro ∧ ro < (rC R 20 : Int) ∧ V 101 0 ro.toNat = 5 ∧ kd ≠ 5))) (hm : 0 ≤ mk ∧ mk ≤ 3) (hkm : hid (kd = 5 → mk = 0))
  (m1 : hid (mk = 1 → so = V' 104 0 (rC R 20) ∧ 0 ≤ V' 104 0 (rC R 20) ∧ V' 104 0 (rC R 20) < (rC R 20 : Int) ∧ kd = 0 ∧ ro = V 102 0 (V' 104 0 (rC R 20)).toNat))
  (m2 : hid (mk = 2 → so = V' 105 0 (rC R 20) ∧ 0 ≤ V' 105 0 (rC R 20) ∧ V' 105 0 (rC R 20) < (rC R 40 : Int) ∧ 0 ≤ V' 104 0 (rC R 20) ∧ V' 104 0 (rC R 20) < (rC R 20 : Int) ∧ V 125 0 (V' 105 0 (rC R 20)).toNat = V' 104 0 (rC R 20) ∧ ro = -1 ∧ kd = 2))
  (m3 : hid (mk = 3 → so = V' 104 0 (rC R 20) ∧ 0 ≤ V' 104 0 (rC R 20) ∧ V' 104 0 (rC R 20) < (rC R 20 : Int) ∧ 0 ≤ V 102 0 (V' 104 0 (rC R 20)).toNat ∧ ro = -1 ∧ kd ≠ 0)) : INV IT V' (rq5 R (if mk = 1 then 8 else 0)) := by
  have F : hid _ := cqs_f (V := V) (q := rC R 20) (o := o) (kd := kd) (ro := ro) (mk := mk) (so := so)
  have b30 := hI.IN.1.2.1
  have p1 := hI.IN.2.2.1
  have cfr : ∀ r i k, ¬ ((20 ≤ r ∧ r ≤ 24 ∧ i = rC R 20) ∨ (r = 2 ∧ k = rC R 20) ∨ (r = 1 ∧ (k = 1 ∨ k = 5)) ∨ (r = 4 ∧ k = o)) → cqs V (rC R 20) o kd ro mk so r i k = V r i k := And.left F
  generalize cqs V (rC R 20) o kd ro mk so = C at *
  -- from the last state back to the class's
  have toC : ∀ r i k, (r < 32 ∨ (33 < r ∧ r < 100)) → V' r i k = C r i k := by
    intro r i k h
    rw [fV r i k (fun z => by rcases z.1 with y | y <;> omega), fW r i k ?_, eE r i k (fun z => by rcases z.1 with y | y <;> omega)]
    rintro (⟨y, _⟩ | ⟨y, _⟩ | ⟨y, _⟩ | ⟨y, _⟩)
    · omega
    · omega
    · omega
    · rcases y with y | y <;> omega
  have toE : ∀ r i k, (r = 32 ∨ r = 33) → V' r i k = E r i k := by
    intro r i k h
    rw [fV r i k (fun z => by rcases z.1 with y | y <;> omega), fW r i k ?_]
    rintro (⟨y, _⟩ | ⟨y, _⟩ | ⟨y, _⟩ | ⟨y, _⟩)
    · omega
    · omega
    · omega
    · rcases y with y | y <;> omega
  have toW : ∀ r i k, (r ≠ 104 ∧ r ≠ 105) → V' r i k = W' r i k := fun r i k h => fV r i k (fun z => by rcases z.1 with y | y <;> omega)
  have high : ∀ r i k, 100 ≤ r → ¬ rset (rC R 20) o (rC R 30) mk r k → ¬ ((r = 104 ∨ r = 105) ∧ k = rC R 20) → V' r i k = V r i k := by
    intro r i k h1 h2 h3
    rw [fV r i k h3, fW r i k h2, eE r i k (fun z => by rcases z.1 with y | y <;> omega)]
    refine cfr r i k ?_
    rintro (y | y | y | y) <;> omega
  have sm : same V V' LAQ := by
    intro r i k hmm
    have nm : ∀ e, e ∈ LAQ → ¬ (e.1 = r ∧ (e.2 = none ∨ e.2 = some k)) := fun e he z => hmm ⟨e, he, z⟩
    have hh : ∀ r2, (r2, (none : Option Nat)) ∈ LAQ → r ≠ r2 := fun r2 h2 z => nm _ h2 ⟨z.symm, Or.inl rfl⟩
    have h11 : r = 1 → k ≠ 1 ∧ k ≠ 5 := fun z => ⟨fun y => nm (1, some 1) (by decide) ⟨z.symm, Or.inr (by rw [y])⟩, fun y => nm (1, some 5) (by decide) ⟨z.symm, Or.inr (by rw [y])⟩⟩
    have h10 : r = 100 → k ≠ 0 ∧ k ≠ 29 := fun z => ⟨fun y => nm (100, some 0) (by decide) ⟨z.symm, Or.inr (by rw [y])⟩, fun y => nm (100, some 29) (by decide) ⟨z.symm, Or.inr (by rw [y])⟩⟩
    have h20 := hh 20 (by decide)
    have h21 := hh 21 (by decide)
    have h22 := hh 22 (by decide)
    have h23 := hh 23 (by decide)
    have h24 := hh 24 (by decide)
    have h2 := hh 2 (by decide)
    have h4 := hh 4 (by decide)
    have h32 := hh 32 (by decide)
    have h33 := hh 33 (by decide)
    rcases Nat.lt_or_ge r 100 with lt | ge
    · rw [toC r i k (by omega)]
      refine cfr r i k ?_
      rintro (y | y | y | y)
      · omega
      · omega
      · have := h11 y.1; omega
      · omega
    · have h101 := hh 101 (by decide)
      have h102 := hh 102 (by decide)
      have h103 := hh 103 (by decide)
      have h106 := hh 106 (by decide)
      have h128 := hh 128 (by decide)
      have h115 := hh 115 (by decide)
      have h116 := hh 116 (by decide)
      refine high r i k ge ?_ (fun z => by
        have := hh 104 (by decide)
        have := hh 105 (by decide)
        rcases z.1 with y | y <;> omega)
      rintro (y | y | y | y)
      · rcases y.1 with y | y | y | y <;> omega
      · have := h10 y.1
        rcases y.2 with w | w
        · omega
        · exact this.2 w.2
      · omega
      · rcases y.1 with y | y <;> omega
  refine INV_addQ (kd := kd) (ro := ro) (mk := mk) (o := o) hI q24 eo sm (RQ5 hI.SH _ (by by_cases z : mk = 1; rw [if_pos z]; exact Nat.le_refl _; rw [if_neg z]; exact Nat.zero_le _)) (fun r i k h1 h2 h3 => ?_) (fun k h => ?_) ?_ (fun r k h1 h2 h3 => ?_) (fun k h => ⟨?_, ?_⟩) ⟨?_, ?_⟩ (fun z => ?_) (fun z => ?_) (fun s k h => ?_) (fun z h hh => ?_) (fun h q t hh hq hq24 ht => ?_) (fun h t hh ht => ?_) ?_ ?_ ?_ hk hr hm hkm (fun z => ?_) (fun z => ?_) (fun z => ?_)
  · rw [toC r i k (by omega)]; exact cfr r i k (by rintro (y | y | y | y) <;> omega)
  · rw [toC 2 0 k (by omega)]; exact cfr 2 0 k (by rintro (y | y | y | y) <;> omega)
  · show V' 2 0 (rC R 20) = _
    rw [toC 2 0 _ (by omega)]; exact (And.right F).2.2.2.1
  · refine high r 0 k (by omega) ?_ (fun z => h3 z.2)
    rintro (y | y | y | y)
    · exact h3 y.2
    · omega
    · omega
    · rcases y.1 with y | y <;> omega
  · rw [toC 4 0 k (by omega)]; exact cfr 4 0 k (by rintro (y | y | y | y) <;> omega)
  · refine high 128 0 k (by omega) ?_ (fun z => by rcases z.1 with y | y <;> omega)
    rintro (y | y | y | y)
    · rcases y.1 with y | y | y | y <;> omega
    · omega
    · exact h y.2.2
    · rcases y.1 with y | y <;> omega
  · rw [toC 1 0 1 (by omega)]; exact (And.right F).2.2.2.2.1
  · rw [toW 100 0 0 (by decide)]; exact yb
  · refine ⟨?_, ?_, ?_, ?_⟩
    · rw [toC 1 0 5 (by omega), ((And.right F).2.2.2.2.2.1 z).1]; omega
    · rw [high 100 0 29 (by omega) ?_ (fun y => by rcases y.1 with w | w <;> omega)]
      · exact eo
      · rintro (y | y | y | y)
        · rcases y.1 with y | y | y | y <;> omega
        · rcases y.2 with w | w
          · omega
          · exact w.1 z
        · omega
        · rcases y.1 with y | y <;> omega
    · rw [toC 4 0 o (by omega)]; exact ((And.right F).2.2.2.2.2.1 z).2
    · refine high 128 0 o (by omega) ?_ (fun y => by rcases y.1 with w | w <;> omega)
      rintro (y | y | y | y)
      · rcases y.1 with y | y | y | y <;> omega
      · omega
      · exact y.2.1 z
      · rcases y.1 with y | y <;> omega
  · obtain ⟨f1, f2, f3⟩ := (And.right F).2.2.2.2.2.2 z
    obtain ⟨g1, g2⟩ := yc z
    refine ⟨?_, ?_, ?_, ?_, ?_⟩
    · rw [toC 1 0 5 (by omega)]; exact f1
    · rw [toW 100 0 29 (by decide)]; exact g2
    · rw [toC 4 0 o (by omega)]; exact f2
    · rw [toW 128 0 o (by decide)]; exact g1
    · rw [toC 20 _ 12 (by omega)]; exact f3
  · have g : ∀ r, (r = 32 ∨ r = 33) → V' r s k = V r s k := by
      intro r hr'
      rw [toE r s k hr', eE r s k ?_]
      · exact cfr r s k (by rintro (y | y | y | y) <;> omega)
      · rintro ⟨_, y1, y2, h', y3, y4⟩
        rcases h with h | h | h
        · exact h y1
        · exact h y2
        · exact h h' y3 y4
    exact ⟨g 32 (Or.inl rfl), g 33 (Or.inr rfl)⟩
  · rw [toE 32 _ _ (Or.inl rfl), toE 33 _ _ (Or.inr rfl)]; exact yE z h hh
  · have g : ∀ r, (r = 115 ∨ r = 116) → V' r 0 (144 * h + 6 * q + t) = V r 0 (144 * h + 6 * q + t) := by
      intro r hr'
      refine high r 0 _ (by omega) ?_ (fun z => by rcases z.1 with y | y <;> omega)
      rintro (y | y | y | y)
      · rcases y.1 with y | y | y | y <;> omega
      · omega
      · omega
      · obtain ⟨h', y1, y2, y3⟩ := y.2
        omega
    exact ⟨g 115 (Or.inl rfl), g 116 (Or.inr rfl)⟩
  · rw [toW 115 _ _ (by decide), toW 116 _ _ (by decide)]; exact yd h t hh ht
  · obtain ⟨⟨a0, a1, a2, a3⟩, a4, ⟨a5, a9, a10, a11⟩, _⟩ := And.right F
    show V' 20 (rC R 20) 0 = kd ∧ V' 20 (rC R 20) 1 = ro ∧ V' 20 (rC R 20) 2 = mk ∧ V' 20 (rC R 20) 5 = 0 ∧ V' 20 (rC R 20) 9 = 0 ∧ V' 20 (rC R 20) 10 = -1 ∧ V' 20 (rC R 20) 11 = 0
    rw [toC 20 _ 0 (by omega), toC 20 _ 1 (by omega), toC 20 _ 2 (by omega), toC 20 _ 5 (by omega), toC 20 _ 9 (by omega), toC 20 _ 10 (by omega), toC 20 _ 11 (by omega)]
    exact ⟨a0, a1, a2, a5, a9, a10, a11⟩
  · show V' 20 (rC R 20) 4 = (rC R 20 : Int) ∧ V' 20 (rC R 20) 6 = (rC R 20 : Int) ∧ V' 20 (rC R 20) 7 = (rC R 20 : Int) ∧ V' 20 (rC R 20) 8 = (rC R 20 : Int)
    rw [toC 20 _ 4 (by omega), toC 20 _ 6 (by omega), toC 20 _ 7 (by omega), toC 20 _ 8 (by omega)]
    exact (And.right F).2.1
  · show V' 101 0 (rC R 20) = kd ∧ V' 102 0 (rC R 20) = ro ∧ V' 103 0 (rC R 20) = mk ∧ V' 106 0 (rC R 20) = -1
    rw [toW 101 _ _ (by decide), toW 102 _ _ (by decide), toW 103 _ _ (by decide), toW 106 _ _ (by decide)]
    exact ya
  · rw [toC 20 _ 3 (by omega), (And.right F).1.2.2.2]; exact m1 z
  · rw [toC 20 _ 3 (by omega), (And.right F).1.2.2.2]; exact m2 z
  · rw [toC 20 _ 3 (by omega), (And.right F).1.2.2.2]; exact m3 z
end Question
