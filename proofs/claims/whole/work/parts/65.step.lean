def tgt (V : GV) (h j r i k : Nat) : Prop := (V 4 0 j < 24 ∧ (r = 32 ∨ r = 33) ∧ i = (V 30 h 0).toNat ∧ ∃ p, p < 5 ∧ k = 5 * (V 4 0 j).toNat + p) ∨ (24 ≤ V 4 0 j ∧ r = 34 ∧ i = h ∧ k = (V 4 0 j - 24).toNat)
def stp (V V' : GV) (h j : Nat) : Prop := ∀ r i k, ¬ tgt V h j r i k → V' r i k = V r i k
theorem stp.rf (V : GV) (h j : Nat) : stp V V h j := fun _ _ _ _ => rfl
theorem stp.u {V V' : GV} {h j r i k : Nat} {v : Int} (hs : stp V V' h j) (ht : tgt V h j r i k) : stp V (u3 V' r i k v) h j := by
  intro r' i' k' hn
  by_cases e : r' = r ∧ i' = i ∧ k' = k
  · obtain ⟨rfl, rfl, rfl⟩ := e; exact absurd ht hn
  · exact (if_neg e).trans (hs r' i' k' hn)
def LSx : PL' := [(32, none), (33, none), (34, none)]
theorem stp.same {V V' : GV} {h j : Nat} (hs : stp V V' h j) : same V V' LSx := by
  intro r i k hn
  refine hs r i k (fun ht => hn ?_)
  rcases ht with ⟨_, e, _⟩ | ⟨_, e, _⟩
  · rcases e with rfl | rfl
    · exact ⟨(32, none), by decide, rfl, Or.inl rfl⟩
    · exact ⟨(33, none), by decide, rfl, Or.inl rfl⟩
  · subst e; exact ⟨(34, none), by decide, rfl, Or.inl rfl⟩
theorem AR_cg {V V' : GV} {s a b o n : Nat} (e101 : ∀ k, V' 101 0 k = V 101 0 k) (e102 : ∀ k, V' 102 0 k = V 102 0 k) (e103 : ∀ k, V' 103 0 k = V 103 0 k) (e108 : ∀ k, V' 108 0 k = V 108 0 k) (e109 : ∀ k, V' 109 0 k = V 109 0 k) (ea : ∀ k, V' a 0 k = V a 0 k) (eb : ∀ k, V' b 0 k = V b 0 k)
  (h : ∀ q, q < n → V 103 0 q = 0 → alq V V' s q) (hv : AR V s a b o n) : AR V' s a b o n := by
  intro q hq m0
  rw [e103] at m0
  have aQ := h q hq m0
  have hv := hv q hq m0
  have ok : ∀ v r, okv V q v r → okv V' q v r := by intro v r; unfold okv; simp only [e101, e108, e109]; exact id
  refine ⟨fun r => ?_, fun r p hp => ?_⟩
  · rw [e102] at r
    rw [aQ.z.1, aQ.z.2, ea, eb]
    exact ⟨(hv.1 r).1, (hv.1 r).2.1, ok _ _ (hv.1 r).2.2⟩
  · rw [e102] at r
    rw [(aQ p hp).1, (aQ p hp).2, ea, eb, e102, ea]
    have := hv.2 r p hp
    exact ⟨this.1, this.2.1, ok _ _ this.2.2.1, this.2.2.2⟩
section Inv
variable {V : GV} {R : GR} {T : GV → Prop}
theorem INV.pers (hI : INV T V R) {h : Nat} (hh : h < rC R 30) : pers V R (V 30 h 0).toNat := by
  obtain ⟨_, hQ, _, _, _, hA, _⟩ := hI
  intro r hr k5
  obtain ⟨m0, r0⟩ := hQ.k5 hr k5
  obtain ⟨e, _, ok⟩ := ((hA h hh).1 r hr m0).1 r0
  rw [e]; exact (ok.2.2.2.2.1 k5).2
theorem INV.SH (hI : INV T V R) : SH R := hI.1.1
theorem INV.RF (hI : INV T V R) : RF V R := hI.1.2.1
theorem INV.IN (hI : INV T V R) : IN V R := hI.1.2.2.1
theorem INV.IL (hI : INV T V R) : IL V R := hI.1.2.2.2.1
theorem INV.IR (hI : INV T V R) : IR R := hI.1.2.2.2.2
theorem INV.IQ (hI : INV T V R) : IQ V R := hI.2.1
theorem INV.IC (hI : INV T V R) : IC V R := hI.2.2.1
theorem INV.IOO (hI : INV T V R) : IOO V R := hI.2.2.2.1
theorem INV.IHs (hI : INV T V R) : IHs V R := hI.2.2.2.2.1
theorem INV.IA (hI : INV T V R) : IA V R := hI.2.2.2.2.2.1
theorem INV.IW (hI : INV T V R) : IW V R := hI.2.2.2.2.2.2.1
theorem INV.IS (hI : INV T V R) : IS V R := hI.2.2.2.2.2.2.2.1
theorem INV.IE (hI : INV T V R) : IE V R := hI.2.2.2.2.2.2.2.2.1
theorem INV.TT (hI : INV T V R) : T V ∧ tcl T := hI.2.2.2.2.2.2.2.2.2
theorem INV.IT (hI : INV IT V R) : IT V := hI.TT.1
theorem INV.sh_ne (hI : INV T V R) {g h : Nat} (hg : g < rC R 30) (hh : h < rC R 30) (hn : g ≠ h) : (V 30 g 0).toNat ≠ (V 30 h 0).toNat := by
  obtain ⟨a, b, _⟩ := hI.IHs
  have a1 := (a g hg).1
  have a2 := (a h hh).1
  rcases Nat.lt_or_ge g h with l | l
  · have := b g h l hh; omega
  · have := b h g (by omega) hg; omega
theorem tgt.m (hI : INV T V R) {h j r i k : Nat} (hj : (j : Int) < V 100 0 29) (ht : tgt V h j r i k) (hr : r ≠ 34) : ∃ t p : Nat, V 4 0 j = (t : Int) ∧ t < rC R 20 ∧ V 103 0 t ≠ 0 ∧ p < 5 ∧ k = 5 * t + p ∧ i = (V 30 h 0).toNat := by
  rcases ht with ⟨lt, _, ei, p, hp, ek⟩ | ⟨_, e, _⟩
  · obtain ⟨_, t0, t1, mk, _⟩ := (hI.IOO.1 j hj).1 lt
    exact ⟨(V 4 0 j).toNat, p, by omega, by omega, mk, hp, ek, ei⟩
  · exact absurd e hr
theorem stp.told {V' : GV} (hI : INV T V R) {h j : Nat} (hj : (j : Int) < V 100 0 29) (hs : stp V V' h j) {s q : Nat} (hm : V 103 0 q = 0 ∨ s ≠ (V 30 h 0).toNat) : alq V V' s q := by
  intro p hp
  constructor
  all_goals
    refine hs _ _ _ (fun ht => ?_)
    obtain ⟨t, p', et, ht, mk, hp', ek, ei⟩ := tgt.m hI hj ht (by decide)
    have : t = q := by omega
    subst this
    rcases hm with hm | hm
    · exact mk hm
    · exact hm ei
theorem LE_stp {V' : GV} (hI : INV T V R) {h j : Nat} (hh : h < rC R 30) (hj : (j : Int) < V 100 0 29) (hs : stp V V' h j) {g i : Nat} (hg : g < rC R 30) (hi : (i : Int) < V 100 0 29) (hgi : g ≠ h ∨ i < j) (hl : LE V g i) : LE V' g i := by
  have sm := hs.same
  have e0 : ∀ g, V' 30 g 0 = V 30 g 0 := sm.f 30 0 rfl
  have nt : ∀ i', i' ≤ i → V 4 0 i' = V 4 0 j → g ≠ h := by
    intro i' h1 h2
    rcases hgi with x | x
    · exact x
    · exact absurd h2 (hI.IOO.2.1 i' j (by omega) hj)
  refine LE_cg hI.IN.1.1 hI.IQ hI.IC (hI.IOO.1 i hi) (fun q _ => ⟨sm.r 101 rfl _ _, sm.r 102 rfl _ _, sm.r 103 rfl _ _, sm.r 104 rfl _ _, sm.r 105 rfl _ _⟩) (fun q _ _ _ => ⟨sm.r 113 rfl _ _, fun _ _ => ⟨sm.r 110 rfl _ _, sm.r 111 rfl _ _, sm.r 112 rfl _ _⟩⟩) (fun q _ => ⟨sm.r 119 rfl _ _, sm.r 120 rfl _ _, sm.r 121 rfl _ _, sm.r 122 rfl _ _, sm.r 123 rfl _ _, sm.r 124 rfl _ _, sm.r 125 rfl _ _⟩) (sm.r 4 rfl _ _) (e0 g) (hI.pers hg) (fun q _ m0 => hs.told hI hj (Or.inl m0)) (fun i' h1 h2 => ?_) (fun i' h1 h2 => ?_) hl
  · by_cases e : g = h
    · subst e
      intro p hp
      constructor
      all_goals
        refine hs _ _ _ (fun ht => ?_)
        obtain ⟨t, p', et, ht, mk, hp', ek, ei⟩ := tgt.m hI hj ht (by decide)
        obtain ⟨_, t0, _⟩ := (hI.IOO.1 i' (by omega)).1 h2
        exact nt i' h1 (by omega) rfl
    · exact hs.told hI hj (Or.inr (hI.sh_ne hg hh e))
  · refine hs _ _ _ (fun ht => ?_)
    rcases ht with ⟨_, e, _⟩ | ⟨x, _, e1, e2⟩
    · omega
    · exact nt i' h1 (by omega) e1
theorem INV_stp {V' : GV} (hI : INV T V R) {h j : Nat} (hh : h < rC R 30) (hj : (j : Int) < V 100 0 29) (hd : V 30 h 2 ≤ (j : Int)) (hs : stp V V' h j) : INV T V' R := by
  have sm := hs.same
  have e0 : ∀ g, V' 30 g 0 = V 30 g 0 := sm.f 30 0 rfl
  refine ⟨⟨hI.SH, cg_RF sm rfl hI.RF, cg_IN sm rfl hI.IN, cg_IL sm rfl hI.IL, hI.IR⟩, cg_IQ sm rfl hI.IQ, cg_IC sm rfl hI.IC, cg_IOO sm rfl hI.IOO, cg_IHs sm rfl hI.IHs, ?_, cg_IW sm rfl hI.IW, ?_, ?_, cg_T sm rfl hI.TT⟩
  · intro g hg
    unfold IA1
    rw [e0]
    refine ⟨AR_cg (sm.r 101 rfl _) (sm.r 102 rfl _) (sm.r 103 rfl _) (sm.r 108 rfl _) (sm.r 109 rfl _) (sm.r 115 rfl _) (sm.r 116 rfl _) (fun q _ m0 => hs.told hI hj (Or.inl m0)) (hI.IA g hg).1, fun q h1 h2 p hp => ?_⟩
    have := (hI.IA g hg).2 q h1 h2 p hp
    refine ⟨(hs _ _ _ (fun ht => ?_)).trans this.1, (hs _ _ _ (fun ht => ?_)).trans this.2⟩
    all_goals
      obtain ⟨t, p', et, ht, mk, hp', ek, ei⟩ := tgt.m hI hj ht (by decide)
      omega
  · intro g hg
    obtain ⟨a, b, c⟩ := hI.IS g hg
    unfold IS1
    rw [sm.f 30 2 rfl, sm.f 100 29 rfl]
    refine ⟨a, b, fun i hi => LE_stp hI hh hj hs hg (by omega) ?_ (c i hi)⟩
    by_cases e : g = h
    · subst e; exact Or.inr (by omega)
    · exact Or.inl e
  · intro e he
    obtain ⟨a, b, c⟩ := hI.IE e he
    unfold IE1
    rw [sm.r 131 rfl, sm.r 132 rfl, sm.f 50 1 rfl]
    refine ⟨a, b, fun g hg => ?_⟩
    rw [sm.r 51 rfl]
    have c := c g hg
    refine ⟨c.1, c.2.1, AR_cg (sm.r 101 rfl _) (sm.r 102 rfl _) (sm.r 103 rfl _) (sm.r 108 rfl _) (sm.r 109 rfl _) (sm.r 133 rfl _) (sm.r 134 rfl _) (fun q _ m0 => hs.told hI hj (Or.inl m0)) c.2.2⟩
end Inv
