def nv (V : GV) (r i : Nat) : GV := fun r' i' k' => if r' = r ∧ i' = i then (if rtr r k' = 0 then 0 else -1) else V r' i' k'
def nr (R : GR) (r n : Nat) : GR := ((fun r' i' => if r' = r ∧ i' = rC R r then n else rN R r' i'), (fun r' => if r' = r then rC R r + 1 else rC R r'), rK R + 1, rZ R + n)
section New
variable {V : GV} {R : GR} {Q : Int → GS → Prop}
theorem w_gn {r n : Nat} {f : Int × GS → GO} (hn : n ≤ 100000) (hk : rK R < 600000) (hz : rZ R + n ≤ 7302250) (k : Wp (f ((rC R r : Int), (nv V r (rC R r), nr R r n))) Q) : Wp ((gn r (n : Int) (V, R)).bind f) Q := by
  have e : gn r (n : Int) (V, R) = some ((rC R r : Int), (nv V r (rC R r), nr R r n)) := by
    unfold gn
    rw [if_pos ⟨by omega, by omega, hk, by rw [tn_c]; exact hz⟩, tn_c]
    rfl
  rw [e]; exact k
theorem nr_C {r n r' : Nat} (h : r' ≠ r) : rC (nr R r n) r' = rC R r' := if_neg h
theorem nr_Ce {r n : Nat} : rC (nr R r n) r = rC R r + 1 := if_pos rfl
theorem nr_N {r n r' i : Nat} (h : r' ≠ r ∨ i ≠ rC R r) : rN (nr R r n) r' i = rN R r' i := if_neg (fun z => by rcases h with h | h; exact h z.1; exact h z.2)
theorem nr_Ne {r n : Nat} : rN (nr R r n) r (rC R r) = n := if_pos ⟨rfl, rfl⟩
theorem nr_K {r n : Nat} : rK (nr R r n) = rK R + 1 := rfl
theorem nr_Z {r n : Nat} : rZ (nr R r n) = rZ R + n := rfl
theorem nv_o {r i r' i' k' : Nat} (h : r' ≠ r ∨ i' ≠ i) : nv V r i r' i' k' = V r' i' k' := if_neg (fun z => by rcases h with h | h; exact h z.1; exact h z.2)
theorem nv_e {r i k : Nat} : nv V r i r i k = if rtr r k = 0 then 0 else -1 := if_pos ⟨rfl, rfl⟩
def LAC : PL' := [(40, none), (3, none), (4, none), (1, some 3), (1, some 5), (119, none), (120, none), (121, none), (122, none), (123, none), (124, none), (125, none), (126, none), (127, none), (128, none), (100, some 18), (100, some 29)]
theorem INV_addC {V' : GV} {R' : GR} {o : Nat} (hI : INV IT V R) (c60 : rC R 40 < 60) (eo : V 100 0 29 = (o : Int)) (sm : same V V' LAC)
  (hC : rC R' 40 = rC R 40 + 1 ∧ ∀ r, r ≠ 40 → rC R' r = rC R r) (hN : rN R' 40 (rC R 40) = 7 ∧ ∀ r i, (r ≠ 40 ∨ i ≠ rC R 40) → rN R' r i = rN R r i) (hK : rK R' = rK R + 1 ∧ rZ R' = rZ R + 7)
  (x40 : ∀ i k, i ≠ rC R 40 → V' 40 i k = V 40 i k) (x3 : ∀ k, k ≠ rC R 40 → V' 3 0 k = V 3 0 k) (y3 : V' 3 0 (rC R 40) = (rC R 40 : Int)) (x4 : ∀ k, k ≠ o → V' 4 0 k = V 4 0 k ∧ V' 128 0 k = V 128 0 k) (y4 : V' 4 0 o = 24 + (rC R 40 : Int) ∧ V' 128 0 o = 100 + (rC R 40 : Int))
  (y1 : V' 1 0 3 = (rC R 40 : Int) + 1 ∧ V' 1 0 5 = (o : Int) + 1 ∧ V' 100 0 18 = (rC R 40 : Int) + 1 ∧ V' 100 0 29 = (o : Int) + 1)
  (x119 : ∀ r k, 119 ≤ r → r ≤ 127 → k ≠ rC R 40 → V' r 0 k = V r 0 k) (hc : IC1 V' R' (rC R 40)) : INV IT V' R' := by
  obtain ⟨b20, b30, b40, b50⟩ := hI.IN.1
  obtain ⟨n1, n2, n3, n4, n5, n6, n7, n8⟩ := hI.IN.2.1
  obtain ⟨p1, p2, p3⟩ := hI.IN.2.2
  have hQ := hI.IQ
  have hS := hI.SH
  have e20 := hC.2 20 (by decide)
  have e30 := hC.2 30 (by decide)
  have e31 := hC.2 31 (by decide)
  have e50 := hC.2 50 (by decide)
  have fc : ∀ c, c < rC R 40 → V' 119 0 c = V 119 0 c ∧ V' 120 0 c = V 120 0 c ∧ V' 121 0 c = V 121 0 c ∧ V' 122 0 c = V 122 0 c ∧ V' 123 0 c = V 123 0 c ∧ V' 124 0 c = V 124 0 c ∧ V' 125 0 c = V 125 0 c ∧ V' 126 0 c = V 126 0 c ∧ V' 127 0 c = V 127 0 c := fun c hc => ⟨x119 119 c (by decide) (by decide) (by omega), x119 120 c (by decide) (by decide) (by omega), x119 121 c (by decide) (by decide) (by omega), x119 122 c (by decide) (by decide) (by omega), x119 123 c (by decide) (by decide) (by omega), x119 124 c (by decide) (by decide) (by omega), x119 125 c (by decide) (by decide) (by omega), x119 126 c (by decide) (by decide) (by omega), x119 127 c (by decide) (by decide) (by omega)⟩
  have hro := hI.IQ
  refine ⟨⟨?_, ?_, ?_, ?_, ?_⟩, ?_, ?_, ?_, ?_, ?_, ?_, ?_, ?_, cg_T sm rfl hI.TT⟩
  · obtain ⟨s1, s2, s3⟩ := hS
    refine ⟨fun r hr => ?_, fun r hr i hi => ?_, ?_⟩
    · have : r ≠ 40 := fun z => by subst z; exact hr rfl
      rw [hC.2 r this, hN.2 r 0 (Or.inl this)]; exact s1 r hr
    · by_cases e : r = 40
      · subst e
        rw [hC.1] at hi
        by_cases e' : i = rC R 40
        · subst e'; rw [hN.1]; rfl
        · rw [hN.2 40 i (Or.inr e')]; exact s2 40 hr i (by omega)
      · rw [hC.2 r e] at hi
        rw [hN.2 r i (Or.inl e)]; exact s2 r hr i hi
    · rw [hC.2 21 (by decide), hC.2 22 (by decide), hC.2 23 (by decide), hC.2 24 (by decide), hC.2 34 (by decide), hC.2 32 (by decide), hC.2 33 (by decide), hC.2 51 (by decide), e20, e30, e31, e50]; exact s3
  · have F := cg_RF sm rfl hI.RF
    refine ⟨F.1, fun e he i hi => F.2 e he i ?_⟩
    rw [← hC.2 e.1 ((by decide : ∀ e, e ∈ RL1 → e.1 ≠ 40) e he)]; exact hi
  · refine ⟨⟨by omega, by omega, by omega, by omega⟩, ⟨?_, ?_, ?_, ?_, ?_, ?_, ?_, ?_⟩, ?_, ?_, ?_⟩
    · rw [sm.f 100 0 rfl, e20]; exact n1
    · rw [sm.f 1 1 rfl, e20]; exact n2
    · rw [sm.f 100 14 rfl, e30]; exact n3
    · rw [sm.f 0 2 rfl, e30]; exact n4
    · rw [y1.2.2.1, hC.1]; omega
    · rw [y1.1, hC.1]; omega
    · rw [sm.f 100 30 rfl, e50]; exact n7
    · rw [sm.f 0 4 rfl, e50]; exact n8
    · rw [y1.2.1, y1.2.2.2]
    · rw [y1.2.2.2]; omega
    · rw [y1.2.2.2, e20, hC.1]; omega
  · obtain ⟨l1, l2, l3, l4⟩ := hI.IL
    refine ⟨fun q hq => ?_, fun c hc => ?_, fun h hh => ?_, fun e he => ?_⟩
    · rw [sm.r 2 rfl]; exact l1 q (by omega)
    · rw [hC.1] at hc
      by_cases e : c = rC R 40
      · subst e; exact y3
      · rw [x3 c e]; exact l2 c (by omega)
    · rw [sm.r 5 rfl]; exact l3 h (by omega)
    · rw [sm.r 6 rfl]; exact l4 e (by omega)
  · obtain ⟨r1, r2⟩ := hI.IR
    unfold IR
    rw [hK.1, hK.2, hC.1, e20, e30, e50]; omega
  · refine ⟨fun q hq => ?_, fun q h1 h2 => ?_⟩
    · rw [e20] at hq
      exact IQ_pt hq (by omega) (fun k _ => sm.r 20 rfl _ _) (sm.r 101 rfl _ _) (sm.r 102 rfl _ _) (sm.r 103 rfl _ _) (sm.r 104 rfl _ _) (sm.r 105 rfl _ _) (sm.r 106 rfl _ _) (sm.r 107 rfl _ _) (sm.r 109 rfl _ _) (sm.r 113 rfl _ _) (fun i _ => ⟨sm.r 108 rfl _ _, sm.r 110 rfl _ _, sm.r 111 rfl _ _, sm.r 112 rfl _ _, sm.r 21 rfl _ _, sm.r 22 rfl _ _, sm.r 23 rfl _ _, sm.r 24 rfl _ _⟩) (fun k _ => ⟨sm.r 101 rfl _ _, sm.r 102 rfl _ _⟩) (fun c hc => (fc c hc).2.2.2.2.2.2.1) ⟨hN.2 _ _ (Or.inl (by decide)), hN.2 _ _ (Or.inl (by decide)), hN.2 _ _ (Or.inl (by decide))⟩ (hQ.1 q hq)
    · rw [e20] at h1
      rw [sm.r 109 rfl, sm.r 113 rfl, sm.r 107 rfl]; exact hQ.2 q h1 h2
  · intro c hc'
    rw [hC.1] at hc'
    by_cases e : c = rC R 40
    · subst e; exact hc
    · have hc' : c < rC R 40 := by omega
      obtain ⟨a1, a2, a3, a4, a5, a6, a7, a8, a9⟩ := fc c hc'
      exact IC_pt hc' (by omega) (fun k _ => x40 c k e) a1 a2 a3 a4 a5 a6 a8 a9 (fun k _ => ⟨sm.r 101 rfl _ _, sm.r 102 rfl _ _⟩) (fun c hc => (fc c hc).2.2.2.2.2.2.1) (hI.IC c hc')
  · obtain ⟨o1, o2, o3, o4⟩ := hI.IOO
    have old : ∀ j : Nat, j < o → IO1 V' R' j := fun j hj => IO1_pt hQ hI.IC (by omega) (by omega) (fun i hi => (x4 i (by omega)).1) (x4 j (by omega)).2 (fun q _ => ⟨sm.r 103 rfl _ _, sm.r 104 rfl _ _, sm.r 105 rfl _ _, sm.r 20 rfl _ _⟩) (fun c hc => ⟨(fc c hc).1, (fc c hc).2.2.1, (fc c hc).2.2.2.2.1, (fc c hc).2.2.2.2.2.1⟩) (o1 j (by omega))
    have bq : ∀ q, q < rC R 20 → V 103 0 q ≠ 0 → bef V' o (q : Int) := by
      intro q hq mk
      obtain ⟨j, hj, ej⟩ := o3 q hq mk
      exact ⟨j, by omega, by rw [(x4 j (by omega)).1]; exact ej⟩
    have bc : ∀ c, c < rC R 40 → bef V' o (24 + (c : Int)) := by
      intro c hc
      obtain ⟨j, hj, ej⟩ := o4 c hc
      exact ⟨j, by omega, by rw [(x4 j (by omega)).1]; exact ej⟩
    refine ⟨fun j hj => ?_, fun i j hij hj => ?_, fun q hq mk => ?_, fun c hc' => ?_⟩
    · rw [y1.2.2.2] at hj
      by_cases e : j = o
      · subst e
        unfold IO1
        rw [y4.1, y4.2]
        refine ⟨fun z => absurd z (by omega), fun _ => ?_⟩
        rw [show ((24 : Int) + (rC R 40 : Int) - 24).toNat = rC R 40 by omega]
        obtain ⟨_, _, _, so, _, c0, cn, c12, _, _⟩ := hc
        refine ⟨by omega, by rw [hC.1]; omega, fun z y => ?_, fun z => ?_, fun z => ?_⟩
        · obtain ⟨_, ⟨_, q0, q1⟩, _⟩ := c0 z
          rw [sm.r 103 rfl] at y
          have := bq _ (by omega) y
          rw [Int.toNat_of_nonneg q0] at this; exact this
        · obtain ⟨_, _, a0, a1⟩ := cn z
          have := bc (V' 123 0 (rC R 40)).toNat (by omega)
          rw [Int.toNat_of_nonneg a0] at this; exact this
        · obtain ⟨_, a0, a1, _⟩ := c12 z
          have := bc (V' 124 0 (rC R 40)).toNat (by omega)
          rw [Int.toNat_of_nonneg a0] at this; exact this
      · exact old j (by omega)
    · rw [y1.2.2.2] at hj
      rw [(x4 i (by omega)).1]
      by_cases e : j = o
      · subst e
        rw [y4.1]
        intro z
        have := ((o1 i (by omega)).2 (by omega)).2.1
        omega
      · rw [(x4 j e).1]; exact o2 i j hij (by omega)
    · rw [sm.r 103 rfl] at mk
      obtain ⟨j, hj, ej⟩ := o3 q (by omega) mk
      exact ⟨j, by rw [y1.2.2.2]; omega, by rw [(x4 j (by omega)).1]; exact ej⟩
    · rw [hC.1] at hc'
      by_cases e : c = rC R 40
      · subst e; exact ⟨o, by rw [y1.2.2.2]; omega, y4.1⟩
      · obtain ⟨j, hj, ej⟩ := o4 c (by omega)
        exact ⟨j, by rw [y1.2.2.2]; omega, by rw [(x4 j (by omega)).1]; exact ej⟩
  · have F := cg_IHs sm rfl hI.IHs
    unfold IHs at F ⊢
    simp only [e30, e31, e50, hN.2 32 _ (Or.inl (by decide)), hN.2 33 _ (Or.inl (by decide)), hN.2 51 _ (Or.inl (by decide))]
    exact F
  · have F := cg_IA sm rfl hI.IA
    unfold IA IA1 at F ⊢
    rw [e30, e20]; exact F
  · have F := cg_IW sm rfl hI.IW
    unfold IW at F ⊢
    rw [e30]; exact F
  · intro h hh
    rw [e30] at hh
    obtain ⟨a, b, d⟩ := hI.IS h hh
    unfold IS1
    rw [sm.f 30 2 rfl, y1.2.2.2]
    refine ⟨a, by omega, fun j hj => ?_⟩
    exact LE_cg b20 hQ hI.IC (hI.IOO.1 j (by omega)) (fun q _ => ⟨sm.r 101 rfl _ _, sm.r 102 rfl _ _, sm.r 103 rfl _ _, sm.r 104 rfl _ _, sm.r 105 rfl _ _⟩) (fun q _ _ _ => ⟨sm.r 113 rfl _ _, fun _ _ => ⟨sm.r 110 rfl _ _, sm.r 111 rfl _ _, sm.r 112 rfl _ _⟩⟩) (fun c hc => ⟨(fc c hc).1, (fc c hc).2.1, (fc c hc).2.2.1, (fc c hc).2.2.2.1, (fc c hc).2.2.2.2.1, (fc c hc).2.2.2.2.2.1, (fc c hc).2.2.2.2.2.2.1⟩) (x4 j (by omega)).1 (sm.f 30 0 rfl h) (hI.pers hh) (fun q _ _ p _ => ⟨sm.r 32 rfl _ _, sm.r 33 rfl _ _⟩) (fun i' h1 h2 p _ => ⟨sm.r 32 rfl _ _, sm.r 33 rfl _ _⟩) (fun i' h1 h2 => sm.r 34 rfl _ _) (d j hj)
  · have F := cg_IE sm rfl hI.IE
    unfold IE IE1 at F ⊢
    simp only [e50, e30, e20, hN.2 32 _ (Or.inl (by decide)), hN.2 33 _ (Or.inl (by decide)), hN.2 51 _ (Or.inl (by decide))]
    exact F
def cnd (V : GV) (c o : Nat) (a1 a2 a3 a4 a5 a6 a7 : Int) : GV := u3 (u3 (u3 (u3 (u3 (u3 (u3 (u3 (u3 (u3 (u3 (nv V 40 c) 40 c 0 a1) 40 c 1 a2) 40 c 2 a3) 40 c 3 a4) 40 c 4 a5) 40 c 5 a6) 40 c 6 a7) 3 0 c (c : Int)) 4 0 o (24 + (c : Int))) 1 0 5 ((o : Int) + 1)) 1 0 3 ((c : Int) + 1)
theorem w_newC {o : Nat} {a1 a2 a3 a4 a5 a6 a7 : Int} (hI : INV IT V R) (c60 : rC R 40 < 60) (eo : V 100 0 29 = (o : Int)) (h30 : a6 ≤ 30) {x3 : Int} (ex3 : x3 = 0)
  (k : Q (rC R 40 : Int) (cnd V (rC R 40) o a1 a2 a3 a4 a5 a6 a7, nr R 40 7)) : Wp ((g_X0_init (rC R 40 : Int) a1 a2 a3 a4 a5 a6 a7 (nv V 40 (rC R 40), nr R 40 7)).bind fun z6 => (g_X3_addCondition x3 (rC R 40 : Int) z6.2).bind fun z7 => some (z7.1, z7.2)) Q := by
  subst ex3
  have hS := hI.SH
  have hF := hI.RF
  obtain ⟨b20, b30, b40, b50⟩ := hI.IN.1
  obtain ⟨n1, n2, n3, n4, n5, n6, n7, n8⟩ := hI.IN.2.1
  obtain ⟨p1, p2, p3⟩ := hI.IN.2.2
  have hS' : SH (nr R 40 7) := by
    obtain ⟨s1, s2, s3⟩ := hS
    refine ⟨fun r hr => ?_, fun r hr i hi => ?_, ?_⟩
    · have : r ≠ 40 := fun z => by subst z; exact hr rfl
      rw [nr_C this, nr_N (Or.inl this)]; exact s1 r hr
    · by_cases e : r = 40
      · subst e
        rw [nr_Ce] at hi
        by_cases e' : i = rC R 40
        · subst e'; rw [nr_Ne]; rfl
        · rw [nr_N (Or.inr e')]; exact s2 40 hr i (by omega)
      · rw [nr_C e] at hi
        rw [nr_N (Or.inl e)]; exact s2 r hr i hi
    · rw [nr_C (by decide), nr_C (by decide), nr_C (by decide), nr_C (by decide), nr_C (by decide), nr_C (by decide), nr_C (by decide), nr_C (by decide), nr_C (by decide), nr_C (by decide), nr_C (by decide), nr_C (by decide)]; exact s3
  have c1 : rC (nr R 40 7) 40 = rC R 40 + 1 := nr_Ce
  unfold g_X0_init
  refine w_bind ?_
  refine w_gv (by omega) ?_
  refine w_ms hS' (by decide) (by omega) (by omega) (by omega) (by decide) ?_
  refine w_ms hS' (by decide) (by omega) (by omega) (by omega) (by decide) ?_
  refine w_ms hS' (by decide) (by omega) (by omega) (by omega) (by decide) ?_
  refine w_ms hS' (by decide) (by omega) (by omega) (by omega) (by decide) ?_
  refine w_ms hS' (by decide) (by omega) (by omega) (by omega) (by decide) ?_
  refine w_ms hS' (by decide) (by omega) (by omega) (by omega) (by decide) ?_
  refine w_ms hS' (by decide) (by omega) (by omega) (by omega) (by decide) ?_
  simp only [tn_c, Int.reduceToNat]
  refine w_ret ?_
  refine w_bind ?_
  have nvo : ∀ r k, r ≠ 40 → ∀ i, nv V 40 (rC R 40) r i k = V r i k := fun r k h i => nv_o (Or.inl h)
  unfold g_X3_addCondition
  refine w_gv (by omega) ?_
  refine w_m hS' (by decide) (by omega) (by omega) (by omega) (by decide) (fun x hx => ?_)
  simp only [tn_c, Int.reduceToNat] at hx
  rw [u3_nk (by decide), u3_eq] at hx
  subst hx
  have full : ∀ {W : GV} {f : Int × GS → GO} {P : Int → GS → Prop}, W 1 0 3 = (rC R 40 : Int) → Wp (f (0, (W, nr R 40 7))) P → Wp ((g_X3_conditionsAreFull 0 x (W, nr R 40 7)).bind f) P := by
    intro W f P hW kk
    refine w_bind ?_
    unfold g_X3_conditionsAreFull
    refine w_gv (by omega) ?_
    refine w_s hS' (by decide) (by omega) (by decide) (fun y hy => ?_)
    simp only [Int.reduceToNat] at hy
    rw [hW] at hy; subst hy
    refine w_ite (fun z => absurd z (by omega)) (fun _ => w_ite (fun _ => w_ret kk) (fun z => absurd h30 z))
  refine full (by rw [u3_ne (by decide), u3_ne (by decide), u3_ne (by decide), u3_ne (by decide), u3_ne (by decide), u3_ne (by decide), u3_ne (by decide), nvo 1 _ (by decide)]; exact n6) ?_
  refine w_ite (fun _ => ?_) (fun z => absurd rfl z)
  have f12 : u3 (u3 (u3 (u3 (u3 (u3 (u3 (nv V 40 (rC R 40)) 40 (rC R 40) 0 a1) 40 (rC R 40) 1 a2) 40 (rC R 40) 2 a3) 40 (rC R 40) 3 a4) 40 (rC R 40) 4 a5) 40 (rC R 40) 5 x) 40 (rC R 40) 6 a7 1 0 2 = 0 := by
    rw [u3_ne (by decide), u3_ne (by decide), u3_ne (by decide), u3_ne (by decide), u3_ne (by decide), u3_ne (by decide), u3_ne (by decide), nvo 1 _ (by decide)]; exact f_1_2 hF
  have f14 : u3 (u3 (u3 (u3 (u3 (u3 (u3 (nv V 40 (rC R 40)) 40 (rC R 40) 0 a1) 40 (rC R 40) 1 a2) 40 (rC R 40) 2 a3) 40 (rC R 40) 3 a4) 40 (rC R 40) 4 a5) 40 (rC R 40) 5 x) 40 (rC R 40) 6 a7 1 0 4 = 0 := by
    rw [u3_ne (by decide), u3_ne (by decide), u3_ne (by decide), u3_ne (by decide), u3_ne (by decide), u3_ne (by decide), u3_ne (by decide), nvo 1 _ (by decide)]; exact f_1_4 hF
  have f13 : u3 (u3 (u3 (u3 (u3 (u3 (u3 (nv V 40 (rC R 40)) 40 (rC R 40) 0 a1) 40 (rC R 40) 1 a2) 40 (rC R 40) 2 a3) 40 (rC R 40) 3 a4) 40 (rC R 40) 4 a5) 40 (rC R 40) 5 x) 40 (rC R 40) 6 a7 1 0 3 = (rC R 40 : Int) := by
    rw [u3_ne (by decide), u3_ne (by decide), u3_ne (by decide), u3_ne (by decide), u3_ne (by decide), u3_ne (by decide), u3_ne (by decide), nvo 1 _ (by decide)]; exact n6
  have f15 : u3 (u3 (u3 (u3 (u3 (u3 (u3 (nv V 40 (rC R 40)) 40 (rC R 40) 0 a1) 40 (rC R 40) 1 a2) 40 (rC R 40) 2 a3) 40 (rC R 40) 3 a4) 40 (rC R 40) 4 a5) 40 (rC R 40) 5 x) 40 (rC R 40) 6 a7 1 0 5 = (o : Int) := by
    rw [u3_ne (by decide), u3_ne (by decide), u3_ne (by decide), u3_ne (by decide), u3_ne (by decide), u3_ne (by decide), u3_ne (by decide), nvo 1 _ (by decide)]; omega
  unfold cnd at k
  generalize u3 (u3 (u3 (u3 (u3 (u3 (u3 (nv V 40 (rC R 40)) 40 (rC R 40) 0 a1) 40 (rC R 40) 1 a2) 40 (rC R 40) 2 a3) 40 (rC R 40) 3 a4) 40 (rC R 40) 4 a5) 40 (rC R 40) 5 x) 40 (rC R 40) 6 a7 = W at *
  refine w_s hS' (by decide) (by omega) (by decide) (fun y hy => ?_)
  simp only [Int.reduceToNat] at hy
  rw [f12] at hy; subst hy
  refine w_s hS' (by decide) (by omega) (by decide) (fun y hy => ?_)
  simp only [Int.reduceToNat] at hy
  rw [f13] at hy; subst hy
  refine w_gsa (by omega) ?_
  refine w_ss hS' (by decide) (by omega) (by simp only [sl]; omega) ?_
  rw [tn_c]
  refine w_s hS' (by decide) (by omega) (by decide) (fun y hy => ?_)
  simp only [Int.reduceToNat] at hy
  rw [u3_ne (by decide), f13] at hy; subst hy
  rw [w32_id (by omega) (by omega)]
  refine w_bind ?_
  unfold g_X3_addStep
  refine w_gv (by omega) ?_
  refine w_s hS' (by decide) (by omega) (by decide) (fun y hy => ?_)
  simp only [Int.reduceToNat] at hy
  rw [u3_ne (by decide), f14] at hy; subst hy
  refine w_s hS' (by decide) (by omega) (by decide) (fun y hy => ?_)
  simp only [Int.reduceToNat] at hy
  rw [u3_ne (by decide), f15] at hy; subst hy
  refine w_ss hS' (by decide) (by omega) (by simp only [sl]; omega) ?_
  rw [tn_c]
  refine w_s hS' (by decide) (by omega) (by decide) (fun y hy => ?_)
  simp only [Int.reduceToNat] at hy
  rw [u3_ne (by decide), u3_ne (by decide), f15] at hy; subst hy
  rw [w32_id (x := (o : Int) + 1) (by omega) (by omega)]
  refine w_ss hS' (by decide) (by omega) (by decide) ?_
  refine w_s hS' (by decide) (by omega) (by decide) (fun y hy => ?_)
  simp only [Int.reduceToNat] at hy
  rw [u3_eq] at hy; subst hy
  refine w_ret ?_
  refine w_s hS' (by decide) (by omega) (by decide) (fun y hy => ?_)
  simp only [Int.reduceToNat] at hy
  rw [u3_nk (by decide), u3_ne (by decide), u3_ne (by decide), f13] at hy; subst hy
  rw [w32_id (x := (rC R 40 : Int) + 1) (by omega) (by omega)]
  refine w_ss hS' (by decide) (by omega) (by decide) ?_
  refine w_s hS' (by decide) (by omega) (by decide) (fun y hy => ?_)
  simp only [Int.reduceToNat] at hy
  rw [u3_eq] at hy; subst hy
  rw [w32_id (by omega) (by omega), show (rC R 40 : Int) + 1 - 1 = (rC R 40 : Int) by omega]
  exact w_ret (w_ret k)
end New
