section Law
variable {Q : Int → GS → Prop}
def st0 : Option (Int × Int × GS) := (gn 0 (cN 8 : Int) G00).bind fun z1 => (g_X8_init z1.1 z1.2).bind fun z2 => (gn 100 (cN 9 : Int) z2.2).bind fun z3 => (g_X9_init z3.1 z3.2).bind fun z4 => some (z1.1, z3.1, z4.2)
theorem law_gen (F : Int → Int → GS → GO) {V : GV} {R : GR} (e : st0 = some (0, 0, (V, R))) : ((gn 0 (cN 8 : Int) G00).bind fun z1 => (g_X8_init z1.1 z1.2).bind fun z2 => (gn 100 (cN 9 : Int) z2.2).bind fun z3 => (g_X9_init z3.1 z3.2).bind fun z4 => F z1.1 z3.1 z4.2) = F 0 0 (V, R) := by
  have h : ((gn 0 (cN 8 : Int) G00).bind fun z1 => (g_X8_init z1.1 z1.2).bind fun z2 => (gn 100 (cN 9 : Int) z2.2).bind fun z3 => (g_X9_init z3.1 z3.2).bind fun z4 => F z1.1 z3.1 z4.2) = st0.bind fun z => F z.1 z.2.1 z.2.2 := by
    unfold st0
    simp only [Option.bind_assoc, Option.bind_some]
  rw [h, e, Option.bind_some]
theorem law_st (X : List Int) {V : GV} {R : GR} (e : st0 = some (0, 0, (V, R))) : g_L_law X G00 = lh1 (glL_law_18 X 0 0) 6000 0 (V, R) := by
  unfold g_L_law
  exact law_gen (fun a b G => lh1 (glL_law_18 X a b) 6000 0 G) e
def zer (G : GS) (e : Nat × Nat) : Bool := decide (G.1 e.1 0 e.2 = 0)
def chk (G : GS) : Bool := (List.range 153).all (fun r => decide (sl r = 0) || (decide (G.2.2.1 r = 1) && decide (G.2.1 r 0 = sl r))) && (List.range 60).all (fun r => decide (ml r = 0) || decide (G.2.2.1 r = 0)) && [20, 21, 22, 23, 24, 30, 31, 32, 33, 34, 40, 50, 51].all (fun r => decide (G.2.2.1 r = 0)) && RL0.all (zer G) &&
  [(100, 0), (1, 1), (100, 14), (0, 2), (100, 18), (1, 3), (100, 30), (0, 4), (1, 5), (100, 29), (100, 35), (7, 0), (7, 1)].all (zer G) && (List.range 24).all (fun q => zer G (109, q) && zer G (113, q) && zer G (107, q)) && decide (G.2.2.2.1 ≤ 1000) && decide (G.2.2.2.2 ≤ 200000)
def chk0 (o : Option (Int × Int × GS)) : Bool := match o with
  | some z => decide (z.1 = 0) && decide (z.2.1 = 0) && chk z.2.2
  | none => false
theorem st0_ok : chk0 st0 = true := by decide +kernel
theorem sl_lt {r : Nat} (h : sl r ≠ 0) : r < 153 := by
  unfold sl at h
  split at h <;> first | omega | exact absurd rfl h
theorem ml_lt {r : Nat} (h : ml r ≠ 0) : r < 60 := by
  unfold ml at h
  split at h <;> first | omega | exact absurd rfl h
theorem start_inv : ∃ V R, st0 = some (0, 0, (V, R)) ∧ INV IT V R := by
  have h := st0_ok
  generalize st0 = o at h
  match o, h with
  | some (a, b, V, R), h =>
    unfold chk0 chk at h
    simp only [Bool.and_eq_true, decide_eq_true_eq, List.all_eq_true, List.mem_range, Bool.or_eq_true] at h
    obtain ⟨⟨ha, hb⟩, ⟨⟨⟨⟨⟨⟨h1, h2⟩, h3⟩, h4⟩, h5⟩, h6⟩, h7⟩, h8⟩ := h
    subst ha hb
    refine ⟨V, R, rfl, ?_⟩
    have c : ∀ r, r ∈ [20, 21, 22, 23, 24, 30, 31, 32, 33, 34, 40, 50, 51] → rC R r = 0 := h3
    have z : ∀ r k, (r, k) ∈ [(100, 0), (1, 1), (100, 14), (0, 2), (100, 18), (1, 3), (100, 30), (0, 4), (1, 5), (100, 29), (100, 35), (7, 0), (7, 1)] → V r 0 k = 0 := fun r k hk => of_decide_eq_true (h5 (r, k) hk)
    have c20 := c 20 (by decide)
    have c30 := c 30 (by decide)
    have c40 := c 40 (by decide)
    have c50 := c 50 (by decide)
    have z29 := z 100 29 (by decide)
    have no : ∀ {n r : Nat}, rC R r = 0 → n < rC R r → False := fun e h => by omega
    refine ⟨⟨⟨fun r hr => (h1 r (sl_lt hr)).resolve_left hr, fun r hr i hi => ?_, ?_⟩, ⟨fun e he => of_decide_eq_true (h4 e he), fun e he i hi => ?_⟩, ⟨⟨by omega, by omega, by omega, by omega⟩, ⟨?_, ?_, ?_, ?_, ?_, ?_, ?_, ?_⟩, ?_, by omega, by omega⟩, ⟨fun q hq => (no c20 hq).elim, fun q hq => (no c40 hq).elim, fun q hq => (no c30 hq).elim, fun q hq => (no c50 hq).elim⟩, ⟨?_, ?_⟩⟩, ⟨fun q hq => (no c20 hq).elim, fun q hq h24 => ?_⟩, fun c hc => (no c40 hc).elim, ⟨fun j hj => ?_, fun i j hij hj => ?_, fun q hq => (no c20 hq).elim, fun q hq => (no c40 hq).elim⟩, ⟨fun q hq => (no c30 hq).elim, fun g q _ hq => (no c30 hq).elim, fun e h he => (no c50 he).elim⟩, fun q hq => (no c30 hq).elim, fun q hq => (no c30 hq).elim, fun q hq => (no c30 hq).elim, fun q hq => (no c50 hq).elim, ⟨Or.inl ⟨z 100 35 (by decide), z 7 0 (by decide), z 7 1 (by decide)⟩, tcl_IT⟩⟩
    · have := (h2 r (ml_lt hr)).resolve_left hr
      exact (no this hi).elim
    · have d := fun r h => c r h
      exact ⟨by rw [c 21 (by decide), c20], by rw [c 22 (by decide), c20], by rw [c 23 (by decide), c20], by rw [c 24 (by decide), c20], by rw [c 34 (by decide), c30], by rw [c 32 (by decide), c 31 (by decide)], by rw [c 33 (by decide), c 31 (by decide)], by rw [c 51 (by decide), c50]⟩
    · have : e.1 = 20 ∨ e.1 = 30 ∨ e.1 = 31 ∨ e.1 = 50 := by
        unfold RL1 at he
        simp only [List.mem_cons, List.mem_nil_iff, or_false] at he
        rcases he with rfl | rfl | rfl | rfl | rfl | rfl | rfl | rfl <;> simp
      rcases this with e1 | e1 | e1 | e1 <;> rw [e1] at hi
      · exact (no c20 hi).elim
      · exact (no c30 hi).elim
      · exact (no (c 31 (by decide)) hi).elim
      · exact (no c50 hi).elim
    · rw [c20]; exact z 100 0 (by decide)
    · rw [c20]; exact z 1 1 (by decide)
    · rw [c30]; exact z 100 14 (by decide)
    · rw [c30]; exact z 0 2 (by decide)
    · rw [c40]; exact z 100 18 (by decide)
    · rw [c40]; exact z 1 3 (by decide)
    · rw [c50]; exact z 100 30 (by decide)
    · rw [c50]; exact z 0 4 (by decide)
    · rw [z29]; exact z 1 5 (by decide)
    · show rK R ≤ _
      have : rK R ≤ 1000 := h7
      omega
    · show rZ R ≤ _
      have : rZ R ≤ 200000 := h8
      omega
    · have := h6 q h24
      exact ⟨of_decide_eq_true this.1.1, of_decide_eq_true this.1.2, of_decide_eq_true this.2⟩
    · omega
    · omega
  | none, h => exact absurd h (by decide)
theorem w_cmp {A : GO} {B k : GS → GO} (h : Wp A (fun r G => Wp (B G) (PO r))) (K : ∀ V R, INV IT V R → Wp (k (V, R)) Q) : Wp (A.bind fun z1 => (B z1.2).bind fun z2 => (if z1.1 = z2.1 then k z2.2 else some (0, z2.2))) Q := by
  refine w_bind (w_mono h (fun r G h2 => w_bind (w_mono h2 (fun r' G' h3 => ?_))))
  exact w_ite (fun _ => K G'.1 G'.2 h3.2) (fun z => absurd h3.1 z)
theorem w_cml {A : GO} {B k : GS → GO} (h : Wp A (fun r G => Wp (B G) (PO r))) (K : ∀ V R, INV IT V R → Wp (k (V, R)) Q) : Wp (A.bind fun z1 => (B z1.2).bind fun z2 => (if lc z1.1 z2.1 = 0 then k z2.2 else some (0, z2.2))) Q := by
  refine w_bind (w_mono h (fun r G h2 => w_bind (w_mono h2 (fun r' G' h3 => ?_))))
  exact w_ite (fun _ => K G'.1 G'.2 h3.2) (fun z => absurd (lc_eq.mpr h3.1) z)
theorem w_getD {l : List GO} {n : Nat} (hn : n < l.length) (h : ∀ o, o ∈ l → Wp o Q) : Wp (l.getD n none) Q := by
  have : l.getD n none = l[n] := by rw [List.getD_eq_getElem?_getD, List.getElem?_eq_getElem hn]; rfl
  rw [this]
  exact h _ (List.getElem_mem hn)
variable {X : List Int} {self : Int → GS → GO} {V : GV} {R : GR} {p : Int} {x1 x2 x3 x4 x5 x6 : Int}
theorem lw_question (hI : INV IT V R) (e1 : sld X (w32 (p + 1)) = some x1) (e2 : sld X (w32 (p + 2)) = some x2) (e3 : sld X (w32 (p + 3)) = some x3) (e4 : sld X (w32 (p + 4)) = some x4) (e5 : sld X (w32 (p + 5)) = some x5) (e6 : sld X (w32 (p + 6)) = some x6) (K : ∀ V R, INV IT V R → Wp (self (w32 (p + 7)) (V, R)) Q) : Wp (gjL_law_204 X self 0 0 p (V, R)) Q := by
  unfold gjL_law_204 gjL_law_1683
  simp only [e1, e2, Option.bind_some]
  exact w_cmp (B := fun G => g_X9_question 0 x1 x2 G) (k := self (w32 (p + 7))) (T_question hI x1 x2) K
theorem lw_code (hI : INV IT V R) (e1 : sld X (w32 (p + 1)) = some x1) (e2 : sld X (w32 (p + 2)) = some x2) (e3 : sld X (w32 (p + 3)) = some x3) (e4 : sld X (w32 (p + 4)) = some x4) (e5 : sld X (w32 (p + 5)) = some x5) (e6 : sld X (w32 (p + 6)) = some x6) (K : ∀ V R, INV IT V R → Wp (self (w32 (p + 7)) (V, R)) Q) : Wp (gjL_law_237 X self 0 0 p (V, R)) Q := by
  unfold gjL_law_237 gjL_law_1683
  simp only [e1, e2, Option.bind_some]
  exact w_cmp (B := fun G => g_X9_code 0 x1 x2 G) (k := self (w32 (p + 7))) (T_code hI x1 x2) K
theorem lw_map (hI : INV IT V R) (e1 : sld X (w32 (p + 1)) = some x1) (e2 : sld X (w32 (p + 2)) = some x2) (e3 : sld X (w32 (p + 3)) = some x3) (e4 : sld X (w32 (p + 4)) = some x4) (e5 : sld X (w32 (p + 5)) = some x5) (e6 : sld X (w32 (p + 6)) = some x6) (K : ∀ V R, INV IT V R → Wp (self (w32 (p + 7)) (V, R)) Q) : Wp (gjL_law_270 X self 0 0 p (V, R)) Q := by
  unfold gjL_law_270 gjL_law_1683
  simp only [e1, Option.bind_some]
  exact w_cmp (B := fun G => g_X9_map 0 x1 G) (k := self (w32 (p + 7))) (T_map hI x1) K
theorem lw_row (hI : INV IT V R) (e1 : sld X (w32 (p + 1)) = some x1) (e2 : sld X (w32 (p + 2)) = some x2) (e3 : sld X (w32 (p + 3)) = some x3) (e4 : sld X (w32 (p + 4)) = some x4) (e5 : sld X (w32 (p + 5)) = some x5) (e6 : sld X (w32 (p + 6)) = some x6) (K : ∀ V R, INV IT V R → Wp (self (w32 (p + 7)) (V, R)) Q) : Wp (gjL_law_293 X self 0 0 p (V, R)) Q := by
  unfold gjL_law_293 gjL_law_1683
  simp only [e1, e2, e3, e4, e5, e6, Option.bind_some]
  exact w_cmp (B := fun G => g_X9_row 0 x1 (l_or (l_shl x2 32) (l_and x3 4294967295)) (l_or (l_shl x4 32) (l_and x5 4294967295)) x6 G) (k := self (w32 (p + 7))) (T_row hI x1 (l_or (l_shl x2 32) (l_and x3 4294967295)) (l_or (l_shl x4 32) (l_and x5 4294967295)) x6) K
theorem lw_howMany (hI : INV IT V R) (e1 : sld X (w32 (p + 1)) = some x1) (e2 : sld X (w32 (p + 2)) = some x2) (e3 : sld X (w32 (p + 3)) = some x3) (e4 : sld X (w32 (p + 4)) = some x4) (e5 : sld X (w32 (p + 5)) = some x5) (e6 : sld X (w32 (p + 6)) = some x6) (K : ∀ V R, INV IT V R → Wp (self (w32 (p + 7)) (V, R)) Q) : Wp (gjL_law_408 X self 0 0 p (V, R)) Q := by
  unfold gjL_law_408 gjL_law_1683
  simp only [e1, e2, Option.bind_some]
  exact w_cmp (B := fun G => g_X9_howMany 0 x1 x2 G) (k := self (w32 (p + 7))) (T_howMany hI x1 x2) K
theorem lw_sum (hI : INV IT V R) (e1 : sld X (w32 (p + 1)) = some x1) (e2 : sld X (w32 (p + 2)) = some x2) (e3 : sld X (w32 (p + 3)) = some x3) (e4 : sld X (w32 (p + 4)) = some x4) (e5 : sld X (w32 (p + 5)) = some x5) (e6 : sld X (w32 (p + 6)) = some x6) (K : ∀ V R, INV IT V R → Wp (self (w32 (p + 7)) (V, R)) Q) : Wp (gjL_law_441 X self 0 0 p (V, R)) Q := by
  unfold gjL_law_441 gjL_law_1683
  simp only [e1, Option.bind_some]
  exact w_cmp (B := fun G => g_X9_sum 0 x1 G) (k := self (w32 (p + 7))) (T_sum hI x1) K
theorem lw_of (hI : INV IT V R) (e1 : sld X (w32 (p + 1)) = some x1) (e2 : sld X (w32 (p + 2)) = some x2) (e3 : sld X (w32 (p + 3)) = some x3) (e4 : sld X (w32 (p + 4)) = some x4) (e5 : sld X (w32 (p + 5)) = some x5) (e6 : sld X (w32 (p + 6)) = some x6) (K : ∀ V R, INV IT V R → Wp (self (w32 (p + 7)) (V, R)) Q) : Wp (gjL_law_464 X self 0 0 p (V, R)) Q := by
  unfold gjL_law_464 gjL_law_1683
  simp only [e1, e2, Option.bind_some]
  exact w_cmp (B := fun G => g_X9_of 0 x1 x2 G) (k := self (w32 (p + 7))) (T_of hI x1 x2) K
theorem lw_codeAt (hI : INV IT V R) (e1 : sld X (w32 (p + 1)) = some x1) (e2 : sld X (w32 (p + 2)) = some x2) (e3 : sld X (w32 (p + 3)) = some x3) (e4 : sld X (w32 (p + 4)) = some x4) (e5 : sld X (w32 (p + 5)) = some x5) (e6 : sld X (w32 (p + 6)) = some x6) (K : ∀ V R, INV IT V R → Wp (self (w32 (p + 7)) (V, R)) Q) : Wp (gjL_law_497 X self 0 0 p (V, R)) Q := by
  unfold gjL_law_497 gjL_law_1683
  simp only [e1, e2, Option.bind_some]
  exact w_cmp (B := fun G => g_X9_codeAt 0 x1 x2 G) (k := self (w32 (p + 7))) (T_codeAt hI x1 x2) K
theorem lw_household (hI : INV IT V R) (e1 : sld X (w32 (p + 1)) = some x1) (e2 : sld X (w32 (p + 2)) = some x2) (e3 : sld X (w32 (p + 3)) = some x3) (e4 : sld X (w32 (p + 4)) = some x4) (e5 : sld X (w32 (p + 5)) = some x5) (e6 : sld X (w32 (p + 6)) = some x6) (K : ∀ V R, INV IT V R → Wp (self (w32 (p + 7)) (V, R)) Q) : Wp (gjL_law_530 X self 0 0 p (V, R)) Q := by
  unfold gjL_law_530 gjL_law_1683
  exact w_cmp (B := fun G => g_X9_household 0  G) (k := self (w32 (p + 7))) (T_household hI ) K
theorem lw_answer (hI : INV IT V R) (e1 : sld X (w32 (p + 1)) = some x1) (e2 : sld X (w32 (p + 2)) = some x2) (e3 : sld X (w32 (p + 3)) = some x3) (e4 : sld X (w32 (p + 4)) = some x4) (e5 : sld X (w32 (p + 5)) = some x5) (e6 : sld X (w32 (p + 6)) = some x6) (K : ∀ V R, INV IT V R → Wp (self (w32 (p + 7)) (V, R)) Q) : Wp (gjL_law_543 X self 0 0 p (V, R)) Q := by
  unfold gjL_law_543 gjL_law_1683
  simp only [e1, e2, e3, e4, e5, Option.bind_some]
  exact w_cmp (B := fun G => g_X9_answer 0 x1 x2 x3 (l_or (l_shl x4 32) (l_and x5 4294967295)) G) (k := self (w32 (p + 7))) (T_answer hI x1 x2 x3 (l_or (l_shl x4 32) (l_and x5 4294967295))) K
theorem lw_missing (hI : INV IT V R) (e1 : sld X (w32 (p + 1)) = some x1) (e2 : sld X (w32 (p + 2)) = some x2) (e3 : sld X (w32 (p + 3)) = some x3) (e4 : sld X (w32 (p + 4)) = some x4) (e5 : sld X (w32 (p + 5)) = some x5) (e6 : sld X (w32 (p + 6)) = some x6) (K : ∀ V R, INV IT V R → Wp (self (w32 (p + 7)) (V, R)) Q) : Wp (gjL_law_626 X self 0 0 p (V, R)) Q := by
  unfold gjL_law_626 gjL_law_1683
  simp only [e1, e2, e3, e4, Option.bind_some]
  exact w_cmp (B := fun G => g_X9_missing 0 x1 x2 x3 x4 G) (k := self (w32 (p + 7))) (T_missing hI x1 x2 x3 x4) K
theorem lw_value (hI : INV IT V R) (e1 : sld X (w32 (p + 1)) = some x1) (e2 : sld X (w32 (p + 2)) = some x2) (e3 : sld X (w32 (p + 3)) = some x3) (e4 : sld X (w32 (p + 4)) = some x4) (e5 : sld X (w32 (p + 5)) = some x5) (e6 : sld X (w32 (p + 6)) = some x6) (K : ∀ V R, INV IT V R → Wp (self (w32 (p + 7)) (V, R)) Q) : Wp (gjL_law_679 X self 0 0 p (V, R)) Q := by
  unfold gjL_law_679 gjL_law_1683
  simp only [e1, e2, e3, Option.bind_some]
  exact w_cml (B := fun G => g_X9_value 0 x1 x2 x3 G) (k := self (w32 (p + 7))) (T_value hI x1 x2 x3) K
theorem lw_reason (hI : INV IT V R) (e1 : sld X (w32 (p + 1)) = some x1) (e2 : sld X (w32 (p + 2)) = some x2) (e3 : sld X (w32 (p + 3)) = some x3) (e4 : sld X (w32 (p + 4)) = some x4) (e5 : sld X (w32 (p + 5)) = some x5) (e6 : sld X (w32 (p + 6)) = some x6) (K : ∀ V R, INV IT V R → Wp (self (w32 (p + 7)) (V, R)) Q) : Wp (gjL_law_723 X self 0 0 p (V, R)) Q := by
  unfold gjL_law_723 gjL_law_1683
  simp only [e1, e2, e3, Option.bind_some]
  exact w_cmp (B := fun G => g_X9_reason 0 x1 x2 x3 G) (k := self (w32 (p + 7))) (T_reason hI x1 x2 x3) K
theorem lw_ask (hI : INV IT V R) (e1 : sld X (w32 (p + 1)) = some x1) (e2 : sld X (w32 (p + 2)) = some x2) (e3 : sld X (w32 (p + 3)) = some x3) (e4 : sld X (w32 (p + 4)) = some x4) (e5 : sld X (w32 (p + 5)) = some x5) (e6 : sld X (w32 (p + 6)) = some x6) (K : ∀ V R, INV IT V R → Wp (self (w32 (p + 7)) (V, R)) Q) : Wp (gjL_law_766 X self 0 0 p (V, R)) Q := by
  unfold gjL_law_766 gjL_law_1683
  simp only [e1, e2, e3, e4, Option.bind_some]
  exact w_cmp (B := fun G => g_X9_ask 0 x1 x2 (l_or (l_shl x3 32) (l_and x4 4294967295)) G) (k := self (w32 (p + 7))) (T_ask hI x1 x2 (l_or (l_shl x3 32) (l_and x4 4294967295))) K
theorem lw_logic (hI : INV IT V R) (e1 : sld X (w32 (p + 1)) = some x1) (e2 : sld X (w32 (p + 2)) = some x2) (e3 : sld X (w32 (p + 3)) = some x3) (e4 : sld X (w32 (p + 4)) = some x4) (e5 : sld X (w32 (p + 5)) = some x5) (e6 : sld X (w32 (p + 6)) = some x6) (K : ∀ V R, INV IT V R → Wp (self (w32 (p + 7)) (V, R)) Q) : Wp (gjL_law_839 X self 0 0 p (V, R)) Q := by
  unfold gjL_law_839 gjL_law_1683
  simp only [e1, e2, e3, Option.bind_some]
  exact w_cmp (B := fun G => g_X9_logic 0 x1 x2 x3 G) (k := self (w32 (p + 7))) (T_logic hI x1 x2 x3) K
theorem lw_some (hI : INV IT V R) (e1 : sld X (w32 (p + 1)) = some x1) (e2 : sld X (w32 (p + 2)) = some x2) (e3 : sld X (w32 (p + 3)) = some x3) (e4 : sld X (w32 (p + 4)) = some x4) (e5 : sld X (w32 (p + 5)) = some x5) (e6 : sld X (w32 (p + 6)) = some x6) (K : ∀ V R, INV IT V R → Wp (self (w32 (p + 7)) (V, R)) Q) : Wp (gjL_law_882 X self 0 0 p (V, R)) Q := by
  unfold gjL_law_882 gjL_law_1683
  simp only [e1, e2, Option.bind_some]
  exact w_cmp (B := fun G => g_X9_some 0 x1 x2 G) (k := self (w32 (p + 7))) (T_some hI x1 x2) K
theorem lw_holds (hI : INV IT V R) (e1 : sld X (w32 (p + 1)) = some x1) (e2 : sld X (w32 (p + 2)) = some x2) (e3 : sld X (w32 (p + 3)) = some x3) (e4 : sld X (w32 (p + 4)) = some x4) (e5 : sld X (w32 (p + 5)) = some x5) (e6 : sld X (w32 (p + 6)) = some x6) (K : ∀ V R, INV IT V R → Wp (self (w32 (p + 7)) (V, R)) Q) : Wp (gjL_law_915 X self 0 0 p (V, R)) Q := by
  unfold gjL_law_915 gjL_law_1683
  simp only [e1, e2, e3, Option.bind_some]
  exact w_cmp (B := fun G => g_X9_holds 0 x1 x2 x3 G) (k := self (w32 (p + 7))) (T_holds hI x1 x2 x3) K
theorem lw_filter (hI : INV IT V R) (e1 : sld X (w32 (p + 1)) = some x1) (e2 : sld X (w32 (p + 2)) = some x2) (e3 : sld X (w32 (p + 3)) = some x3) (e4 : sld X (w32 (p + 4)) = some x4) (e5 : sld X (w32 (p + 5)) = some x5) (e6 : sld X (w32 (p + 6)) = some x6) (K : ∀ V R, INV IT V R → Wp (self (w32 (p + 7)) (V, R)) Q) : Wp (gjL_law_958 X self 0 0 p (V, R)) Q := by
  unfold gjL_law_958 gjL_law_1683
  simp only [e1, e2, Option.bind_some]
  exact w_cmp (B := fun G => g_X9_filter 0 x1 x2 G) (k := self (w32 (p + 7))) (T_filter hI x1 x2) K
theorem lw_against (hI : INV IT V R) (e1 : sld X (w32 (p + 1)) = some x1) (e2 : sld X (w32 (p + 2)) = some x2) (e3 : sld X (w32 (p + 3)) = some x3) (e4 : sld X (w32 (p + 4)) = some x4) (e5 : sld X (w32 (p + 5)) = some x5) (e6 : sld X (w32 (p + 6)) = some x6) (K : ∀ V R, INV IT V R → Wp (self (w32 (p + 7)) (V, R)) Q) : Wp (gjL_law_991 X self 0 0 p (V, R)) Q := by
  unfold gjL_law_991 gjL_law_1683
  exact w_cmp (B := fun G => g_X9_against 0  G) (k := self (w32 (p + 7))) (T_against hI ) K
theorem lw_againstAt (hI : INV IT V R) (e1 : sld X (w32 (p + 1)) = some x1) (e2 : sld X (w32 (p + 2)) = some x2) (e3 : sld X (w32 (p + 3)) = some x3) (e4 : sld X (w32 (p + 4)) = some x4) (e5 : sld X (w32 (p + 5)) = some x5) (e6 : sld X (w32 (p + 6)) = some x6) (K : ∀ V R, INV IT V R → Wp (self (w32 (p + 7)) (V, R)) Q) : Wp (gjL_law_1004 X self 0 0 p (V, R)) Q := by
  unfold gjL_law_1004 gjL_law_1683
  simp only [e1, e2, Option.bind_some]
  exact w_cmp (B := fun G => g_X9_againstAt 0 x1 x2 G) (k := self (w32 (p + 7))) (T_againstAt hI x1 x2) K
theorem lw_weight (hI : INV IT V R) (e1 : sld X (w32 (p + 1)) = some x1) (e2 : sld X (w32 (p + 2)) = some x2) (e3 : sld X (w32 (p + 3)) = some x3) (e4 : sld X (w32 (p + 4)) = some x4) (e5 : sld X (w32 (p + 5)) = some x5) (e6 : sld X (w32 (p + 6)) = some x6) (K : ∀ V R, INV IT V R → Wp (self (w32 (p + 7)) (V, R)) Q) : Wp (gjL_law_1037 X self 0 0 p (V, R)) Q := by
  unfold gjL_law_1037 gjL_law_1683
  simp only [e1, e2, e3, Option.bind_some]
  exact w_cmp (B := fun G => g_X9_weight 0 x1 x2 x3 G) (k := self (w32 (p + 7))) (T_weight hI x1 x2 x3) K
theorem lw_table (hI : INV IT V R) (e1 : sld X (w32 (p + 1)) = some x1) (e2 : sld X (w32 (p + 2)) = some x2) (e3 : sld X (w32 (p + 3)) = some x3) (e4 : sld X (w32 (p + 4)) = some x4) (e5 : sld X (w32 (p + 5)) = some x5) (e6 : sld X (w32 (p + 6)) = some x6) (K : ∀ V R, INV IT V R → Wp (self (w32 (p + 7)) (V, R)) Q) : Wp (gjL_law_1080 X self 0 0 p (V, R)) Q := by
  unfold gjL_law_1080 gjL_law_1683
  simp only [e1, e2, Option.bind_some]
  exact w_cmp (B := fun G => g_X9_table 0 x1 x2 G) (k := self (w32 (p + 7))) (T_table hI x1 x2) K
theorem lw_cell (hI : INV IT V R) (e1 : sld X (w32 (p + 1)) = some x1) (e2 : sld X (w32 (p + 2)) = some x2) (e3 : sld X (w32 (p + 3)) = some x3) (e4 : sld X (w32 (p + 4)) = some x4) (e5 : sld X (w32 (p + 5)) = some x5) (e6 : sld X (w32 (p + 6)) = some x6) (K : ∀ V R, INV IT V R → Wp (self (w32 (p + 7)) (V, R)) Q) : Wp (gjL_law_1113 X self 0 0 p (V, R)) Q := by
  unfold gjL_law_1113 gjL_law_1683
  simp only [e1, e2, e3, Option.bind_some]
  exact w_cml (B := fun G => g_X9_cell 0 x1 x2 x3 G) (k := self (w32 (p + 7))) (T_cell hI x1 x2 x3) K
theorem lw_shares (hI : INV IT V R) (e1 : sld X (w32 (p + 1)) = some x1) (e2 : sld X (w32 (p + 2)) = some x2) (e3 : sld X (w32 (p + 3)) = some x3) (e4 : sld X (w32 (p + 4)) = some x4) (e5 : sld X (w32 (p + 5)) = some x5) (e6 : sld X (w32 (p + 6)) = some x6) (K : ∀ V R, INV IT V R → Wp (self (w32 (p + 7)) (V, R)) Q) : Wp (gjL_law_1157 X self 0 0 p (V, R)) Q := by
  unfold gjL_law_1157 gjL_law_1683
  simp only [e1, Option.bind_some]
  exact w_cmp (B := fun G => g_X9_shares 0 x1 G) (k := self (w32 (p + 7))) (T_shares hI x1) K
theorem lw_share (hI : INV IT V R) (e1 : sld X (w32 (p + 1)) = some x1) (e2 : sld X (w32 (p + 2)) = some x2) (e3 : sld X (w32 (p + 3)) = some x3) (e4 : sld X (w32 (p + 4)) = some x4) (e5 : sld X (w32 (p + 5)) = some x5) (e6 : sld X (w32 (p + 6)) = some x6) (K : ∀ V R, INV IT V R → Wp (self (w32 (p + 7)) (V, R)) Q) : Wp (gjL_law_1180 X self 0 0 p (V, R)) Q := by
  unfold gjL_law_1180 gjL_law_1683
  simp only [e1, e2, Option.bind_some]
  exact w_cmp (B := fun G => g_X9_share 0 x1 x2 G) (k := self (w32 (p + 7))) (T_share hI x1 x2) K
theorem lw_shown (hI : INV IT V R) (e1 : sld X (w32 (p + 1)) = some x1) (e2 : sld X (w32 (p + 2)) = some x2) (e3 : sld X (w32 (p + 3)) = some x3) (e4 : sld X (w32 (p + 4)) = some x4) (e5 : sld X (w32 (p + 5)) = some x5) (e6 : sld X (w32 (p + 6)) = some x6) (K : ∀ V R, INV IT V R → Wp (self (w32 (p + 7)) (V, R)) Q) : Wp (gjL_law_1213 X self 0 0 p (V, R)) Q := by
  unfold gjL_law_1213 gjL_law_1683
  simp only [e1, Option.bind_some]
  exact w_cmp (B := fun G => g_X9_shown 0 x1 G) (k := self (w32 (p + 7))) (T_shown hI x1) K
theorem lw_follows (hI : INV IT V R) (e1 : sld X (w32 (p + 1)) = some x1) (e2 : sld X (w32 (p + 2)) = some x2) (e3 : sld X (w32 (p + 3)) = some x3) (e4 : sld X (w32 (p + 4)) = some x4) (e5 : sld X (w32 (p + 5)) = some x5) (e6 : sld X (w32 (p + 6)) = some x6) (K : ∀ V R, INV IT V R → Wp (self (w32 (p + 7)) (V, R)) Q) : Wp (gjL_law_1236 X self 0 0 p (V, R)) Q := by
  unfold gjL_law_1236 gjL_law_1683
  exact w_cmp (B := fun G => g_X9_follows 0  G) (k := self (w32 (p + 7))) (T_follows hI ) K
theorem lw_rank (hI : INV IT V R) (e1 : sld X (w32 (p + 1)) = some x1) (e2 : sld X (w32 (p + 2)) = some x2) (e3 : sld X (w32 (p + 3)) = some x3) (e4 : sld X (w32 (p + 4)) = some x4) (e5 : sld X (w32 (p + 5)) = some x5) (e6 : sld X (w32 (p + 6)) = some x6) (K : ∀ V R, INV IT V R → Wp (self (w32 (p + 7)) (V, R)) Q) : Wp (gjL_law_1249 X self 0 0 p (V, R)) Q := by
  unfold gjL_law_1249 gjL_law_1683
  simp only [e1, e2, Option.bind_some]
  exact w_cmp (B := fun G => g_X9_rank 0 x1 x2 G) (k := self (w32 (p + 7))) (T_rank hI x1 x2) K
theorem lw_part (hI : INV IT V R) (e1 : sld X (w32 (p + 1)) = some x1) (e2 : sld X (w32 (p + 2)) = some x2) (e3 : sld X (w32 (p + 3)) = some x3) (e4 : sld X (w32 (p + 4)) = some x4) (e5 : sld X (w32 (p + 5)) = some x5) (e6 : sld X (w32 (p + 6)) = some x6) (K : ∀ V R, INV IT V R → Wp (self (w32 (p + 7)) (V, R)) Q) : Wp (gjL_law_1282 X self 0 0 p (V, R)) Q := by
  unfold gjL_law_1282 gjL_law_1683
  simp only [e1, e2, e3, e4, Option.bind_some]
  exact w_cml (B := fun G => g_X9_part 0 x1 x2 x3 x4 G) (k := self (w32 (p + 7))) (T_part hI x1 x2 x3 x4) K
theorem lw_mark (hI : INV IT V R) (e1 : sld X (w32 (p + 1)) = some x1) (e2 : sld X (w32 (p + 2)) = some x2) (e3 : sld X (w32 (p + 3)) = some x3) (e4 : sld X (w32 (p + 4)) = some x4) (e5 : sld X (w32 (p + 5)) = some x5) (e6 : sld X (w32 (p + 6)) = some x6) (K : ∀ V R, INV IT V R → Wp (self (w32 (p + 7)) (V, R)) Q) : Wp (gjL_law_1336 X self 0 0 p (V, R)) Q := by
  unfold gjL_law_1336 gjL_law_1355 gjL_law_1377 gjL_law_1683
  simp only [e1, e2, Option.bind_some]
  refine w_ite (fun z => ?_) (fun z => ?_)
  · simp only [if_pos z]
    exact w_cmp (B := fun G => g_X9_mark 0 x1 0 G) (k := self (w32 (p + 7))) (T_mark hI x1 0 (Or.inl rfl)) K
  · simp only [if_neg z]
    exact w_cmp (B := fun G => g_X9_mark 0 x1 1 G) (k := self (w32 (p + 7))) (T_mark hI x1 1 (Or.inr rfl)) K
theorem lw_doubles (hI : INV IT V R) (e1 : sld X (w32 (p + 1)) = some x1) (e2 : sld X (w32 (p + 2)) = some x2) (e3 : sld X (w32 (p + 3)) = some x3) (e4 : sld X (w32 (p + 4)) = some x4) (e5 : sld X (w32 (p + 5)) = some x5) (e6 : sld X (w32 (p + 6)) = some x6) (K : ∀ V R, INV IT V R → Wp (self (w32 (p + 7)) (V, R)) Q) : Wp (gjL_law_1385 X self 0 0 p (V, R)) Q := by
  unfold gjL_law_1385 gjL_law_1683
  exact w_cmp (B := fun G => g_X9_doubles 0  G) (k := self (w32 (p + 7))) (T_doubles hI ) K
theorem lw_doubleAt (hI : INV IT V R) (e1 : sld X (w32 (p + 1)) = some x1) (e2 : sld X (w32 (p + 2)) = some x2) (e3 : sld X (w32 (p + 3)) = some x3) (e4 : sld X (w32 (p + 4)) = some x4) (e5 : sld X (w32 (p + 5)) = some x5) (e6 : sld X (w32 (p + 6)) = some x6) (K : ∀ V R, INV IT V R → Wp (self (w32 (p + 7)) (V, R)) Q) : Wp (gjL_law_1398 X self 0 0 p (V, R)) Q := by
  unfold gjL_law_1398 gjL_law_1683
  simp only [e1, e2, Option.bind_some]
  exact w_cmp (B := fun G => g_X9_doubleAt 0 x1 x2 G) (k := self (w32 (p + 7))) (T_doubleAt hI x1 x2) K
theorem lw_freeze (hI : INV IT V R) (e1 : sld X (w32 (p + 1)) = some x1) (e2 : sld X (w32 (p + 2)) = some x2) (e3 : sld X (w32 (p + 3)) = some x3) (e4 : sld X (w32 (p + 4)) = some x4) (e5 : sld X (w32 (p + 5)) = some x5) (e6 : sld X (w32 (p + 6)) = some x6) (K : ∀ V R, INV IT V R → Wp (self (w32 (p + 7)) (V, R)) Q) : Wp (gjL_law_1431 X self 0 0 p (V, R)) Q := by
  unfold gjL_law_1431 gjL_law_1683
  exact w_cmp (B := fun G => g_X9_freeze 0  G) (k := self (w32 (p + 7))) (T_freeze hI ) K
theorem lw_frozen (hI : INV IT V R) (e1 : sld X (w32 (p + 1)) = some x1) (e2 : sld X (w32 (p + 2)) = some x2) (e3 : sld X (w32 (p + 3)) = some x3) (e4 : sld X (w32 (p + 4)) = some x4) (e5 : sld X (w32 (p + 5)) = some x5) (e6 : sld X (w32 (p + 6)) = some x6) (K : ∀ V R, INV IT V R → Wp (self (w32 (p + 7)) (V, R)) Q) : Wp (gjL_law_1444 X self 0 0 p (V, R)) Q := by
  unfold gjL_law_1444 gjL_law_1683
  simp only [e1, e2, e3, e4, Option.bind_some]
  exact w_cml (B := fun G => g_X9_frozen 0 x1 x2 x3 x4 G) (k := self (w32 (p + 7))) (T_frozen hI x1 x2 x3 x4) K
theorem lw_frozenReason (hI : INV IT V R) (e1 : sld X (w32 (p + 1)) = some x1) (e2 : sld X (w32 (p + 2)) = some x2) (e3 : sld X (w32 (p + 3)) = some x3) (e4 : sld X (w32 (p + 4)) = some x4) (e5 : sld X (w32 (p + 5)) = some x5) (e6 : sld X (w32 (p + 6)) = some x6) (K : ∀ V R, INV IT V R → Wp (self (w32 (p + 7)) (V, R)) Q) : Wp (gjL_law_1498 X self 0 0 p (V, R)) Q := by
  unfold gjL_law_1498 gjL_law_1683
  simp only [e1, e2, e3, e4, Option.bind_some]
  exact w_cmp (B := fun G => g_X9_frozenReason 0 x1 x2 x3 x4 G) (k := self (w32 (p + 7))) (T_frozenReason hI x1 x2 x3 x4) K
theorem lw_changes (hI : INV IT V R) (e1 : sld X (w32 (p + 1)) = some x1) (e2 : sld X (w32 (p + 2)) = some x2) (e3 : sld X (w32 (p + 3)) = some x3) (e4 : sld X (w32 (p + 4)) = some x4) (e5 : sld X (w32 (p + 5)) = some x5) (e6 : sld X (w32 (p + 6)) = some x6) (K : ∀ V R, INV IT V R → Wp (self (w32 (p + 7)) (V, R)) Q) : Wp (gjL_law_1551 X self 0 0 p (V, R)) Q := by
  unfold gjL_law_1551 gjL_law_1683
  simp only [e1, e2, Option.bind_some]
  exact w_cmp (B := fun G => g_X9_changes 0 x1 x2 G) (k := self (w32 (p + 7))) (T_changes hI x1 x2) K
theorem lw_changeAt (hI : INV IT V R) (e1 : sld X (w32 (p + 1)) = some x1) (e2 : sld X (w32 (p + 2)) = some x2) (e3 : sld X (w32 (p + 3)) = some x3) (e4 : sld X (w32 (p + 4)) = some x4) (e5 : sld X (w32 (p + 5)) = some x5) (e6 : sld X (w32 (p + 6)) = some x6) (K : ∀ V R, INV IT V R → Wp (self (w32 (p + 7)) (V, R)) Q) : Wp (gjL_law_1584 X self 0 0 p (V, R)) Q := by
  unfold gjL_law_1584 gjL_law_1683
  simp only [e1, e2, e3, e4, Option.bind_some]
  exact w_cmp (B := fun G => g_X9_changeAt 0 x1 x2 x3 x4 G) (k := self (w32 (p + 7))) (T_changeAt hI x1 x2 x3 x4) K
theorem lw_merge (hI : INV IT V R) (e1 : sld X (w32 (p + 1)) = some x1) (e2 : sld X (w32 (p + 2)) = some x2) (e3 : sld X (w32 (p + 3)) = some x3) (e4 : sld X (w32 (p + 4)) = some x4) (e5 : sld X (w32 (p + 5)) = some x5) (e6 : sld X (w32 (p + 6)) = some x6) (K : ∀ V R, INV IT V R → Wp (self (w32 (p + 7)) (V, R)) Q) : Wp (gjL_law_1637 X self 0 0 p (V, R)) Q := by
  unfold gjL_law_1637 gjL_law_1683
  simp only [e1, Option.bind_some]
  exact w_cmp (B := fun G => g_X9_merge 0 x1 G) (k := self (w32 (p + 7))) (T_merge hI x1) K
theorem lw_count (hI : INV IT V R) (e1 : sld X (w32 (p + 1)) = some x1) (e2 : sld X (w32 (p + 2)) = some x2) (e3 : sld X (w32 (p + 3)) = some x3) (e4 : sld X (w32 (p + 4)) = some x4) (e5 : sld X (w32 (p + 5)) = some x5) (e6 : sld X (w32 (p + 6)) = some x6) (K : ∀ V R, INV IT V R → Wp (self (w32 (p + 7)) (V, R)) Q) : Wp (gjL_law_1660 X self 0 0 p (V, R)) Q := by
  unfold gjL_law_1660 gjL_law_1683
  simp only [e1, Option.bind_some]
  exact w_cmp (B := fun G => g_X9_count 0 x1 G) (k := self (w32 (p + 7))) (T_count hI x1) K
theorem sld_in {i : Int} (h0 : 0 ≤ i) (h1 : i.toNat < X.length) : ∃ x, sld X i = some x := by
  unfold sld
  rw [if_pos h0]
  exact ⟨_, List.getElem?_eq_getElem h1⟩
theorem roleLaw : RoleLaw := by
  intro X hl hx
  obtain ⟨V0, R0, e0, hI0⟩ := start_inv
  rw [law_st X e0]
  have main : Wp (lh1 (glL_law_18 X 0 0) 6000 0 (V0, R0)) (fun r _ => r = 1) := by
    refine w_lh1 (fun x G => INV IT G.1 G.2 ∧ 0 ≤ x ∧ x ≤ 3584) (fun x _ => 3600 - x.toNat) ?_ 6000 _ _ ⟨hI0, by omega, by omega⟩ (by omega)
    rintro x ⟨V, R⟩ ⟨hI, hx0, hx1⟩ self ih
    have hI : INV IT V R := hI
    unfold glL_law_18
    rw [w32_id (x := (X.length : Int) - 7) (by omega) (by omega)]
    refine w_ite (fun _ => w_ret rfl) (fun hc => ?_)
    have rd : ∀ k : Int, 0 ≤ k → k ≤ 6 → ∃ v, sld X (w32 (x + k)) = some v := by
      intro k k0 k6
      rw [w32_id (by omega) (by omega)]
      exact sld_in (by omega) (by omega)
    obtain ⟨y0, f0⟩ := sld_in (X := X) (i := x) hx0 (by omega)
    obtain ⟨y1, f1⟩ := rd 1 (by omega) (by omega)
    obtain ⟨y2, f2⟩ := rd 2 (by omega) (by omega)
    obtain ⟨y3, f3⟩ := rd 3 (by omega) (by omega)
    obtain ⟨y4, f4⟩ := rd 4 (by omega) (by omega)
    obtain ⟨y5, f5⟩ := rd 5 (by omega) (by omega)
    obtain ⟨y6, f6⟩ := rd 6 (by omega) (by omega)
    have K : ∀ V R, INV IT V R → Wp (self (w32 (x + 7)) (V, R)) (fun r _ => r = 1) := by
      intro V' R' hI'
      rw [w32_id (by omega) (by omega)]
      exact ih _ _ ⟨hI', by omega, by omega⟩ (by omega)
    rw [f0, Option.bind_some]
    refine w_ite (fun _ => K V R hI) (fun hs => ?_)
    refine w_getD (by show _ < 39; omega) ?_
    exact List.forall_mem_cons.mpr ⟨lw_question hI f1 f2 f3 f4 f5 f6 K, List.forall_mem_cons.mpr ⟨lw_code hI f1 f2 f3 f4 f5 f6 K, List.forall_mem_cons.mpr ⟨lw_map hI f1 f2 f3 f4 f5 f6 K, List.forall_mem_cons.mpr ⟨lw_row hI f1 f2 f3 f4 f5 f6 K, List.forall_mem_cons.mpr ⟨lw_howMany hI f1 f2 f3 f4 f5 f6 K, List.forall_mem_cons.mpr ⟨lw_sum hI f1 f2 f3 f4 f5 f6 K, List.forall_mem_cons.mpr ⟨lw_of hI f1 f2 f3 f4 f5 f6 K, List.forall_mem_cons.mpr ⟨lw_codeAt hI f1 f2 f3 f4 f5 f6 K, List.forall_mem_cons.mpr ⟨lw_household hI f1 f2 f3 f4 f5 f6 K, List.forall_mem_cons.mpr ⟨lw_answer hI f1 f2 f3 f4 f5 f6 K, List.forall_mem_cons.mpr ⟨lw_missing hI f1 f2 f3 f4 f5 f6 K, List.forall_mem_cons.mpr ⟨lw_value hI f1 f2 f3 f4 f5 f6 K, List.forall_mem_cons.mpr ⟨lw_reason hI f1 f2 f3 f4 f5 f6 K, List.forall_mem_cons.mpr ⟨lw_ask hI f1 f2 f3 f4 f5 f6 K, List.forall_mem_cons.mpr ⟨lw_logic hI f1 f2 f3 f4 f5 f6 K, List.forall_mem_cons.mpr ⟨lw_some hI f1 f2 f3 f4 f5 f6 K, List.forall_mem_cons.mpr ⟨lw_holds hI f1 f2 f3 f4 f5 f6 K, List.forall_mem_cons.mpr ⟨lw_filter hI f1 f2 f3 f4 f5 f6 K, List.forall_mem_cons.mpr ⟨lw_against hI f1 f2 f3 f4 f5 f6 K, List.forall_mem_cons.mpr ⟨lw_againstAt hI f1 f2 f3 f4 f5 f6 K, List.forall_mem_cons.mpr ⟨lw_weight hI f1 f2 f3 f4 f5 f6 K, List.forall_mem_cons.mpr ⟨lw_table hI f1 f2 f3 f4 f5 f6 K, List.forall_mem_cons.mpr ⟨lw_cell hI f1 f2 f3 f4 f5 f6 K, List.forall_mem_cons.mpr ⟨lw_shares hI f1 f2 f3 f4 f5 f6 K, List.forall_mem_cons.mpr ⟨lw_share hI f1 f2 f3 f4 f5 f6 K, List.forall_mem_cons.mpr ⟨lw_shown hI f1 f2 f3 f4 f5 f6 K, List.forall_mem_cons.mpr ⟨lw_follows hI f1 f2 f3 f4 f5 f6 K, List.forall_mem_cons.mpr ⟨lw_rank hI f1 f2 f3 f4 f5 f6 K, List.forall_mem_cons.mpr ⟨lw_part hI f1 f2 f3 f4 f5 f6 K, List.forall_mem_cons.mpr ⟨lw_mark hI f1 f2 f3 f4 f5 f6 K, List.forall_mem_cons.mpr ⟨lw_doubles hI f1 f2 f3 f4 f5 f6 K, List.forall_mem_cons.mpr ⟨lw_doubleAt hI f1 f2 f3 f4 f5 f6 K, List.forall_mem_cons.mpr ⟨lw_freeze hI f1 f2 f3 f4 f5 f6 K, List.forall_mem_cons.mpr ⟨lw_frozen hI f1 f2 f3 f4 f5 f6 K, List.forall_mem_cons.mpr ⟨lw_frozenReason hI f1 f2 f3 f4 f5 f6 K, List.forall_mem_cons.mpr ⟨lw_changes hI f1 f2 f3 f4 f5 f6 K, List.forall_mem_cons.mpr ⟨lw_changeAt hI f1 f2 f3 f4 f5 f6 K, List.forall_mem_cons.mpr ⟨lw_merge hI f1 f2 f3 f4 f5 f6 K, List.forall_mem_cons.mpr ⟨lw_count hI f1 f2 f3 f4 f5 f6 K, fun o ho => absurd ho (List.not_mem_nil)⟩⟩⟩⟩⟩⟩⟩⟩⟩⟩⟩⟩⟩⟩⟩⟩⟩⟩⟩⟩⟩⟩⟩⟩⟩⟩⟩⟩⟩⟩⟩⟩⟩⟩⟩⟩⟩⟩⟩
  obtain ⟨r, G, e, er⟩ := main
  subst er
  exact ⟨G, e⟩
end Law
