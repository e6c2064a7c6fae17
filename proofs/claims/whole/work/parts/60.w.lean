/-! THE CALCULUS W: what a piece of the program over roles answers; shapes; reads and writes -/
abbrev GR : Type := (Nat → Nat → Nat) × (Nat → Nat) × Nat × Nat
abbrev GV : Type := Nat → Nat → Nat → Int
def rN (R : GR) : Nat → Nat → Nat := R.1
def rC (R : GR) : Nat → Nat := R.2.1
/-- lengths of the roles of which there is one, and of those of which there are many -/
def sl (r : Nat) : Nat := match r with
  | 0 => 8
  | 1 => 6
  | 2 => 24
  | 3 => 60
  | 4 => 84
  | 5 => 40
  | 6 => 6
  | 7 => 9
  | 8 => 81
  | 9 => 81
  | 10 => 81
  | 11 => 81
  | 12 => 9
  | 13 => 5
  | 14 => 40
  | 100 => 53
  | 101 => 24
  | 102 => 24
  | 103 => 24
  | 104 => 24
  | 105 => 24
  | 106 => 24
  | 107 => 24
  | 108 => 192
  | 109 => 24
  | 110 => 192
  | 111 => 192
  | 112 => 192
  | 113 => 24
  | 115 => 5760
  | 116 => 5760
  | 117 => 40
  | 119 => 60
  | 120 => 60
  | 121 => 60
  | 122 => 60
  | 123 => 60
  | 124 => 60
  | 125 => 60
  | 126 => 60
  | 127 => 60
  | 128 => 84
  | 131 => 6
  | 132 => 6
  | 133 => 34560
  | 134 => 34560
  | 139 => 81
  | 140 => 81
  | 141 => 81
  | 142 => 81
  | 143 => 144
  | 144 => 144
  | 145 => 360
  | 149 => 81
  | 150 => 18
  | 151 => 40
  | 152 => 40
  | _ => 0
def ml (r : Nat) : Nat := match r with
  | 20 => 13
  | 21 => 8
  | 30 => 4
  | 31 => 2
  | 34 => 60
  | 40 => 7
  | 50 => 2
  | _ => 0
def SH (R : GR) : Prop := (∀ r, sl r ≠ 0 → rC R r = 1 ∧ rN R r 0 = sl r) ∧ (∀ r, ml r ≠ 0 → ∀ i, i < rC R r → rN R r i = ml r) ∧
  (rC R 21 = rC R 20 ∧ rC R 22 = rC R 20 ∧ rC R 23 = rC R 20 ∧ rC R 24 = rC R 20 ∧ rC R 34 = rC R 30 ∧ rC R 32 = rC R 31 ∧ rC R 33 = rC R 31 ∧ rC R 51 = rC R 50)
/-- places that hold a reference to the only one, or to the one of the same number -/
def RL0 : List (Nat × Nat) := [(0, 0), (0, 1), (0, 3), (0, 5), (0, 6), (0, 7), (1, 0), (1, 2), (1, 4), (7, 3), (7, 4), (7, 5), (7, 6), (7, 7), (100, 1), (100, 2), (100, 3), (100, 4), (100, 5), (100, 6), (100, 7), (100, 8), (100, 9), (100, 10), (100, 11), (100, 12), (100, 13), (100, 15), (100, 16), (100, 17), (100, 19), (100, 20), (100, 21), (100, 22), (100, 23), (100, 24), (100, 25), (100, 26), (100, 27), (100, 28), (100, 31), (100, 32), (100, 33), (100, 34), (100, 39), (100, 40), (100, 41), (100, 42), (100, 43), (100, 44), (100, 45), (100, 49), (100, 50), (100, 51), (100, 52)]
def RL1 : List (Nat × Nat) := [(20, 4), (20, 6), (20, 7), (20, 8), (30, 1), (31, 0), (31, 1), (50, 0)]
def RF (V : GV) (R : GR) : Prop := (∀ e, e ∈ RL0 → V e.1 0 e.2 = 0) ∧ (∀ e, e ∈ RL1 → ∀ i, i < rC R e.1 → V e.1 i e.2 = (i : Int))
def Wp (o : GO) (Q : Int → GS → Prop) : Prop := ∃ r G, o = some (r, G) ∧ Q r G
theorem w_ret {r : Int} {G : GS} {Q : Int → GS → Prop} (h : Q r G) : Wp (some (r, G)) Q := ⟨r, G, rfl, h⟩
theorem w_gv {i : Int} {o : GO} {Q : Int → GS → Prop} (h : 0 ≤ i) (k : Wp o Q) : Wp (gvm i o) Q := by unfold gvm; rw [if_pos h]; exact k
theorem w_ite {c : Prop} {d : Decidable c} {A B : GO} {Q : Int → GS → Prop} (h1 : c → Wp A Q) (h2 : ¬ c → Wp B Q) : Wp (@ite GO c d A B) Q := by
  by_cases h : c
  · rw [if_pos h]; exact h1 h
  · rw [if_neg h]; exact h2 h
theorem w_bind {o : GO} {f : Int × GS → GO} {Q : Int → GS → Prop} (h : Wp o (fun r G => Wp (f (r, G)) Q)) : Wp (o.bind f) Q := by
  obtain ⟨r, G, e, h⟩ := h
  rw [e]; exact h
theorem w_mono {o : GO} {P Q : Int → GS → Prop} (h : Wp o P) (k : ∀ r G, P r G → Q r G) : Wp o Q := by
  obtain ⟨r, G, e, h⟩ := h
  exact ⟨r, G, e, k r G h⟩
theorem w_call {o : GO} {f : Int × GS → GO} {P Q : Int → GS → Prop} (h : Wp o P) (k : ∀ r G, P r G → Wp (f (r, G)) Q) : Wp (o.bind f) Q := w_bind (w_mono h k)
theorem w_eq {o o' : GO} {Q : Int → GS → Prop} (h : o = o') (k : Wp o' Q) : Wp o Q := h ▸ k
theorem gl_in {r : Nat} {V : GV} {R : GR} {i k : Int} (h0 : 0 ≤ i) (h1 : i.toNat < rC R r) (h2 : 0 ≤ k) (h3 : k.toNat < rN R r i.toNat) : gl r (V, R) i k = some (V r i.toNat k.toNat) := if_pos ⟨h0, h1, h2, h3⟩
theorem gs_in {r : Nat} {V : GV} {R : GR} {i k v : Int} (h0 : 0 ≤ i) (h1 : i.toNat < rC R r) (h2 : 0 ≤ k) (h3 : k.toNat < rN R r i.toNat) : gs r (V, R) i k v = some (u3 V r i.toNat k.toNat v, R) := if_pos ⟨h0, h1, h2, h3⟩
theorem w_gl {r : Nat} {V : GV} {R : GR} {i k : Int} {f : Int → GO} {Q : Int → GS → Prop} (h0 : 0 ≤ i) (h1 : i.toNat < rC R r) (h2 : 0 ≤ k) (h3 : k.toNat < rN R r i.toNat) (q : ∀ x, x = V r i.toNat k.toNat → Wp (f x) Q) : Wp ((gl r (V, R) i k).bind f) Q := by
  rw [gl_in h0 h1 h2 h3]; exact q _ rfl
theorem w_gs {r : Nat} {V : GV} {R : GR} {i k v : Int} {f : GS → GO} {Q : Int → GS → Prop} (h0 : 0 ≤ i) (h1 : i.toNat < rC R r) (h2 : 0 ≤ k) (h3 : k.toNat < rN R r i.toNat) (q : Wp (f (u3 V r i.toNat k.toNat v, R)) Q) : Wp ((gs r (V, R) i k v).bind f) Q := by
  rw [gs_in h0 h1 h2 h3]; exact q
theorem w_s {r : Nat} {V : GV} {R : GR} {k : Int} {f : Int → GO} {Q : Int → GS → Prop} (hS : SH R) (hr : sl r ≠ 0) (h2 : 0 ≤ k) (h3 : k.toNat < sl r) (q : ∀ x, x = V r 0 k.toNat → Wp (f x) Q) : Wp ((gl r (V, R) 0 k).bind f) Q := by
  obtain ⟨e1, e2⟩ := hS.1 r hr
  exact w_gl (by decide) (by rw [e1]; decide) h2 (by show k.toNat < rN R r 0; rw [e2]; exact h3) q
theorem w_ss {r : Nat} {V : GV} {R : GR} {k v : Int} {f : GS → GO} {Q : Int → GS → Prop} (hS : SH R) (hr : sl r ≠ 0) (h2 : 0 ≤ k) (h3 : k.toNat < sl r) (q : Wp (f (u3 V r 0 k.toNat v, R)) Q) : Wp ((gs r (V, R) 0 k v).bind f) Q := by
  obtain ⟨e1, e2⟩ := hS.1 r hr
  exact w_gs (by decide) (by rw [e1]; decide) h2 (by show k.toNat < rN R r 0; rw [e2]; exact h3) q
theorem w_m {r : Nat} {V : GV} {R : GR} {i k : Int} {f : Int → GO} {Q : Int → GS → Prop} (hS : SH R) (hr : ml r ≠ 0) (h0 : 0 ≤ i) (h1 : i.toNat < rC R r) (h2 : 0 ≤ k) (h3 : k.toNat < ml r) (q : ∀ x, x = V r i.toNat k.toNat → Wp (f x) Q) : Wp ((gl r (V, R) i k).bind f) Q :=
  w_gl h0 h1 h2 (by rw [hS.2.1 r hr _ h1]; exact h3) q
theorem w_ms {r : Nat} {V : GV} {R : GR} {i k v : Int} {f : GS → GO} {Q : Int → GS → Prop} (hS : SH R) (hr : ml r ≠ 0) (h0 : 0 ≤ i) (h1 : i.toNat < rC R r) (h2 : 0 ≤ k) (h3 : k.toNat < ml r) (q : Wp (f (u3 V r i.toNat k.toNat v, R)) Q) : Wp ((gs r (V, R) i k v).bind f) Q :=
  w_gs h0 h1 h2 (by rw [hS.2.1 r hr _ h1]; exact h3) q
theorem w_gsz {r : Nat} {G : GS} {i k v : Int} {f : GS → GO} {Q : Int → GS → Prop} (h : v = 0 ∨ v = 1) (q : Wp ((gs r G i k v).bind f) Q) : Wp ((gsz r G i k v).bind f) Q := by
  unfold gsz; rw [if_pos h]; exact q
theorem w_gsa {r : Nat} {G : GS} {i k v : Int} {f : GS → GO} {Q : Int → GS → Prop} (h : 0 ≤ v) (q : Wp ((gs r G i k v).bind f) Q) : Wp ((gsa r G i k v).bind f) Q := by
  unfold gsa; rw [if_pos h]; exact q
theorem w_gzr {x : Int} {G : GS} {Q : Int → GS → Prop} (h : x = 0 ∨ x = 1) (q : Q x G) : Wp (gzr x G) Q := by
  unfold gzr; rw [if_pos h]; exact ⟨x, G, rfl, q⟩
theorem w_gal {r : Nat} {V : GV} {R : GR} {i : Int} {f : Int → GO} {Q : Int → GS → Prop} (h0 : 0 ≤ i) (h1 : i.toNat < rC R r) (q : Wp (f (rN R r i.toNat : Int)) Q) : Wp ((gal r (V, R) i).bind f) Q := by
  have e : gal r (V, R) i = some (rN R r i.toNat : Int) := if_pos ⟨h0, h1⟩
  rw [e]; exact q
theorem u3_ne {V : Nat → Nat → Nat → Int} {r i k r' i' k' : Nat} {v : Int} (h : r' ≠ r) : u3 V r i k v r' i' k' = V r' i' k' := if_neg (fun q => h q.1)
theorem u3_ni {V : Nat → Nat → Nat → Int} {r i k r' i' k' : Nat} {v : Int} (h : i' ≠ i) : u3 V r i k v r' i' k' = V r' i' k' := if_neg (fun q => h q.2.1)
theorem u3_nk {V : Nat → Nat → Nat → Int} {r i k r' i' k' : Nat} {v : Int} (h : k' ≠ k) : u3 V r i k v r' i' k' = V r' i' k' := if_neg (fun q => h q.2.2)
theorem u3_eq {V : Nat → Nat → Nat → Int} {r i k : Nat} {v : Int} : u3 V r i k v r i k = v := if_pos ⟨rfl, rfl, rfl⟩
theorem u3_ek {V : Nat → Nat → Nat → Int} {r i k k' : Nat} {v : Int} (h : k' = k) : u3 V r i k v r i k' = v := if_pos ⟨rfl, rfl, h⟩
theorem tn_c {n : Nat} : ((n : Nat) : Int).toNat = n := by omega
theorem tn8 {q i : Nat} : (8 * (q : Int) + (i : Int)).toNat = 8 * q + i := by omega
theorem tn8i {q : Nat} {i : Int} (h : 0 ≤ i) : (8 * (q : Int) + i).toNat = 8 * q + i.toNat := by omega
theorem tn5 {q i : Nat} : ((q : Int) * 5 + (i : Int)).toNat = 5 * q + i := by omega
theorem tn5z {q : Nat} : ((q : Int) * 5 + 0).toNat = 5 * q := by omega
theorem tn6 {q i : Nat} : (6 * (q : Int) + (i : Int)).toNat = 6 * q + i := by omega
theorem tn6z {q : Nat} : (6 * (q : Int)).toNat = 6 * q := by omega
theorem tn1 {q : Nat} : ((q : Int) + 1).toNat = q + 1 := by omega
theorem lc_lt {a b : Int} : lc a b < 0 ↔ a < b := by
  unfold lc; (repeat' split) <;> omega
theorem lc_gt {a b : Int} : lc a b > 0 ↔ b < a := by
  unfold lc; (repeat' split) <;> omega
theorem lc_ne {a b : Int} : lc a b ≠ 0 ↔ a ≠ b := by
  unfold lc; (repeat' split) <;> omega
theorem lc_eq {a b : Int} : lc a b = 0 ↔ a = b := by
  unfold lc; (repeat' split) <;> omega
theorem lc_ge {a b : Int} : lc a b ≥ 0 ↔ b ≤ a := by
  unfold lc; (repeat' split) <;> omega
theorem lc_le {a b : Int} : lc a b ≤ 0 ↔ a ≤ b := by
  unfold lc; (repeat' split) <;> omega
theorem f_0_0 {V : GV} {R : GR} (h : RF V R) : V 0 0 0 = 0 := h.1 (0, 0) (by decide)
theorem f_0_1 {V : GV} {R : GR} (h : RF V R) : V 0 0 1 = 0 := h.1 (0, 1) (by decide)
theorem f_0_3 {V : GV} {R : GR} (h : RF V R) : V 0 0 3 = 0 := h.1 (0, 3) (by decide)
theorem f_0_5 {V : GV} {R : GR} (h : RF V R) : V 0 0 5 = 0 := h.1 (0, 5) (by decide)
theorem f_0_6 {V : GV} {R : GR} (h : RF V R) : V 0 0 6 = 0 := h.1 (0, 6) (by decide)
theorem f_0_7 {V : GV} {R : GR} (h : RF V R) : V 0 0 7 = 0 := h.1 (0, 7) (by decide)
theorem f_1_0 {V : GV} {R : GR} (h : RF V R) : V 1 0 0 = 0 := h.1 (1, 0) (by decide)
theorem f_1_2 {V : GV} {R : GR} (h : RF V R) : V 1 0 2 = 0 := h.1 (1, 2) (by decide)
theorem f_1_4 {V : GV} {R : GR} (h : RF V R) : V 1 0 4 = 0 := h.1 (1, 4) (by decide)
theorem f_7_3 {V : GV} {R : GR} (h : RF V R) : V 7 0 3 = 0 := h.1 (7, 3) (by decide)
theorem f_7_4 {V : GV} {R : GR} (h : RF V R) : V 7 0 4 = 0 := h.1 (7, 4) (by decide)
theorem f_7_5 {V : GV} {R : GR} (h : RF V R) : V 7 0 5 = 0 := h.1 (7, 5) (by decide)
theorem f_7_6 {V : GV} {R : GR} (h : RF V R) : V 7 0 6 = 0 := h.1 (7, 6) (by decide)
theorem f_7_7 {V : GV} {R : GR} (h : RF V R) : V 7 0 7 = 0 := h.1 (7, 7) (by decide)
theorem f_100_1 {V : GV} {R : GR} (h : RF V R) : V 100 0 1 = 0 := h.1 (100, 1) (by decide)
theorem f_100_2 {V : GV} {R : GR} (h : RF V R) : V 100 0 2 = 0 := h.1 (100, 2) (by decide)
theorem f_100_3 {V : GV} {R : GR} (h : RF V R) : V 100 0 3 = 0 := h.1 (100, 3) (by decide)
theorem f_100_4 {V : GV} {R : GR} (h : RF V R) : V 100 0 4 = 0 := h.1 (100, 4) (by decide)
theorem f_100_5 {V : GV} {R : GR} (h : RF V R) : V 100 0 5 = 0 := h.1 (100, 5) (by decide)
theorem f_100_6 {V : GV} {R : GR} (h : RF V R) : V 100 0 6 = 0 := h.1 (100, 6) (by decide)
theorem f_100_7 {V : GV} {R : GR} (h : RF V R) : V 100 0 7 = 0 := h.1 (100, 7) (by decide)
theorem f_100_8 {V : GV} {R : GR} (h : RF V R) : V 100 0 8 = 0 := h.1 (100, 8) (by decide)
theorem f_100_9 {V : GV} {R : GR} (h : RF V R) : V 100 0 9 = 0 := h.1 (100, 9) (by decide)
theorem f_100_10 {V : GV} {R : GR} (h : RF V R) : V 100 0 10 = 0 := h.1 (100, 10) (by decide)
theorem f_100_11 {V : GV} {R : GR} (h : RF V R) : V 100 0 11 = 0 := h.1 (100, 11) (by decide)
theorem f_100_12 {V : GV} {R : GR} (h : RF V R) : V 100 0 12 = 0 := h.1 (100, 12) (by decide)
theorem f_100_13 {V : GV} {R : GR} (h : RF V R) : V 100 0 13 = 0 := h.1 (100, 13) (by decide)
theorem f_100_15 {V : GV} {R : GR} (h : RF V R) : V 100 0 15 = 0 := h.1 (100, 15) (by decide)
theorem f_100_16 {V : GV} {R : GR} (h : RF V R) : V 100 0 16 = 0 := h.1 (100, 16) (by decide)
theorem f_100_17 {V : GV} {R : GR} (h : RF V R) : V 100 0 17 = 0 := h.1 (100, 17) (by decide)
theorem f_100_19 {V : GV} {R : GR} (h : RF V R) : V 100 0 19 = 0 := h.1 (100, 19) (by decide)
theorem f_100_20 {V : GV} {R : GR} (h : RF V R) : V 100 0 20 = 0 := h.1 (100, 20) (by decide)
theorem f_100_21 {V : GV} {R : GR} (h : RF V R) : V 100 0 21 = 0 := h.1 (100, 21) (by decide)
theorem f_100_22 {V : GV} {R : GR} (h : RF V R) : V 100 0 22 = 0 := h.1 (100, 22) (by decide)
theorem f_100_23 {V : GV} {R : GR} (h : RF V R) : V 100 0 23 = 0 := h.1 (100, 23) (by decide)
theorem f_100_24 {V : GV} {R : GR} (h : RF V R) : V 100 0 24 = 0 := h.1 (100, 24) (by decide)
theorem f_100_25 {V : GV} {R : GR} (h : RF V R) : V 100 0 25 = 0 := h.1 (100, 25) (by decide)
theorem f_100_26 {V : GV} {R : GR} (h : RF V R) : V 100 0 26 = 0 := h.1 (100, 26) (by decide)
theorem f_100_27 {V : GV} {R : GR} (h : RF V R) : V 100 0 27 = 0 := h.1 (100, 27) (by decide)
theorem f_100_28 {V : GV} {R : GR} (h : RF V R) : V 100 0 28 = 0 := h.1 (100, 28) (by decide)
theorem f_100_31 {V : GV} {R : GR} (h : RF V R) : V 100 0 31 = 0 := h.1 (100, 31) (by decide)
theorem f_100_32 {V : GV} {R : GR} (h : RF V R) : V 100 0 32 = 0 := h.1 (100, 32) (by decide)
theorem f_100_33 {V : GV} {R : GR} (h : RF V R) : V 100 0 33 = 0 := h.1 (100, 33) (by decide)
theorem f_100_34 {V : GV} {R : GR} (h : RF V R) : V 100 0 34 = 0 := h.1 (100, 34) (by decide)
theorem f_100_39 {V : GV} {R : GR} (h : RF V R) : V 100 0 39 = 0 := h.1 (100, 39) (by decide)
theorem f_100_40 {V : GV} {R : GR} (h : RF V R) : V 100 0 40 = 0 := h.1 (100, 40) (by decide)
theorem f_100_41 {V : GV} {R : GR} (h : RF V R) : V 100 0 41 = 0 := h.1 (100, 41) (by decide)
theorem f_100_42 {V : GV} {R : GR} (h : RF V R) : V 100 0 42 = 0 := h.1 (100, 42) (by decide)
theorem f_100_43 {V : GV} {R : GR} (h : RF V R) : V 100 0 43 = 0 := h.1 (100, 43) (by decide)
theorem f_100_44 {V : GV} {R : GR} (h : RF V R) : V 100 0 44 = 0 := h.1 (100, 44) (by decide)
theorem f_100_45 {V : GV} {R : GR} (h : RF V R) : V 100 0 45 = 0 := h.1 (100, 45) (by decide)
theorem f_100_49 {V : GV} {R : GR} (h : RF V R) : V 100 0 49 = 0 := h.1 (100, 49) (by decide)
theorem f_100_50 {V : GV} {R : GR} (h : RF V R) : V 100 0 50 = 0 := h.1 (100, 50) (by decide)
theorem f_100_51 {V : GV} {R : GR} (h : RF V R) : V 100 0 51 = 0 := h.1 (100, 51) (by decide)
theorem f_100_52 {V : GV} {R : GR} (h : RF V R) : V 100 0 52 = 0 := h.1 (100, 52) (by decide)
theorem f_20_4 {V : GV} {R : GR} (h : RF V R) {i : Nat} (hi : i < rC R 20) : V 20 i 4 = (i : Int) := h.2 (20, 4) (by decide) i hi
theorem f_20_6 {V : GV} {R : GR} (h : RF V R) {i : Nat} (hi : i < rC R 20) : V 20 i 6 = (i : Int) := h.2 (20, 6) (by decide) i hi
theorem f_20_7 {V : GV} {R : GR} (h : RF V R) {i : Nat} (hi : i < rC R 20) : V 20 i 7 = (i : Int) := h.2 (20, 7) (by decide) i hi
theorem f_20_8 {V : GV} {R : GR} (h : RF V R) {i : Nat} (hi : i < rC R 20) : V 20 i 8 = (i : Int) := h.2 (20, 8) (by decide) i hi
theorem f_30_1 {V : GV} {R : GR} (h : RF V R) {i : Nat} (hi : i < rC R 30) : V 30 i 1 = (i : Int) := h.2 (30, 1) (by decide) i hi
theorem f_31_0 {V : GV} {R : GR} (h : RF V R) {i : Nat} (hi : i < rC R 31) : V 31 i 0 = (i : Int) := h.2 (31, 0) (by decide) i hi
theorem f_31_1 {V : GV} {R : GR} (h : RF V R) {i : Nat} (hi : i < rC R 31) : V 31 i 1 = (i : Int) := h.2 (31, 1) (by decide) i hi
theorem f_50_0 {V : GV} {R : GR} (h : RF V R) {i : Nat} (hi : i < rC R 50) : V 50 i 0 = (i : Int) := h.2 (50, 0) (by decide) i hi
theorem w_lh0 {b : (GS → GO) → GS → GO} {Q : Int → GS → Prop} (I : GS → Prop) (m : GS → Nat) (st : ∀  G, I  G → ∀ self : GS → GO, (∀  G', I  G' → m  G' < m  G → Wp (self  G') Q) → Wp (b self  G) Q) : ∀ (n : Nat)  G, I  G → m  G < n → Wp (lh0 b n  G) Q := by
  intro n
  induction n with
  | zero => intro  G _ h; exact absurd h (Nat.not_lt_zero _)
  | succ n ih =>
    intro  G hI hm
    rw [lh0_s]
    exact st  G hI _ (fun  G' hI' hm' => ih  G' hI' (Nat.lt_of_lt_of_le hm' (Nat.le_of_lt_succ hm)))
theorem w_lh1 {b : (Int → GS → GO) → Int → GS → GO} {Q : Int → GS → Prop} (I : Int → GS → Prop) (m : Int → GS → Nat) (st : ∀ x0 G, I x0 G → ∀ self : Int → GS → GO, (∀ y0 G', I y0 G' → m y0 G' < m x0 G → Wp (self y0 G') Q) → Wp (b self x0 G) Q) : ∀ (n : Nat) x0 G, I x0 G → m x0 G < n → Wp (lh1 b n x0 G) Q := by
  intro n
  induction n with
  | zero => intro x0 G _ h; exact absurd h (Nat.not_lt_zero _)
  | succ n ih =>
    intro x0 G hI hm
    rw [lh1_s]
    exact st x0 G hI _ (fun y0 G' hI' hm' => ih y0 G' hI' (Nat.lt_of_lt_of_le hm' (Nat.le_of_lt_succ hm)))
theorem w_lh2 {b : (Int → Int → GS → GO) → Int → Int → GS → GO} {Q : Int → GS → Prop} (I : Int → Int → GS → Prop) (m : Int → Int → GS → Nat) (st : ∀ x0 x1 G, I x0 x1 G → ∀ self : Int → Int → GS → GO, (∀ y0 y1 G', I y0 y1 G' → m y0 y1 G' < m x0 x1 G → Wp (self y0 y1 G') Q) → Wp (b self x0 x1 G) Q) : ∀ (n : Nat) x0 x1 G, I x0 x1 G → m x0 x1 G < n → Wp (lh2 b n x0 x1 G) Q := by
  intro n
  induction n with
  | zero => intro x0 x1 G _ h; exact absurd h (Nat.not_lt_zero _)
  | succ n ih =>
    intro x0 x1 G hI hm
    rw [lh2_s]
    exact st x0 x1 G hI _ (fun y0 y1 G' hI' hm' => ih y0 y1 G' hI' (Nat.lt_of_lt_of_le hm' (Nat.le_of_lt_succ hm)))
theorem w_lh3 {b : (Int → Int → Int → GS → GO) → Int → Int → Int → GS → GO} {Q : Int → GS → Prop} (I : Int → Int → Int → GS → Prop) (m : Int → Int → Int → GS → Nat) (st : ∀ x0 x1 x2 G, I x0 x1 x2 G → ∀ self : Int → Int → Int → GS → GO, (∀ y0 y1 y2 G', I y0 y1 y2 G' → m y0 y1 y2 G' < m x0 x1 x2 G → Wp (self y0 y1 y2 G') Q) → Wp (b self x0 x1 x2 G) Q) : ∀ (n : Nat) x0 x1 x2 G, I x0 x1 x2 G → m x0 x1 x2 G < n → Wp (lh3 b n x0 x1 x2 G) Q := by
  intro n
  induction n with
  | zero => intro x0 x1 x2 G _ h; exact absurd h (Nat.not_lt_zero _)
  | succ n ih =>
    intro x0 x1 x2 G hI hm
    rw [lh3_s]
    exact st x0 x1 x2 G hI _ (fun y0 y1 y2 G' hI' hm' => ih y0 y1 y2 G' hI' (Nat.lt_of_lt_of_le hm' (Nat.le_of_lt_succ hm)))
theorem w_lh4 {b : (Int → Int → Int → Int → GS → GO) → Int → Int → Int → Int → GS → GO} {Q : Int → GS → Prop} (I : Int → Int → Int → Int → GS → Prop) (m : Int → Int → Int → Int → GS → Nat) (st : ∀ x0 x1 x2 x3 G, I x0 x1 x2 x3 G → ∀ self : Int → Int → Int → Int → GS → GO, (∀ y0 y1 y2 y3 G', I y0 y1 y2 y3 G' → m y0 y1 y2 y3 G' < m x0 x1 x2 x3 G → Wp (self y0 y1 y2 y3 G') Q) → Wp (b self x0 x1 x2 x3 G) Q) : ∀ (n : Nat) x0 x1 x2 x3 G, I x0 x1 x2 x3 G → m x0 x1 x2 x3 G < n → Wp (lh4 b n x0 x1 x2 x3 G) Q := by
  intro n
  induction n with
  | zero => intro x0 x1 x2 x3 G _ h; exact absurd h (Nat.not_lt_zero _)
  | succ n ih =>
    intro x0 x1 x2 x3 G hI hm
    rw [lh4_s]
    exact st x0 x1 x2 x3 G hI _ (fun y0 y1 y2 y3 G' hI' hm' => ih y0 y1 y2 y3 G' hI' (Nat.lt_of_lt_of_le hm' (Nat.le_of_lt_succ hm)))
theorem w_lh5 {b : (Int → Int → Int → Int → Int → GS → GO) → Int → Int → Int → Int → Int → GS → GO} {Q : Int → GS → Prop} (I : Int → Int → Int → Int → Int → GS → Prop) (m : Int → Int → Int → Int → Int → GS → Nat) (st : ∀ x0 x1 x2 x3 x4 G, I x0 x1 x2 x3 x4 G → ∀ self : Int → Int → Int → Int → Int → GS → GO, (∀ y0 y1 y2 y3 y4 G', I y0 y1 y2 y3 y4 G' → m y0 y1 y2 y3 y4 G' < m x0 x1 x2 x3 x4 G → Wp (self y0 y1 y2 y3 y4 G') Q) → Wp (b self x0 x1 x2 x3 x4 G) Q) : ∀ (n : Nat) x0 x1 x2 x3 x4 G, I x0 x1 x2 x3 x4 G → m x0 x1 x2 x3 x4 G < n → Wp (lh5 b n x0 x1 x2 x3 x4 G) Q := by
  intro n
  induction n with
  | zero => intro x0 x1 x2 x3 x4 G _ h; exact absurd h (Nat.not_lt_zero _)
  | succ n ih =>
    intro x0 x1 x2 x3 x4 G hI hm
    rw [lh5_s]
    exact st x0 x1 x2 x3 x4 G hI _ (fun y0 y1 y2 y3 y4 G' hI' hm' => ih y0 y1 y2 y3 y4 G' hI' (Nat.lt_of_lt_of_le hm' (Nat.le_of_lt_succ hm)))
