/-! THE CLASS BY ROLES: its shape, reads and writes -/
def clen : Nat → Nat := fun r => match r with
  | 0 => 8
  | 1 => 6
  | 2 => 24
  | 3 => 60
  | 4 => 84
  | 5 => 40
  | 6 => 6
  | 7 => 9
  | 8 => 81
  | 9 => 81
  | 10 => 81
  | 11 => 81
  | 12 => 9
  | 13 => 5
  | 14 => 40
  | _ => 0
def dlen : Nat → Nat := fun r => match r with
  | 20 => 13
  | 21 => 8
  | 22 => 8
  | 23 => 8
  | 24 => 8
  | 30 => 4
  | 31 => 2
  | 34 => 60
  | 40 => 7
  | 50 => 2
  | _ => 0
/-- 1: a reference to the only cell of its role; 2: one to the cell of the same number; 0: anything else -/
def cref : Nat → Nat → Nat := fun r => match r with
  | 0 => fun k => match k with
    | 0 => 1
    | 1 => 1
    | 3 => 1
    | 5 => 1
    | 6 => 1
    | 7 => 1
    | _ => 0
  | 1 => fun k => match k with
    | 0 => 1
    | 2 => 1
    | 4 => 1
    | _ => 0
  | 7 => fun k => match k with
    | 3 => 1
    | 4 => 1
    | 5 => 1
    | 6 => 1
    | 7 => 1
    | _ => 0
  | 20 => fun k => match k with
    | 4 => 2
    | 6 => 2
    | 7 => 2
    | 8 => 2
    | _ => 0
  | 30 => fun k => match k with
    | 1 => 2
    | _ => 0
  | 31 => fun k => match k with
    | 0 => 2
    | 1 => 2
    | _ => 0
  | 50 => fun k => match k with
    | 0 => 2
    | _ => 0
  | _ => fun _ => 0
def CS (G : GS) : Prop := (∀ r, clen r ≠ 0 → gC G r = 1 ∧ gN G r 0 = clen r) ∧ (∀ r, dlen r ≠ 0 → ∀ i, i < gC G r → gN G r i = dlen r) ∧
  (gC G 21 = gC G 20 ∧ gC G 22 = gC G 20 ∧ gC G 23 = gC G 20 ∧ gC G 24 = gC G 20 ∧ gC G 34 = gC G 30 ∧ gC G 32 = gC G 31 ∧ gC G 33 = gC G 31 ∧ gC G 51 = gC G 50) ∧
  (∀ r k, cref r k = 1 → gV G r 0 k = 0) ∧ (∀ r k, cref r k = 2 → ∀ i, i < gC G r → gV G r i k = (i : Int))
theorem cs_s {G : GS} (h : CS G) (r : Nat) (hr : clen r ≠ 0) {k : Int} (h0 : 0 ≤ k) (h1 : k < clen r) : gl r G 0 k = some (gV G r 0 k.toNat) := by
  obtain ⟨q1, q2⟩ := h.1 r hr
  exact gl_ok (by decide) (by rw [q1]; decide) h0 (by show k.toNat < gN G r 0; rw [q2]; omega)
theorem cs_ss {G : GS} (h : CS G) (r : Nat) (hr : clen r ≠ 0) {k v : Int} (h0 : 0 ≤ k) (h1 : k < clen r) : gs r G 0 k v = some (u3 (gV G) r 0 k.toNat v, G.2) := by
  obtain ⟨q1, q2⟩ := h.1 r hr
  exact gs_ok (by decide) (by rw [q1]; decide) h0 (by show k.toNat < gN G r 0; rw [q2]; omega)
theorem cs_d {G : GS} (h : CS G) (r : Nat) (hr : dlen r ≠ 0) {i k : Int} (i0 : 0 ≤ i) (i1 : i.toNat < gC G r) (h0 : 0 ≤ k) (h1 : k < dlen r) : gl r G i k = some (gV G r i.toNat k.toNat) :=
  gl_ok i0 i1 h0 (by rw [h.2.1 r hr _ i1]; omega)
theorem cs_ds {G : GS} (h : CS G) (r : Nat) (hr : dlen r ≠ 0) {i k v : Int} (i0 : 0 ≤ i) (i1 : i.toNat < gC G r) (h0 : 0 ≤ k) (h1 : k < dlen r) : gs r G i k v = some (u3 (gV G) r i.toNat k.toNat v, G.2) :=
  gs_ok i0 i1 h0 (by rw [h.2.1 r hr _ i1]; omega)
/-- a write that spares the references that stand keeps the shape -/
theorem CS.w {G : GS} (h : CS G) {r i k : Nat} {v : Int} (hr : cref r k = 0) : CS (u3 (gV G) r i k v, G.2) := by
  refine ⟨h.1, h.2.1, h.2.2.1, fun r' k' hc => ?_, fun r' k' hc i' hi' => ?_⟩
  · show u3 (gV G) r i k v r' 0 k' = 0
    unfold u3
    rw [if_neg (fun q => by rw [q.1, q.2.2, hr] at hc; cases hc)]
    exact h.2.2.2.1 r' k' hc
  · show u3 (gV G) r i k v r' i' k' = _
    unfold u3
    rw [if_neg (fun q => by rw [q.1, q.2.2, hr] at hc; cases hc)]
    exact h.2.2.2.2 r' k' hc i' hi'
/-- a write into the other side's roles -/
theorem u3_ne {V : Nat → Nat → Nat → Int} {r i k r' i' k' : Nat} {v : Int} (h : r' ≠ r) : u3 V r i k v r' i' k' = V r' i' k' := if_neg (fun q => h q.1)
theorem u3_ni {V : Nat → Nat → Nat → Int} {r i k r' i' k' : Nat} {v : Int} (h : i' ≠ i) : u3 V r i k v r' i' k' = V r' i' k' := if_neg (fun q => h q.2.1)
theorem u3_nk {V : Nat → Nat → Nat → Int} {r i k r' i' k' : Nat} {v : Int} (h : k' ≠ k) : u3 V r i k v r' i' k' = V r' i' k' := if_neg (fun q => h q.2.2)
theorem u3_eq {V : Nat → Nat → Nat → Int} {r i k : Nat} {v : Int} : u3 V r i k v r i k = v := if_pos ⟨rfl, rfl, rfl⟩
theorem ca_0_0 {G : GS} (h : CS G) : gl 0 G 0 0 = some 0 := by
  rw [cs_s h 0 (by decide) (by decide) (by decide)]; exact congrArg some (h.2.2.2.1 0 0 rfl)
theorem ca_0_1 {G : GS} (h : CS G) : gl 0 G 0 1 = some 0 := by
  rw [cs_s h 0 (by decide) (by decide) (by decide)]; exact congrArg some (h.2.2.2.1 0 1 rfl)
theorem cf_0_2 {G : GS} (h : CS G) : gl 0 G 0 2 = some (gV G 0 0 2) := cs_s h 0 (by decide) (by decide) (by decide)
theorem ct_0_2 {G : GS} (h : CS G) {v : Int} : gs 0 G 0 2 v = some (u3 (gV G) 0 0 2 v, G.2) := cs_ss h 0 (by decide) (by decide) (by decide)
theorem ca_0_3 {G : GS} (h : CS G) : gl 0 G 0 3 = some 0 := by
  rw [cs_s h 0 (by decide) (by decide) (by decide)]; exact congrArg some (h.2.2.2.1 0 3 rfl)
theorem cf_0_4 {G : GS} (h : CS G) : gl 0 G 0 4 = some (gV G 0 0 4) := cs_s h 0 (by decide) (by decide) (by decide)
theorem ct_0_4 {G : GS} (h : CS G) {v : Int} : gs 0 G 0 4 v = some (u3 (gV G) 0 0 4 v, G.2) := cs_ss h 0 (by decide) (by decide) (by decide)
theorem ca_0_5 {G : GS} (h : CS G) : gl 0 G 0 5 = some 0 := by
  rw [cs_s h 0 (by decide) (by decide) (by decide)]; exact congrArg some (h.2.2.2.1 0 5 rfl)
theorem ca_0_6 {G : GS} (h : CS G) : gl 0 G 0 6 = some 0 := by
  rw [cs_s h 0 (by decide) (by decide) (by decide)]; exact congrArg some (h.2.2.2.1 0 6 rfl)
theorem ca_0_7 {G : GS} (h : CS G) : gl 0 G 0 7 = some 0 := by
  rw [cs_s h 0 (by decide) (by decide) (by decide)]; exact congrArg some (h.2.2.2.1 0 7 rfl)
theorem ca_1_0 {G : GS} (h : CS G) : gl 1 G 0 0 = some 0 := by
  rw [cs_s h 1 (by decide) (by decide) (by decide)]; exact congrArg some (h.2.2.2.1 1 0 rfl)
theorem cf_1_1 {G : GS} (h : CS G) : gl 1 G 0 1 = some (gV G 1 0 1) := cs_s h 1 (by decide) (by decide) (by decide)
theorem ct_1_1 {G : GS} (h : CS G) {v : Int} : gs 1 G 0 1 v = some (u3 (gV G) 1 0 1 v, G.2) := cs_ss h 1 (by decide) (by decide) (by decide)
theorem ca_1_2 {G : GS} (h : CS G) : gl 1 G 0 2 = some 0 := by
  rw [cs_s h 1 (by decide) (by decide) (by decide)]; exact congrArg some (h.2.2.2.1 1 2 rfl)
theorem cf_1_3 {G : GS} (h : CS G) : gl 1 G 0 3 = some (gV G 1 0 3) := cs_s h 1 (by decide) (by decide) (by decide)
theorem ct_1_3 {G : GS} (h : CS G) {v : Int} : gs 1 G 0 3 v = some (u3 (gV G) 1 0 3 v, G.2) := cs_ss h 1 (by decide) (by decide) (by decide)
theorem ca_1_4 {G : GS} (h : CS G) : gl 1 G 0 4 = some 0 := by
  rw [cs_s h 1 (by decide) (by decide) (by decide)]; exact congrArg some (h.2.2.2.1 1 4 rfl)
theorem cf_1_5 {G : GS} (h : CS G) : gl 1 G 0 5 = some (gV G 1 0 5) := cs_s h 1 (by decide) (by decide) (by decide)
theorem ct_1_5 {G : GS} (h : CS G) {v : Int} : gs 1 G 0 5 v = some (u3 (gV G) 1 0 5 v, G.2) := cs_ss h 1 (by decide) (by decide) (by decide)
theorem cf_7_0 {G : GS} (h : CS G) : gl 7 G 0 0 = some (gV G 7 0 0) := cs_s h 7 (by decide) (by decide) (by decide)
theorem ct_7_0 {G : GS} (h : CS G) {v : Int} : gs 7 G 0 0 v = some (u3 (gV G) 7 0 0 v, G.2) := cs_ss h 7 (by decide) (by decide) (by decide)
theorem cf_7_1 {G : GS} (h : CS G) : gl 7 G 0 1 = some (gV G 7 0 1) := cs_s h 7 (by decide) (by decide) (by decide)
theorem ct_7_1 {G : GS} (h : CS G) {v : Int} : gs 7 G 0 1 v = some (u3 (gV G) 7 0 1 v, G.2) := cs_ss h 7 (by decide) (by decide) (by decide)
theorem cf_7_2 {G : GS} (h : CS G) : gl 7 G 0 2 = some (gV G 7 0 2) := cs_s h 7 (by decide) (by decide) (by decide)
theorem ct_7_2 {G : GS} (h : CS G) {v : Int} : gs 7 G 0 2 v = some (u3 (gV G) 7 0 2 v, G.2) := cs_ss h 7 (by decide) (by decide) (by decide)
theorem ca_7_3 {G : GS} (h : CS G) : gl 7 G 0 3 = some 0 := by
  rw [cs_s h 7 (by decide) (by decide) (by decide)]; exact congrArg some (h.2.2.2.1 7 3 rfl)
theorem ca_7_4 {G : GS} (h : CS G) : gl 7 G 0 4 = some 0 := by
  rw [cs_s h 7 (by decide) (by decide) (by decide)]; exact congrArg some (h.2.2.2.1 7 4 rfl)
theorem ca_7_5 {G : GS} (h : CS G) : gl 7 G 0 5 = some 0 := by
  rw [cs_s h 7 (by decide) (by decide) (by decide)]; exact congrArg some (h.2.2.2.1 7 5 rfl)
theorem ca_7_6 {G : GS} (h : CS G) : gl 7 G 0 6 = some 0 := by
  rw [cs_s h 7 (by decide) (by decide) (by decide)]; exact congrArg some (h.2.2.2.1 7 6 rfl)
theorem ca_7_7 {G : GS} (h : CS G) : gl 7 G 0 7 = some 0 := by
  rw [cs_s h 7 (by decide) (by decide) (by decide)]; exact congrArg some (h.2.2.2.1 7 7 rfl)
theorem cf_7_8 {G : GS} (h : CS G) : gl 7 G 0 8 = some (gV G 7 0 8) := cs_s h 7 (by decide) (by decide) (by decide)
theorem ct_7_8 {G : GS} (h : CS G) {v : Int} : gs 7 G 0 8 v = some (u3 (gV G) 7 0 8 v, G.2) := cs_ss h 7 (by decide) (by decide) (by decide)
theorem cf_13_0 {G : GS} (h : CS G) : gl 13 G 0 0 = some (gV G 13 0 0) := cs_s h 13 (by decide) (by decide) (by decide)
theorem ct_13_0 {G : GS} (h : CS G) {v : Int} : gs 13 G 0 0 v = some (u3 (gV G) 13 0 0 v, G.2) := cs_ss h 13 (by decide) (by decide) (by decide)
theorem cf_13_1 {G : GS} (h : CS G) : gl 13 G 0 1 = some (gV G 13 0 1) := cs_s h 13 (by decide) (by decide) (by decide)
theorem ct_13_1 {G : GS} (h : CS G) {v : Int} : gs 13 G 0 1 v = some (u3 (gV G) 13 0 1 v, G.2) := cs_ss h 13 (by decide) (by decide) (by decide)
theorem cf_13_2 {G : GS} (h : CS G) : gl 13 G 0 2 = some (gV G 13 0 2) := cs_s h 13 (by decide) (by decide) (by decide)
theorem ct_13_2 {G : GS} (h : CS G) {v : Int} : gs 13 G 0 2 v = some (u3 (gV G) 13 0 2 v, G.2) := cs_ss h 13 (by decide) (by decide) (by decide)
theorem cf_13_3 {G : GS} (h : CS G) : gl 13 G 0 3 = some (gV G 13 0 3) := cs_s h 13 (by decide) (by decide) (by decide)
theorem ct_13_3 {G : GS} (h : CS G) {v : Int} : gs 13 G 0 3 v = some (u3 (gV G) 13 0 3 v, G.2) := cs_ss h 13 (by decide) (by decide) (by decide)
theorem cf_13_4 {G : GS} (h : CS G) : gl 13 G 0 4 = some (gV G 13 0 4) := cs_s h 13 (by decide) (by decide) (by decide)
theorem ct_13_4 {G : GS} (h : CS G) {v : Int} : gs 13 G 0 4 v = some (u3 (gV G) 13 0 4 v, G.2) := cs_ss h 13 (by decide) (by decide) (by decide)
theorem cg_2 {G : GS} (h : CS G) {i : Int} (h0 : 0 ≤ i) (h1 : i < 24) : gl 2 G 0 i = some (gV G 2 0 i.toNat) := cs_s h 2 (by decide) h0 h1
theorem cw_2 {G : GS} (h : CS G) {i v : Int} (h0 : 0 ≤ i) (h1 : i < 24) : gs 2 G 0 i v = some (u3 (gV G) 2 0 i.toNat v, G.2) := cs_ss h 2 (by decide) h0 h1
theorem cg_3 {G : GS} (h : CS G) {i : Int} (h0 : 0 ≤ i) (h1 : i < 60) : gl 3 G 0 i = some (gV G 3 0 i.toNat) := cs_s h 3 (by decide) h0 h1
theorem cw_3 {G : GS} (h : CS G) {i v : Int} (h0 : 0 ≤ i) (h1 : i < 60) : gs 3 G 0 i v = some (u3 (gV G) 3 0 i.toNat v, G.2) := cs_ss h 3 (by decide) h0 h1
theorem cg_4 {G : GS} (h : CS G) {i : Int} (h0 : 0 ≤ i) (h1 : i < 84) : gl 4 G 0 i = some (gV G 4 0 i.toNat) := cs_s h 4 (by decide) h0 h1
theorem cw_4 {G : GS} (h : CS G) {i v : Int} (h0 : 0 ≤ i) (h1 : i < 84) : gs 4 G 0 i v = some (u3 (gV G) 4 0 i.toNat v, G.2) := cs_ss h 4 (by decide) h0 h1
theorem cg_5 {G : GS} (h : CS G) {i : Int} (h0 : 0 ≤ i) (h1 : i < 40) : gl 5 G 0 i = some (gV G 5 0 i.toNat) := cs_s h 5 (by decide) h0 h1
theorem cw_5 {G : GS} (h : CS G) {i v : Int} (h0 : 0 ≤ i) (h1 : i < 40) : gs 5 G 0 i v = some (u3 (gV G) 5 0 i.toNat v, G.2) := cs_ss h 5 (by decide) h0 h1
theorem cg_6 {G : GS} (h : CS G) {i : Int} (h0 : 0 ≤ i) (h1 : i < 6) : gl 6 G 0 i = some (gV G 6 0 i.toNat) := cs_s h 6 (by decide) h0 h1
theorem cw_6 {G : GS} (h : CS G) {i v : Int} (h0 : 0 ≤ i) (h1 : i < 6) : gs 6 G 0 i v = some (u3 (gV G) 6 0 i.toNat v, G.2) := cs_ss h 6 (by decide) h0 h1
theorem cg_8 {G : GS} (h : CS G) {i : Int} (h0 : 0 ≤ i) (h1 : i < 81) : gl 8 G 0 i = some (gV G 8 0 i.toNat) := cs_s h 8 (by decide) h0 h1
theorem cw_8 {G : GS} (h : CS G) {i v : Int} (h0 : 0 ≤ i) (h1 : i < 81) : gs 8 G 0 i v = some (u3 (gV G) 8 0 i.toNat v, G.2) := cs_ss h 8 (by decide) h0 h1
theorem cg_9 {G : GS} (h : CS G) {i : Int} (h0 : 0 ≤ i) (h1 : i < 81) : gl 9 G 0 i = some (gV G 9 0 i.toNat) := cs_s h 9 (by decide) h0 h1
theorem cw_9 {G : GS} (h : CS G) {i v : Int} (h0 : 0 ≤ i) (h1 : i < 81) : gs 9 G 0 i v = some (u3 (gV G) 9 0 i.toNat v, G.2) := cs_ss h 9 (by decide) h0 h1
theorem cg_10 {G : GS} (h : CS G) {i : Int} (h0 : 0 ≤ i) (h1 : i < 81) : gl 10 G 0 i = some (gV G 10 0 i.toNat) := cs_s h 10 (by decide) h0 h1
theorem cw_10 {G : GS} (h : CS G) {i v : Int} (h0 : 0 ≤ i) (h1 : i < 81) : gs 10 G 0 i v = some (u3 (gV G) 10 0 i.toNat v, G.2) := cs_ss h 10 (by decide) h0 h1
theorem cg_11 {G : GS} (h : CS G) {i : Int} (h0 : 0 ≤ i) (h1 : i < 81) : gl 11 G 0 i = some (gV G 11 0 i.toNat) := cs_s h 11 (by decide) h0 h1
theorem cw_11 {G : GS} (h : CS G) {i v : Int} (h0 : 0 ≤ i) (h1 : i < 81) : gs 11 G 0 i v = some (u3 (gV G) 11 0 i.toNat v, G.2) := cs_ss h 11 (by decide) h0 h1
theorem cg_12 {G : GS} (h : CS G) {i : Int} (h0 : 0 ≤ i) (h1 : i < 9) : gl 12 G 0 i = some (gV G 12 0 i.toNat) := cs_s h 12 (by decide) h0 h1
theorem cw_12 {G : GS} (h : CS G) {i v : Int} (h0 : 0 ≤ i) (h1 : i < 9) : gs 12 G 0 i v = some (u3 (gV G) 12 0 i.toNat v, G.2) := cs_ss h 12 (by decide) h0 h1
theorem cg_14 {G : GS} (h : CS G) {i : Int} (h0 : 0 ≤ i) (h1 : i < 40) : gl 14 G 0 i = some (gV G 14 0 i.toNat) := cs_s h 14 (by decide) h0 h1
theorem cw_14 {G : GS} (h : CS G) {i v : Int} (h0 : 0 ≤ i) (h1 : i < 40) : gs 14 G 0 i v = some (u3 (gV G) 14 0 i.toNat v, G.2) := cs_ss h 14 (by decide) h0 h1
theorem df_20_0 {G : GS} (h : CS G) {i : Int} (i0 : 0 ≤ i) (i1 : i.toNat < gC G 20) : gl 20 G i 0 = some (gV G 20 i.toNat 0) := cs_d h 20 (by decide) i0 i1 (by decide) (by decide)
theorem dt_20_0 {G : GS} (h : CS G) {i v : Int} (i0 : 0 ≤ i) (i1 : i.toNat < gC G 20) : gs 20 G i 0 v = some (u3 (gV G) 20 i.toNat 0 v, G.2) := cs_ds h 20 (by decide) i0 i1 (by decide) (by decide)
theorem df_20_1 {G : GS} (h : CS G) {i : Int} (i0 : 0 ≤ i) (i1 : i.toNat < gC G 20) : gl 20 G i 1 = some (gV G 20 i.toNat 1) := cs_d h 20 (by decide) i0 i1 (by decide) (by decide)
theorem dt_20_1 {G : GS} (h : CS G) {i v : Int} (i0 : 0 ≤ i) (i1 : i.toNat < gC G 20) : gs 20 G i 1 v = some (u3 (gV G) 20 i.toNat 1 v, G.2) := cs_ds h 20 (by decide) i0 i1 (by decide) (by decide)
theorem df_20_2 {G : GS} (h : CS G) {i : Int} (i0 : 0 ≤ i) (i1 : i.toNat < gC G 20) : gl 20 G i 2 = some (gV G 20 i.toNat 2) := cs_d h 20 (by decide) i0 i1 (by decide) (by decide)
theorem dt_20_2 {G : GS} (h : CS G) {i v : Int} (i0 : 0 ≤ i) (i1 : i.toNat < gC G 20) : gs 20 G i 2 v = some (u3 (gV G) 20 i.toNat 2 v, G.2) := cs_ds h 20 (by decide) i0 i1 (by decide) (by decide)
theorem df_20_3 {G : GS} (h : CS G) {i : Int} (i0 : 0 ≤ i) (i1 : i.toNat < gC G 20) : gl 20 G i 3 = some (gV G 20 i.toNat 3) := cs_d h 20 (by decide) i0 i1 (by decide) (by decide)
theorem dt_20_3 {G : GS} (h : CS G) {i v : Int} (i0 : 0 ≤ i) (i1 : i.toNat < gC G 20) : gs 20 G i 3 v = some (u3 (gV G) 20 i.toNat 3 v, G.2) := cs_ds h 20 (by decide) i0 i1 (by decide) (by decide)
theorem da_20_4 {G : GS} (h : CS G) {i : Int} (i0 : 0 ≤ i) (i1 : i.toNat < gC G 20) : gl 20 G i 4 = some i := by
  rw [cs_d h 20 (by decide) i0 i1 (by decide) (by decide)]; exact congrArg some ((h.2.2.2.2 20 4 rfl _ i1).trans (by omega))
theorem df_20_5 {G : GS} (h : CS G) {i : Int} (i0 : 0 ≤ i) (i1 : i.toNat < gC G 20) : gl 20 G i 5 = some (gV G 20 i.toNat 5) := cs_d h 20 (by decide) i0 i1 (by decide) (by decide)
theorem dt_20_5 {G : GS} (h : CS G) {i v : Int} (i0 : 0 ≤ i) (i1 : i.toNat < gC G 20) : gs 20 G i 5 v = some (u3 (gV G) 20 i.toNat 5 v, G.2) := cs_ds h 20 (by decide) i0 i1 (by decide) (by decide)
theorem da_20_6 {G : GS} (h : CS G) {i : Int} (i0 : 0 ≤ i) (i1 : i.toNat < gC G 20) : gl 20 G i 6 = some i := by
  rw [cs_d h 20 (by decide) i0 i1 (by decide) (by decide)]; exact congrArg some ((h.2.2.2.2 20 6 rfl _ i1).trans (by omega))
theorem da_20_7 {G : GS} (h : CS G) {i : Int} (i0 : 0 ≤ i) (i1 : i.toNat < gC G 20) : gl 20 G i 7 = some i := by
  rw [cs_d h 20 (by decide) i0 i1 (by decide) (by decide)]; exact congrArg some ((h.2.2.2.2 20 7 rfl _ i1).trans (by omega))
theorem da_20_8 {G : GS} (h : CS G) {i : Int} (i0 : 0 ≤ i) (i1 : i.toNat < gC G 20) : gl 20 G i 8 = some i := by
  rw [cs_d h 20 (by decide) i0 i1 (by decide) (by decide)]; exact congrArg some ((h.2.2.2.2 20 8 rfl _ i1).trans (by omega))
theorem df_20_9 {G : GS} (h : CS G) {i : Int} (i0 : 0 ≤ i) (i1 : i.toNat < gC G 20) : gl 20 G i 9 = some (gV G 20 i.toNat 9) := cs_d h 20 (by decide) i0 i1 (by decide) (by decide)
theorem dt_20_9 {G : GS} (h : CS G) {i v : Int} (i0 : 0 ≤ i) (i1 : i.toNat < gC G 20) : gs 20 G i 9 v = some (u3 (gV G) 20 i.toNat 9 v, G.2) := cs_ds h 20 (by decide) i0 i1 (by decide) (by decide)
theorem df_20_10 {G : GS} (h : CS G) {i : Int} (i0 : 0 ≤ i) (i1 : i.toNat < gC G 20) : gl 20 G i 10 = some (gV G 20 i.toNat 10) := cs_d h 20 (by decide) i0 i1 (by decide) (by decide)
theorem dt_20_10 {G : GS} (h : CS G) {i v : Int} (i0 : 0 ≤ i) (i1 : i.toNat < gC G 20) : gs 20 G i 10 v = some (u3 (gV G) 20 i.toNat 10 v, G.2) := cs_ds h 20 (by decide) i0 i1 (by decide) (by decide)
theorem df_20_11 {G : GS} (h : CS G) {i : Int} (i0 : 0 ≤ i) (i1 : i.toNat < gC G 20) : gl 20 G i 11 = some (gV G 20 i.toNat 11) := cs_d h 20 (by decide) i0 i1 (by decide) (by decide)
theorem dt_20_11 {G : GS} (h : CS G) {i v : Int} (i0 : 0 ≤ i) (i1 : i.toNat < gC G 20) : gs 20 G i 11 v = some (u3 (gV G) 20 i.toNat 11 v, G.2) := cs_ds h 20 (by decide) i0 i1 (by decide) (by decide)
theorem df_20_12 {G : GS} (h : CS G) {i : Int} (i0 : 0 ≤ i) (i1 : i.toNat < gC G 20) : gl 20 G i 12 = some (gV G 20 i.toNat 12) := cs_d h 20 (by decide) i0 i1 (by decide) (by decide)
theorem dt_20_12 {G : GS} (h : CS G) {i v : Int} (i0 : 0 ≤ i) (i1 : i.toNat < gC G 20) : gs 20 G i 12 v = some (u3 (gV G) 20 i.toNat 12 v, G.2) := cs_ds h 20 (by decide) i0 i1 (by decide) (by decide)
theorem df_30_0 {G : GS} (h : CS G) {i : Int} (i0 : 0 ≤ i) (i1 : i.toNat < gC G 30) : gl 30 G i 0 = some (gV G 30 i.toNat 0) := cs_d h 30 (by decide) i0 i1 (by decide) (by decide)
theorem dt_30_0 {G : GS} (h : CS G) {i v : Int} (i0 : 0 ≤ i) (i1 : i.toNat < gC G 30) : gs 30 G i 0 v = some (u3 (gV G) 30 i.toNat 0 v, G.2) := cs_ds h 30 (by decide) i0 i1 (by decide) (by decide)
theorem da_30_1 {G : GS} (h : CS G) {i : Int} (i0 : 0 ≤ i) (i1 : i.toNat < gC G 30) : gl 30 G i 1 = some i := by
  rw [cs_d h 30 (by decide) i0 i1 (by decide) (by decide)]; exact congrArg some ((h.2.2.2.2 30 1 rfl _ i1).trans (by omega))
theorem df_30_2 {G : GS} (h : CS G) {i : Int} (i0 : 0 ≤ i) (i1 : i.toNat < gC G 30) : gl 30 G i 2 = some (gV G 30 i.toNat 2) := cs_d h 30 (by decide) i0 i1 (by decide) (by decide)
theorem dt_30_2 {G : GS} (h : CS G) {i v : Int} (i0 : 0 ≤ i) (i1 : i.toNat < gC G 30) : gs 30 G i 2 v = some (u3 (gV G) 30 i.toNat 2 v, G.2) := cs_ds h 30 (by decide) i0 i1 (by decide) (by decide)
theorem df_30_3 {G : GS} (h : CS G) {i : Int} (i0 : 0 ≤ i) (i1 : i.toNat < gC G 30) : gl 30 G i 3 = some (gV G 30 i.toNat 3) := cs_d h 30 (by decide) i0 i1 (by decide) (by decide)
theorem dt_30_3 {G : GS} (h : CS G) {i v : Int} (i0 : 0 ≤ i) (i1 : i.toNat < gC G 30) : gs 30 G i 3 v = some (u3 (gV G) 30 i.toNat 3 v, G.2) := cs_ds h 30 (by decide) i0 i1 (by decide) (by decide)
theorem da_31_0 {G : GS} (h : CS G) {i : Int} (i0 : 0 ≤ i) (i1 : i.toNat < gC G 31) : gl 31 G i 0 = some i := by
  rw [cs_d h 31 (by decide) i0 i1 (by decide) (by decide)]; exact congrArg some ((h.2.2.2.2 31 0 rfl _ i1).trans (by omega))
theorem da_31_1 {G : GS} (h : CS G) {i : Int} (i0 : 0 ≤ i) (i1 : i.toNat < gC G 31) : gl 31 G i 1 = some i := by
  rw [cs_d h 31 (by decide) i0 i1 (by decide) (by decide)]; exact congrArg some ((h.2.2.2.2 31 1 rfl _ i1).trans (by omega))
theorem df_40_0 {G : GS} (h : CS G) {i : Int} (i0 : 0 ≤ i) (i1 : i.toNat < gC G 40) : gl 40 G i 0 = some (gV G 40 i.toNat 0) := cs_d h 40 (by decide) i0 i1 (by decide) (by decide)
theorem dt_40_0 {G : GS} (h : CS G) {i v : Int} (i0 : 0 ≤ i) (i1 : i.toNat < gC G 40) : gs 40 G i 0 v = some (u3 (gV G) 40 i.toNat 0 v, G.2) := cs_ds h 40 (by decide) i0 i1 (by decide) (by decide)
theorem df_40_1 {G : GS} (h : CS G) {i : Int} (i0 : 0 ≤ i) (i1 : i.toNat < gC G 40) : gl 40 G i 1 = some (gV G 40 i.toNat 1) := cs_d h 40 (by decide) i0 i1 (by decide) (by decide)
theorem dt_40_1 {G : GS} (h : CS G) {i v : Int} (i0 : 0 ≤ i) (i1 : i.toNat < gC G 40) : gs 40 G i 1 v = some (u3 (gV G) 40 i.toNat 1 v, G.2) := cs_ds h 40 (by decide) i0 i1 (by decide) (by decide)
theorem df_40_2 {G : GS} (h : CS G) {i : Int} (i0 : 0 ≤ i) (i1 : i.toNat < gC G 40) : gl 40 G i 2 = some (gV G 40 i.toNat 2) := cs_d h 40 (by decide) i0 i1 (by decide) (by decide)
theorem dt_40_2 {G : GS} (h : CS G) {i v : Int} (i0 : 0 ≤ i) (i1 : i.toNat < gC G 40) : gs 40 G i 2 v = some (u3 (gV G) 40 i.toNat 2 v, G.2) := cs_ds h 40 (by decide) i0 i1 (by decide) (by decide)
theorem df_40_3 {G : GS} (h : CS G) {i : Int} (i0 : 0 ≤ i) (i1 : i.toNat < gC G 40) : gl 40 G i 3 = some (gV G 40 i.toNat 3) := cs_d h 40 (by decide) i0 i1 (by decide) (by decide)
theorem dt_40_3 {G : GS} (h : CS G) {i v : Int} (i0 : 0 ≤ i) (i1 : i.toNat < gC G 40) : gs 40 G i 3 v = some (u3 (gV G) 40 i.toNat 3 v, G.2) := cs_ds h 40 (by decide) i0 i1 (by decide) (by decide)
theorem df_40_4 {G : GS} (h : CS G) {i : Int} (i0 : 0 ≤ i) (i1 : i.toNat < gC G 40) : gl 40 G i 4 = some (gV G 40 i.toNat 4) := cs_d h 40 (by decide) i0 i1 (by decide) (by decide)
theorem dt_40_4 {G : GS} (h : CS G) {i v : Int} (i0 : 0 ≤ i) (i1 : i.toNat < gC G 40) : gs 40 G i 4 v = some (u3 (gV G) 40 i.toNat 4 v, G.2) := cs_ds h 40 (by decide) i0 i1 (by decide) (by decide)
theorem df_40_5 {G : GS} (h : CS G) {i : Int} (i0 : 0 ≤ i) (i1 : i.toNat < gC G 40) : gl 40 G i 5 = some (gV G 40 i.toNat 5) := cs_d h 40 (by decide) i0 i1 (by decide) (by decide)
theorem dt_40_5 {G : GS} (h : CS G) {i v : Int} (i0 : 0 ≤ i) (i1 : i.toNat < gC G 40) : gs 40 G i 5 v = some (u3 (gV G) 40 i.toNat 5 v, G.2) := cs_ds h 40 (by decide) i0 i1 (by decide) (by decide)
theorem df_40_6 {G : GS} (h : CS G) {i : Int} (i0 : 0 ≤ i) (i1 : i.toNat < gC G 40) : gl 40 G i 6 = some (gV G 40 i.toNat 6) := cs_d h 40 (by decide) i0 i1 (by decide) (by decide)
theorem dt_40_6 {G : GS} (h : CS G) {i v : Int} (i0 : 0 ≤ i) (i1 : i.toNat < gC G 40) : gs 40 G i 6 v = some (u3 (gV G) 40 i.toNat 6 v, G.2) := cs_ds h 40 (by decide) i0 i1 (by decide) (by decide)
theorem da_50_0 {G : GS} (h : CS G) {i : Int} (i0 : 0 ≤ i) (i1 : i.toNat < gC G 50) : gl 50 G i 0 = some i := by
  rw [cs_d h 50 (by decide) i0 i1 (by decide) (by decide)]; exact congrArg some ((h.2.2.2.2 50 0 rfl _ i1).trans (by omega))
theorem df_50_1 {G : GS} (h : CS G) {i : Int} (i0 : 0 ≤ i) (i1 : i.toNat < gC G 50) : gl 50 G i 1 = some (gV G 50 i.toNat 1) := cs_d h 50 (by decide) i0 i1 (by decide) (by decide)
theorem dt_50_1 {G : GS} (h : CS G) {i v : Int} (i0 : 0 ≤ i) (i1 : i.toNat < gC G 50) : gs 50 G i 1 v = some (u3 (gV G) 50 i.toNat 1 v, G.2) := cs_ds h 50 (by decide) i0 i1 (by decide) (by decide)
theorem dg_21 {G : GS} (h : CS G) {i k : Int} (i0 : 0 ≤ i) (i1 : i.toNat < gC G 20) (h0 : 0 ≤ k) (h1 : k < 8) : gl 21 G i k = some (gV G 21 i.toNat k.toNat) := cs_d h 21 (by decide) i0 (by rw [h.2.2.1.1]; exact i1) h0 h1
theorem dw_21 {G : GS} (h : CS G) {i k v : Int} (i0 : 0 ≤ i) (i1 : i.toNat < gC G 20) (h0 : 0 ≤ k) (h1 : k < 8) : gs 21 G i k v = some (u3 (gV G) 21 i.toNat k.toNat v, G.2) := cs_ds h 21 (by decide) i0 (by rw [h.2.2.1.1]; exact i1) h0 h1
theorem dg_22 {G : GS} (h : CS G) {i k : Int} (i0 : 0 ≤ i) (i1 : i.toNat < gC G 20) (h0 : 0 ≤ k) (h1 : k < 8) : gl 22 G i k = some (gV G 22 i.toNat k.toNat) := cs_d h 22 (by decide) i0 (by rw [h.2.2.1.2.1]; exact i1) h0 h1
theorem dw_22 {G : GS} (h : CS G) {i k v : Int} (i0 : 0 ≤ i) (i1 : i.toNat < gC G 20) (h0 : 0 ≤ k) (h1 : k < 8) : gs 22 G i k v = some (u3 (gV G) 22 i.toNat k.toNat v, G.2) := cs_ds h 22 (by decide) i0 (by rw [h.2.2.1.2.1]; exact i1) h0 h1
theorem dg_23 {G : GS} (h : CS G) {i k : Int} (i0 : 0 ≤ i) (i1 : i.toNat < gC G 20) (h0 : 0 ≤ k) (h1 : k < 8) : gl 23 G i k = some (gV G 23 i.toNat k.toNat) := cs_d h 23 (by decide) i0 (by rw [h.2.2.1.2.2.1]; exact i1) h0 h1
theorem dw_23 {G : GS} (h : CS G) {i k v : Int} (i0 : 0 ≤ i) (i1 : i.toNat < gC G 20) (h0 : 0 ≤ k) (h1 : k < 8) : gs 23 G i k v = some (u3 (gV G) 23 i.toNat k.toNat v, G.2) := cs_ds h 23 (by decide) i0 (by rw [h.2.2.1.2.2.1]; exact i1) h0 h1
theorem dg_24 {G : GS} (h : CS G) {i k : Int} (i0 : 0 ≤ i) (i1 : i.toNat < gC G 20) (h0 : 0 ≤ k) (h1 : k < 8) : gl 24 G i k = some (gV G 24 i.toNat k.toNat) := cs_d h 24 (by decide) i0 (by rw [h.2.2.1.2.2.2.1]; exact i1) h0 h1
theorem dw_24 {G : GS} (h : CS G) {i k v : Int} (i0 : 0 ≤ i) (i1 : i.toNat < gC G 20) (h0 : 0 ≤ k) (h1 : k < 8) : gs 24 G i k v = some (u3 (gV G) 24 i.toNat k.toNat v, G.2) := cs_ds h 24 (by decide) i0 (by rw [h.2.2.1.2.2.2.1]; exact i1) h0 h1
theorem dg_34 {G : GS} (h : CS G) {i k : Int} (i0 : 0 ≤ i) (i1 : i.toNat < gC G 30) (h0 : 0 ≤ k) (h1 : k < 60) : gl 34 G i k = some (gV G 34 i.toNat k.toNat) := cs_d h 34 (by decide) i0 (by rw [h.2.2.1.2.2.2.2.1]; exact i1) h0 h1
theorem dw_34 {G : GS} (h : CS G) {i k v : Int} (i0 : 0 ≤ i) (i1 : i.toNat < gC G 30) (h0 : 0 ≤ k) (h1 : k < 60) : gs 34 G i k v = some (u3 (gV G) 34 i.toNat k.toNat v, G.2) := cs_ds h 34 (by decide) i0 (by rw [h.2.2.1.2.2.2.2.1]; exact i1) h0 h1
