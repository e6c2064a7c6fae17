/-! THE REFERENCE BY ROLES: its fields (role 100) and its arrays (role 100 + number of the field) -/
def mlen : Nat → Nat := fun k => match k with
  | 1 => 24
  | 2 => 24
  | 3 => 24
  | 4 => 24
  | 5 => 24
  | 6 => 24
  | 7 => 24
  | 8 => 192
  | 9 => 24
  | 10 => 192
  | 11 => 192
  | 12 => 192
  | 13 => 24
  | 15 => 5760
  | 16 => 5760
  | 17 => 40
  | 19 => 60
  | 20 => 60
  | 21 => 60
  | 22 => 60
  | 23 => 60
  | 24 => 60
  | 25 => 60
  | 26 => 60
  | 27 => 60
  | 28 => 84
  | 31 => 6
  | 32 => 6
  | 33 => 34560
  | 34 => 34560
  | 39 => 81
  | 40 => 81
  | 41 => 81
  | 42 => 81
  | 43 => 144
  | 44 => 144
  | 45 => 360
  | 49 => 81
  | 50 => 18
  | 51 => 40
  | 52 => 40
  | _ => 0
/-- the reference's shape: one object, its arrays with their lengths, each array field at its array -/
def MR (G : GS) : Prop := gC G 100 = 1 ∧ gN G 100 0 = 53 ∧ (∀ k, mlen k ≠ 0 → gC G (100 + k) = 1 ∧ gN G (100 + k) 0 = mlen k ∧ gV G 100 0 k = 0)
theorem gl_ok {r : Nat} {G : GS} {i k : Int} (h0 : 0 ≤ i) (h1 : i.toNat < gC G r) (h2 : 0 ≤ k) (h3 : k.toNat < gN G r i.toNat) : gl r G i k = some (gV G r i.toNat k.toNat) := if_pos ⟨h0, h1, h2, h3⟩
theorem gs_ok {r : Nat} {G : GS} {i k v : Int} (h0 : 0 ≤ i) (h1 : i.toNat < gC G r) (h2 : 0 ≤ k) (h3 : k.toNat < gN G r i.toNat) : gs r G i k v = some (u3 (gV G) r i.toNat k.toNat v, G.2) := if_pos ⟨h0, h1, h2, h3⟩
theorem mr_f {G : GS} (h : MR G) (k : Nat) (hk : k < 53) : gl 100 G 0 (k : Int) = some (gV G 100 0 k) := by
  rw [gl_ok (by decide) (by rw [h.1]; decide) (by omega) (by show (k : Int).toNat < gN G 100 0; rw [h.2.1]; omega)]
  rfl
theorem mr_a {G : GS} (h : MR G) (k : Nat) (hk : k < 53) (hl : mlen k ≠ 0) : gl 100 G 0 (k : Int) = some 0 := by
  rw [mr_f h k hk, (h.2.2 k hl).2.2]
theorem mr_g {G : GS} (h : MR G) (k : Nat) (hl : mlen k ≠ 0) {i : Int} (h0 : 0 ≤ i) (h1 : i < mlen k) : gl (100 + k) G 0 i = some (gV G (100 + k) 0 i.toNat) := by
  obtain ⟨q1, q2, -⟩ := h.2.2 k hl
  exact gl_ok (by decide) (by rw [q1]; decide) h0 (by show i.toNat < gN G (100 + k) 0; rw [q2]; omega)
theorem mr_s {G : GS} (h : MR G) (k : Nat) (hl : mlen k ≠ 0) {i v : Int} (h0 : 0 ≤ i) (h1 : i < mlen k) : gs (100 + k) G 0 i v = some (u3 (gV G) (100 + k) 0 i.toNat v, G.2) := by
  obtain ⟨q1, q2, -⟩ := h.2.2 k hl
  exact gs_ok (by decide) (by rw [q1]; decide) h0 (by show i.toNat < gN G (100 + k) 0; rw [q2]; omega)
theorem mr_sf {G : GS} (h : MR G) (k : Nat) (hk : k < 53) {v : Int} : gs 100 G 0 (k : Int) v = some (u3 (gV G) 100 0 k v, G.2) := by
  rw [gs_ok (by decide) (by rw [h.1]; decide) (by omega) (by show (k : Int).toNat < gN G 100 0; rw [h.2.1]; omega)]
  rfl
/-- a write that spares the array fields keeps the shape -/
theorem MR.w {G : GS} (h : MR G) {r i k : Nat} {v : Int} (hr : r ≠ 100 ∨ mlen k = 0) : MR (u3 (gV G) r i k v, G.2) := by
  refine ⟨h.1, h.2.1, fun k' hk' => ⟨(h.2.2 k' hk').1, (h.2.2 k' hk').2.1, ?_⟩⟩
  show u3 (gV G) r i k v 100 0 k' = 0
  unfold u3
  rw [if_neg ?_]
  · exact (h.2.2 k' hk').2.2
  · intro q
    rcases hr with q' | q'
    · exact q' q.1.symm
    · exact hk' (by rw [q.2.2]; exact q')
theorem mf_0 {G : GS} (h : MR G) : gl 100 G 0 0 = some (gV G 100 0 0) := mr_f h 0 (by decide)
theorem mt_0 {G : GS} (h : MR G) {v : Int} : gs 100 G 0 0 v = some (u3 (gV G) 100 0 0 v, G.2) := mr_sf h 0 (by decide)
theorem ma_1 {G : GS} (h : MR G) : gl 100 G 0 1 = some 0 := mr_a h 1 (by decide) (by decide)
theorem mg_1 {G : GS} (h : MR G) {i : Int} (h0 : 0 ≤ i) (h1 : i < 24) : gl 101 G 0 i = some (gV G 101 0 i.toNat) := mr_g h 1 (by decide) h0 h1
theorem ms_1 {G : GS} (h : MR G) {i v : Int} (h0 : 0 ≤ i) (h1 : i < 24) : gs 101 G 0 i v = some (u3 (gV G) 101 0 i.toNat v, G.2) := mr_s h 1 (by decide) h0 h1
theorem ma_2 {G : GS} (h : MR G) : gl 100 G 0 2 = some 0 := mr_a h 2 (by decide) (by decide)
theorem mg_2 {G : GS} (h : MR G) {i : Int} (h0 : 0 ≤ i) (h1 : i < 24) : gl 102 G 0 i = some (gV G 102 0 i.toNat) := mr_g h 2 (by decide) h0 h1
theorem ms_2 {G : GS} (h : MR G) {i v : Int} (h0 : 0 ≤ i) (h1 : i < 24) : gs 102 G 0 i v = some (u3 (gV G) 102 0 i.toNat v, G.2) := mr_s h 2 (by decide) h0 h1
theorem ma_3 {G : GS} (h : MR G) : gl 100 G 0 3 = some 0 := mr_a h 3 (by decide) (by decide)
theorem mg_3 {G : GS} (h : MR G) {i : Int} (h0 : 0 ≤ i) (h1 : i < 24) : gl 103 G 0 i = some (gV G 103 0 i.toNat) := mr_g h 3 (by decide) h0 h1
theorem ms_3 {G : GS} (h : MR G) {i v : Int} (h0 : 0 ≤ i) (h1 : i < 24) : gs 103 G 0 i v = some (u3 (gV G) 103 0 i.toNat v, G.2) := mr_s h 3 (by decide) h0 h1
theorem ma_4 {G : GS} (h : MR G) : gl 100 G 0 4 = some 0 := mr_a h 4 (by decide) (by decide)
theorem mg_4 {G : GS} (h : MR G) {i : Int} (h0 : 0 ≤ i) (h1 : i < 24) : gl 104 G 0 i = some (gV G 104 0 i.toNat) := mr_g h 4 (by decide) h0 h1
theorem ms_4 {G : GS} (h : MR G) {i v : Int} (h0 : 0 ≤ i) (h1 : i < 24) : gs 104 G 0 i v = some (u3 (gV G) 104 0 i.toNat v, G.2) := mr_s h 4 (by decide) h0 h1
theorem ma_5 {G : GS} (h : MR G) : gl 100 G 0 5 = some 0 := mr_a h 5 (by decide) (by decide)
theorem mg_5 {G : GS} (h : MR G) {i : Int} (h0 : 0 ≤ i) (h1 : i < 24) : gl 105 G 0 i = some (gV G 105 0 i.toNat) := mr_g h 5 (by decide) h0 h1
theorem ms_5 {G : GS} (h : MR G) {i v : Int} (h0 : 0 ≤ i) (h1 : i < 24) : gs 105 G 0 i v = some (u3 (gV G) 105 0 i.toNat v, G.2) := mr_s h 5 (by decide) h0 h1
theorem ma_6 {G : GS} (h : MR G) : gl 100 G 0 6 = some 0 := mr_a h 6 (by decide) (by decide)
theorem mg_6 {G : GS} (h : MR G) {i : Int} (h0 : 0 ≤ i) (h1 : i < 24) : gl 106 G 0 i = some (gV G 106 0 i.toNat) := mr_g h 6 (by decide) h0 h1
theorem ms_6 {G : GS} (h : MR G) {i v : Int} (h0 : 0 ≤ i) (h1 : i < 24) : gs 106 G 0 i v = some (u3 (gV G) 106 0 i.toNat v, G.2) := mr_s h 6 (by decide) h0 h1
theorem ma_7 {G : GS} (h : MR G) : gl 100 G 0 7 = some 0 := mr_a h 7 (by decide) (by decide)
theorem mg_7 {G : GS} (h : MR G) {i : Int} (h0 : 0 ≤ i) (h1 : i < 24) : gl 107 G 0 i = some (gV G 107 0 i.toNat) := mr_g h 7 (by decide) h0 h1
theorem ms_7 {G : GS} (h : MR G) {i v : Int} (h0 : 0 ≤ i) (h1 : i < 24) : gs 107 G 0 i v = some (u3 (gV G) 107 0 i.toNat v, G.2) := mr_s h 7 (by decide) h0 h1
theorem ma_8 {G : GS} (h : MR G) : gl 100 G 0 8 = some 0 := mr_a h 8 (by decide) (by decide)
theorem mg_8 {G : GS} (h : MR G) {i : Int} (h0 : 0 ≤ i) (h1 : i < 192) : gl 108 G 0 i = some (gV G 108 0 i.toNat) := mr_g h 8 (by decide) h0 h1
theorem ms_8 {G : GS} (h : MR G) {i v : Int} (h0 : 0 ≤ i) (h1 : i < 192) : gs 108 G 0 i v = some (u3 (gV G) 108 0 i.toNat v, G.2) := mr_s h 8 (by decide) h0 h1
theorem ma_9 {G : GS} (h : MR G) : gl 100 G 0 9 = some 0 := mr_a h 9 (by decide) (by decide)
theorem mg_9 {G : GS} (h : MR G) {i : Int} (h0 : 0 ≤ i) (h1 : i < 24) : gl 109 G 0 i = some (gV G 109 0 i.toNat) := mr_g h 9 (by decide) h0 h1
theorem ms_9 {G : GS} (h : MR G) {i v : Int} (h0 : 0 ≤ i) (h1 : i < 24) : gs 109 G 0 i v = some (u3 (gV G) 109 0 i.toNat v, G.2) := mr_s h 9 (by decide) h0 h1
theorem ma_10 {G : GS} (h : MR G) : gl 100 G 0 10 = some 0 := mr_a h 10 (by decide) (by decide)
theorem mg_10 {G : GS} (h : MR G) {i : Int} (h0 : 0 ≤ i) (h1 : i < 192) : gl 110 G 0 i = some (gV G 110 0 i.toNat) := mr_g h 10 (by decide) h0 h1
theorem ms_10 {G : GS} (h : MR G) {i v : Int} (h0 : 0 ≤ i) (h1 : i < 192) : gs 110 G 0 i v = some (u3 (gV G) 110 0 i.toNat v, G.2) := mr_s h 10 (by decide) h0 h1
theorem ma_11 {G : GS} (h : MR G) : gl 100 G 0 11 = some 0 := mr_a h 11 (by decide) (by decide)
theorem mg_11 {G : GS} (h : MR G) {i : Int} (h0 : 0 ≤ i) (h1 : i < 192) : gl 111 G 0 i = some (gV G 111 0 i.toNat) := mr_g h 11 (by decide) h0 h1
theorem ms_11 {G : GS} (h : MR G) {i v : Int} (h0 : 0 ≤ i) (h1 : i < 192) : gs 111 G 0 i v = some (u3 (gV G) 111 0 i.toNat v, G.2) := mr_s h 11 (by decide) h0 h1
theorem ma_12 {G : GS} (h : MR G) : gl 100 G 0 12 = some 0 := mr_a h 12 (by decide) (by decide)
theorem mg_12 {G : GS} (h : MR G) {i : Int} (h0 : 0 ≤ i) (h1 : i < 192) : gl 112 G 0 i = some (gV G 112 0 i.toNat) := mr_g h 12 (by decide) h0 h1
theorem ms_12 {G : GS} (h : MR G) {i v : Int} (h0 : 0 ≤ i) (h1 : i < 192) : gs 112 G 0 i v = some (u3 (gV G) 112 0 i.toNat v, G.2) := mr_s h 12 (by decide) h0 h1
theorem ma_13 {G : GS} (h : MR G) : gl 100 G 0 13 = some 0 := mr_a h 13 (by decide) (by decide)
theorem mg_13 {G : GS} (h : MR G) {i : Int} (h0 : 0 ≤ i) (h1 : i < 24) : gl 113 G 0 i = some (gV G 113 0 i.toNat) := mr_g h 13 (by decide) h0 h1
theorem ms_13 {G : GS} (h : MR G) {i v : Int} (h0 : 0 ≤ i) (h1 : i < 24) : gs 113 G 0 i v = some (u3 (gV G) 113 0 i.toNat v, G.2) := mr_s h 13 (by decide) h0 h1
theorem mf_14 {G : GS} (h : MR G) : gl 100 G 0 14 = some (gV G 100 0 14) := mr_f h 14 (by decide)
theorem mt_14 {G : GS} (h : MR G) {v : Int} : gs 100 G 0 14 v = some (u3 (gV G) 100 0 14 v, G.2) := mr_sf h 14 (by decide)
theorem ma_15 {G : GS} (h : MR G) : gl 100 G 0 15 = some 0 := mr_a h 15 (by decide) (by decide)
theorem mg_15 {G : GS} (h : MR G) {i : Int} (h0 : 0 ≤ i) (h1 : i < 5760) : gl 115 G 0 i = some (gV G 115 0 i.toNat) := mr_g h 15 (by decide) h0 h1
theorem ms_15 {G : GS} (h : MR G) {i v : Int} (h0 : 0 ≤ i) (h1 : i < 5760) : gs 115 G 0 i v = some (u3 (gV G) 115 0 i.toNat v, G.2) := mr_s h 15 (by decide) h0 h1
theorem ma_16 {G : GS} (h : MR G) : gl 100 G 0 16 = some 0 := mr_a h 16 (by decide) (by decide)
theorem mg_16 {G : GS} (h : MR G) {i : Int} (h0 : 0 ≤ i) (h1 : i < 5760) : gl 116 G 0 i = some (gV G 116 0 i.toNat) := mr_g h 16 (by decide) h0 h1
theorem ms_16 {G : GS} (h : MR G) {i v : Int} (h0 : 0 ≤ i) (h1 : i < 5760) : gs 116 G 0 i v = some (u3 (gV G) 116 0 i.toNat v, G.2) := mr_s h 16 (by decide) h0 h1
theorem ma_17 {G : GS} (h : MR G) : gl 100 G 0 17 = some 0 := mr_a h 17 (by decide) (by decide)
theorem mg_17 {G : GS} (h : MR G) {i : Int} (h0 : 0 ≤ i) (h1 : i < 40) : gl 117 G 0 i = some (gV G 117 0 i.toNat) := mr_g h 17 (by decide) h0 h1
theorem ms_17 {G : GS} (h : MR G) {i v : Int} (h0 : 0 ≤ i) (h1 : i < 40) : gs 117 G 0 i v = some (u3 (gV G) 117 0 i.toNat v, G.2) := mr_s h 17 (by decide) h0 h1
theorem mf_18 {G : GS} (h : MR G) : gl 100 G 0 18 = some (gV G 100 0 18) := mr_f h 18 (by decide)
theorem mt_18 {G : GS} (h : MR G) {v : Int} : gs 100 G 0 18 v = some (u3 (gV G) 100 0 18 v, G.2) := mr_sf h 18 (by decide)
theorem ma_19 {G : GS} (h : MR G) : gl 100 G 0 19 = some 0 := mr_a h 19 (by decide) (by decide)
theorem mg_19 {G : GS} (h : MR G) {i : Int} (h0 : 0 ≤ i) (h1 : i < 60) : gl 119 G 0 i = some (gV G 119 0 i.toNat) := mr_g h 19 (by decide) h0 h1
theorem ms_19 {G : GS} (h : MR G) {i v : Int} (h0 : 0 ≤ i) (h1 : i < 60) : gs 119 G 0 i v = some (u3 (gV G) 119 0 i.toNat v, G.2) := mr_s h 19 (by decide) h0 h1
theorem ma_20 {G : GS} (h : MR G) : gl 100 G 0 20 = some 0 := mr_a h 20 (by decide) (by decide)
theorem mg_20 {G : GS} (h : MR G) {i : Int} (h0 : 0 ≤ i) (h1 : i < 60) : gl 120 G 0 i = some (gV G 120 0 i.toNat) := mr_g h 20 (by decide) h0 h1
theorem ms_20 {G : GS} (h : MR G) {i v : Int} (h0 : 0 ≤ i) (h1 : i < 60) : gs 120 G 0 i v = some (u3 (gV G) 120 0 i.toNat v, G.2) := mr_s h 20 (by decide) h0 h1
theorem ma_21 {G : GS} (h : MR G) : gl 100 G 0 21 = some 0 := mr_a h 21 (by decide) (by decide)
theorem mg_21 {G : GS} (h : MR G) {i : Int} (h0 : 0 ≤ i) (h1 : i < 60) : gl 121 G 0 i = some (gV G 121 0 i.toNat) := mr_g h 21 (by decide) h0 h1
theorem ms_21 {G : GS} (h : MR G) {i v : Int} (h0 : 0 ≤ i) (h1 : i < 60) : gs 121 G 0 i v = some (u3 (gV G) 121 0 i.toNat v, G.2) := mr_s h 21 (by decide) h0 h1
theorem ma_22 {G : GS} (h : MR G) : gl 100 G 0 22 = some 0 := mr_a h 22 (by decide) (by decide)
theorem mg_22 {G : GS} (h : MR G) {i : Int} (h0 : 0 ≤ i) (h1 : i < 60) : gl 122 G 0 i = some (gV G 122 0 i.toNat) := mr_g h 22 (by decide) h0 h1
theorem ms_22 {G : GS} (h : MR G) {i v : Int} (h0 : 0 ≤ i) (h1 : i < 60) : gs 122 G 0 i v = some (u3 (gV G) 122 0 i.toNat v, G.2) := mr_s h 22 (by decide) h0 h1
theorem ma_23 {G : GS} (h : MR G) : gl 100 G 0 23 = some 0 := mr_a h 23 (by decide) (by decide)
theorem mg_23 {G : GS} (h : MR G) {i : Int} (h0 : 0 ≤ i) (h1 : i < 60) : gl 123 G 0 i = some (gV G 123 0 i.toNat) := mr_g h 23 (by decide) h0 h1
theorem ms_23 {G : GS} (h : MR G) {i v : Int} (h0 : 0 ≤ i) (h1 : i < 60) : gs 123 G 0 i v = some (u3 (gV G) 123 0 i.toNat v, G.2) := mr_s h 23 (by decide) h0 h1
theorem ma_24 {G : GS} (h : MR G) : gl 100 G 0 24 = some 0 := mr_a h 24 (by decide) (by decide)
theorem mg_24 {G : GS} (h : MR G) {i : Int} (h0 : 0 ≤ i) (h1 : i < 60) : gl 124 G 0 i = some (gV G 124 0 i.toNat) := mr_g h 24 (by decide) h0 h1
theorem ms_24 {G : GS} (h : MR G) {i v : Int} (h0 : 0 ≤ i) (h1 : i < 60) : gs 124 G 0 i v = some (u3 (gV G) 124 0 i.toNat v, G.2) := mr_s h 24 (by decide) h0 h1
theorem ma_25 {G : GS} (h : MR G) : gl 100 G 0 25 = some 0 := mr_a h 25 (by decide) (by decide)
theorem mg_25 {G : GS} (h : MR G) {i : Int} (h0 : 0 ≤ i) (h1 : i < 60) : gl 125 G 0 i = some (gV G 125 0 i.toNat) := mr_g h 25 (by decide) h0 h1
theorem ms_25 {G : GS} (h : MR G) {i v : Int} (h0 : 0 ≤ i) (h1 : i < 60) : gs 125 G 0 i v = some (u3 (gV G) 125 0 i.toNat v, G.2) := mr_s h 25 (by decide) h0 h1
theorem ma_26 {G : GS} (h : MR G) : gl 100 G 0 26 = some 0 := mr_a h 26 (by decide) (by decide)
theorem mg_26 {G : GS} (h : MR G) {i : Int} (h0 : 0 ≤ i) (h1 : i < 60) : gl 126 G 0 i = some (gV G 126 0 i.toNat) := mr_g h 26 (by decide) h0 h1
theorem ms_26 {G : GS} (h : MR G) {i v : Int} (h0 : 0 ≤ i) (h1 : i < 60) : gs 126 G 0 i v = some (u3 (gV G) 126 0 i.toNat v, G.2) := mr_s h 26 (by decide) h0 h1
theorem ma_27 {G : GS} (h : MR G) : gl 100 G 0 27 = some 0 := mr_a h 27 (by decide) (by decide)
theorem mg_27 {G : GS} (h : MR G) {i : Int} (h0 : 0 ≤ i) (h1 : i < 60) : gl 127 G 0 i = some (gV G 127 0 i.toNat) := mr_g h 27 (by decide) h0 h1
theorem ms_27 {G : GS} (h : MR G) {i v : Int} (h0 : 0 ≤ i) (h1 : i < 60) : gs 127 G 0 i v = some (u3 (gV G) 127 0 i.toNat v, G.2) := mr_s h 27 (by decide) h0 h1
theorem ma_28 {G : GS} (h : MR G) : gl 100 G 0 28 = some 0 := mr_a h 28 (by decide) (by decide)
theorem mg_28 {G : GS} (h : MR G) {i : Int} (h0 : 0 ≤ i) (h1 : i < 84) : gl 128 G 0 i = some (gV G 128 0 i.toNat) := mr_g h 28 (by decide) h0 h1
theorem ms_28 {G : GS} (h : MR G) {i v : Int} (h0 : 0 ≤ i) (h1 : i < 84) : gs 128 G 0 i v = some (u3 (gV G) 128 0 i.toNat v, G.2) := mr_s h 28 (by decide) h0 h1
theorem mf_29 {G : GS} (h : MR G) : gl 100 G 0 29 = some (gV G 100 0 29) := mr_f h 29 (by decide)
theorem mt_29 {G : GS} (h : MR G) {v : Int} : gs 100 G 0 29 v = some (u3 (gV G) 100 0 29 v, G.2) := mr_sf h 29 (by decide)
theorem mf_30 {G : GS} (h : MR G) : gl 100 G 0 30 = some (gV G 100 0 30) := mr_f h 30 (by decide)
theorem mt_30 {G : GS} (h : MR G) {v : Int} : gs 100 G 0 30 v = some (u3 (gV G) 100 0 30 v, G.2) := mr_sf h 30 (by decide)
theorem ma_31 {G : GS} (h : MR G) : gl 100 G 0 31 = some 0 := mr_a h 31 (by decide) (by decide)
theorem mg_31 {G : GS} (h : MR G) {i : Int} (h0 : 0 ≤ i) (h1 : i < 6) : gl 131 G 0 i = some (gV G 131 0 i.toNat) := mr_g h 31 (by decide) h0 h1
theorem ms_31 {G : GS} (h : MR G) {i v : Int} (h0 : 0 ≤ i) (h1 : i < 6) : gs 131 G 0 i v = some (u3 (gV G) 131 0 i.toNat v, G.2) := mr_s h 31 (by decide) h0 h1
theorem ma_32 {G : GS} (h : MR G) : gl 100 G 0 32 = some 0 := mr_a h 32 (by decide) (by decide)
theorem mg_32 {G : GS} (h : MR G) {i : Int} (h0 : 0 ≤ i) (h1 : i < 6) : gl 132 G 0 i = some (gV G 132 0 i.toNat) := mr_g h 32 (by decide) h0 h1
theorem ms_32 {G : GS} (h : MR G) {i v : Int} (h0 : 0 ≤ i) (h1 : i < 6) : gs 132 G 0 i v = some (u3 (gV G) 132 0 i.toNat v, G.2) := mr_s h 32 (by decide) h0 h1
theorem ma_33 {G : GS} (h : MR G) : gl 100 G 0 33 = some 0 := mr_a h 33 (by decide) (by decide)
theorem mg_33 {G : GS} (h : MR G) {i : Int} (h0 : 0 ≤ i) (h1 : i < 34560) : gl 133 G 0 i = some (gV G 133 0 i.toNat) := mr_g h 33 (by decide) h0 h1
theorem ms_33 {G : GS} (h : MR G) {i v : Int} (h0 : 0 ≤ i) (h1 : i < 34560) : gs 133 G 0 i v = some (u3 (gV G) 133 0 i.toNat v, G.2) := mr_s h 33 (by decide) h0 h1
theorem ma_34 {G : GS} (h : MR G) : gl 100 G 0 34 = some 0 := mr_a h 34 (by decide) (by decide)
theorem mg_34 {G : GS} (h : MR G) {i : Int} (h0 : 0 ≤ i) (h1 : i < 34560) : gl 134 G 0 i = some (gV G 134 0 i.toNat) := mr_g h 34 (by decide) h0 h1
theorem ms_34 {G : GS} (h : MR G) {i v : Int} (h0 : 0 ≤ i) (h1 : i < 34560) : gs 134 G 0 i v = some (u3 (gV G) 134 0 i.toNat v, G.2) := mr_s h 34 (by decide) h0 h1
theorem mf_35 {G : GS} (h : MR G) : gl 100 G 0 35 = some (gV G 100 0 35) := mr_f h 35 (by decide)
theorem mt_35 {G : GS} (h : MR G) {v : Int} : gs 100 G 0 35 v = some (u3 (gV G) 100 0 35 v, G.2) := mr_sf h 35 (by decide)
theorem mf_36 {G : GS} (h : MR G) : gl 100 G 0 36 = some (gV G 100 0 36) := mr_f h 36 (by decide)
theorem mt_36 {G : GS} (h : MR G) {v : Int} : gs 100 G 0 36 v = some (u3 (gV G) 100 0 36 v, G.2) := mr_sf h 36 (by decide)
theorem mf_37 {G : GS} (h : MR G) : gl 100 G 0 37 = some (gV G 100 0 37) := mr_f h 37 (by decide)
theorem mt_37 {G : GS} (h : MR G) {v : Int} : gs 100 G 0 37 v = some (u3 (gV G) 100 0 37 v, G.2) := mr_sf h 37 (by decide)
theorem mf_38 {G : GS} (h : MR G) : gl 100 G 0 38 = some (gV G 100 0 38) := mr_f h 38 (by decide)
theorem mt_38 {G : GS} (h : MR G) {v : Int} : gs 100 G 0 38 v = some (u3 (gV G) 100 0 38 v, G.2) := mr_sf h 38 (by decide)
theorem ma_39 {G : GS} (h : MR G) : gl 100 G 0 39 = some 0 := mr_a h 39 (by decide) (by decide)
theorem mg_39 {G : GS} (h : MR G) {i : Int} (h0 : 0 ≤ i) (h1 : i < 81) : gl 139 G 0 i = some (gV G 139 0 i.toNat) := mr_g h 39 (by decide) h0 h1
theorem ms_39 {G : GS} (h : MR G) {i v : Int} (h0 : 0 ≤ i) (h1 : i < 81) : gs 139 G 0 i v = some (u3 (gV G) 139 0 i.toNat v, G.2) := mr_s h 39 (by decide) h0 h1
theorem ma_40 {G : GS} (h : MR G) : gl 100 G 0 40 = some 0 := mr_a h 40 (by decide) (by decide)
theorem mg_40 {G : GS} (h : MR G) {i : Int} (h0 : 0 ≤ i) (h1 : i < 81) : gl 140 G 0 i = some (gV G 140 0 i.toNat) := mr_g h 40 (by decide) h0 h1
theorem ms_40 {G : GS} (h : MR G) {i v : Int} (h0 : 0 ≤ i) (h1 : i < 81) : gs 140 G 0 i v = some (u3 (gV G) 140 0 i.toNat v, G.2) := mr_s h 40 (by decide) h0 h1
theorem ma_41 {G : GS} (h : MR G) : gl 100 G 0 41 = some 0 := mr_a h 41 (by decide) (by decide)
theorem mg_41 {G : GS} (h : MR G) {i : Int} (h0 : 0 ≤ i) (h1 : i < 81) : gl 141 G 0 i = some (gV G 141 0 i.toNat) := mr_g h 41 (by decide) h0 h1
theorem ms_41 {G : GS} (h : MR G) {i v : Int} (h0 : 0 ≤ i) (h1 : i < 81) : gs 141 G 0 i v = some (u3 (gV G) 141 0 i.toNat v, G.2) := mr_s h 41 (by decide) h0 h1
theorem ma_42 {G : GS} (h : MR G) : gl 100 G 0 42 = some 0 := mr_a h 42 (by decide) (by decide)
theorem mg_42 {G : GS} (h : MR G) {i : Int} (h0 : 0 ≤ i) (h1 : i < 81) : gl 142 G 0 i = some (gV G 142 0 i.toNat) := mr_g h 42 (by decide) h0 h1
theorem ms_42 {G : GS} (h : MR G) {i v : Int} (h0 : 0 ≤ i) (h1 : i < 81) : gs 142 G 0 i v = some (u3 (gV G) 142 0 i.toNat v, G.2) := mr_s h 42 (by decide) h0 h1
theorem ma_43 {G : GS} (h : MR G) : gl 100 G 0 43 = some 0 := mr_a h 43 (by decide) (by decide)
theorem mg_43 {G : GS} (h : MR G) {i : Int} (h0 : 0 ≤ i) (h1 : i < 144) : gl 143 G 0 i = some (gV G 143 0 i.toNat) := mr_g h 43 (by decide) h0 h1
theorem ms_43 {G : GS} (h : MR G) {i v : Int} (h0 : 0 ≤ i) (h1 : i < 144) : gs 143 G 0 i v = some (u3 (gV G) 143 0 i.toNat v, G.2) := mr_s h 43 (by decide) h0 h1
theorem ma_44 {G : GS} (h : MR G) : gl 100 G 0 44 = some 0 := mr_a h 44 (by decide) (by decide)
theorem mg_44 {G : GS} (h : MR G) {i : Int} (h0 : 0 ≤ i) (h1 : i < 144) : gl 144 G 0 i = some (gV G 144 0 i.toNat) := mr_g h 44 (by decide) h0 h1
theorem ms_44 {G : GS} (h : MR G) {i v : Int} (h0 : 0 ≤ i) (h1 : i < 144) : gs 144 G 0 i v = some (u3 (gV G) 144 0 i.toNat v, G.2) := mr_s h 44 (by decide) h0 h1
theorem ma_45 {G : GS} (h : MR G) : gl 100 G 0 45 = some 0 := mr_a h 45 (by decide) (by decide)
theorem mg_45 {G : GS} (h : MR G) {i : Int} (h0 : 0 ≤ i) (h1 : i < 360) : gl 145 G 0 i = some (gV G 145 0 i.toNat) := mr_g h 45 (by decide) h0 h1
theorem ms_45 {G : GS} (h : MR G) {i v : Int} (h0 : 0 ≤ i) (h1 : i < 360) : gs 145 G 0 i v = some (u3 (gV G) 145 0 i.toNat v, G.2) := mr_s h 45 (by decide) h0 h1
theorem mf_46 {G : GS} (h : MR G) : gl 100 G 0 46 = some (gV G 100 0 46) := mr_f h 46 (by decide)
theorem mt_46 {G : GS} (h : MR G) {v : Int} : gs 100 G 0 46 v = some (u3 (gV G) 100 0 46 v, G.2) := mr_sf h 46 (by decide)
theorem mf_47 {G : GS} (h : MR G) : gl 100 G 0 47 = some (gV G 100 0 47) := mr_f h 47 (by decide)
theorem mt_47 {G : GS} (h : MR G) {v : Int} : gs 100 G 0 47 v = some (u3 (gV G) 100 0 47 v, G.2) := mr_sf h 47 (by decide)
theorem mf_48 {G : GS} (h : MR G) : gl 100 G 0 48 = some (gV G 100 0 48) := mr_f h 48 (by decide)
theorem mt_48 {G : GS} (h : MR G) {v : Int} : gs 100 G 0 48 v = some (u3 (gV G) 100 0 48 v, G.2) := mr_sf h 48 (by decide)
theorem ma_49 {G : GS} (h : MR G) : gl 100 G 0 49 = some 0 := mr_a h 49 (by decide) (by decide)
theorem mg_49 {G : GS} (h : MR G) {i : Int} (h0 : 0 ≤ i) (h1 : i < 81) : gl 149 G 0 i = some (gV G 149 0 i.toNat) := mr_g h 49 (by decide) h0 h1
theorem ms_49 {G : GS} (h : MR G) {i v : Int} (h0 : 0 ≤ i) (h1 : i < 81) : gs 149 G 0 i v = some (u3 (gV G) 149 0 i.toNat v, G.2) := mr_s h 49 (by decide) h0 h1
theorem ma_50 {G : GS} (h : MR G) : gl 100 G 0 50 = some 0 := mr_a h 50 (by decide) (by decide)
theorem mg_50 {G : GS} (h : MR G) {i : Int} (h0 : 0 ≤ i) (h1 : i < 18) : gl 150 G 0 i = some (gV G 150 0 i.toNat) := mr_g h 50 (by decide) h0 h1
theorem ms_50 {G : GS} (h : MR G) {i v : Int} (h0 : 0 ≤ i) (h1 : i < 18) : gs 150 G 0 i v = some (u3 (gV G) 150 0 i.toNat v, G.2) := mr_s h 50 (by decide) h0 h1
theorem ma_51 {G : GS} (h : MR G) : gl 100 G 0 51 = some 0 := mr_a h 51 (by decide) (by decide)
theorem mg_51 {G : GS} (h : MR G) {i : Int} (h0 : 0 ≤ i) (h1 : i < 40) : gl 151 G 0 i = some (gV G 151 0 i.toNat) := mr_g h 51 (by decide) h0 h1
theorem ms_51 {G : GS} (h : MR G) {i v : Int} (h0 : 0 ≤ i) (h1 : i < 40) : gs 151 G 0 i v = some (u3 (gV G) 151 0 i.toNat v, G.2) := mr_s h 51 (by decide) h0 h1
theorem ma_52 {G : GS} (h : MR G) : gl 100 G 0 52 = some 0 := mr_a h 52 (by decide) (by decide)
theorem mg_52 {G : GS} (h : MR G) {i : Int} (h0 : 0 ≤ i) (h1 : i < 40) : gl 152 G 0 i = some (gV G 152 0 i.toNat) := mr_g h 52 (by decide) h0 h1
theorem ms_52 {G : GS} (h : MR G) {i v : Int} (h0 : 0 ≤ i) (h1 : i < 40) : gs 152 G 0 i v = some (u3 (gV G) 152 0 i.toNat v, G.2) := mr_s h 52 (by decide) h0 h1
