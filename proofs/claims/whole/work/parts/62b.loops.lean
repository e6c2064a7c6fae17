theorem ws1 {i : Nat} (h : i < 100000) : w32 ((i : Int) + 1) = ((i + 1 : Nat) : Int) := by rw [w32_id (by omega) (by omega)]; omega
section Loops
variable {Q : Int → GS → Prop}
theorem w_for {b : (Int → GS → GO) → Int → GS → GO} (n : Nat) (J : Nat → GS → Prop) (st : ∀ i G, i ≤ n → J i G → ∀ self : Int → GS → GO, (∀ G', i < n → J (i + 1) G' → Wp (self (w32 ((i : Int) + 1)) G') Q) → Wp (b self (i : Int) G) Q) {i : Nat} {G : GS} (hi : i ≤ n) (hn : n < 5999) (hJ : J i G) : Wp (lh1 b 6000 (i : Int) G) Q := by
  refine w_lh1 (fun x G => ∃ i : Nat, x = (i : Int) ∧ i ≤ n ∧ J i G) (fun x _ => n - x.toNat) ?_ 6000 _ _ ⟨i, rfl, hi, hJ⟩ (by omega)
  rintro x G ⟨i, rfl, hi, hJ⟩ self ih
  refine st i G hi hJ self (fun G' hlt hJ' => ?_)
  rw [ws1 (by omega)]
  exact ih _ _ ⟨i + 1, rfl, by omega, hJ'⟩ (by omega)
theorem w_for2 {b : (Int → Int → GS → GO) → Int → Int → GS → GO} (n : Nat) (J : Nat → Int → GS → Prop) (st : ∀ i a G, i ≤ n → J i a G → ∀ self : Int → Int → GS → GO, (∀ a' G', i < n → J (i + 1) a' G' → Wp (self a' (w32 ((i : Int) + 1)) G') Q) → Wp (b self a (i : Int) G) Q) {i : Nat} {a : Int} {G : GS} (hi : i ≤ n) (hn : n < 5999) (hJ : J i a G) : Wp (lh2 b 6000 a (i : Int) G) Q := by
  refine w_lh2 (fun a x G => ∃ i : Nat, x = (i : Int) ∧ i ≤ n ∧ J i a G) (fun _ x _ => n - x.toNat) ?_ 6000 _ _ _ ⟨i, rfl, hi, hJ⟩ (by omega)
  rintro a x G ⟨i, rfl, hi, hJ⟩ self ih
  refine st i a G hi hJ self (fun a' G' hlt hJ' => ?_)
  rw [ws1 (by omega)]
  exact ih _ _ _ ⟨i + 1, rfl, by omega, hJ'⟩ (by omega)
theorem w_for3 {b : (Int → Int → Int → GS → GO) → Int → Int → Int → GS → GO} (n : Nat) (J : Nat → Int → Int → GS → Prop) (st : ∀ i a c G, i ≤ n → J i a c G → ∀ self : Int → Int → Int → GS → GO, (∀ a' c' G', i < n → J (i + 1) a' c' G' → Wp (self a' c' (w32 ((i : Int) + 1)) G') Q) → Wp (b self a c (i : Int) G) Q) {i : Nat} {a c : Int} {G : GS} (hi : i ≤ n) (hn : n < 5999) (hJ : J i a c G) : Wp (lh3 b 6000 a c (i : Int) G) Q := by
  refine w_lh3 (fun a c x G => ∃ i : Nat, x = (i : Int) ∧ i ≤ n ∧ J i a c G) (fun _ _ x _ => n - x.toNat) ?_ 6000 _ _ _ _ ⟨i, rfl, hi, hJ⟩ (by omega)
  rintro a c x G ⟨i, rfl, hi, hJ⟩ self ih
  refine st i a c G hi hJ self (fun a' c' G' hlt hJ' => ?_)
  rw [ws1 (by omega)]
  exact ih _ _ _ _ ⟨i + 1, rfl, by omega, hJ'⟩ (by omega)
end Loops
section Sheets
variable {V : GV} {R : GR} {Q : Int → GS → Prop}
def shk (V : GV) (R : GR) (s n : Nat) : Prop := s < rC R 31 ∧ s < rC R 32 ∧ s < rC R 33 ∧ rN R 32 s = n ∧ rN R 33 s = n ∧ V 31 s 0 = (s : Int) ∧ V 31 s 1 = (s : Int)
theorem shk.cg {V' : GV} {s n : Nat} (h : shk V R s n) (e : ∀ i k, V' 31 i k = V 31 i k) : shk V' R s n := by
  obtain ⟨a, b, c, d, f, g, i⟩ := h
  exact ⟨a, b, c, d, f, (e s 0).trans g, (e s 1).trans i⟩
theorem w_31 {s n : Nat} {k : Int} {f : Int → GO} (hS : SH R) (hs : shk V R s n) (hk : k = 0 ∨ k = 1) (q : Wp (f (s : Int)) Q) : Wp ((gl 31 (V, R) (s : Int) k).bind f) Q := by
  refine w_m hS (by decide) (by omega) (by rw [tn_c]; exact hs.1) (by omega) (by simp only [ml]; omega) (fun x hx => ?_)
  rw [tn_c] at hx
  rcases hk with rfl | rfl
  · simp only [Int.reduceToNat] at hx; rw [hs.2.2.2.2.2.1] at hx; subst hx; exact q
  · simp only [Int.reduceToNat] at hx; rw [hs.2.2.2.2.2.2] at hx; subst hx; exact q
theorem w_32 {s n k : Nat} {f : Int → GO} (hs : shk V R s n) (hk : k < n) (q : Wp (f (V 32 s k)) Q) : Wp ((gl 32 (V, R) (s : Int) (k : Int)).bind f) Q := by
  obtain ⟨a, b, c, d, e, g, i⟩ := hs
  refine w_gl (by omega) (by omega) (by omega) (by rw [tn_c, tn_c]; omega) (fun x hx => ?_)
  rw [tn_c, tn_c] at hx; subst hx; exact q
theorem w_33 {s n k : Nat} {f : Int → GO} (hs : shk V R s n) (hk : k < n) (q : Wp (f (V 33 s k)) Q) : Wp ((gl 33 (V, R) (s : Int) (k : Int)).bind f) Q := by
  obtain ⟨a, b, c, d, e, g, i⟩ := hs
  refine w_gl (by omega) (by omega) (by omega) (by rw [tn_c, tn_c]; omega) (fun x hx => ?_)
  rw [tn_c, tn_c] at hx; subst hx; exact q
theorem w_32s {s n k : Nat} {v : Int} {f : GS → GO} (hs : shk V R s n) (hk : k < n) (q : Wp (f (u3 V 32 s k v, R)) Q) : Wp ((gs 32 (V, R) (s : Int) (k : Int) v).bind f) Q := by
  obtain ⟨a, b, c, d, e, g, i⟩ := hs
  refine w_gs (by omega) (by omega) (by omega) (by rw [tn_c, tn_c]; omega) ?_
  rw [tn_c, tn_c]; exact q
theorem w_33s {s n k : Nat} {v : Int} {f : GS → GO} (hs : shk V R s n) (hk : k < n) (q : Wp (f (u3 V 33 s k v, R)) Q) : Wp ((gs 33 (V, R) (s : Int) (k : Int) v).bind f) Q := by
  obtain ⟨a, b, c, d, e, g, i⟩ := hs
  refine w_gs (by omega) (by omega) (by omega) (by rw [tn_c, tn_c]; omega) ?_
  rw [tn_c, tn_c]; exact q
def putv (V : GV) (s k : Nat) (v r : Int) : GV := u3 (u3 V 32 s k v) 33 s k r
theorem shk.u {r i j : Nat} {v : Int} {s n : Nat} (h : shk V R s n) (hr : 31 ≠ r) : shk (u3 V r i j v) R s n := h.cg (fun _ _ => u3_ne hr)
theorem w_put {s n k : Nat} {v : Int} {f : Int × GS → GO} (hS : SH R) (hs : shk V R s n) (hk : k < n) (q : Wp (f (0, (putv V s k v 0, R))) Q) : Wp ((g_X6_put (s : Int) (k : Int) v (V, R)).bind f) Q := by
  refine w_bind ?_
  unfold g_X6_put
  refine w_gv (by omega) ?_
  refine w_31 hS hs (Or.inl rfl) ?_
  refine w_32s hs hk ?_
  refine w_31 hS (hs.u (by decide)) (Or.inr rfl) ?_
  refine w_33s (hs.u (by decide)) hk ?_
  exact w_ret q
theorem w_lack {s n k : Nat} {v : Int} {f : Int × GS → GO} (hS : SH R) (hs : shk V R s n) (hk : k < n) (q : Wp (f (0, (putv V s k 0 v, R))) Q) : Wp ((g_X6_lack (s : Int) (k : Int) v (V, R)).bind f) Q := by
  refine w_bind ?_
  unfold g_X6_lack
  refine w_gv (by omega) ?_
  refine w_31 hS hs (Or.inl rfl) ?_
  refine w_32s hs hk ?_
  refine w_31 hS (hs.u (by decide)) (Or.inr rfl) ?_
  refine w_33s (hs.u (by decide)) hk ?_
  exact w_ret q
theorem w_persons {s n r : Nat} {f : Int × GS → GO} (hS : SH R) (hs : shk V R s n) (hr : r < 24) (hk : 5 * r < n) (h0 : 0 ≤ V 32 s (5 * r)) (h5 : V 32 s (5 * r) ≤ 5) (q : Wp (f (V 32 s (5 * r), (V, R))) Q) : Wp ((g_X6_persons (s : Int) (r : Int) (V, R)).bind f) Q := by
  refine w_bind ?_
  unfold g_X6_persons
  refine w_gv (by omega) ?_
  refine w_31 hS hs (Or.inl rfl) ?_
  refine w_spotn hr ?_
  refine w_32 hs hk ?_
  refine w_ret ?_
  rw [w32_id (by omega) (by omega)]; exact q
theorem w_placesOf {s n : Nat} {r : Int} {f : Int × GS → GO} (hS : SH R) (hs : shk V R s n) (hr : r = -1 ∨ ∃ m : Nat, r = (m : Int) ∧ m < 24 ∧ 5 * m < n) (h0 : 0 ≤ plc V s r) (h5 : plc V s r ≤ 5) (q : Wp (f (plc V s r, (V, R))) Q) : Wp ((g_X8_placesOf (s : Int) r (V, R)).bind f) Q := by
  refine w_bind ?_
  unfold g_X8_placesOf
  rcases hr with rfl | ⟨m, rfl, hm, hk⟩
  · exact w_ite (fun h => absurd rfl h) (fun _ => w_ret q)
  · refine w_ite (fun _ => ?_) (fun h => absurd (show ((m : Nat) : Int) ≠ -1 by omega) h)
    have e : plc V s (m : Int) = V 32 s (5 * m) := by unfold plc; rw [if_neg (by omega), tn_c]
    rw [e] at h0 h5 q
    exact w_persons hS hs hm hk h0 h5 (w_ret q)
end Sheets
