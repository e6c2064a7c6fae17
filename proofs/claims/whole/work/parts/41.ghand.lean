/-! fill and copyOf over states by roles -/
theorem w32_id {x : Int} (h1 : -2147483648 ≤ x) (h2 : x ≤ 2147483647) : w32 x = x := by
  unfold w32
  exact Int.bmod_eq_of_le_mul_two (by omega) (by omega)
theorem w64_id {x : Int} (h1 : -9223372036854775808 ≤ x) (h2 : x ≤ 9223372036854775807) : w64 x = x := by
  unfold w64
  exact Int.bmod_eq_of_le_mul_two (by omega) (by omega)
section Hand
variable {ad : Nat → Nat → Nat} {Cn : Nat → Nat} {H : PH} {G : GS} {r : Nat}
/-- a whole cell without references written anew -/
def gall (r i : Nat) (f : Nat → Int) (G : GS) : GS := ((fun r' i' k' => if r' = r ∧ i' = i then f k' else gV G r' i' k'), G.2)
theorem SimA.setc (hS : SimA ad Cn H G) {i : Nat} (hi : i < Cn r) (hr : ∀ k, rtr r k = 0) (f : Nat → Int) : SimA ad Cn (H.set (ad r i) (rtag r, (List.range (gN G r i)).map f)) (gall r i f G) := by
  obtain ⟨s1, s2, s3, s4, s5, s6⟩ := hS
  have hH := s4 r i hi
  refine ⟨s1, by rw [List.length_set]; exact s2, by rw [szs_set hH (by simp [gcel])]; exact s3, fun r' i' hi' => ?_, s5, fun r' i' k' ρ hi' hk' hr' => ?_⟩
  · by_cases hq : r' = r ∧ i' = i
    · obtain ⟨rfl, rfl⟩ := hq
      rw [List.getElem?_set]
      have hlt : ad r' i' < H.length := (List.getElem?_eq_some_iff.mp hH).1
      simp only [if_true, hlt]
      congr 2
      unfold gcel
      apply List.map_congr_left
      intro k _
      rw [hr k]
      show f k = if r' = r' ∧ i' = i' then f k else _
      rw [if_pos ⟨rfl, rfl⟩]
    · have hne : ad r i ≠ ad r' i' := fun q => hq (by
        obtain ⟨q1, q2⟩ := s5 r' i' r i hi' hi q.symm
        exact ⟨q1, q2⟩)
      rw [List.getElem?_set_ne hne, s4 r' i' hi']
      congr 2
      unfold gcel
      apply List.map_congr_left
      intro k _
      show rval ad _ (gV G r' i' k) = rval ad _ (if r' = r ∧ i' = i then f k else gV G r' i' k)
      rw [if_neg hq]
  · by_cases hq : r' = r ∧ i' = i
    · rw [hq.1, hr k'] at hr'; cases hr'
    · have hy : gV (gall r i f G) r' i' k' = gV G r' i' k' := if_neg hq
      rw [hy]
      exact s6 r' i' k' ρ hi' hk' hr'
def gfl (r : Nat) (i x : Int) (G : GS) : GO := if 0 ≤ i ∧ i.toNat < gC G r ∧ gN G r i.toNat < 6000 then some (0, gall r i.toNat (fun _ => x) G) else none
def gcp (r rd : Nat) (i n : Int) (G : GS) : GO := if 0 ≤ i ∧ i.toNat < gC G r then (gn rd n G).bind fun z => some (z.1, gall rd (gC G rd) (fun k => if k < gN G r i.toNat then gV G r i.toNat k else 0) z.2) else none
theorem set_set' {H : PH} {k : Nat} {c d : Nat × List Int} : (H.set k c).set k d = H.set k d := by simp
end Hand
theorem fill_loop_J7_fill_53178 (a x : Int) (len : Nat) (hlen : (len : Int) ≤ 2147483646) : ∀ (m : Nat) (i : Nat) (H : PH) (ys : List Int), gcell H a = some (0, ys) → ys.length = len → i ≤ len → len - i ≤ m → (∀ j, j < i → ys[j]? = some x) → lq1 (lJ7_fill_53178_5 a x (len : Int)) (m + 1) (i : Int) H = some (0, H.set a.toNat (0, List.replicate len x)) := by
  intro m
  induction m with
  | zero =>
    intro i H ys hc hl hi hm hx
    obtain rfl : i = len := by omega
    rw [lq1_s]
    generalize lq1 (lJ7_fill_53178_5 a x (i : Int)) 0 = self
    unfold lJ7_fill_53178_5
    rw [if_pos (by omega)]
    have hys : ys = List.replicate i x := by
      apply List.ext_getElem?
      intro j
      rw [List.getElem?_replicate]
      by_cases hj : j < i
      · rw [if_pos hj, hx j hj]
      · rw [if_neg hj, List.getElem?_eq_none (by omega)]
    obtain ⟨h1, h2⟩ := gcell_spec hc
    rw [← hys]
    congr 2
    apply List.ext_getElem?
    intro j
    by_cases hj : a.toNat = j
    · subst hj
      rw [List.getElem?_set, h2]
      simp [(List.getElem?_eq_some_iff.mp h2).1]
    · rw [List.getElem?_set_ne hj]
  | succ m ih =>
    intro i H ys hc hl hi hm hx
    by_cases hil : i = len
    · subst hil
      rw [lq1_s]
      generalize lq1 (lJ7_fill_53178_5 a x (i : Int)) (m + 1) = self
      unfold lJ7_fill_53178_5
      rw [if_pos (by omega)]
      have hys : ys = List.replicate i x := by
        apply List.ext_getElem?
        intro j
        rw [List.getElem?_replicate]
        by_cases hj : j < i
        · rw [if_pos hj, hx j hj]
        · rw [if_neg hj, List.getElem?_eq_none (by omega)]
      obtain ⟨h1, h2⟩ := gcell_spec hc
      rw [← hys]
      congr 2
      apply List.ext_getElem?
      intro j
      by_cases hj : a.toNat = j
      · subst hj
        rw [List.getElem?_set, h2]
        simp [(List.getElem?_eq_some_iff.mp h2).1]
      · rw [List.getElem?_set_ne hj]
    · rw [lq1_s]
      generalize lq1 (lJ7_fill_53178_5 a x (len : Int)) (m + 1) = self at ih ⊢
      unfold lJ7_fill_53178_5
      rw [if_neg (by omega)]
      obtain ⟨h1, h2⟩ := gcell_spec hc
      have hst : stv 0 H a (i : Int) x = some (H.set a.toNat (0, ys.set i x)) := by
        unfold stv
        rw [hc]
        show (if 0 = 0 ∧ 0 ≤ (i : Int) ∧ (i : Int) < (ys.length : Int) then _ else none) = _
        rw [if_pos ⟨rfl, by omega, by omega⟩]
        simp
      rw [hst, Option.bind_some]
      have hw : w32 ((i : Int) + 1) = ((i + 1 : Nat) : Int) := by
        rw [w32_id (Int.le_trans (by decide) (Int.le_add_one (Int.natCast_nonneg i))) (by omega)]; rfl
      rw [hw, ih (i + 1) (H.set a.toNat (0, ys.set i x)) (ys.set i x) ?_ (by simpa using hl) (by omega) (by omega) ?_]
      · rw [set_set']
      · unfold gcell
        rw [if_pos h1, List.getElem?_set]
        simp [(List.getElem?_eq_some_iff.mp h2).1]
      · intro j hj
        by_cases hji : i = j
        · subst hji
          rw [List.getElem?_set]
          simp; omega
        · rw [List.getElem?_set_ne hji]
          exact hx j (by omega)
theorem sfl_J7_fill_53178 {ad : Nat → Nat → Nat} {Cn : Nat → Nat} {H : PH} {G : GS} (r : Nat) {a i x : Int} {z : Int × GS} (hS : SimA ad Cn H G) (w : vrel ad Cn r a i) (ht : rtag r = 0) (hr : ∀ k, rtr r k = 0) (e : gfl r i x G = some z) : RS ad Cn (f_J7_fill_53178 a x H) 0 z.1 z.2 := by
  unfold gfl at e
  split at e
  · rename_i hb
    cases e
    obtain ⟨c1, c2, c3⟩ := hS.cell w hb.1
    rw [ht] at c2
    have hl : (gcel ad G r i.toNat).length = gN G r i.toNat := by simp [gcel]
    have hf : f_J7_fill_53178 a x H = some (0, H.set a.toNat (0, List.replicate (gN G r i.toNat) x)) := by
      unfold f_J7_fill_53178
      rw [alen_of c2 (by decide), hl]
      exact fill_loop_J7_fill_53178 a x _ (by omega) 5999 0 H _ c2 hl (by omega) (by omega) (fun j hj => by omega)
    refine ⟨ad, Cn, 0, _, hf, ?_, Ext.rf, rfl⟩
    have := hS.setc c3 hr (fun _ => x)
    have ha : a.toNat = ad r i.toNat := by omega
    rw [ht, ← ha] at this
    have hrep : (List.range (gN G r i.toNat)).map (fun _ => x) = List.replicate (gN G r i.toNat) x := by rw [List.map_const', List.length_range]
    rw [hrep] at this
    exact this
  · cases e
theorem fill_loop_J7_fill_d0a16 (a x : Int) (len : Nat) (hlen : (len : Int) ≤ 2147483646) : ∀ (m : Nat) (i : Nat) (H : PH) (ys : List Int), gcell H a = some (1, ys) → ys.length = len → i ≤ len → len - i ≤ m → (∀ j, j < i → ys[j]? = some x) → lq1 (lJ7_fill_d0a16_6 a x (len : Int)) (m + 1) (i : Int) H = some (0, H.set a.toNat (1, List.replicate len x)) := by
  intro m
  induction m with
  | zero =>
    intro i H ys hc hl hi hm hx
    obtain rfl : i = len := by omega
    rw [lq1_s]
    generalize lq1 (lJ7_fill_d0a16_6 a x (i : Int)) 0 = self
    unfold lJ7_fill_d0a16_6
    rw [if_pos (by omega)]
    have hys : ys = List.replicate i x := by
      apply List.ext_getElem?
      intro j
      rw [List.getElem?_replicate]
      by_cases hj : j < i
      · rw [if_pos hj, hx j hj]
      · rw [if_neg hj, List.getElem?_eq_none (by omega)]
    obtain ⟨h1, h2⟩ := gcell_spec hc
    rw [← hys]
    congr 2
    apply List.ext_getElem?
    intro j
    by_cases hj : a.toNat = j
    · subst hj
      rw [List.getElem?_set, h2]
      simp [(List.getElem?_eq_some_iff.mp h2).1]
    · rw [List.getElem?_set_ne hj]
  | succ m ih =>
    intro i H ys hc hl hi hm hx
    by_cases hil : i = len
    · subst hil
      rw [lq1_s]
      generalize lq1 (lJ7_fill_d0a16_6 a x (i : Int)) (m + 1) = self
      unfold lJ7_fill_d0a16_6
      rw [if_pos (by omega)]
      have hys : ys = List.replicate i x := by
        apply List.ext_getElem?
        intro j
        rw [List.getElem?_replicate]
        by_cases hj : j < i
        · rw [if_pos hj, hx j hj]
        · rw [if_neg hj, List.getElem?_eq_none (by omega)]
      obtain ⟨h1, h2⟩ := gcell_spec hc
      rw [← hys]
      congr 2
      apply List.ext_getElem?
      intro j
      by_cases hj : a.toNat = j
      · subst hj
        rw [List.getElem?_set, h2]
        simp [(List.getElem?_eq_some_iff.mp h2).1]
      · rw [List.getElem?_set_ne hj]
    · rw [lq1_s]
      generalize lq1 (lJ7_fill_d0a16_6 a x (len : Int)) (m + 1) = self at ih ⊢
      unfold lJ7_fill_d0a16_6
      rw [if_neg (by omega)]
      obtain ⟨h1, h2⟩ := gcell_spec hc
      have hst : stv 1 H a (i : Int) x = some (H.set a.toNat (1, ys.set i x)) := by
        unfold stv
        rw [hc]
        show (if 1 = 1 ∧ 0 ≤ (i : Int) ∧ (i : Int) < (ys.length : Int) then _ else none) = _
        rw [if_pos ⟨rfl, by omega, by omega⟩]
        simp
      rw [hst, Option.bind_some]
      have hw : w32 ((i : Int) + 1) = ((i + 1 : Nat) : Int) := by
        rw [w32_id (Int.le_trans (by decide) (Int.le_add_one (Int.natCast_nonneg i))) (by omega)]; rfl
      rw [hw, ih (i + 1) (H.set a.toNat (1, ys.set i x)) (ys.set i x) ?_ (by simpa using hl) (by omega) (by omega) ?_]
      · rw [set_set']
      · unfold gcell
        rw [if_pos h1, List.getElem?_set]
        simp [(List.getElem?_eq_some_iff.mp h2).1]
      · intro j hj
        by_cases hji : i = j
        · subst hji
          rw [List.getElem?_set]
          simp; omega
        · rw [List.getElem?_set_ne hji]
          exact hx j (by omega)
theorem sfl_J7_fill_d0a16 {ad : Nat → Nat → Nat} {Cn : Nat → Nat} {H : PH} {G : GS} (r : Nat) {a i x : Int} {z : Int × GS} (hS : SimA ad Cn H G) (w : vrel ad Cn r a i) (ht : rtag r = 1) (hr : ∀ k, rtr r k = 0) (e : gfl r i x G = some z) : RS ad Cn (f_J7_fill_d0a16 a x H) 0 z.1 z.2 := by
  unfold gfl at e
  split at e
  · rename_i hb
    cases e
    obtain ⟨c1, c2, c3⟩ := hS.cell w hb.1
    rw [ht] at c2
    have hl : (gcel ad G r i.toNat).length = gN G r i.toNat := by simp [gcel]
    have hf : f_J7_fill_d0a16 a x H = some (0, H.set a.toNat (1, List.replicate (gN G r i.toNat) x)) := by
      unfold f_J7_fill_d0a16
      rw [alen_of c2 (by decide), hl]
      exact fill_loop_J7_fill_d0a16 a x _ (by omega) 5999 0 H _ c2 hl (by omega) (by omega) (fun j hj => by omega)
    refine ⟨ad, Cn, 0, _, hf, ?_, Ext.rf, rfl⟩
    have := hS.setc c3 hr (fun _ => x)
    have ha : a.toNat = ad r i.toNat := by omega
    rw [ht, ← ha] at this
    have hrep : (List.range (gN G r i.toNat)).map (fun _ => x) = List.replicate (gN G r i.toNat) x := by rw [List.map_const', List.length_range]
    rw [hrep] at this
    exact this
  · cases e
theorem scp_J7_copyOf_59c91 {ad : Nat → Nat → Nat} {Cn : Nat → Nat} {H : PH} {G : GS} (r rd : Nat) {a i n : Int} {z : Int × GS} (hS : SimA ad Cn H G) (w : vrel ad Cn r a i) (ht : rtag r = 0) (htd : rtag rd = 0) (hr : ∀ k, rtr r k = 0) (hrd : ∀ k, rtr rd k = 0) (e : gcp r rd i n G = some z) : RS ad Cn (f_J7_copyOf_59c91 a n H) (rd + 1) z.1 z.2 := by
  unfold gcp at e
  split at e
  · rename_i hb
    obtain ⟨⟨v1, G1⟩, e1, e2⟩ := bnd e
    cases e2
    obtain ⟨c1, c2, c3⟩ := hS.cell w hb.1
    rw [ht] at c2
    obtain ⟨ad1, Cn1, k1, k2, k3, k4⟩ := new_sim hS e1
    obtain ⟨q1, q2, q3, q4, q5, q6⟩ := gn_spec e1
    have hC : gC G = Cn := hS.1
    have hidx : gC G rd < Cn1 rd := by
      rcases k4 with ⟨q, -⟩ | ⟨-, q, -⟩
      · omega
      · rw [q5] at q; simpa using q
    have hadd : (H.length : Int) = (ad1 rd (gC G rd) : Int) := by
      rcases k4 with ⟨q, -⟩ | ⟨-, -, q⟩
      · omega
      · rw [q5] at q; simpa using q
    have hN1 : gN G1 rd (gC G rd) = n.toNat := by rw [q6]; simp [gN]
    have hset := k2.setc hidx hrd (fun k => if k < gN G r i.toNat then gV G r i.toNat k else 0)
    have ha : ad1 rd (gC G rd) = H.length := by omega
    rw [ha, htd, hN1, List.set_append_right _ _ (Nat.le_refl _), Nat.sub_self, List.set_cons_zero] at hset
    have hlist : (List.range n.toNat).map (fun k => if k < gN G r i.toNat then gV G r i.toNat k else 0) = (gcel ad G r i.toNat).take n.toNat ++ List.replicate (n.toNat - (gcel ad G r i.toNat).length) 0 := by
      have hl : (gcel ad G r i.toNat).length = gN G r i.toNat := by simp [gcel]
      apply List.ext_getElem?
      intro k
      by_cases hk : k < n.toNat
      · rw [List.getElem?_map, List.getElem?_range hk]
        by_cases hkl : k < gN G r i.toNat
        · rw [List.getElem?_append_left (by simp [hl]; omega), List.getElem?_take, if_pos hk, gcel_get hkl, hr k]
          simp [hkl, rval]
        · rw [List.getElem?_append_right (by simp [hl]; omega), List.getElem?_replicate]
          simp [hl, hkl]; omega
      · rw [List.getElem?_eq_none (by simpa using hk), List.getElem?_eq_none (by simp [hl]; omega)]
    rw [hlist] at hset
    refine ⟨ad1, Cn1, (H.length : Int), _, ?_, hset, k3, k4⟩
    unfold f_J7_copyOf_59c91 cpof
    rw [c2]
    show (if 0 = 0 ∧ 0 ≤ n ∧ n ≤ 100000 then _ else none) = _
    rw [if_pos ⟨rfl, q1, q2⟩]
    unfold alc
    have hle := hS.2.1
    have hse := hS.2.2.1
    rw [if_pos ⟨by omega, by
      show szs H + ((gcel ad G r i.toNat).take n.toNat ++ List.replicate (n.toNat - (gcel ad G r i.toNat).length) 0).length ≤ 7302250
      rw [← hlist]; simp; omega⟩]
  · cases e
theorem scp_J7_copyOf_c38d5 {ad : Nat → Nat → Nat} {Cn : Nat → Nat} {H : PH} {G : GS} (r rd : Nat) {a i n : Int} {z : Int × GS} (hS : SimA ad Cn H G) (w : vrel ad Cn r a i) (ht : rtag r = 1) (htd : rtag rd = 1) (hr : ∀ k, rtr r k = 0) (hrd : ∀ k, rtr rd k = 0) (e : gcp r rd i n G = some z) : RS ad Cn (f_J7_copyOf_c38d5 a n H) (rd + 1) z.1 z.2 := by
  unfold gcp at e
  split at e
  · rename_i hb
    obtain ⟨⟨v1, G1⟩, e1, e2⟩ := bnd e
    cases e2
    obtain ⟨c1, c2, c3⟩ := hS.cell w hb.1
    rw [ht] at c2
    obtain ⟨ad1, Cn1, k1, k2, k3, k4⟩ := new_sim hS e1
    obtain ⟨q1, q2, q3, q4, q5, q6⟩ := gn_spec e1
    have hC : gC G = Cn := hS.1
    have hidx : gC G rd < Cn1 rd := by
      rcases k4 with ⟨q, -⟩ | ⟨-, q, -⟩
      · omega
      · rw [q5] at q; simpa using q
    have hadd : (H.length : Int) = (ad1 rd (gC G rd) : Int) := by
      rcases k4 with ⟨q, -⟩ | ⟨-, -, q⟩
      · omega
      · rw [q5] at q; simpa using q
    have hN1 : gN G1 rd (gC G rd) = n.toNat := by rw [q6]; simp [gN]
    have hset := k2.setc hidx hrd (fun k => if k < gN G r i.toNat then gV G r i.toNat k else 0)
    have ha : ad1 rd (gC G rd) = H.length := by omega
    rw [ha, htd, hN1, List.set_append_right _ _ (Nat.le_refl _), Nat.sub_self, List.set_cons_zero] at hset
    have hlist : (List.range n.toNat).map (fun k => if k < gN G r i.toNat then gV G r i.toNat k else 0) = (gcel ad G r i.toNat).take n.toNat ++ List.replicate (n.toNat - (gcel ad G r i.toNat).length) 0 := by
      have hl : (gcel ad G r i.toNat).length = gN G r i.toNat := by simp [gcel]
      apply List.ext_getElem?
      intro k
      by_cases hk : k < n.toNat
      · rw [List.getElem?_map, List.getElem?_range hk]
        by_cases hkl : k < gN G r i.toNat
        · rw [List.getElem?_append_left (by simp [hl]; omega), List.getElem?_take, if_pos hk, gcel_get hkl, hr k]
          simp [hkl, rval]
        · rw [List.getElem?_append_right (by simp [hl]; omega), List.getElem?_replicate]
          simp [hl, hkl]; omega
      · rw [List.getElem?_eq_none (by simpa using hk), List.getElem?_eq_none (by simp [hl]; omega)]
    rw [hlist] at hset
    refine ⟨ad1, Cn1, (H.length : Int), _, ?_, hset, k3, k4⟩
    unfold f_J7_copyOf_c38d5 cpof
    rw [c2]
    show (if 1 = 1 ∧ 0 ≤ n ∧ n ≤ 100000 then _ else none) = _
    rw [if_pos ⟨rfl, q1, q2⟩]
    unfold alc
    have hle := hS.2.1
    have hse := hS.2.2.1
    rw [if_pos ⟨by omega, by
      show szs H + ((gcel ad G r i.toNat).take n.toNat ++ List.replicate (n.toNat - (gcel ad G r i.toNat).length) 0).length ≤ 7302250
      rw [← hlist]; simp; omega⟩]
  · cases e
