/-! THE START: the tables' facts at the law's entry, and the law's walk out of its pure function -/
theorem inT (i : Nat) {w : Cond} (h : tables_1[i]? = some w) : w ∈ lw_tbl := List.mem_append_right _ (List.mem_of_getElem? h)
theorem ins_0 : Cond.instantiable (cR 0) (cN 0) ∈ wsG := inG 454 (by decide +kernel) (by decide +kernel)
theorem ins_1 : Cond.instantiable (cR 1) (cN 1) ∈ wsG := inG 758 (by decide +kernel) (by decide +kernel)
theorem ins_2 : Cond.instantiable (cR 2) (cN 2) ∈ wsG := inG 102 (by decide +kernel) (by decide +kernel)
theorem ins_3 : Cond.instantiable (cR 3) (cN 3) ∈ wsG := inG 24 (by decide +kernel) (by decide +kernel)
theorem ins_4 : Cond.instantiable (cR 4) (cN 4) ∈ wsG := inG 301 (by decide +kernel) (by decide +kernel)
theorem ins_5 : Cond.instantiable (cR 5) (cN 5) ∈ wsG := inG 162 (by decide +kernel) (by decide +kernel)
theorem ins_6 : Cond.instantiable (cR 6) (cN 6) ∈ wsG := inG 307 (by decide +kernel) (by decide +kernel)
theorem ins_7 : Cond.instantiable (cR 7) (cN 7) ∈ wsG := inG 61 (by decide +kernel) (by decide +kernel)
theorem ins_8 : Cond.instantiable (cR 8) (cN 8) ∈ wsG := inG 16 (by decide +kernel) (by decide +kernel)
theorem ins_9 : Cond.instantiable (cR 9) (cN 9) ∈ wsG := inG 823 (by decide +kernel) (by decide +kernel)
theorem arc_0 : Cond.arrayClass (aty 0) ∈ wsG := inG 55 (by decide +kernel) (by decide +kernel)
theorem arc_1 : Cond.arrayClass (aty 1) ∈ wsG := inG 100 (by decide +kernel) (by decide +kernel)
theorem arc_2 : Cond.arrayClass (aty 2) ∈ wsG := inG 989 (by decide +kernel) (by decide +kernel)
theorem aro_3 : Cond.arrayOver (.object (aC 3)) ∈ lw_tbl := inT 32 (by decide +kernel)
theorem aro_4 : Cond.arrayOver (.object (aC 4)) ∈ lw_tbl := inT 59 (by decide +kernel)
theorem aro_5 : Cond.arrayOver (.object (aC 5)) ∈ lw_tbl := inT 57 (by decide +kernel)
theorem aro_6 : Cond.arrayOver (.object (aC 6)) ∈ lw_tbl := inT 30 (by decide +kernel)
theorem aro_7 : Cond.arrayOver (.object (aC 7)) ∈ lw_tbl := inT 730 (by decide +kernel)
theorem nst_0 : Cond.methodLinkNest RX8 37 yX2_init RX8 ∈ lw_tbl := inT 103 (by decide +kernel)
theorem nst_1 : Cond.methodLinkNest RX3 109 yX8_placesOf RX8 ∈ lw_tbl := inT 399 (by decide +kernel)
theorem nst_2 : Cond.methodLinkNest RX3 85 yX8_spot RX8 ∈ lw_tbl := inT 416 (by decide +kernel)
theorem nst_3 : Cond.methodLinkNest RX6 41 yX8_spot RX8 ∈ lw_tbl := inT 361 (by decide +kernel)
theorem cst_0 : Cond.castable "[I" "java/lang/Cloneable" ∈ lw_tbl := inT 756 (by decide +kernel)
theorem cst_1 : Cond.castable "[J" "java/lang/Cloneable" ∈ lw_tbl := inT 744 (by decide +kernel)
section Start
variable {s : State} {args : Array Value}
theorem st_cls (hts : ∀ w ∈ wsG, w.before args s = true) : ∀ c, ∃ (cC : ClassId) (iS : Nat → Nat), c < 10 → u_Kn s (cR c) (cT c) (cN c) cC iS := by
  intro c
  match c with
  | 0 => obtain ⟨a, b, h⟩ := u_known hts inl_0 (hts _ ins_0); exact ⟨a, b, fun _ => h⟩
  | 1 => obtain ⟨a, b, h⟩ := u_known hts inl_1 (hts _ ins_1); exact ⟨a, b, fun _ => h⟩
  | 2 => obtain ⟨a, b, h⟩ := u_known hts inl_2 (hts _ ins_2); exact ⟨a, b, fun _ => h⟩
  | 3 => obtain ⟨a, b, h⟩ := u_known hts inl_3 (hts _ ins_3); exact ⟨a, b, fun _ => h⟩
  | 4 => obtain ⟨a, b, h⟩ := u_known hts inl_4 (hts _ ins_4); exact ⟨a, b, fun _ => h⟩
  | 5 => obtain ⟨a, b, h⟩ := u_known hts inl_5 (hts _ ins_5); exact ⟨a, b, fun _ => h⟩
  | 6 => obtain ⟨a, b, h⟩ := u_known hts inl_6 (hts _ ins_6); exact ⟨a, b, fun _ => h⟩
  | 7 => obtain ⟨a, b, h⟩ := u_known hts inl_7 (hts _ ins_7); exact ⟨a, b, fun _ => h⟩
  | 8 => obtain ⟨a, b, h⟩ := u_known hts inl_8 (hts _ ins_8); exact ⟨a, b, fun _ => h⟩
  | 9 => obtain ⟨a, b, h⟩ := u_known hts inl_9 (hts _ ins_9); exact ⟨a, b, fun _ => h⟩
  | c + 10 => exact ⟨0, fun _ => 0, fun h => absurd h (by omega)⟩
theorem st_prim {ty : FieldType} (h3 : ty = .int ∨ ty = .long ∨ ty = .boolean) (h : (Cond.arrayClass ty).before args s = true) : ∃ cA, ArrOfT s cA ty ∧ va_RA s cA ty := by
  obtain ⟨c, k, comp, h1, h2, h4⟩ := Cond.arrayClass_spec h
  refine ⟨c, fun n z => ⟨fun k h => (by cases h), k, h2, comp, h4⟩, ?_⟩
  rcases h3 with rfl | rfl | rfl
  · unfold va_RA; exact h1
  · unfold va_RA; exact h1
  · unfold va_RA; exact h1
theorem st_obj {C : String} (h : (Cond.arrayOver (.object C)).before args s = true) : ∃ cA, ArrOfT s cA (.object C) ∧ va_RA s cA (.object C) := by
  obtain ⟨comp, c, k, h1, h2, h3, h4, h5⟩ := Cond.arrayOver_spec h
  exact ⟨c, fun n z => ⟨fun k h => (by cases h), k, h3, comp, h4⟩, k, comp, h3, h4, h1, h5⟩
theorem st_arr (hts : ∀ w ∈ lw_tbl, w.before args s = true) : ∀ t, ∃ cA : ClassId, t < 8 → ArrOfT s cA (aty t) ∧ va_RA s cA (aty t) := by
  have hg : ∀ w ∈ wsG, w.before args s = true := fun w h => hts w (List.mem_filter.mp h).1
  intro t
  match t with
  | 0 => obtain ⟨a, h⟩ := st_prim (aty3 (t := 0) (by decide)) (hg _ arc_0); exact ⟨a, fun _ => h⟩
  | 1 => obtain ⟨a, h⟩ := st_prim (aty3 (t := 1) (by decide)) (hg _ arc_1); exact ⟨a, fun _ => h⟩
  | 2 => obtain ⟨a, h⟩ := st_prim (aty3 (t := 2) (by decide)) (hg _ arc_2); exact ⟨a, fun _ => h⟩
  | 3 => obtain ⟨a, h⟩ := st_obj (hts _ aro_3); exact ⟨a, fun _ => h⟩
  | 4 => obtain ⟨a, h⟩ := st_obj (hts _ aro_4); exact ⟨a, fun _ => h⟩
  | 5 => obtain ⟨a, h⟩ := st_obj (hts _ aro_5); exact ⟨a, fun _ => h⟩
  | 6 => obtain ⟨a, h⟩ := st_obj (hts _ aro_6); exact ⟨a, fun _ => h⟩
  | 7 => obtain ⟨a, h⟩ := st_obj (hts _ aro_7); exact ⟨a, fun _ => h⟩
  | t + 8 => exact ⟨0, fun h => absurd h (by omega)⟩
theorem kf_start (hts : ∀ w ∈ lw_tbl, w.before args s = true) : ∃ D A, KF D A s := by
  have hg : ∀ w ∈ wsG, w.before args s = true := fun w h => hts w (List.mem_filter.mp h).1
  refine ⟨(fun c => Classical.choose (st_cls hg c), fun c => Classical.choose (Classical.choose_spec (st_cls hg c))), fun t => Classical.choose (st_arr hts t), fun c hc => Classical.choose_spec (Classical.choose_spec (st_cls hg c)) hc, fun t ht => Classical.choose_spec (st_arr hts t) ht, ?_, va_Nw.of rfl (hts _ nst_0), va_Nw.of rfl (hts _ nst_1), va_Nw.of rfl (hts _ nst_2), va_Nw.of rfl (hts _ nst_3), va_Nw.of rfl (hts _ cst_0), va_Nw.of rfl (hts _ cst_1)⟩
  intro t h3 h8
  obtain rfl | rfl | rfl | rfl | rfl : t = 3 ∨ t = 4 ∨ t = 5 ∨ t = 6 ∨ t = 7 := by omega
  · exact va_AO.of (hts _ aro_3)
  · exact va_AO.of (hts _ aro_4)
  · exact va_AO.of (hts _ aro_5)
  · exact va_AO.of (hts _ aro_6)
  · exact va_AO.of (hts _ aro_7)
end Start
/-- what is left to show, in pure Lean: on every script the law's pure function answers 1 -/
def PureLaw : Prop := ∀ X : List Int, X.length ≤ 3584 → (∀ x ∈ X, -2147483648 ≤ x ∧ x ≤ 2147483647) → ∃ HH, f_L_law X [] = some (1, HH)
theorem whole_of_pure (hp : PureLaw) {p : Program} {e : Env} {s : State} {m : MethodId} {below : List Frame} {meth : Method} {c : Code} (l : Launch) {b L : Nat} {xs : Nat → Int32} (hL : L ≤ 3584) (C0 : lw_At p s m meth c b L xs) : W p l e room_1 s m #[Value.ref b] below meth c s.heap [] 0 0 (lw_Z below #[Value.ref b] s) (entryFrame m ([Value.ref b] : List Value).toArray 4) := by
  obtain ⟨hx, hb, hr, hml, hown, hts, hX, hbl, hlocks, hgv⟩ := C0
  obtain ⟨D, A, hK⟩ := kf_start hts
  obtain ⟨HH, hH⟩ := hp ((List.range L).map fun j => (xs j).toInt) (by simpa using hL) (by
    intro x hx
    obtain ⟨j, -, rfl⟩ := List.mem_map.mp hx
    have h1 := Int32.le_toInt (xs j)
    have h2 := Int32.toInt_lt (xs j)
    omega)
  have hH0 : HR D A s.heap.size [] s.heap := ⟨rfl, by decide, by decide, fun k c h => by simp at h⟩
  have hlen : ((List.range L).map fun j => (xs j).toInt).length = L := by simp
  have hPW := m_L_law (E := (p, l, e, room_1, s, m, #[Value.ref b], below, meth, c, lw_Z below #[Value.ref b] s, D, A, s.heap.size, 4)) (b := b)
    ⟨hx, hb, hml, hown, fun w h => hts w (List.mem_filter.mp h).1, hK, hlocks, [], hH0, rfl, rfl⟩ ⟨rfl, hr, rfl, b, rfl, rfl⟩
    ⟨xs, by rw [hlen]; exact hX, hbl, by rw [hlen]; exact hL, fun j hj => by rw [hlen] at hj; rw [List.getElem?_map, List.getElem?_range hj]; rfl⟩ rfl rfl rfl [] hH
  rw [lg_entry_eq]
  refine hPW s.heap [] _ [] 0 0 hH0 (fun _ _ => rfl) (fun q hq => by cases hq) ?_ trivial
  exact LR.entry (n := 4) (vs := [vsc (b : Int)]) (xs := [.ref b]) ⟨rfl, trivial⟩ (Nat.le_of_ble_eq_true rfl)
