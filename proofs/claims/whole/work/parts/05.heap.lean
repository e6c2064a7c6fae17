/-! RULES: fields, arrays, new cells -/
theorem asg_self (vm : Vm) (c : ClassId) : vm.assignable c c = true := by
  show vm.assignableAux (255 + 1) c c = true
  rw [Vm.assignableAux]
  simp only [beq_self_eq_true, Bool.true_or]
theorem le_sum_mem : ∀ {l : List Nat} {x : Nat}, x ∈ l → x ≤ l.sum
  | [], _, h => by cases h
  | y :: l, x, h => by
    rcases List.mem_cons.mp h with rfl | h
    · simp
    · have := le_sum_mem h
      simp; omega
theorem dfl_len (c : Nat) : (dfl c).length = cN c := by simp [dfl]
section HeapFacts
variable {D : va_G} {A : Nat → ClassId} {base : Nat} {H : PH} {MH : Heap}
theorem KF.arr {U : State} (h : KF D A U) {t : Nat} (ht : t < 8) {cell : Cell} (hc : cell.cls = clsOf D A t) (hv : cell.vm = .none) : U.isArrayOf cell (aty t) := by
  obtain ⟨-, k, hk, comp, hkind⟩ := (h.2.1 t ht).1 0 (fun _ => .null)
  refine ⟨fun q => (by rw [hv]; exact fun z => (by cases z)), k, ?_, comp, hkind⟩
  rw [hc]
  have : clsOf D A t = A t := by unfold clsOf; rw [if_pos (by omega)]
  rw [this]; exact hk
theorem pos_arr {t j : Nat} (ht : t < 8) : posOf D t j = j := by unfold posOf; rw [if_pos (by omega)]
theorem fty_arr {t j : Nat} (ht : t < 8) : fty t j = aty t := by unfold fty; rw [if_pos (by omega)]
theorem pos_obj {c j : Nat} : posOf D (16 + c) j = D.2 c j := by unfold posOf; rw [if_neg (by omega), show 16 + c - 16 = c by omega]
theorem cls_obj {c : Nat} : clsOf D A (16 + c) = D.1 c := by unfold clsOf; rw [if_neg (by omega), show 16 + c - 16 = c by omega]
theorem fty_obj {c j : Nat} : fty (16 + c) j = cty c j := by unfold fty; rw [if_neg (by omega), show 16 + c - 16 = c by omega]
/-- the relation behind a store into one place of one cell -/
theorem HR.put {k j t : Nat} {xs : List Int} {x : Int} {v : Value} {cell : Cell} {MH' : Heap} (h : HR D A base H MH) (hk : H[k]? = some (t, xs)) (hj : j < xs.length) (hc : MH[base + k]? = some cell) (hinj : ∀ i, i < xs.length → i ≠ j → posOf D t i ≠ posOf D t j)
    (e1 : MH'[base + k]? = some (cell.setSlot (posOf D t j) v)) (e2 : MH'.size = MH.size) (e3 : ∀ q, q ≠ base + k → MH'[q]? = MH[q]?) (hlt : posOf D t j < cell.slots.size) (hr : rv base (kd (fty t j), x) v) : HR D A base (H.set k (t, xs.set j x)) MH' := by
  obtain ⟨h1, h2, h3, h4⟩ := h
  refine ⟨by rw [e2, h1]; simp, by simpa using h2, by rw [szs_set hk (by simp)]; exact h3, fun k' c' hk' => ?_⟩
  by_cases hkk : k = k'
  · subst hkk
    have hlt : k < H.length := (List.getElem?_eq_some_iff.mp hk).1
    rw [List.getElem?_set] at hk'
    simp [hlt] at hk'
    subst hk'
    obtain ⟨cell', f1, f2, f3, f4, f5, f6⟩ := h4 k _ hk
    cases hc.symm.trans f1
    refine ⟨_, e1, f2, by simpa [Cell.setSlot] using f3, f4, by simpa using f5, fun i y hy => ?_⟩
    dsimp only at hy
    by_cases hij : i = j
    · subst hij
      rw [List.getElem?_set] at hy
      simp [hj] at hy
      subst hy
      exact ⟨v, by simpa using Cell.slots_setSlot_self v ‹_›, hr⟩
    · have hij' : j ≠ i := fun q => hij q.symm
      rw [List.getElem?_set_ne hij'] at hy
      obtain ⟨w, g1, g2⟩ := f6 i y hy
      have hil : i < xs.length := (List.getElem?_eq_some_iff.mp hy).1
      exact ⟨w, by rw [slot_ne _ _ (Ne.symm (hinj i hil hij))]; exact g1, g2⟩
  · rw [List.getElem?_set_ne hkk] at hk'
    exact (h4 k' c' hk').kept (e3 _ (fun q => hkk (by omega)))
theorem HR.push {c : Nat × List Int} {MH' : Heap} (h : HR D A base H MH) (hl : H.length < 600000) (hz : szs H + c.2.length ≤ 7302250) (e2 : MH'.size = MH.size + 1) (e3 : ∀ q, q < MH.size → MH'[q]? = MH[q]?) (hc : CR D A base c MH' H.length) : HR D A base (H ++ [c]) MH' := by
  obtain ⟨h1, h2, h3, h4⟩ := h
  refine ⟨by rw [e2, h1]; simp; omega, by simp; omega, by rw [szs_app]; exact hz, fun k c' hk => ?_⟩
  by_cases hkl : k < H.length
  · rw [List.getElem?_append_left hkl] at hk
    exact (h4 k c' hk).kept (e3 _ (by omega))
  · have hlt := (List.getElem?_eq_some_iff.mp hk).1
    simp at hlt
    obtain rfl : k = H.length := by omega
    simp at hk
    subst hk
    exact hc
theorem idx_in {i : Int32} {j : Int} {n : Nat} (hi : i.toInt = j) (h0 : 0 ≤ j) (hn : j.toNat < n) : ¬ (i < 0 ∨ n ≤ i.toNatClampNeg) ∧ i.toNatClampNeg = j.toNat := by
  have e : i.toNatClampNeg = j.toNat := by rw [← hi]; rfl
  refine ⟨?_, e⟩
  rw [e, Int32.lt_iff_toInt_lt, hi]
  simp
  omega
end HeapFacts
section Rules3
variable {E : PE} {cc : ByteArray} {own : String} {pc : Nat} {ls : PL} {st : List PV} {H H' : PH}
def methOf (E : PE) : String := E.2.2.2.2.2.2.2.2.1.name
theorem slots_apart {s : State} {args : Array Value} {D : va_G} {A : Nat → ClassId} {base : Nat} (hK : KF D A s) (hts : ∀ w ∈ wsG, w.before args s = true) {c0 : Nat} (hc0 : c0 < 10) (hin : ∀ w ∈ u_ws (cR c0) (cT c0) (cN c0), w ∈ wsG) : ∀ x y, x < cN c0 → y < cN c0 → x ≠ y → D.2 c0 x ≠ D.2 c0 y := by
  intro x y hx hy hne
  obtain ⟨hS, -⟩ := hK.1 c0 hc0
  obtain ⟨_, _, _, fa, hia, ea⟩ := hS x hx
  obtain ⟨_, _, _, fb, hib, eb⟩ := hS y hy
  rw [← ea, ← eb]
  refine u_apart (u_lays hts hin hx) (u_lays hts hin hy) hia hib ?_
  rw [(State.fieldFound?_type hia (cty_ok c0 hc0 x hx)).1, (State.fieldFound?_type hib (cty_ok c0 hc0 y hy)).1]
  exact cnm c0 hc0 x hx y hy hne
theorem bool_nar {z : Int32} {x : Int} (hz : z.toInt = x) (hb : x = 0 ∨ x = 1) : narrow .boolean (.int z) = .int z := by
  rcases hb with h | h
  · obtain rfl : z = 0 := Int32.toInt_inj.mp (by rw [hz, h]; rfl)
    rfl
  · obtain rfl : z = 1 := Int32.toInt_inj.mp (by rw [hz, h]; rfl)
    rfl
/-- what may be written into a field: of a boolean 0 or 1, else what its kind says -/
def okf (ty : FieldType) (x : Int) : Prop := match ty with
  | .boolean => x = 0 ∨ x = 1
  | _ => True
theorem fit_of {base : Nat} {ty : FieldType} {x : Int} {v : Value} (h : rv base (kd ty, x) v) (ho : okf ty x) : narrow ty v = v ∧ fits ty v = true := by
  cases ty with
  | int => obtain ⟨z, rfl, -⟩ := h; exact ⟨rfl, rfl⟩
  | boolean =>
    obtain ⟨z, rfl, hz⟩ := h
    refine ⟨bool_nar hz ho, ?_⟩
    dsimp only at hz
    rcases ho with h | h
    · obtain rfl : z = 0 := Int32.toInt_inj.mp (by rw [hz, h]; rfl)
      rfl
    · obtain rfl : z = 1 := Int32.toInt_inj.mp (by rw [hz, h]; rfl)
      rfl
  | long => obtain ⟨z, rfl, -⟩ := h; exact ⟨rfl, rfl⟩
  | object n => rcases h with ⟨-, rfl⟩ | ⟨-, rfl⟩ <;> exact ⟨rfl, rfl⟩
  | array t => rcases h with ⟨-, rfl⟩ | ⟨-, rfl⟩ <;> exact ⟨rfl, rfl⟩
  | _ => exact absurd h (fun q => q)
theorem pw_iald (F : FX E cc own) {a i x : Int} (hdg : decode cc pc = .ok (.iaload, 1)) (h : ld 0 H a i = some x) (k : PW E (pc + 1) ls (vi x :: st) H) : PW E pc ls (vi i :: vr a :: st) H := by
  obtain ⟨p, l, e, R, s, m, args, below, meth, c, Q, D, A, base, nL⟩ := E
  intro MH locs Ls St cells slots hH hO hl hL hS
  obtain ⟨v1, S1, rfl, ⟨y, rfl, hy⟩, hS1⟩ := rvs_cons hS
  obtain ⟨v2, S2, rfl, hx, hS2⟩ := rvs_cons hS1
  obtain ⟨xs, ha, hi, hk, hxs⟩ := ld_spec h
  obtain rfl : v2 = .ref (base + a.toNat) := by
    rcases hx with ⟨q, -⟩ | ⟨-, q⟩
    · dsimp only at q; omega
    · exact q
  obtain ⟨cell, f1, f2, f3, f4, f5, f6⟩ := hH.2.2.2 _ _ hk
  obtain ⟨g1, g2⟩ := idx_in (n := cell.slots.size) hy hi (by rw [f3]; exact (List.getElem?_eq_some_iff.mp hxs).1)
  obtain ⟨w, w1, z, rfl, w2⟩ := f6 _ _ hxs
  exact W.iald F.1 F.2.1 f1 (F.2.2.2.2.2.1.arr (t := 0) (by decide) f4 f2) (by rw [f2]; exact fun q => by cases q) g1 (by rw [g2]; exact w1) rfl rfl hdg (k MH locs Ls _ cells slots hH hO hl hL ⟨⟨z, rfl, w2⟩, hS2⟩)
theorem pw_lald (F : FX E cc own) {a i x : Int} (hdg : decode cc pc = .ok (.laload, 1)) (h : ld 1 H a i = some x) (k : PW E (pc + 1) ls (vl x :: st) H) : PW E pc ls (vi i :: vr a :: st) H := by
  obtain ⟨p, l, e, R, s, m, args, below, meth, c, Q, D, A, base, nL⟩ := E
  intro MH locs Ls St cells slots hH hO hl hL hS
  obtain ⟨v1, S1, rfl, ⟨y, rfl, hy⟩, hS1⟩ := rvs_cons hS
  obtain ⟨v2, S2, rfl, hx, hS2⟩ := rvs_cons hS1
  obtain ⟨xs, ha, hi, hk, hxs⟩ := ld_spec h
  obtain rfl : v2 = .ref (base + a.toNat) := by
    rcases hx with ⟨q, -⟩ | ⟨-, q⟩
    · dsimp only at q; omega
    · exact q
  obtain ⟨cell, f1, f2, f3, f4, f5, f6⟩ := hH.2.2.2 _ _ hk
  obtain ⟨g1, g2⟩ := idx_in (n := cell.slots.size) hy hi (by rw [f3]; exact (List.getElem?_eq_some_iff.mp hxs).1)
  obtain ⟨w, w1, z, rfl, w2⟩ := f6 _ _ hxs
  exact W.lald F.1 F.2.1 f1 (F.2.2.2.2.2.1.arr (t := 1) (by decide) f4 f2) (by rw [f2]; exact fun q => by cases q) g1 (by rw [g2]; exact w1) rfl rfl hdg (k MH locs Ls _ cells slots hH hO hl hL ⟨⟨z, rfl, w2⟩, hS2⟩)
theorem pw_zald (F : FX E cc own) {a i x : Int} (hdg : decode cc pc = .ok (.baload, 1)) (h : ld 2 H a i = some x) (k : PW E (pc + 1) ls (vi x :: st) H) : PW E pc ls (vi i :: vr a :: st) H := by
  obtain ⟨p, l, e, R, s, m, args, below, meth, c, Q, D, A, base, nL⟩ := E
  intro MH locs Ls St cells slots hH hO hl hL hS
  obtain ⟨v1, S1, rfl, ⟨y, rfl, hy⟩, hS1⟩ := rvs_cons hS
  obtain ⟨v2, S2, rfl, hx, hS2⟩ := rvs_cons hS1
  obtain ⟨xs, ha, hi, hk, hxs⟩ := ld_spec h
  obtain rfl : v2 = .ref (base + a.toNat) := by
    rcases hx with ⟨q, -⟩ | ⟨-, q⟩
    · dsimp only at q; omega
    · exact q
  obtain ⟨cell, f1, f2, f3, f4, f5, f6⟩ := hH.2.2.2 _ _ hk
  obtain ⟨g1, g2⟩ := idx_in (n := cell.slots.size) hy hi (by rw [f3]; exact (List.getElem?_eq_some_iff.mp hxs).1)
  obtain ⟨w, w1, z, rfl, w2⟩ := f6 _ _ hxs
  exact W.zald F.1 F.2.1 f1 (F.2.2.2.2.2.1.arr (t := 2) (by decide) f4 f2) (by rw [f2]; exact fun q => by cases q) g1 (by rw [g2]; exact w1) rfl rfl hdg (k MH locs Ls _ cells slots hH hO hl hL ⟨⟨z, rfl, w2⟩, hS2⟩)
theorem pw_aald (F : FX E cc own) {a i x : Int} (t : Nat) (ht : 3 ≤ t ∧ t < 8) (hdg : decode cc pc = .ok (.aaload, 1)) (h : ld t H a i = some x) (k : PW E (pc + 1) ls (vr x :: st) H) : PW E pc ls (vi i :: vr a :: st) H := by
  obtain ⟨p, l, e, R, s, m, args, below, meth, c, Q, D, A, base, nL⟩ := E
  intro MH locs Ls St cells slots hH hO hl hL hS
  obtain ⟨v1, S1, rfl, ⟨y, rfl, hy⟩, hS1⟩ := rvs_cons hS
  obtain ⟨v2, S2, rfl, hx, hS2⟩ := rvs_cons hS1
  obtain ⟨xs, ha, hi, hk, hxs⟩ := ld_spec h
  obtain rfl : v2 = .ref (base + a.toNat) := by
    rcases hx with ⟨q, -⟩ | ⟨-, q⟩
    · dsimp only at q; omega
    · exact q
  obtain ⟨cell, f1, f2, f3, f4, f5, f6⟩ := hH.2.2.2 _ _ hk
  obtain ⟨g1, g2⟩ := idx_in (n := cell.slots.size) hy hi (by rw [f3]; exact (List.getElem?_eq_some_iff.mp hxs).1)
  obtain ⟨w, w1, w2⟩ := f6 _ _ hxs
  obtain ⟨n, rfl⟩ : ∃ n, t = n + 3 := ⟨t - 3, by omega⟩
  have hf : fty (n + 3) i.toNat = .object (aC (n + 3)) := by rw [fty_arr ht.2]; rfl
  dsimp only at w1 w2
  rw [hf] at w2
  rw [pos_arr ht.2] at w1
  exact W.aald F.1 F.2.1 f1 (F.2.2.2.2.2.1.arr (t := n + 3) ht.2 f4 f2) rfl (by rw [f2]; exact fun q => by cases q) g1 (by rw [g2]; exact w1) rfl rfl hdg (k MH locs Ls _ cells slots hH hO hl hL ⟨w2, hS2⟩)
theorem pw_alen (F : FX E cc own) {a x : Int} (hdg : decode cc pc = .ok (.arraylength, 1)) (h : alen H a = some x) (k : PW E (pc + 1) ls (vi x :: st) H) : PW E pc ls (vr a :: st) H := by
  obtain ⟨p, l, e, R, s, m, args, below, meth, c, Q, D, A, base, nL⟩ := E
  intro MH locs Ls St cells slots hH hO hl hL hS
  obtain ⟨v2, S2, rfl, hx, hS2⟩ := rvs_cons hS
  obtain ⟨t, xs, ha, ht, hk, rfl⟩ := alen_spec h
  obtain rfl : v2 = .ref (base + a.toNat) := by
    rcases hx with ⟨q, -⟩ | ⟨-, q⟩
    · dsimp only at q; omega
    · exact q
  obtain ⟨cell, f1, f2, f3, f4, f5, f6⟩ := hH.2.2.2 _ _ hk
  have hlen : xs.length < 2 ^ 31 := by
    have h3 := hH.2.2.1
    have : xs.length ≤ szs H := by
      unfold szs
      exact le_sum_mem (List.mem_map.mpr ⟨(t, xs), List.mem_of_getElem? hk, rfl⟩)
    omega
  refine W.alen F.1 F.2.1 f1 (F.2.2.2.2.2.1.arr (t := t) ht f4 f2) rfl rfl rfl hdg (k MH locs Ls _ cells slots hH hO hl hL ⟨⟨_, rfl, ?_⟩, hS2⟩)
  rw [f3]
  exact Int32.toInt_ofNat_small hlen
theorem pw_iast (F : FX E cc own) {a i x : Int} (hdg : decode cc pc = .ok (.iastore, 1)) (h : stv 0 H a i x = some H') (k : PW E (pc + 1) ls st H') : PW E pc ls (vi x :: vi i :: vr a :: st) H := by
  obtain ⟨p, l, e, R, s, m, args, below, meth, c, Q, D, A, base, nL⟩ := E
  intro MH locs Ls St cells slots hH hO hl hL hS
  obtain ⟨v0, S0, rfl, ⟨z, rfl, hz⟩, hS1⟩ := rvs_cons hS
  obtain ⟨v1, S1, rfl, ⟨y, rfl, hy⟩, hS2⟩ := rvs_cons hS1
  obtain ⟨v2, S2, rfl, hx, hS3⟩ := rvs_cons hS2
  obtain ⟨xs, ha, hi, hj, hk, rfl⟩ := stv_spec h
  obtain rfl : v2 = .ref (base + a.toNat) := by
    rcases hx with ⟨q, -⟩ | ⟨-, q⟩
    · dsimp only at q; omega
    · exact q
  obtain ⟨cell, f1, f2, f3, f4, f5, f6⟩ := hH.2.2.2 _ _ hk
  dsimp only at f3
  obtain ⟨g1, g2⟩ := idx_in (n := cell.slots.size) hy hi (by rw [f3]; exact hj)
  refine W.iast F.1 F.2.1 f1 (F.2.2.2.2.2.1.arr (t := 0) (by decide) f4 f2) (by rw [f2]; exact fun q => by cases q) g1 rfl rfl hdg fun MH' e1 e2 e3 => ?_
  refine k MH' _ Ls _ cells slots (hH.put hk hj f1 (fun i _ h => by rw [pos_arr (by decide), pos_arr (by decide)]; exact h) (by rw [pos_arr (by decide), ← g2]; exact e1) e2 e3 (by rw [pos_arr (by decide), f3]; exact hj) ⟨z, rfl, hz⟩) (fun q hq => (e3 q (Nat.ne_of_lt (Nat.lt_of_lt_of_le hq (Nat.le_add_right _ _)))).trans (hO q hq)) (t_lc (free := fun q => base ≤ q) hl (Nat.le_add_right _ _)) hL hS3
theorem pw_last (F : FX E cc own) {a i x : Int} (hdg : decode cc pc = .ok (.lastore, 1)) (h : stv 1 H a i x = some H') (k : PW E (pc + 1) ls st H') : PW E pc ls (vl x :: vi i :: vr a :: st) H := by
  obtain ⟨p, l, e, R, s, m, args, below, meth, c, Q, D, A, base, nL⟩ := E
  intro MH locs Ls St cells slots hH hO hl hL hS
  obtain ⟨v0, S0, rfl, ⟨z, rfl, hz⟩, hS1⟩ := rvs_cons hS
  obtain ⟨v1, S1, rfl, ⟨y, rfl, hy⟩, hS2⟩ := rvs_cons hS1
  obtain ⟨v2, S2, rfl, hx, hS3⟩ := rvs_cons hS2
  obtain ⟨xs, ha, hi, hj, hk, rfl⟩ := stv_spec h
  obtain rfl : v2 = .ref (base + a.toNat) := by
    rcases hx with ⟨q, -⟩ | ⟨-, q⟩
    · dsimp only at q; omega
    · exact q
  obtain ⟨cell, f1, f2, f3, f4, f5, f6⟩ := hH.2.2.2 _ _ hk
  dsimp only at f3
  obtain ⟨g1, g2⟩ := idx_in (n := cell.slots.size) hy hi (by rw [f3]; exact hj)
  refine W.last F.1 F.2.1 f1 (F.2.2.2.2.2.1.arr (t := 1) (by decide) f4 f2) (by rw [f2]; exact fun q => by cases q) g1 rfl rfl hdg fun MH' e1 e2 e3 => ?_
  refine k MH' _ Ls _ cells slots (hH.put hk hj f1 (fun i _ h => by rw [pos_arr (by decide), pos_arr (by decide)]; exact h) (by rw [pos_arr (by decide), ← g2]; exact e1) e2 e3 (by rw [pos_arr (by decide), f3]; exact hj) ⟨z, rfl, hz⟩) (fun q hq => (e3 q (Nat.ne_of_lt (Nat.lt_of_lt_of_le hq (Nat.le_add_right _ _)))).trans (hO q hq)) (t_lc (free := fun q => base ≤ q) hl (Nat.le_add_right _ _)) hL hS3
theorem pw_zast (F : FX E cc own) {a i x : Int} (hdg : decode cc pc = .ok (.bastore, 1)) (hb : x = 0 ∨ x = 1) (h : stv 2 H a i x = some H') (k : PW E (pc + 1) ls st H') : PW E pc ls (vi x :: vi i :: vr a :: st) H := by
  obtain ⟨p, l, e, R, s, m, args, below, meth, c, Q, D, A, base, nL⟩ := E
  intro MH locs Ls St cells slots hH hO hl hL hS
  obtain ⟨v0, S0, rfl, ⟨z, rfl, hz⟩, hS1⟩ := rvs_cons hS
  obtain ⟨v1, S1, rfl, ⟨y, rfl, hy⟩, hS2⟩ := rvs_cons hS1
  obtain ⟨v2, S2, rfl, hx, hS3⟩ := rvs_cons hS2
  obtain ⟨xs, ha, hi, hj, hk, rfl⟩ := stv_spec h
  obtain rfl : v2 = .ref (base + a.toNat) := by
    rcases hx with ⟨q, -⟩ | ⟨-, q⟩
    · dsimp only at q; omega
    · exact q
  obtain ⟨cell, f1, f2, f3, f4, f5, f6⟩ := hH.2.2.2 _ _ hk
  dsimp only at f3 hz
  have hn : narrow .boolean (.int z) = .int z := bool_nar hz hb
  obtain ⟨g1, g2⟩ := idx_in (n := cell.slots.size) hy hi (by rw [f3]; exact hj)
  refine W.zast F.1 F.2.1 f1 (F.2.2.2.2.2.1.arr (t := 2) (by decide) f4 f2) (by rw [f2]; exact fun q => by cases q) g1 rfl rfl hdg fun MH' e1 e2 e3 => ?_
  rw [hn] at e1
  refine k MH' _ Ls _ cells slots (hH.put hk hj f1 (fun i _ h => by rw [pos_arr (by decide), pos_arr (by decide)]; exact h) (by rw [pos_arr (by decide), ← g2]; exact e1) e2 e3 (by rw [pos_arr (by decide), f3]; exact hj) ⟨z, rfl, hz⟩) (fun q hq => (e3 q (Nat.ne_of_lt (Nat.lt_of_lt_of_le hq (Nat.le_add_right _ _)))).trans (hO q hq)) (t_lc (free := fun q => base ≤ q) hl (Nat.le_add_right _ _)) hL hS3
/-- a reference to an object of the array's class, or null, into an array of references -/
theorem pw_aast (F : FX E cc own) {a i x : Int} (t c0 : Nat) (ht : 3 ≤ t ∧ t < 8) (hc0 : cR c0 = aC t ∧ c0 < 10) (hdg : decode cc pc = .ok (.aastore, 1)) (h : stv t H a i x = some H') (hxo : ∃ ys, gcell H x = some (16 + c0, ys)) (k : PW E (pc + 1) ls st H') : PW E pc ls (vr x :: vi i :: vr a :: st) H := by
  obtain ⟨p, l, e, R, s, m, args, below, meth, c, Q, D, A, base, nL⟩ := E
  intro MH locs Ls St cells slots hH hO hl hL hS
  obtain ⟨v0, S0, rfl, hz, hS1⟩ := rvs_cons hS
  obtain ⟨v1, S1, rfl, ⟨y, rfl, hy⟩, hS2⟩ := rvs_cons hS1
  obtain ⟨v2, S2, rfl, hx, hS3⟩ := rvs_cons hS2
  obtain ⟨xs, ha, hi, hj, hk, rfl⟩ := stv_spec h
  obtain rfl : v2 = .ref (base + a.toNat) := by
    rcases hx with ⟨q, -⟩ | ⟨-, q⟩
    · dsimp only at q; omega
    · exact q
  obtain ⟨ys, hys⟩ := hxo
  have hx0 : 0 ≤ x := by
    unfold gcell at hys
    split at hys
    · assumption
    · cases hys
  have hxk : H[x.toNat]? = some (16 + c0, ys) := by
    unfold gcell at hys
    rw [if_pos hx0] at hys
    exact hys
  obtain rfl : v0 = .ref (base + x.toNat) := by
    rcases hz with ⟨q, -⟩ | ⟨-, q⟩
    · dsimp only at q; omega
    · exact q
  obtain ⟨cell, f1, f2, f3, f4, f5, f6⟩ := hH.2.2.2 _ _ hk
  obtain ⟨cv, g1, g2, g3, g4, -⟩ := hH.2.2.2 _ _ hxk
  dsimp only at f3 f4 g4
  rw [cls_obj] at g4
  have hca : clsOf D A t = A t := by unfold clsOf; rw [if_pos (by omega)]
  rw [hca] at f4
  obtain ⟨n, rfl⟩ : ∃ n, t = n + 3 := ⟨t - 3, by omega⟩
  obtain ⟨kA, comp, q1, q2, q3, q4⟩ := (F.2.2.2.2.2.1.2.1 (n + 3) ht.2).2
  obtain ⟨-, r2, kC, r3, -⟩ := F.2.2.2.2.2.1.1 c0 hc0.2
  rw [hc0.1] at r2
  have hcc : D.1 c0 = comp := Option.some.inj (r2.symm.trans q3)
  obtain ⟨w1, w2⟩ := idx_in (n := cell.slots.size) hy hi (by rw [f3]; exact hj)
  refine W.aast F.1 F.2.1 f1 (fun q => by rw [f2]; exact fun z => by cases z) (by rw [f2]; exact fun q => by cases q) (by rw [f4]; exact q1) q2 rfl (by rw [← hcc]; exact r3) ⟨fun q => w1 (Or.inl q), Nat.not_le.mp fun q => w1 (Or.inr q)⟩ g1 (fun q => by rw [g2]; exact fun z => by cases z) (by rw [g4]; exact r3) (by rw [g4, hcc]; exact asg_self _ _) rfl rfl hdg fun MH' e1 e2 e3 => ?_
  refine k MH' _ Ls _ cells slots (hH.put hk hj f1 (fun i _ h => by rw [pos_arr ht.2, pos_arr ht.2]; exact h) (by rw [pos_arr ht.2, ← w2]; exact e1) e2 e3 (by rw [pos_arr ht.2, f3]; exact hj) ?_) (fun q hq => (e3 q (Nat.ne_of_lt (Nat.lt_of_lt_of_le hq (Nat.le_add_right _ _)))).trans (hO q hq)) (t_lc (free := fun q => base ≤ q) hl (Nat.le_add_right _ _)) hL hS3
  rw [fty_arr ht.2]
  exact Or.inr ⟨hx0, rfl⟩
/-- a field read: class c0, its field k0, the instruction's own link -/
theorem pw_get (F : FX E cc own) {a x : Int} (c0 k0 index : Nat) (hc0 : c0 < 10) (hk0 : k0 < cN c0) (hw : Cond.fieldLink own index (cT c0 k0).1 (cT c0 k0).2.1 (cT c0 k0).2.2.1 ∈ wsG) (hin : ∀ w ∈ u_ws (cR c0) (cT c0) (cN c0), w ∈ wsG) (kind : Nat) (hkd : kd (cty c0 k0) = kind) (hdg : decode cc pc = .ok (.getfield index, 3))
    (h : ld (16 + c0) H a k0 = some x) (k : PW E (pc + 3) ls ((kind, x) :: st) H) : PW E pc ls (vr a :: st) H := by
  obtain ⟨p, l, e, R, s, m, args, below, meth, c, Q, D, A, base, nL⟩ := E
  intro MH locs Ls St cells slots hH hO hl hL hS
  subst hkd
  obtain ⟨v2, S2, rfl, hx, hS2⟩ := rvs_cons hS
  obtain ⟨xs, ha, hi, hk, hxs⟩ := ld_spec h
  obtain rfl : v2 = .ref (base + a.toNat) := by
    rcases hx with ⟨q, -⟩ | ⟨-, q⟩
    · dsimp only at q; omega
    · exact q
  obtain ⟨cell, f1, f2, f3, f4, f5, f6⟩ := hH.2.2.2 _ _ hk
  obtain ⟨w, w1, w2⟩ := f6 _ _ hxs
  dsimp only at w1 w2
  rw [show ((k0 : Int)).toNat = k0 by omega] at w1 w2
  rw [pos_obj] at w1
  rw [fty_obj] at w2
  obtain ⟨hS0, hfc, kC, hkC, hkind⟩ := F.2.2.2.2.2.1.1 c0 hc0
  obtain ⟨cf, kf, fi, f, hfi, hsl⟩ := hS0 k0 hk0
  refine W.getf F.1 F.2.1 F.2.2.2.1 (F.2.2.2.2.1 _ hw) hfi (u_facts hfc hkC (u_lays F.2.2.2.2.1 hin hk0) hfi).1 f1 (by rw [f2]; exact fun q => by cases q) (v := w) (by rw [hsl]; exact w1) rfl rfl hdg (k MH locs Ls _ cells slots hH hO hl hL ⟨w2, hS2⟩)
theorem pw_put (F : FX E cc own) {a x : Int} (c0 k0 index : Nat) (hc0 : c0 < 10) (hk0 : k0 < cN c0) (hw : Cond.fieldLink own index (cT c0 k0).1 (cT c0 k0).2.1 (cT c0 k0).2.2.1 ∈ wsG) (hin : ∀ w ∈ u_ws (cR c0) (cT c0) (cN c0), w ∈ wsG) (hfin : (cT c0 k0).2.2.2 = false) (kind : Nat) (hkd : kd (cty c0 k0) = kind) (hdg : decode cc pc = .ok (.putfield index, 3))
    (hok : okf (cty c0 k0) x) (h : stv (16 + c0) H a k0 x = some H') (k : PW E (pc + 3) ls st H') : PW E pc ls ((kind, x) :: vr a :: st) H := by
  obtain ⟨p, l, e, R, s, m, args, below, meth, c, Q, D, A, base, nL⟩ := E
  intro MH locs Ls St cells slots hH hO hl hL hS
  subst hkd
  obtain ⟨v0, S0, rfl, hz, hS1⟩ := rvs_cons hS
  obtain ⟨v2, S2, rfl, hx, hS2⟩ := rvs_cons hS1
  obtain ⟨xs, ha, hi, hj, hk, rfl⟩ := stv_spec h
  obtain rfl : v2 = .ref (base + a.toNat) := by
    rcases hx with ⟨q, -⟩ | ⟨-, q⟩
    · dsimp only at q; omega
    · exact q
  obtain ⟨cell, f1, f2, f3, f4, f5, f6⟩ := hH.2.2.2 _ _ hk
  dsimp only at f3 f4 f5
  rw [show ((k0 : Int)).toNat = k0 by omega] at hj k
  rw [cls_obj] at f4
  have hap := slots_apart (base := base) F.2.2.2.2.2.1 F.2.2.2.2.1 hc0 hin
  obtain ⟨hS0, hfc, kC, hkC, hkind⟩ := F.2.2.2.2.2.1.1 c0 hc0
  obtain ⟨cf, kf, fi, f, hfi, hsl⟩ := hS0 k0 hk0
  have hlay := F.2.2.2.2.1 _ (hin _ (u_in_lay hk0))
  unfold u_lay at hlay
  rw [if_neg (by rw [hfin]; decide)] at hlay
  have hst := (u_facts hfc hkC (u_lays F.2.2.2.2.1 hin hk0) hfi).1
  obtain ⟨n1, n2⟩ := fit_of hz hok
  have h6 := u_store hfc hkC hkind hlay hfi (cty_ok c0 hc0 k0 hk0) n1 n2
  obtain ⟨w, w1, -⟩ := f6 k0 _ (List.getElem?_eq_getElem hj)
  dsimp only at w1
  rw [pos_obj] at w1
  have hsz : D.2 c0 k0 < cell.slots.size := (Array.getElem?_eq_some_iff.mp w1).1
  have hxl : xs.length = cN c0 := by
    rcases f5 with q | ⟨-, -, q⟩
    · omega
    · rw [show 16 + c0 - 16 = c0 by omega] at q; exact q
  refine W.putK F.1 F.2.1 (f := f) ⟨F.2.2.2.1, F.2.2.2.2.1 _ hw, ⟨_, _, _, hfi⟩, hst⟩ (by rw [f4]; exact h6) f1 f2 (by rw [hsl]; exact hsz) rfl rfl hdg fun MH' e1 e2 e3 => ?_
  rw [hsl] at e1
  refine k MH' _ Ls _ cells slots (hH.put hk hj f1 (fun i h1 h2 => by rw [pos_obj, pos_obj]; exact hap i k0 (by omega) hk0 h2) (by rw [pos_obj]; exact e1) e2 e3 (by rw [pos_obj]; exact hsz) (by rw [fty_obj]; exact hz)) (fun q hq => (e3 q (Nat.ne_of_lt (Nat.lt_of_lt_of_le hq (Nat.le_add_right _ _)))).trans (hO q hq)) (t_lc (free := fun q => base ≤ q) hl (Nat.le_add_right _ _)) hL hS2
theorem pw_putF (F : FX E cc own) {a x : Int} (c0 k0 index : Nat) (hc0 : c0 < 10) (hk0 : k0 < cN c0) (hw : Cond.fieldLink own index (cT c0 k0).1 (cT c0 k0).2.1 (cT c0 k0).2.2.1 ∈ wsG) (hin : ∀ w ∈ u_ws (cR c0) (cT c0) (cN c0), w ∈ wsG) (hfin : (cT c0 k0).2.2.2 = true) (hinit : methOf E = "<init>") (hdecl : (cT c0 k0).1 = own) (kind : Nat) (hkd : kd (cty c0 k0) = kind) (hdg : decode cc pc = .ok (.putfield index, 3))
    (hok : okf (cty c0 k0) x) (h : stv (16 + c0) H a k0 x = some H') (k : PW E (pc + 3) ls st H') : PW E pc ls ((kind, x) :: vr a :: st) H := by
  obtain ⟨p, l, e, R, s, m, args, below, meth, c, Q, D, A, base, nL⟩ := E
  intro MH locs Ls St cells slots hH hO hl hL hS
  subst hkd
  obtain ⟨v0, S0, rfl, hz, hS1⟩ := rvs_cons hS
  obtain ⟨v2, S2, rfl, hx, hS2⟩ := rvs_cons hS1
  obtain ⟨xs, ha, hi, hj, hk, rfl⟩ := stv_spec h
  obtain rfl : v2 = .ref (base + a.toNat) := by
    rcases hx with ⟨q, -⟩ | ⟨-, q⟩
    · dsimp only at q; omega
    · exact q
  obtain ⟨cell, f1, f2, f3, f4, f5, f6⟩ := hH.2.2.2 _ _ hk
  dsimp only at f3 f4 f5
  rw [show ((k0 : Int)).toNat = k0 by omega] at hj k
  rw [cls_obj] at f4
  have hap := slots_apart (base := base) F.2.2.2.2.2.1 F.2.2.2.2.1 hc0 hin
  obtain ⟨hS0, hfc, kC, hkC, hkind⟩ := F.2.2.2.2.2.1.1 c0 hc0
  obtain ⟨cf, kf, fi, f, hfi, hsl⟩ := hS0 k0 hk0
  have hlay := F.2.2.2.2.1 _ (hin _ (u_in_lay hk0))
  unfold u_lay at hlay
  rw [if_pos hfin] at hlay
  have hst := (u_facts hfc hkC (u_lays F.2.2.2.2.1 hin hk0) hfi).1
  have hcf : m.cls = cf := by
    obtain ⟨_, _, c', _, _, _, -, -, hf', -, -, -, hown2, -⟩ := Cond.laysFinal_spec hlay
    have e1 : c' = cf := by have := hfi.symm.trans hf'; simp at this; exact this.1.symm
    rw [hdecl] at hown2
    rw [← e1]; exact Option.some.inj (F.2.2.2.1.symm.trans hown2)
  obtain ⟨n1, n2⟩ := fit_of hz hok
  have h6 := u_fits hfc hkC hkind (Or.inr hlay) hfi (cty_ok c0 hc0 k0 hk0) n1 n2
  obtain ⟨w, w1, -⟩ := f6 k0 _ (List.getElem?_eq_getElem hj)
  dsimp only at w1
  rw [pos_obj] at w1
  have hsz : D.2 c0 k0 < cell.slots.size := (Array.getElem?_eq_some_iff.mp w1).1
  have hxl : xs.length = cN c0 := by
    rcases f5 with q | ⟨-, -, q⟩
    · omega
    · rw [show 16 + c0 - 16 = c0 by omega] at q; exact q
  refine W.putFinK F.1 F.2.1 F.2.2.2.1 (F.2.2.2.2.1 _ hw) hfi hst hcf hinit (by rw [f4]; exact h6) f1 f2 (by rw [hsl]; exact hsz) rfl rfl hdg fun MH' e1 e2 e3 => ?_
  rw [hsl] at e1
  refine k MH' _ Ls _ cells slots (hH.put hk hj f1 (fun i h1 h2 => by rw [pos_obj, pos_obj]; exact hap i k0 (by omega) hk0 h2) (by rw [pos_obj]; exact e1) e2 e3 (by rw [pos_obj]; exact hsz) (by rw [fty_obj]; exact hz)) (fun q hq => (e3 q (Nat.ne_of_lt (Nat.lt_of_lt_of_le hq (Nat.le_add_right _ _)))).trans (hO q hq)) (t_lc (free := fun q => base ≤ q) hl (Nat.le_add_right _ _)) hL hS2
end Rules3
