/-! Arrays.copyOf of ints and of longs: clone, System.arraycopy, checkcast -/
section CopyRules
variable {E : PE} {cc : ByteArray} {own : String} {pc : Nat} {ls : PL} {st : List PV} {H H' : PH}
theorem HR.setc {D : va_G} {A : Nat → ClassId} {base k t : Nat} {H : PH} {MH MH' : Heap} {xs zs : List Int} (h : HR D A base H MH) (hk : H[k]? = some (t, xs)) (hl : zs.length = xs.length) (e2 : MH'.size = MH.size) (e3 : ∀ q, q ≠ base + k → MH'[q]? = MH[q]?) (hc : CR D A base (t, zs) MH' k) : HR D A base (H.set k (t, zs)) MH' := by
  obtain ⟨h1, h2, h3, h4⟩ := h
  refine ⟨by rw [e2, h1]; simp, by simpa using h2, by rw [szs_set hk hl]; exact h3, fun k' c' hk' => ?_⟩
  by_cases hkk : k = k'
  · subst hkk
    have hlt : k < H.length := (List.getElem?_eq_some_iff.mp hk).1
    rw [List.getElem?_set] at hk'
    simp [hlt] at hk'
    subst hk'
    exact hc
  · rw [List.getElem?_set_ne hkk] at hk'
    exact (h4 k' c' hk').kept (e3 _ (fun q => hkk (by omega)))
theorem rv_fits {base : Nat} {ty : FieldType} {x : Int} {v : Value} (hty : ty = .int ∨ ty = .long) (h : rv base (kd ty, x) v) : fits ty v = true := by
  rcases hty with rfl | rfl
  · obtain ⟨z, rfl, -⟩ := h; rfl
  · obtain ⟨z, rfl, -⟩ := h; rfl
theorem rv_takes {base : Nat} {ty : FieldType} {x : Int} {v : Value} {U : State} {c : ClassId} (hty : ty = .int ∨ ty = .long) (h : rv base (kd ty, x) v) : U.takes c v := by
  rcases hty with rfl | rfl
  · obtain ⟨z, rfl, -⟩ := h; trivial
  · obtain ⟨z, rfl, -⟩ := h; trivial
theorem aty2 {t : Nat} (ht : t < 2) : aty t = .int ∨ aty t = .long := by
  obtain rfl | rfl : t = 0 ∨ t = 1 := by omega
  · exact Or.inl rfl
  · exact Or.inr rfl
def adnm (t : Nat) : String := if t = 0 then "[I" else "[J"
theorem adnm_eq : ∀ t, t < 2 → "[" ++ (aty t).toString = adnm t := by decide +kernel
theorem KF.adn_ {D : va_G} {A : Nat → ClassId} {U : State} (h : KF D A U) {t : Nat} (ht : t < 2) : U.vm.findClass (adnm t) = some (A t) := by
  have h1 := (h.2.1 t (by omega)).2
  rw [← adnm_eq t ht]
  have h3 := aty2 ht
  generalize aty t = ty at h1 h3 ⊢
  rcases h3 with rfl | rfl
  · unfold va_RA at h1; exact h1
  · unfold va_RA at h1; exact h1
theorem KF.cln {D : va_G} {A : Nat → ClassId} {U : State} (h : KF D A U) {t : Nat} (ht : t < 2) : va_Nw (.castable (adnm t) "java/lang/Cloneable") U := by
  obtain rfl | rfl : t = 0 ∨ t = 1 := by omega
  · exact h.2.2.2.2.2.2.2.1
  · exact h.2.2.2.2.2.2.2.2
theorem pw_cast (F : FX E cc own) (t index : Nat) (ht : t < 2) (hw : Cond.classLink own index (adnm t) ∈ wsG) (hdg : decode cc pc = .ok (.checkcast index, 3)) {a : Int} {xs : List Int} (ha : gcell H a = some (t, xs)) (k : PW E (pc + 3) ls (vr a :: st) H) : PW E pc ls (vr a :: st) H := by
  obtain ⟨p, l, e, R, s, m, args, below, meth, c, Q, D, A, base, nL⟩ := E
  intro MH locs Ls St cells slots hH hO hl hL hS
  obtain ⟨v1, S1, rfl, hv, hS1⟩ := rvs_cons hS
  obtain ⟨ha0, hk⟩ := gcell_spec ha
  obtain rfl := ref_of hv ha0
  obtain ⟨cell, f1, f2, f3, f4, -⟩ := hH.2.2.2 _ _ hk
  obtain ⟨hx, hb, hml, hown, hts, hK, hlk, H0, hH0, hRc, hRs⟩ := F
  have hcl : cell.cls = A t := by rw [f4]; show clsOf D A t = A t; unfold clsOf; rw [if_pos (by omega)]
  intro T hT X
  obtain ⟨vm', X', st'⟩ := X.checkcastYes hx hown (hts _ hw) (by rw [hT]; exact f1) (by rw [f2]; rfl) (hK.adn_ ht) (by rw [hcl]; exact asg_self _ _) (g := F0 m pc Ls (.ref (base + a.toNat) :: S1)) rfl rfl (by rw [hb]; exact hdg)
  obtain ⟨t', a1, b1⟩ := k MH locs Ls (.ref (base + a.toNat) :: S1) cells slots hH hO hl hL ⟨hv, hS1⟩ (T.setVm vm') hT X'
  exact ⟨t', st' t' a1, b1⟩
set_option maxHeartbeats 400000 in
theorem pw_clone (F : FX E cc own) (t index : Nat) (ht : t < 2) (w1 : Cond.methodLink own index ⟨adnm t, "clone", "()Ljava/lang/Object;"⟩ ∈ wsG) (w2 : Cond.sameMethod (adnm t) "java/lang/Object" "clone" "()Ljava/lang/Object;" ∈ wsG) (w3 : Cond.native ⟨"java/lang/Object", "clone", "()Ljava/lang/Object;"⟩ ∈ wsG) (w4 : Cond.instanceMethod ⟨"java/lang/Object", "clone", "()Ljava/lang/Object;"⟩ ∈ wsG)
    (w5 : Cond.selects (adnm t) ⟨adnm t, "clone", "()Ljava/lang/Object;"⟩ ⟨"java/lang/Object", "clone", "()Ljava/lang/Object;"⟩ ∈ wsG) (hR : 1 ≤ (roomOf E).frames ∧ 14 ≤ (roomOf E).locals) (hdg : decode cc pc = .ok (.invokevirtual index, 3))
    {a b : Int} {xs : List Int} (ha : gcell H a = some (t, xs)) (h : alc (t, xs) H = some (b, H')) (k : PW E (pc + 3) ls [vr b] H') : PW E pc ls [vr a] H := by
  obtain ⟨p, l, e, R, s, m, args, below, meth, c, Q, D, A, base, nL⟩ := E
  intro MH locs Ls St cells slots hH hO hl hL hS
  obtain ⟨v1, S1, rfl, hv, hS1⟩ := rvs_cons hS
  cases rvs_nil hS1
  obtain ⟨ha0, hk⟩ := gcell_spec ha
  obtain rfl := ref_of hv ha0
  obtain ⟨hlen, hsz, ea, eH⟩ := alc_spec h
  subst ea eH
  have hsz : szs H + xs.length ≤ 7302250 := hsz
  obtain ⟨cell, f1, f2, f3, f4, f5, f6⟩ := hH.2.2.2 _ _ hk
  have f3 : cell.slots.size = xs.length := f3
  obtain ⟨hx, hb, hml, hown, hts, hK, hlk, H0, hH0, hRc, hRs⟩ := F
  have hcl : cell.cls = A t := by rw [f4]; show clsOf D A t = A t; unfold clsOf; rw [if_pos (by omega)]
  refine W.room hH0 hH fun hle hsle => ?_
  have hr1 : H.length - H0.length + 1 ≤ R.cells := by rw [hRc]; omega
  have hr2 : szs H - szs H0 + cell.slots.size ≤ R.slots := by rw [hRs, f3]; omega
  have hcn : va_Nw (.castable (adnm t) "java/lang/Cloneable") s := hK.cln ht
  obtain ⟨c0, t0', g1, g2, g3⟩ := Cond.castable_spec (va_Nw.use (A := args) rfl hcn)
  have hc0 : c0 = A t := Option.some.inj (g1.symm.trans (hK.adn_ ht))
  subst hc0
  have hat := (hK.2.1 t (by omega)).1
  intro T hT X
  obtain ⟨-, kA, hkA, comp, hkind⟩ := State.isArrayOf_alike X.warmed.alike (hat 0 (fun _ => .null))
  obtain ⟨-, kS, hkS, compS, hkindS⟩ := hat 0 (fun _ => .null)
  have hkA : T.vm.classes[A t]? = some kA := hkA
  have hkS : s.vm.classes[A t]? = some kS := hkS
  have hfit : ∀ i v, cell.slots[i]? = some v → T.fitsSlot cell.cls .none i v = true := by
    intro i v hiv
    have hi : i < xs.length := by rw [← f3]; exact (Array.getElem?_eq_some_iff.mp hiv).1
    obtain ⟨w, w1, w2⟩ := f6 i _ (List.getElem?_eq_getElem hi)
    have w1 : cell.slots[posOf D t i]? = some w := w1
    rw [pos_arr (by omega)] at w1
    have w2 : rv base (kd (fty t i), xs[i]) w := w2
    rw [fty_arr (by omega)] at w2
    cases hiv.symm.trans w1
    have := rv_fits (aty2 ht) w2
    rw [hcl]
    simpa [State.fitsSlot, State.slotType?, hkA, hkind] using this
  obtain ⟨vm', X', st'⟩ := X.cloneArray hx hown (hts _ w1) (hts _ w2) (hts _ w3) (hts _ w4) (hts _ w5) (a := base + a.toNat) (cell := cell) (by rw [hT]; exact f1) (fun q => by rw [f2]; exact fun z => by cases z) (by rw [f2]; exact fun z => by cases z) (by rw [hcl]; exact hK.adn_ ht) g2 (by rw [hcl]; exact g3) hfit
    (g := F0 m pc Ls [.ref (base + a.toNat)]) rfl (hL.1.trans hml.symm) rfl (by rw [hb]; exact hdg) hR.1 (by show 2 * 0 + 0 + 14 ≤ _; exact hR.2) hr1 hr2 (hloader := by rw [hcl]; exact Vm.clonesLoader_of_array hkS hkindS)
  have hbase : base ≤ MH.size := by rw [hH.1]; exact Nat.le_add_right _ _
  have z1 : (MH.push ({ cls := cell.cls, slots := cell.slots } : Cell)).size = MH.size + 1 := Array.size_push ..
  have o1 : ∀ q : Nat, q < MH.size → (MH.push ({ cls := cell.cls, slots := cell.slots } : Cell))[q]? = MH[q]? := fun q hq => by rw [Array.getElem?_push, if_neg (Nat.ne_of_lt hq)]
  have hcr : CR D A base (t, xs) (MH.push ({ cls := cell.cls, slots := cell.slots } : Cell)) H.length := ⟨({ cls := cell.cls, slots := cell.slots } : Cell), by rw [← hH.1]; exact Array.getElem?_push_size, rfl, f3, f4, f5, f6⟩
  obtain ⟨t2, a1, b1⟩ := k (MH.push ({ cls := cell.cls, slots := cell.slots } : Cell)) locs Ls [.ref (base + H.length)] _ _ (hH.push hlen hsz z1 o1 hcr) (fun q hq => (o1 q (Nat.lt_of_lt_of_le hq hbase)).trans (hO q hq)) hl hL ⟨Or.inr ⟨Int.natCast_nonneg _, rfl⟩, trivial⟩ ((T.setVm vm').pushCell { cls := cell.cls, slots := cell.slots }) (by rw [← hT]; rfl) X'
  refine ⟨t2, st' t2 ?_, b1⟩
  rw [hT, hH.1]
  exact a1
set_option maxHeartbeats 400000 in
theorem pw_acopy (F : FX E cc own) (t index : Nat) (ht : t < 2) (w1 : Cond.methodLink own index arraycopyName ∈ wsG) (w2 : Cond.native arraycopyName ∈ wsG) (w3 : Cond.static arraycopyName ∈ wsG) (w4 : Cond.initialized "java/lang/System" ∈ wsG) (hR : 1 ≤ (roomOf E).frames ∧ nativeFrameWords "java/lang/System" "arraycopy" 5 + 11 ≤ (roomOf E).locals) (hdg : decode cc pc = .ok (.invokestatic index, 3))
    {a b n : Int} {xs ys : List Int} (ha : gcell H a = some (t, xs)) (hb : gcell H b = some (t, ys)) (h0 : 0 ≤ n) (h1 : n.toNat ≤ xs.length) (h2 : n.toNat ≤ ys.length) (k : PW E (pc + 3) ls [] (H.set b.toNat (t, xs.take n.toNat ++ ys.drop n.toNat))) : PW E pc ls [vi n, vi 0, vr b, vi 0, vr a] H := by
  obtain ⟨p, l, e, R, s, m, args, below, meth, c, Q, D, A, base, nL⟩ := E
  intro MH locs Ls St cells slots hH hO hl hL hS
  obtain ⟨v1, S1, rfl, ⟨zn, rfl, hzn⟩, hS1⟩ := rvs_cons hS
  obtain ⟨v2, S2, rfl, ⟨zd, rfl, hzd⟩, hS2⟩ := rvs_cons hS1
  obtain ⟨v3, S3, rfl, hv3, hS3⟩ := rvs_cons hS2
  obtain ⟨v4, S4, rfl, ⟨zs, rfl, hzs⟩, hS4⟩ := rvs_cons hS3
  obtain ⟨v5, S5, rfl, hv5, hS5⟩ := rvs_cons hS4
  cases rvs_nil hS5
  obtain ⟨ha0, hka⟩ := gcell_spec ha
  obtain ⟨hb0, hkb⟩ := gcell_spec hb
  obtain rfl := ref_of hv3 hb0
  obtain rfl := ref_of hv5 ha0
  have ez : zd = 0 := Int32.toInt_inj.mp (by rw [hzd]; rfl)
  have ez' : zs = 0 := Int32.toInt_inj.mp (by rw [hzs]; rfl)
  subst ez ez'
  obtain ⟨y1, y2⟩ := clamp_int hzn h0
  have y2 : zn.toNatClampNeg = n.toNat := y2
  have hzn : zn.toInt = n := hzn
  obtain ⟨ca, f1, f2, f3, f4, f5, f6⟩ := hH.2.2.2 _ _ hka
  obtain ⟨cb, g1, g2, g3, g4, g5, g6⟩ := hH.2.2.2 _ _ hkb
  have f3 : ca.slots.size = xs.length := f3
  have g3 : cb.slots.size = ys.length := g3
  obtain ⟨hx, hbb, hml, hown, hts, hK, hlk, H0, hH0, hRc, hRs⟩ := F
  have hcl : ca.cls = A t := by rw [f4]; show clsOf D A t = A t; unfold clsOf; rw [if_pos (by omega)]
  have hcl' : cb.cls = A t := by rw [g4]; show clsOf D A t = A t; unfold clsOf; rw [if_pos (by omega)]
  obtain ⟨-, kS, hkS, compS, hkindS⟩ := (hK.2.1 t (by omega)).1 0 (fun _ => .null)
  have hkS : s.vm.classes[A t]? = some kS := hkS
  have hprim : refKind (aty t) = false := by rcases aty2 ht with h | h <;> rw [h] <;> rfl
  have hval : ∀ i, i < n.toNat → ∃ w, ca.slots[i]? = some w ∧ rv base (kd (aty t), xs[i]?.getD 0) w := by
    intro i hi
    have hil : i < xs.length := by omega
    obtain ⟨w, w1, w2⟩ := f6 i _ (List.getElem?_eq_getElem hil)
    have w1 : ca.slots[posOf D t i]? = some w := w1
    rw [pos_arr (by omega)] at w1
    have w2 : rv base (kd (fty t i), xs[i]) w := w2
    rw [fty_arr (by omega)] at w2
    exact ⟨w, w1, by rw [List.getElem?_eq_getElem hil]; exact w2⟩
  intro T hT X
  obtain ⟨vm', X', step⟩ := X.arraycopy hx hown (hts _ w1) (hts _ w2) (hts _ w3) (hts _ w4) (src := base + a.toNat) (dst := base + b.toNat) (cs := ca) (cd := cb) (srcPos := 0) (destPos := 0) (n := zn) (by rw [hT]; exact f1) (by rw [hT]; exact g1)
    (fun q => by rw [f2]; exact fun z => by cases z) (fun q => by rw [g2]; exact fun z => by cases z) (by rw [f2]; exact fun z => by cases z) (by rw [g2]; exact fun z => by cases z) (by rw [hcl]; exact hkS) (by rw [hcl']; exact hkS) hkindS hkindS (by simp [hprim]) (by decide) (by decide) y1
    (by rw [hzn, f3]; show ¬ (0 : Int) + n > _; omega) (by rw [hzn, g3]; show ¬ (0 : Int) + n > _; omega)
    (fun vm₁ _ i hi => by
      rw [y2] at hi
      obtain ⟨w, q1, q2⟩ := hval i hi
      have e : ca.slots.getD ((0 : Int32).toNatClampNeg + i) .null = w := by
        rw [show (0 : Int32).toNatClampNeg + i = i by show 0 + i = i; omega, Array.getD_eq_getD_getElem?, q1]; rfl
      rw [e]
      exact ⟨rv_fits (aty2 ht) q2, rv_takes (aty2 ht) q2⟩)
    (g := F0 m pc Ls [.int zn, .int 0, .ref (base + b.toNat), .int 0, .ref (base + a.toNat)]) rfl (hL.1.trans hml.symm) (rest := []) rfl (by rw [hbb]; exact hdg) hR.1 (by show 2 * 0 + 0 + _ ≤ _; have := hR.2; dsimp only [roomOf] at this; omega)
  have e0 : copied ca cb 0 0 zn = cb.storeRun 0 (ca.stretch 0 n.toNat) := by show cb.storeRun 0 (ca.stretch 0 zn.toNatClampNeg) = _; rw [y2]
  rw [e0] at X' step
  have hsl : (ca.stretch 0 n.toNat).length = n.toNat := by simp [Cell.stretch]
  obtain ⟨q1, q2, q3, -, -⟩ := Cell.storeRun_facts cb 0 (ca.stretch 0 n.toNat)
  have hlb : base + b.toNat < MH.size := (Array.getElem?_eq_some_iff.mp g1).1
  have hset : (MH.setIfInBounds (base + b.toNat) (cb.storeRun 0 (ca.stretch 0 n.toNat)))[base + b.toNat]? = some (cb.storeRun 0 (ca.stretch 0 n.toNat)) := by simp [Array.getElem?_setIfInBounds, hlb]
  have oq : ∀ q : Nat, q ≠ base + b.toNat → (MH.setIfInBounds (base + b.toNat) (cb.storeRun 0 (ca.stretch 0 n.toNat)))[q]? = MH[q]? := fun q hq => by simp [Array.getElem?_setIfInBounds, Ne.symm hq]
  have hzl : (xs.take n.toNat ++ ys.drop n.toNat).length = ys.length := by simp; omega
  have hcr : CR D A base (t, xs.take n.toNat ++ ys.drop n.toNat) (MH.setIfInBounds (base + b.toNat) (cb.storeRun 0 (ca.stretch 0 n.toNat))) b.toNat := by
    refine ⟨_, hset, q2.trans g2, by rw [q3, g3]; exact hzl.symm, q1.trans g4, Or.inl (by show t < 8; omega), fun j x hj => ?_⟩
    have hj : (xs.take n.toNat ++ ys.drop n.toNat)[j]? = some x := hj
    show ∃ v, (cb.storeRun 0 (ca.stretch 0 n.toNat)).slots[posOf D t j]? = some v ∧ rv base (kd (fty t j), x) v
    rw [pos_arr (by omega), fty_arr (by omega), Cell.storeRun_get cb 0 _ j (by rw [hsl]; omega), hsl]
    by_cases hjn : j < n.toNat
    · rw [if_pos ⟨Nat.zero_le _, by omega⟩]
      obtain ⟨w, r1, r2⟩ := hval j hjn
      refine ⟨w, ?_, ?_⟩
      · unfold Cell.stretch
        rw [List.getElem?_map, List.getElem?_range (by omega)]
        simp [Array.getD_eq_getD_getElem?, r1]
      · rw [List.getElem?_append_left (by simp; omega), List.getElem?_take, if_pos hjn] at hj
        rw [hj] at r2
        exact r2
    · rw [if_neg (by omega)]
      rw [List.getElem?_append_right (by simp; omega)] at hj
      have hlt : (xs.take n.toNat).length = n.toNat := by simp; omega
      rw [hlt, List.getElem?_drop, show n.toNat + (j - n.toNat) = j by omega] at hj
      obtain ⟨w, r1, r2⟩ := g6 j x hj
      have r1 : cb.slots[posOf D t j]? = some w := r1
      rw [pos_arr (by omega)] at r1
      have r2 : rv base (kd (fty t j), x) w := r2
      rw [fty_arr (by omega)] at r2
      exact ⟨w, r1, r2⟩
  have hlocs : ∀ q ∈ locs ++ (ca.stretch (0 : Int32).toNatClampNeg zn.toNatClampNeg).zipIdx.map (fun q => (⟨base + b.toNat, (0 : Int32).toNatClampNeg + q.2⟩ : Loc)), base ≤ q.base := by
    intro q hq
    rcases List.mem_append.mp hq with h | h
    · exact hl q h
    · obtain ⟨z, -, hz⟩ := List.mem_map.mp h
      rw [← hz]; exact Nat.le_add_right _ _
  obtain ⟨t2, a1, b1⟩ := k _ _ Ls [] cells slots (hH.setc hkb hzl (by simp) oq hcr) (fun q hq => (oq q (by omega)).trans (hO q hq)) hlocs hL trivial _ (by show ((T.setVm vm').setCell _ _).heap = _; rw [← hT]; rfl) X'
  exact ⟨t2, step t2 a1, b1⟩
end CopyRules
theorem cpof_spec {t : Nat} {a n : Int} {H : PH} {r : Int × PH} (h : cpof t a n H = some r) : ∃ xs, gcell H a = some (t, xs) ∧ 0 ≤ n ∧ n ≤ 100000 ∧ alc (t, xs.take n.toNat ++ List.replicate (n.toNat - xs.length) 0) H = some r := by
  unfold cpof at h
  obtain ⟨⟨t', xs⟩, hc, h⟩ := bnd h
  dsimp only at h
  split at h
  · rename_i h1
    obtain ⟨rfl, h2, h3⟩ := h1
    exact ⟨xs, hc, h2, h3, h⟩
  · cases h
theorem alen_of {t : Nat} {a : Int} {H : PH} {xs : List Int} (h : gcell H a = some (t, xs)) (ht : t < 8) : alen H a = some (xs.length : Int) := by
  unfold alen
  rw [h]
  show (if t < 8 then _ else _) = _
  rw [if_pos ht]
theorem gcell_app {H : PH} {a : Int} {c d : Nat × List Int} (h : gcell H a = some c) : gcell (H ++ [d]) a = some c := by
  obtain ⟨t, ys⟩ := c
  obtain ⟨h1, h2⟩ := gcell_spec h
  unfold gcell
  rw [if_pos h1, List.getElem?_append_left (List.getElem?_eq_some_iff.mp h2).1, h2]
theorem gcell_new {H : PH} {d : Nat × List Int} : gcell (H ++ [d]) (H.length : Int) = some d := by
  unfold gcell
  rw [if_pos (by omega)]
  simp
theorem k1_J7_copyOf_59c91 : Cond.methodLink RJ7 316 ⟨adnm 0, "clone", "()Ljava/lang/Object;"⟩ ∈ wsG := inG 753 (by decide +kernel) (by decide +kernel)
theorem k2_J7_copyOf_59c91 : Cond.sameMethod (adnm 0) "java/lang/Object" "clone" "()Ljava/lang/Object;" ∈ wsG := inG 754 (by decide +kernel) (by decide +kernel)
theorem k3_J7_copyOf_59c91 : Cond.native ⟨"java/lang/Object", "clone", "()Ljava/lang/Object;"⟩ ∈ wsG := inG 741 (by decide +kernel) (by decide +kernel)
theorem k4_J7_copyOf_59c91 : Cond.instanceMethod ⟨"java/lang/Object", "clone", "()Ljava/lang/Object;"⟩ ∈ wsG := inG 742 (by decide +kernel) (by decide +kernel)
theorem k5_J7_copyOf_59c91 : Cond.selects (adnm 0) ⟨adnm 0, "clone", "()Ljava/lang/Object;"⟩ ⟨"java/lang/Object", "clone", "()Ljava/lang/Object;"⟩ ∈ wsG := inG 755 (by decide +kernel) (by decide +kernel)
theorem k6_J7_copyOf_59c91 : Cond.classLink RJ7 317 (adnm 0) ∈ wsG := inG 757 (by decide +kernel) (by decide +kernel)
theorem k7_J7_copyOf_59c91 : Cond.methodLink RJ7 150 arraycopyName ∈ wsG := inG 747 (by decide +kernel) (by decide +kernel)
theorem k8_J7_copyOf_59c91 : Cond.native arraycopyName ∈ wsG := inG 749 (by decide +kernel) (by decide +kernel)
theorem k9_J7_copyOf_59c91 : Cond.static arraycopyName ∈ wsG := inG 748 (by decide +kernel) (by decide +kernel)
theorem k10_J7_copyOf_59c91 : Cond.initialized "java/lang/System" ∈ wsG := inG 13 (by decide +kernel) (by decide +kernel)
theorem k11_J7_copyOf_59c91 : Cond.methodLink RJ7 304 Lib.Math.min.name ∈ wsG := inG 746 (by decide +kernel) (by decide +kernel)
theorem k12_J7_copyOf_59c91 : Cond.static Lib.Math.min.name ∈ wsG := inG 275 (by decide +kernel) (by decide +kernel)
theorem k13_J7_copyOf_59c91 : Cond.initialized "java/lang/Math" ∈ wsG := inG 7 (by decide +kernel) (by decide +kernel)
theorem k14_J7_copyOf_59c91 : Cond.code Lib.Math.min.name Lib.Math.min.code 2 (some .int) ∈ wsG := inG 276 (by decide +kernel) (by decide +kernel)
theorem k15_J7_copyOf_59c91 : Cond.arrayClass (aty 0) ∈ wsG := inG 55 (by decide +kernel) (by decide +kernel)
theorem dJ7_copyOf_59c91_0 : decode cJ7_copyOf_59c91 0 = .ok (.iload_n 1, 1) := by decide +kernel
theorem dJ7_copyOf_59c91_1 : decode cJ7_copyOf_59c91 1 = .ok (.aload_n 0, 1) := by decide +kernel
theorem dJ7_copyOf_59c91_2 : decode cJ7_copyOf_59c91 2 = .ok (.arraylength, 1) := by decide +kernel
theorem dJ7_copyOf_59c91_3 : decode cJ7_copyOf_59c91 3 = .ok (.if_icmp .ne 11, 3) := by decide +kernel
theorem dJ7_copyOf_59c91_6 : decode cJ7_copyOf_59c91 6 = .ok (.aload_n 0, 1) := by decide +kernel
theorem dJ7_copyOf_59c91_7 : decode cJ7_copyOf_59c91 7 = .ok (.invokevirtual 316, 3) := by decide +kernel
theorem dJ7_copyOf_59c91_10 : decode cJ7_copyOf_59c91 10 = .ok (.checkcast 317, 3) := by decide +kernel
theorem dJ7_copyOf_59c91_13 : decode cJ7_copyOf_59c91 13 = .ok (.areturn, 1) := by decide +kernel
theorem dJ7_copyOf_59c91_14 : decode cJ7_copyOf_59c91 14 = .ok (.iload_n 1, 1) := by decide +kernel
theorem dJ7_copyOf_59c91_15 : decode cJ7_copyOf_59c91 15 = .ok (.newarray .int, 2) := by decide +kernel
theorem dJ7_copyOf_59c91_17 : decode cJ7_copyOf_59c91 17 = .ok (.astore_n 2, 1) := by decide +kernel
theorem dJ7_copyOf_59c91_18 : decode cJ7_copyOf_59c91 18 = .ok (.aload_n 0, 1) := by decide +kernel
theorem dJ7_copyOf_59c91_19 : decode cJ7_copyOf_59c91 19 = .ok (.iconst 0, 1) := by decide +kernel
theorem dJ7_copyOf_59c91_20 : decode cJ7_copyOf_59c91 20 = .ok (.aload_n 2, 1) := by decide +kernel
theorem dJ7_copyOf_59c91_21 : decode cJ7_copyOf_59c91 21 = .ok (.iconst 0, 1) := by decide +kernel
theorem dJ7_copyOf_59c91_22 : decode cJ7_copyOf_59c91 22 = .ok (.aload_n 0, 1) := by decide +kernel
theorem dJ7_copyOf_59c91_23 : decode cJ7_copyOf_59c91 23 = .ok (.arraylength, 1) := by decide +kernel
theorem dJ7_copyOf_59c91_24 : decode cJ7_copyOf_59c91 24 = .ok (.iload_n 1, 1) := by decide +kernel
theorem dJ7_copyOf_59c91_25 : decode cJ7_copyOf_59c91 25 = .ok (.invokestatic 304, 3) := by decide +kernel
theorem dJ7_copyOf_59c91_28 : decode cJ7_copyOf_59c91 28 = .ok (.invokestatic 150, 3) := by decide +kernel
theorem dJ7_copyOf_59c91_31 : decode cJ7_copyOf_59c91 31 = .ok (.aload_n 2, 1) := by decide +kernel
theorem dJ7_copyOf_59c91_32 : decode cJ7_copyOf_59c91 32 = .ok (.areturn, 1) := by decide +kernel
def f_J7_copyOf_59c91 (a0 a1 : Int) (H : PH) : RO := cpof 0 a0 a1 H
set_option maxHeartbeats 1000000 in
theorem m_J7_copyOf_59c91 (l : Launch) (a0 a1 : Int) (H : PH) (rr : Int) (HH : PH) (h : f_J7_copyOf_59c91 a0 a1 H = some (rr, HH)) : CT l yJ7_copyOf_59c91 cJ7_copyOf_59c91 3 (some (.array .int)) 2 64 [vr a0, vi a1] H (some (vr rr)) HH := by
  refine CT.of RJ7 (by decide) rfl [some (vr a0), some (vi a1), none] rfl rfl ?_
  intro E F q hn hf hl hm
  obtain ⟨xs, hc, h0, h1, h⟩ := cpof_spec h
  refine pw_iload_n (pc := 0) F dJ7_copyOf_59c91_0 rfl ?_
  refine pw_aload_n (pc := 1) F dJ7_copyOf_59c91_1 rfl ?_
  refine pw_alen (pc := 2) F dJ7_copyOf_59c91_2 (alen_of hc (by decide)) ?_
  refine pw_icmp_ne (pc := 3) F 14 dJ7_copyOf_59c91_3 (by decide) (fun hne => ?_) (fun hne => ?_)
  · obtain ⟨z1, z2, rfl, rfl⟩ := alc_spec h
    have hlen : (xs.take a1.toNat ++ List.replicate (a1.toNat - xs.length) (0 : Int)).length = a1.toNat := by simp; omega
    have z2 : szs H + (xs.take a1.toNat ++ List.replicate (a1.toNat - xs.length) (0 : Int)).length ≤ 7302250 := z2
    rw [hlen] at z2
    have hnew : newa 0 a1 H = some ((H.length : Int), H ++ [(0, List.replicate a1.toNat 0)]) := by
      unfold newa
      rw [if_pos ⟨h0, h1⟩]
      unfold alc
      rw [if_pos ⟨z1, by simpa using z2⟩]
      rfl
    refine pw_iload_n (pc := 14) F dJ7_copyOf_59c91_14 rfl ?_
    refine pw_newa (pc := 15) F 0 (by decide) k15_J7_copyOf_59c91 dJ7_copyOf_59c91_15 hnew ?_
    refine pw_astore_n (pc := 17) F dJ7_copyOf_59c91_17 (lt_nl hn (by decide)) [some (vr a0), some (vi a1), some (vr (H.length : Int))] rfl ?_
    refine pw_aload_n (pc := 18) F dJ7_copyOf_59c91_18 rfl ?_
    refine pw_iconst (pc := 19) F 0 dJ7_copyOf_59c91_19 (by decide) ?_
    refine pw_aload_n (pc := 20) F dJ7_copyOf_59c91_20 rfl ?_
    refine pw_iconst (pc := 21) F 0 dJ7_copyOf_59c91_21 (by decide) ?_
    refine pw_aload_n (pc := 22) F dJ7_copyOf_59c91_22 rfl ?_
    refine pw_alen (pc := 23) F dJ7_copyOf_59c91_23 (alen_of (gcell_app hc) (by decide)) ?_
    refine pw_iload_n (pc := 24) F dJ7_copyOf_59c91_24 rfl ?_
    refine pw_mmin (pc := 25) F 304 k11_J7_copyOf_59c91 k12_J7_copyOf_59c91 k13_J7_copyOf_59c91 k14_J7_copyOf_59c91 (rm_ok hf hl (by decide) (by decide)) rfl dJ7_copyOf_59c91_25 ?_
    have hmin : imin (xs.length : Int) a1 = ((min xs.length a1.toNat : Nat) : Int) := by
      unfold imin; split <;> omega
    rw [hmin]
    refine pw_acopy (pc := 28) F 0 150 (by decide) k7_J7_copyOf_59c91 k8_J7_copyOf_59c91 k9_J7_copyOf_59c91 k10_J7_copyOf_59c91 (rm_ok hf hl (by decide) (by decide)) dJ7_copyOf_59c91_28 (gcell_app hc) gcell_new (by omega) (by simp; omega) (by simp; omega) ?_
    refine pw_aload_n (pc := 31) F dJ7_copyOf_59c91_31 rfl ?_
    have hend : (H ++ [(0, List.replicate a1.toNat (0 : Int))]).set ((H.length : Int)).toNat (0, xs.take ((min xs.length a1.toNat : Nat) : Int).toNat ++ (List.replicate a1.toNat (0 : Int)).drop ((min xs.length a1.toNat : Nat) : Int).toNat) = H ++ [(0, xs.take a1.toNat ++ List.replicate (a1.toNat - xs.length) (0 : Int))] := by
      have e1 : ((H.length : Int)).toNat = H.length := by omega
      have e2 : ((min xs.length a1.toNat : Nat) : Int).toNat = min xs.length a1.toNat := by omega
      rw [e1, e2, List.set_append_right _ _ (Nat.le_refl _), Nat.sub_self, List.set_cons_zero, List.drop_replicate]
      congr 3
      · by_cases hx : xs.length ≤ a1.toNat
        · rw [Nat.min_eq_left hx, List.take_of_length_le hx, List.take_of_length_le (Nat.le_refl _)]
        · rw [Nat.min_eq_right (by omega), show a1.toNat - xs.length = 0 by omega, Nat.sub_self]
    rw [hend]
    exact pw_aret (pc := 32) F (Or.inr ⟨_, rfl⟩) q dJ7_copyOf_59c91_32
  · have hne : a1 = (xs.length : Int) := Classical.byContradiction hne
    have hx : xs.take a1.toNat ++ List.replicate (a1.toNat - xs.length) (0 : Int) = xs := by
      rw [hne, show ((xs.length : Int)).toNat = xs.length by omega, List.take_of_length_le (Nat.le_refl _), Nat.sub_self]
      simp
    rw [hx] at h
    have hg : gcell HH rr = some (0, xs) := by
      obtain ⟨z1, z2, rfl, rfl⟩ := alc_spec h
      exact gcell_new
    refine pw_aload_n (pc := 6) F dJ7_copyOf_59c91_6 rfl ?_
    refine pw_clone (pc := 7) F 0 316 (by decide) k1_J7_copyOf_59c91 k2_J7_copyOf_59c91 k3_J7_copyOf_59c91 k4_J7_copyOf_59c91 k5_J7_copyOf_59c91 (rm_ok hf hl (by decide) (by decide)) dJ7_copyOf_59c91_7 hc h ?_
    refine pw_cast (pc := 10) F 0 317 (by decide) k6_J7_copyOf_59c91 dJ7_copyOf_59c91_10 hg ?_
    exact pw_aret (pc := 13) F (Or.inr ⟨_, rfl⟩) q dJ7_copyOf_59c91_13
theorem k1_J7_copyOf_c38d5 : Cond.methodLink RJ7 319 ⟨adnm 1, "clone", "()Ljava/lang/Object;"⟩ ∈ wsG := inG 739 (by decide +kernel) (by decide +kernel)
theorem k2_J7_copyOf_c38d5 : Cond.sameMethod (adnm 1) "java/lang/Object" "clone" "()Ljava/lang/Object;" ∈ wsG := inG 740 (by decide +kernel) (by decide +kernel)
theorem k3_J7_copyOf_c38d5 : Cond.native ⟨"java/lang/Object", "clone", "()Ljava/lang/Object;"⟩ ∈ wsG := inG 741 (by decide +kernel) (by decide +kernel)
theorem k4_J7_copyOf_c38d5 : Cond.instanceMethod ⟨"java/lang/Object", "clone", "()Ljava/lang/Object;"⟩ ∈ wsG := inG 742 (by decide +kernel) (by decide +kernel)
theorem k5_J7_copyOf_c38d5 : Cond.selects (adnm 1) ⟨adnm 1, "clone", "()Ljava/lang/Object;"⟩ ⟨"java/lang/Object", "clone", "()Ljava/lang/Object;"⟩ ∈ wsG := inG 743 (by decide +kernel) (by decide +kernel)
theorem k6_J7_copyOf_c38d5 : Cond.classLink RJ7 320 (adnm 1) ∈ wsG := inG 745 (by decide +kernel) (by decide +kernel)
theorem k7_J7_copyOf_c38d5 : Cond.methodLink RJ7 150 arraycopyName ∈ wsG := inG 747 (by decide +kernel) (by decide +kernel)
theorem k8_J7_copyOf_c38d5 : Cond.native arraycopyName ∈ wsG := inG 749 (by decide +kernel) (by decide +kernel)
theorem k9_J7_copyOf_c38d5 : Cond.static arraycopyName ∈ wsG := inG 748 (by decide +kernel) (by decide +kernel)
theorem k10_J7_copyOf_c38d5 : Cond.initialized "java/lang/System" ∈ wsG := inG 13 (by decide +kernel) (by decide +kernel)
theorem k11_J7_copyOf_c38d5 : Cond.methodLink RJ7 304 Lib.Math.min.name ∈ wsG := inG 746 (by decide +kernel) (by decide +kernel)
theorem k12_J7_copyOf_c38d5 : Cond.static Lib.Math.min.name ∈ wsG := inG 275 (by decide +kernel) (by decide +kernel)
theorem k13_J7_copyOf_c38d5 : Cond.initialized "java/lang/Math" ∈ wsG := inG 7 (by decide +kernel) (by decide +kernel)
theorem k14_J7_copyOf_c38d5 : Cond.code Lib.Math.min.name Lib.Math.min.code 2 (some .int) ∈ wsG := inG 276 (by decide +kernel) (by decide +kernel)
theorem k15_J7_copyOf_c38d5 : Cond.arrayClass (aty 1) ∈ wsG := inG 100 (by decide +kernel) (by decide +kernel)
theorem dJ7_copyOf_c38d5_0 : decode cJ7_copyOf_c38d5 0 = .ok (.iload_n 1, 1) := by decide +kernel
theorem dJ7_copyOf_c38d5_1 : decode cJ7_copyOf_c38d5 1 = .ok (.aload_n 0, 1) := by decide +kernel
theorem dJ7_copyOf_c38d5_2 : decode cJ7_copyOf_c38d5 2 = .ok (.arraylength, 1) := by decide +kernel
theorem dJ7_copyOf_c38d5_3 : decode cJ7_copyOf_c38d5 3 = .ok (.if_icmp .ne 11, 3) := by decide +kernel
theorem dJ7_copyOf_c38d5_6 : decode cJ7_copyOf_c38d5 6 = .ok (.aload_n 0, 1) := by decide +kernel
theorem dJ7_copyOf_c38d5_7 : decode cJ7_copyOf_c38d5 7 = .ok (.invokevirtual 319, 3) := by decide +kernel
theorem dJ7_copyOf_c38d5_10 : decode cJ7_copyOf_c38d5 10 = .ok (.checkcast 320, 3) := by decide +kernel
theorem dJ7_copyOf_c38d5_13 : decode cJ7_copyOf_c38d5 13 = .ok (.areturn, 1) := by decide +kernel
theorem dJ7_copyOf_c38d5_14 : decode cJ7_copyOf_c38d5 14 = .ok (.iload_n 1, 1) := by decide +kernel
theorem dJ7_copyOf_c38d5_15 : decode cJ7_copyOf_c38d5 15 = .ok (.newarray .long, 2) := by decide +kernel
theorem dJ7_copyOf_c38d5_17 : decode cJ7_copyOf_c38d5 17 = .ok (.astore_n 2, 1) := by decide +kernel
theorem dJ7_copyOf_c38d5_18 : decode cJ7_copyOf_c38d5 18 = .ok (.aload_n 0, 1) := by decide +kernel
theorem dJ7_copyOf_c38d5_19 : decode cJ7_copyOf_c38d5 19 = .ok (.iconst 0, 1) := by decide +kernel
theorem dJ7_copyOf_c38d5_20 : decode cJ7_copyOf_c38d5 20 = .ok (.aload_n 2, 1) := by decide +kernel
theorem dJ7_copyOf_c38d5_21 : decode cJ7_copyOf_c38d5 21 = .ok (.iconst 0, 1) := by decide +kernel
theorem dJ7_copyOf_c38d5_22 : decode cJ7_copyOf_c38d5 22 = .ok (.aload_n 0, 1) := by decide +kernel
theorem dJ7_copyOf_c38d5_23 : decode cJ7_copyOf_c38d5 23 = .ok (.arraylength, 1) := by decide +kernel
theorem dJ7_copyOf_c38d5_24 : decode cJ7_copyOf_c38d5 24 = .ok (.iload_n 1, 1) := by decide +kernel
theorem dJ7_copyOf_c38d5_25 : decode cJ7_copyOf_c38d5 25 = .ok (.invokestatic 304, 3) := by decide +kernel
theorem dJ7_copyOf_c38d5_28 : decode cJ7_copyOf_c38d5 28 = .ok (.invokestatic 150, 3) := by decide +kernel
theorem dJ7_copyOf_c38d5_31 : decode cJ7_copyOf_c38d5 31 = .ok (.aload_n 2, 1) := by decide +kernel
theorem dJ7_copyOf_c38d5_32 : decode cJ7_copyOf_c38d5 32 = .ok (.areturn, 1) := by decide +kernel
def f_J7_copyOf_c38d5 (a0 a1 : Int) (H : PH) : RO := cpof 1 a0 a1 H
set_option maxHeartbeats 1000000 in
theorem m_J7_copyOf_c38d5 (l : Launch) (a0 a1 : Int) (H : PH) (rr : Int) (HH : PH) (h : f_J7_copyOf_c38d5 a0 a1 H = some (rr, HH)) : CT l yJ7_copyOf_c38d5 cJ7_copyOf_c38d5 3 (some (.array .long)) 2 64 [vr a0, vi a1] H (some (vr rr)) HH := by
  refine CT.of RJ7 (by decide) rfl [some (vr a0), some (vi a1), none] rfl rfl ?_
  intro E F q hn hf hl hm
  obtain ⟨xs, hc, h0, h1, h⟩ := cpof_spec h
  refine pw_iload_n (pc := 0) F dJ7_copyOf_c38d5_0 rfl ?_
  refine pw_aload_n (pc := 1) F dJ7_copyOf_c38d5_1 rfl ?_
  refine pw_alen (pc := 2) F dJ7_copyOf_c38d5_2 (alen_of hc (by decide)) ?_
  refine pw_icmp_ne (pc := 3) F 14 dJ7_copyOf_c38d5_3 (by decide) (fun hne => ?_) (fun hne => ?_)
  · obtain ⟨z1, z2, rfl, rfl⟩ := alc_spec h
    have hlen : (xs.take a1.toNat ++ List.replicate (a1.toNat - xs.length) (0 : Int)).length = a1.toNat := by simp; omega
    have z2 : szs H + (xs.take a1.toNat ++ List.replicate (a1.toNat - xs.length) (0 : Int)).length ≤ 7302250 := z2
    rw [hlen] at z2
    have hnew : newa 1 a1 H = some ((H.length : Int), H ++ [(1, List.replicate a1.toNat 0)]) := by
      unfold newa
      rw [if_pos ⟨h0, h1⟩]
      unfold alc
      rw [if_pos ⟨z1, by simpa using z2⟩]
      rfl
    refine pw_iload_n (pc := 14) F dJ7_copyOf_c38d5_14 rfl ?_
    refine pw_newa (pc := 15) F 1 (by decide) k15_J7_copyOf_c38d5 dJ7_copyOf_c38d5_15 hnew ?_
    refine pw_astore_n (pc := 17) F dJ7_copyOf_c38d5_17 (lt_nl hn (by decide)) [some (vr a0), some (vi a1), some (vr (H.length : Int))] rfl ?_
    refine pw_aload_n (pc := 18) F dJ7_copyOf_c38d5_18 rfl ?_
    refine pw_iconst (pc := 19) F 0 dJ7_copyOf_c38d5_19 (by decide) ?_
    refine pw_aload_n (pc := 20) F dJ7_copyOf_c38d5_20 rfl ?_
    refine pw_iconst (pc := 21) F 0 dJ7_copyOf_c38d5_21 (by decide) ?_
    refine pw_aload_n (pc := 22) F dJ7_copyOf_c38d5_22 rfl ?_
    refine pw_alen (pc := 23) F dJ7_copyOf_c38d5_23 (alen_of (gcell_app hc) (by decide)) ?_
    refine pw_iload_n (pc := 24) F dJ7_copyOf_c38d5_24 rfl ?_
    refine pw_mmin (pc := 25) F 304 k11_J7_copyOf_c38d5 k12_J7_copyOf_c38d5 k13_J7_copyOf_c38d5 k14_J7_copyOf_c38d5 (rm_ok hf hl (by decide) (by decide)) rfl dJ7_copyOf_c38d5_25 ?_
    have hmin : imin (xs.length : Int) a1 = ((min xs.length a1.toNat : Nat) : Int) := by
      unfold imin; split <;> omega
    rw [hmin]
    refine pw_acopy (pc := 28) F 1 150 (by decide) k7_J7_copyOf_c38d5 k8_J7_copyOf_c38d5 k9_J7_copyOf_c38d5 k10_J7_copyOf_c38d5 (rm_ok hf hl (by decide) (by decide)) dJ7_copyOf_c38d5_28 (gcell_app hc) gcell_new (by omega) (by simp; omega) (by simp; omega) ?_
    refine pw_aload_n (pc := 31) F dJ7_copyOf_c38d5_31 rfl ?_
    have hend : (H ++ [(1, List.replicate a1.toNat (0 : Int))]).set ((H.length : Int)).toNat (1, xs.take ((min xs.length a1.toNat : Nat) : Int).toNat ++ (List.replicate a1.toNat (0 : Int)).drop ((min xs.length a1.toNat : Nat) : Int).toNat) = H ++ [(1, xs.take a1.toNat ++ List.replicate (a1.toNat - xs.length) (0 : Int))] := by
      have e1 : ((H.length : Int)).toNat = H.length := by omega
      have e2 : ((min xs.length a1.toNat : Nat) : Int).toNat = min xs.length a1.toNat := by omega
      rw [e1, e2, List.set_append_right _ _ (Nat.le_refl _), Nat.sub_self, List.set_cons_zero, List.drop_replicate]
      congr 3
      · by_cases hx : xs.length ≤ a1.toNat
        · rw [Nat.min_eq_left hx, List.take_of_length_le hx, List.take_of_length_le (Nat.le_refl _)]
        · rw [Nat.min_eq_right (by omega), show a1.toNat - xs.length = 0 by omega, Nat.sub_self]
    rw [hend]
    exact pw_aret (pc := 32) F (Or.inr ⟨_, rfl⟩) q dJ7_copyOf_c38d5_32
  · have hne : a1 = (xs.length : Int) := Classical.byContradiction hne
    have hx : xs.take a1.toNat ++ List.replicate (a1.toNat - xs.length) (0 : Int) = xs := by
      rw [hne, show ((xs.length : Int)).toNat = xs.length by omega, List.take_of_length_le (Nat.le_refl _), Nat.sub_self]
      simp
    rw [hx] at h
    have hg : gcell HH rr = some (1, xs) := by
      obtain ⟨z1, z2, rfl, rfl⟩ := alc_spec h
      exact gcell_new
    refine pw_aload_n (pc := 6) F dJ7_copyOf_c38d5_6 rfl ?_
    refine pw_clone (pc := 7) F 1 319 (by decide) k1_J7_copyOf_c38d5 k2_J7_copyOf_c38d5 k3_J7_copyOf_c38d5 k4_J7_copyOf_c38d5 k5_J7_copyOf_c38d5 (rm_ok hf hl (by decide) (by decide)) dJ7_copyOf_c38d5_7 hc h ?_
    refine pw_cast (pc := 10) F 1 320 (by decide) k6_J7_copyOf_c38d5 dJ7_copyOf_c38d5_10 hg ?_
    exact pw_aret (pc := 13) F (Or.inr ⟨_, rfl⟩) q dJ7_copyOf_c38d5_13
