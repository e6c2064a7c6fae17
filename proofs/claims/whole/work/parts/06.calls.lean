/-! RULES: new cells, returns, contracts and calls -/
section Rules4
variable {E : PE} {cc : ByteArray} {own : String} {pc : Nat} {ls : PL} {st : List PV} {H H' : PH}
theorem defv (base : Nat) {ty : FieldType} (h : kd ty = 0 ∨ kd ty = 1 ∨ kd ty = 2) : rv base (kd ty, if kd ty = 2 then -1 else 0) (defaultValue ty) := by
  cases ty with
  | int => exact ⟨0, rfl, rfl⟩
  | boolean => exact ⟨0, rfl, rfl⟩
  | long => exact ⟨0, rfl, rfl⟩
  | object n => exact Or.inl ⟨rfl, rfl⟩
  | array t => exact Or.inl ⟨rfl, rfl⟩
  | _ => simp [kd] at h
theorem cty_kd : ∀ c, c < 10 → ∀ k, k < cN c → kd (cty c k) = 0 ∨ kd (cty c k) = 1 ∨ kd (cty c k) = 2 := by decide +kernel
theorem room_ok {p : Program} {l : Launch} {e : Env} {R : Room} {s : State} {m : MethodId} {args : Array Value} {below : List Frame} {meth : Method} {c : Code} {T : State} {locs : List Loc} {cells slots : Nat} {D : va_G} {A : Nat → ClassId} {base : Nat} {H0 H : PH} {MH : Heap}
    (X : Stand p l e R s m args below meth c T locs cells slots) (hT : T.heap = MH) (hH0 : HR D A base H0 s.heap) (hH : HR D A base H MH) : H0.length ≤ H.length ∧ szs H0 ≤ szs H := by
  have h1 : s.heap.size ≤ T.heap.size := X.same.2.1
  rw [hT, hH.1, hH0.1] at h1
  have hle : H0.length ≤ H.length := by omega
  refine ⟨hle, ?_⟩
  have := HR.sums hH0 hH (by rw [hH.1, hH0.1]; omega) (fun a c1 c2 e1 e2 => by
    obtain ⟨c', f1, -, f3, -⟩ := X.same.2.2.2.2.2 a c1 e1
    have hT' : (T.setVm s.vm).heap = MH := hT
    rw [hT'] at f1
    cases f1.symm.trans e2
    exact f3)
  omega
theorem W.room {p : Program} {l : Launch} {e : Env} {R : Room} {s : State} {m : MethodId} {args : Array Value} {below : List Frame} {meth : Method} {c : Code} {locs : List Loc} {cells slots : Nat} {D : va_G} {A : Nat → ClassId} {base : Nat} {H0 H : PH} {MH : Heap} {Q : State → Prop} {g : JFrame}
    (hH0 : HR D A base H0 s.heap) (hH : HR D A base H MH) (kk : H0.length ≤ H.length → szs H0 ≤ szs H → W p l e R s m args below meth c MH locs (H.length - H0.length) (szs H - szs H0) Q g) : W p l e R s m args below meth c MH locs cells slots Q g := by
  intro T hT X
  obtain ⟨h1, h2⟩ := room_ok X hT hH0 hH
  exact W.tight hH0 hH (k := H.length - H0.length) (n := szs H - szs H0) (by omega) (by omega) (kk h1 h2) T hT X
theorem cr_new {D : va_G} {A : Nat → ClassId} {base c0 k : Nat} {MH : Heap} {kC : Class} (hc0 : c0 < 10) (e1 : MH[base + k]? = some (blank (D.1 c0) kC)) (hsz : kC.instanceTypes.size = cN c0) (b4 : ∀ j, j < cN c0 → (blank (D.1 c0) kC).slots[D.2 c0 j]? = some (defaultValue (cty c0 j))) : CR D A base (16 + c0, dfl c0) MH k := by
  refine ⟨blank (D.1 c0) kC, e1, rfl, ?_, cls_obj.symm, Or.inr ⟨Nat.le_add_right _ _, Nat.add_lt_add_left hc0 16, ?_⟩, fun j x hj => ?_⟩
  · show _ = (dfl c0).length
    rw [dfl_len]; simpa [blank] using hsz
  · show (dfl c0).length = cN (16 + c0 - 16)
    rw [dfl_len, Nat.add_sub_cancel_left]
  · have hj : (dfl c0)[j]? = some x := hj
    have hjl : j < cN c0 := by rw [← dfl_len c0]; exact (List.getElem?_eq_some_iff.mp hj).1
    have hxv : x = if kd (cty c0 j) = 2 then -1 else 0 := by
      unfold dfl at hj
      rw [List.getElem?_map, List.getElem?_range hjl] at hj
      exact (Option.some.inj hj).symm
    subst hxv
    refine ⟨defaultValue (cty c0 j), ?_, ?_⟩
    · show (blank (D.1 c0) kC).slots[posOf D (16 + c0) j]? = _
      rw [pos_obj]; exact b4 j hjl
    · show rv base (kd (fty (16 + c0) j), _) _
      rw [fty_obj]
      exact defv base (cty_kd c0 hc0 j hjl)
set_option maxHeartbeats 200000 in
theorem pw_new (F : FX E cc own) (c0 index : Nat) (hc0 : c0 < 10) (hcl : Cond.classLink own index (cR c0) ∈ wsG) (hins : Cond.instantiable (cR c0) (cN c0) ∈ wsG) (hini : Cond.initialized (cR c0) ∈ wsG) (hin : ∀ w ∈ u_ws (cR c0) (cT c0) (cN c0), w ∈ wsG) (hdg : decode cc pc = .ok (.new index, 3))
    {a : Int} (h : newo c0 H = some (a, H')) (k : PW E (pc + 3) ls (vr a :: st) H') : PW E pc ls st H := by
  obtain ⟨p, l, e, R, s, m, args, below, meth, c, Q, D, A, base, nL⟩ := E
  intro MH locs Ls St cells slots hH hO hl hL hS
  obtain ⟨hlen, hsz0, ea, eH⟩ := alc_spec h
  subst ea eH
  have hsz : szs H + cN c0 ≤ 7302250 := by
    have q : szs H + (dfl c0).length ≤ 7302250 := hsz0
    rw [dfl_len] at q
    exact q
  obtain ⟨hx, hb, hml, hown, hts, hK, hlk, H0, hH0, hRc, hRs⟩ := F
  have hKn := hK.1 c0 hc0
  refine W.room hH0 hH fun hle hsle => ?_
  have hr1 : H.length - H0.length + 1 ≤ R.cells := by rw [hRc]; omega
  have hr2 : szs H - szs H0 + cN c0 ≤ R.slots := by rw [hRs]; omega
  refine W.newcK hx hb hown (hts _ hcl) (hts _ hins) (hts _ hini) rfl hdg hr1 hr2 hKn.2.1 rfl (fun MH' kC hkC e1 e2 e3 => ?_)
  obtain ⟨_, _, hfc2, hk2, -, hsz2⟩ := Cond.instantiable_spec (hts _ hins)
  cases hKn.2.1.symm.trans hfc2
  cases hkC.symm.trans hk2
  obtain ⟨cell, b1, b2, b3, b4⟩ := u_born (cty c0) hts hin hKn hkC e1 (cty_ok c0 hc0)
  cases e1.symm.trans b1
  have hcr : CR D A base (16 + c0, dfl c0) MH' H.length := cr_new hc0 (by rw [← hH.1]; exact e1) hsz2.2.2 b4
  have hbase : base ≤ MH.size := by rw [hH.1]; exact Nat.le_add_right _ _
  exact k MH' locs Ls _ _ _ (hH.push hlen hsz0 e2 e3 hcr) (fun q hq => (e3 q (Nat.lt_of_lt_of_le hq hbase)).trans (hO q hq)) hl hL ⟨Or.inr ⟨Int.natCast_nonneg _, by rw [hH.1]; rfl⟩, hS⟩
def aTy : Nat → ArrayType := fun t => match t with
  | 0 => .int | 1 => .long | _ => .boolean
theorem aTy_ok : ∀ t, t < 3 → newarray.typeOf (aTy t) = aty t := by decide +kernel
theorem aTy_b : ∀ t, t < 3 → componentBytes (aty t) ≤ 8 := by decide +kernel
theorem newa_spec {t : Nat} {n a : Int} (h : newa t n H = some (a, H')) : 0 ≤ n ∧ n ≤ 100000 ∧ H.length < 600000 ∧ szs H + n.toNat ≤ 7302250 ∧ a = (H.length : Int) ∧ H' = H ++ [(t, List.replicate n.toNat (if t < 3 then 0 else -1))] := by
  unfold newa at h
  split at h
  · rename_i h1
    obtain ⟨h2, h3, h4, h5⟩ := alc_spec h
    exact ⟨h1.1, h1.2, h2, by simpa using h3, h4, h5⟩
  · cases h
theorem clamp_int {i : Int32} {j : Int} (hi : i.toInt = j) (h0 : 0 ≤ j) : ¬ i < 0 ∧ i.toNatClampNeg = j.toNat := by
  refine ⟨?_, by rw [← hi]; rfl⟩
  rw [Int32.lt_iff_toInt_lt, hi]
  simp
  omega
theorem cr_arr {D : va_G} {A : Nat → ClassId} {base k t n : Nat} {MH : Heap} (ht : t < 8) (e1 : MH[base + k]? = some (arrV (A t) n (fun _ => defaultValue (aty t)))) : CR D A base (t, List.replicate n (if t < 3 then 0 else -1)) MH k := by
  refine ⟨_, e1, rfl, ?_, ?_, Or.inl ht, fun j x hj => ?_⟩
  · rw [arrV_size]; show n = (List.replicate n _).length; simp
  · show A t = clsOf D A t
    unfold clsOf; rw [if_pos (Nat.lt_trans ht (by decide))]
  · have hj : (List.replicate n (if t < 3 then (0 : Int) else -1))[j]? = some x := hj
    have hjl : j < n := by
      have := (List.getElem?_eq_some_iff.mp hj).1
      simpa using this
    rw [List.getElem?_replicate, if_pos hjl] at hj
    refine ⟨defaultValue (aty t), ?_, ?_⟩
    · show _[posOf D t j]? = _
      rw [pos_arr ht]; exact arrV_read _ _ hjl
    · show rv base (kd (fty t j), _) _
      rw [fty_arr ht, ← Option.some.inj hj]
      match t, ht with
      | 0, _ => exact ⟨0, rfl, rfl⟩
      | 1, _ => exact ⟨0, rfl, rfl⟩
      | 2, _ => exact ⟨0, rfl, rfl⟩
      | t + 3, _ => exact Or.inl ⟨by show (if t + 3 < 3 then (0 : Int) else -1) = -1; rw [if_neg (by omega)], rfl⟩
theorem aty3 {t : Nat} (ht : t < 3) : aty t = .int ∨ aty t = .long ∨ aty t = .boolean := by
  obtain rfl | rfl | rfl : t = 0 ∨ t = 1 ∨ t = 2 := by omega
  · exact Or.inl rfl
  · exact Or.inr (Or.inl rfl)
  · exact Or.inr (Or.inr rfl)
set_option maxHeartbeats 200000 in
theorem ra_eq {U : State} {t : Nat} {cA cB : ClassId} (ht : t < 3) (h : va_RA U cB (aty t)) (e : U.vm.findClass ("[" ++ (aty t).toString) = some cA) : cA = cB := by
  have h3 := aty3 ht
  generalize aty t = ty at h e h3
  rcases h3 with rfl | rfl | rfl
  · unfold va_RA at h
    exact Option.some.inj (e.symm.trans h)
  · unfold va_RA at h
    exact Option.some.inj (e.symm.trans h)
  · unfold va_RA at h
    exact Option.some.inj (e.symm.trans h)
set_option maxHeartbeats 200000 in
theorem pw_newa (F : FX E cc own) (t : Nat) (ht : t < 3) (hw : Cond.arrayClass (aty t) ∈ wsG) (hdg : decode cc pc = .ok (.newarray (aTy t), 2)) {n a : Int} (h : newa t n H = some (a, H')) (k : PW E (pc + 2) ls (vr a :: st) H') : PW E pc ls (vi n :: st) H := by
  obtain ⟨p, l, e, R, s, m, args, below, meth, c, Q, D, A, base, nL⟩ := E
  intro MH locs Ls St cells slots hH hO hl hL hS
  obtain ⟨hn0, hn1, hlen, hsz, ea, eH⟩ := newa_spec h
  subst ea eH
  obtain ⟨v1, S1, rfl, ⟨y, rfl, hy⟩, hS1⟩ := rvs_cons hS
  obtain ⟨hx, hb, hml, hown, hts, hK, hlk, H0, hH0, hRc, hRs⟩ := F
  obtain ⟨y1, y2⟩ := clamp_int hy hn0
  have hnn : n.toNat ≤ 100000 := by omega
  have y2 : y.toNatClampNeg = n.toNat := y2
  refine W.room hH0 hH fun hle hsle => ?_
  have hr1 : H.length - H0.length + 1 ≤ R.cells := by rw [hRc]; omega
  have hr2 : szs H - szs H0 + n.toNat ≤ R.slots := by rw [hRs]; omega
  have ha := aTy_ok t ht
  have hbytes : n.toNat * componentBytes (newarray.typeOf (aTy t)) ≤ 536870912 := by
    rw [ha]
    exact Nat.le_trans (Nat.mul_le_mul hnn (aTy_b t ht)) (by decide)
  refine va_newaK hx hb (by rw [ha]; exact hts _ hw) rfl hdg rfl y1 y2 hbytes hr1 hr2 rfl (fun MH' cA e1 e2 e3 e4 e5 => ?_)
  rw [ha] at e1 e4 e5
  have hcA : cA = A t := ra_eq ht (hK.2.1 t (Nat.lt_trans ht (by decide))).2 e5
  subst hcA
  have hcr : CR D A base (t, List.replicate n.toNat (if t < 3 then 0 else -1)) MH' H.length := cr_arr (Nat.lt_trans ht (by decide)) (by rw [← hH.1]; exact e1)
  have hbase : base ≤ MH.size := by rw [hH.1]; exact Nat.le_add_right _ _
  have hsz' : szs H + (List.replicate n.toNat (if t < 3 then (0 : Int) else -1)).length ≤ 7302250 := by rw [List.length_replicate]; exact hsz
  exact k MH' locs Ls _ _ _ (hH.push hlen hsz' e2 e3 hcr) (fun q hq => (e3 q (Nat.lt_of_lt_of_le hq hbase)).trans (hO q hq)) hl hL ⟨Or.inr ⟨Int.natCast_nonneg _, by rw [hH.1]; rfl⟩, hS1⟩
set_option maxHeartbeats 200000 in
theorem pw_anew (F : FX E cc own) (t index : Nat) (ht : 3 ≤ t ∧ t < 8) (hw : Cond.classLink own index (aC t) ∈ wsG) (hdg : decode cc pc = .ok (.anewarray index, 3)) {n a : Int} (h : newa t n H = some (a, H')) (k : PW E (pc + 3) ls (vr a :: st) H') : PW E pc ls (vi n :: st) H := by
  obtain ⟨p, l, e, R, s, m, args, below, meth, c, Q, D, A, base, nL⟩ := E
  intro MH locs Ls St cells slots hH hO hl hL hS
  obtain ⟨hn0, hn1, hlen, hsz, ea, eH⟩ := newa_spec h
  subst ea eH
  obtain ⟨v1, S1, rfl, ⟨y, rfl, hy⟩, hS1⟩ := rvs_cons hS
  obtain ⟨hx, hb, hml, hown, hts, hK, hlk, H0, hH0, hRc, hRs⟩ := F
  obtain ⟨y1, y2⟩ := clamp_int hy hn0
  have hnn : n.toNat ≤ 100000 := by omega
  have y2 : y.toNatClampNeg = n.toNat := y2
  refine W.room hH0 hH fun hle hsle => ?_
  have hr1 : H.length - H0.length + 1 ≤ R.cells := by rw [hRc]; omega
  have hr2 : szs H - szs H0 + y.toNatClampNeg ≤ R.slots := by rw [hRs, y2]; omega
  have hbytes : y.toNatClampNeg * 4 ≤ 536870912 := by rw [y2]; omega
  refine W.anew hx hb hown (hts _ hw) (va_AO.use (hK.2.2.1 t ht.1 ht.2)) rfl hdg rfl y1 hbytes hr1 hr2 (fun cA kA comp f1 f2 f3 f4 => ?_)
  obtain ⟨t', rfl⟩ : ∃ t', t = t' + 3 := ⟨t - 3, by omega⟩
  obtain ⟨kA', comp', q1, q2, q3, q4⟩ := (hK.2.1 (t' + 3) ht.2).2
  have hcA : cA = A (t' + 3) := Option.some.inj (f1.symm.trans q4)
  subst hcA
  rw [y2]
  generalize hH1 : MH.push ({ cls := A (t' + 3), slots := Array.replicate n.toNat .null, vm := .none } : Cell) = MH'
  have z1 : MH'.size = MH.size + 1 := by rw [← hH1, Array.size_push]
  have e1 : MH'[MH.size]? = some (arrV (A (t' + 3)) n.toNat (fun _ => defaultValue (aty (t' + 3)))) := by
    show _ = some (arrV (A (t' + 3)) n.toNat (fun _ => Value.null))
    rw [← hH1, Array.getElem?_push_size, ← arrV_new]
  have o1 : ∀ q : Nat, q < MH.size → MH'[q]? = MH[q]? := fun q hq => by rw [← hH1, Array.getElem?_push, if_neg (Nat.ne_of_lt hq)]
  have hcr : CR D A base (t' + 3, List.replicate n.toNat (if t' + 3 < 3 then 0 else -1)) MH' H.length := cr_arr ht.2 (by rw [← hH.1]; exact e1)
  have hbase : base ≤ MH.size := by rw [hH.1]; exact Nat.le_add_right _ _
  have hsz' : szs H + (List.replicate n.toNat (if t' + 3 < 3 then (0 : Int) else -1)).length ≤ 7302250 := by rw [List.length_replicate]; exact hsz
  exact k MH' locs Ls _ _ _ (hH.push hlen hsz' z1 o1 hcr) (fun q hq => (o1 q (Nat.lt_of_lt_of_le hq hbase)).trans (hO q hq)) hl hL ⟨Or.inr ⟨Int.natCast_nonneg _, by rw [hH.1]; rfl⟩, hS1⟩
theorem pw_objInit (F : FX E cc own) (idx : Nat) (hl1 : Cond.methodLink own idx Lib.objectInit ∈ wsG) (hl2 : Cond.instanceMethod Lib.objectInit ∈ wsG) (hl3 : Cond.code Lib.objectInit ⟨#[0xb1]⟩ 1 none ∈ wsG) (hR : 1 ≤ E.2.2.2.1.frames ∧ 12 ≤ E.2.2.2.1.locals) (hdg : decode cc pc = .ok (.invokespecial idx, 3)) {a : Int} (ha : 0 ≤ a) (k : PW E (pc + 3) ls [] H) : PW E pc ls [vr a] H := by
  obtain ⟨p, l, e, R, s, m, args, below, meth, c, Q, D, A, base, nL⟩ := E
  intro MH locs Ls St cells slots hH hO hl hL hS
  obtain ⟨v1, S1, rfl, hx, hS1⟩ := rvs_cons hS
  obtain rfl : v1 = .ref (base + a.toNat) := by
    rcases hx with ⟨q, -⟩ | ⟨-, q⟩
    · dsimp only at q; omega
    · exact q
  cases rvs_nil hS1
  exact W.objInit F.1 F.2.1 F.2.2.2.1 (F.2.2.2.2.1 _ hl1) (F.2.2.2.2.1 _ hl2) (F.2.2.2.2.1 _ hl3) rfl (hL.1.trans F.2.2.1.symm) rfl hdg hR.1 (by show 2 * 0 + 0 + 12 ≤ _; exact hR.2) (k MH locs Ls _ cells slots hH hO hl hL trivial)
end Rules4
