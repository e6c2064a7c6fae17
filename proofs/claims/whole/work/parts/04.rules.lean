/-! RULES: stores, arithmetic, stack, branches -/
def killp (i : Nat) (ls : PL) : PL := match i with
  | 0 => ls
  | k + 1 => match ls[k]? with
    | some (some (1, _)) => ls.set k none
    | _ => ls
def sto1 (i : Nat) (v : PV) (ls : PL) : PL := (killp i ls).set i (some v)
def sto2 (i : Nat) (v : PV) (ls : PL) : PL := ((killp i ls).set i (some v)).set (i + 1) none
def mask : List Bool → PL → PL
  | b :: bs, v :: vs => (if b then v else none) :: mask bs vs
  | _, _ => []
theorem killp_keep {i j : Nat} {ls : PL} {v : PV} (h : (killp i ls)[j]? = some (some v)) : ls[j]? = some (some v) ∧ ¬ (j + 1 = i ∧ v.1 = 1) := by
  cases i with
  | zero => exact ⟨h, fun q => by omega⟩
  | succ k =>
    unfold killp at h
    dsimp only at h
    split at h
    · rename_i w hw
      by_cases hj : k = j
      · subst hj
        rw [List.getElem?_set] at h
        simp at h
      · rw [List.getElem?_set_ne hj] at h
        exact ⟨h, fun q => hj (by omega)⟩
    · rename_i hw
      refine ⟨h, fun q => ?_⟩
      obtain ⟨q1, q2⟩ := q
      obtain rfl : k = j := by omega
      obtain ⟨t, x⟩ := v
      dsimp only at q2
      subst q2
      exact hw _ h
theorem sto1_get {i j : Nat} {ls : PL} {v w : PV} (h : (sto1 i v ls)[j]? = some (some w)) : (j = i ∧ w = v) ∨ (j ≠ i ∧ ls[j]? = some (some w) ∧ ¬ (j + 1 = i ∧ w.1 = 1)) := by
  unfold sto1 at h
  by_cases hj : i = j
  · subst hj
    rw [List.getElem?_set] at h
    simp at h
    exact Or.inl ⟨rfl, h.2.symm⟩
  · rw [List.getElem?_set_ne hj] at h
    exact Or.inr ⟨fun q => hj q.symm, killp_keep h⟩
theorem sto2_get {i j : Nat} {ls : PL} {v w : PV} (h : (sto2 i v ls)[j]? = some (some w)) : (j = i ∧ w = v) ∨ (j ≠ i ∧ j ≠ i + 1 ∧ ls[j]? = some (some w) ∧ ¬ (j + 1 = i ∧ w.1 = 1)) := by
  unfold sto2 at h
  by_cases hj : i + 1 = j
  · subst hj
    rw [List.getElem?_set] at h
    simp at h
  · rw [List.getElem?_set_ne hj] at h
    rcases sto1_get (i := i) (ls := ls) (v := v) h with q | ⟨q1, q2⟩
    · exact Or.inl q
    · exact Or.inr ⟨q1, fun q => hj q.symm, q2⟩
theorem pvne {v : PV} (h : (v.1 == 1) = false) : v.1 ≠ 1 := by simpa using h
theorem rv_cat1 {base : Nat} {v : PV} {x : Value} (h : rv base v x) (hv : v.1 ≠ 1) : x.category = 1 := by
  obtain ⟨t, i⟩ := v
  match t, h with
  | 0, ⟨_, h, _⟩ => subst h; rfl
  | 1, _ => exact absurd rfl hv
  | 2, Or.inl ⟨_, h⟩ => subst h; rfl
  | 2, Or.inr ⟨_, h⟩ => subst h; rfl
  | 3, h => have h : x = .ref i.toNat := h; subst h; rfl
  | t + 4, h => exact h.elim
theorem LR.sto1 {base nL i : Nat} {ls : PL} {Ls : Array Slot} {v : PV} {x : Value} (h : LR base nL ls Ls) (hi : i < nL) (hv : rv base v x) (hc : v.1 ≠ 1) : ∃ Ls', storeLocals Ls i x = some Ls' ∧ LR base nL (sto1 i v ls) Ls' := by
  have hx := rv_cat1 hv hc
  obtain ⟨L0, e0, h0⟩ := lv_store1 (l := []) (i := i) (v := x) ⟨h.1, h.2.1, fun q hq => by cases hq⟩ hi hx
  refine ⟨L0, e0, h0.1, h0.2.1, fun j w hw => ?_⟩
  rcases sto1_get hw with ⟨rfl, rfl⟩ | ⟨q1, q2, q3⟩
  · exact ⟨x, h0.2.2 (j, x) List.mem_cons_self, hv⟩
  · obtain ⟨y, hy, hr⟩ := h.2.2 j w q2
    obtain ⟨L1, e1, h1⟩ := lv_store1 (l := [(j, y)]) (i := i) (v := x) ⟨h.1, h.2.1, fun q hq => by simp at hq; subst hq; exact hy⟩ hi hx
    cases e0.symm.trans e1
    refine ⟨y, h1.2.2 (j, y) (List.mem_cons_of_mem _ (List.mem_filter.mpr ⟨List.mem_cons_self, ?_⟩)), hr⟩
    have : ¬ (j + 1 = i ∧ y.category = 2) := fun q => by
      refine q3 ⟨q.1, ?_⟩
      by_cases hw1 : w.1 = 1
      · exact hw1
      · have := rv_cat1 hr hw1; omega
    simp only [Bool.and_eq_true, Bool.not_eq_true', beq_eq_false_iff_ne, Bool.and_eq_false_iff, ne_eq]
    refine ⟨q1, ?_⟩
    by_cases hj : j + 1 = i
    · exact Or.inr fun q => this ⟨hj, q⟩
    · exact Or.inl hj
theorem LR.sto2 {base nL i : Nat} {ls : PL} {Ls : Array Slot} {y : Int} {x : Int64} (h : LR base nL ls Ls) (hi : i + 1 < nL) (hv : x.toInt = y) : ∃ Ls', storeLocals Ls i (.long x) = some Ls' ∧ LR base nL (sto2 i (vl y) ls) Ls' := by
  obtain ⟨L0, e0, h0⟩ := lv_store2 (l := []) (i := i) (v := .long x) ⟨h.1, h.2.1, fun q hq => by cases hq⟩ hi rfl
  refine ⟨L0, e0, h0.1, h0.2.1, fun j w hw => ?_⟩
  rcases sto2_get hw with ⟨rfl, rfl⟩ | ⟨q1, q2, q3, q4⟩
  · exact ⟨.long x, h0.2.2 (j, .long x) List.mem_cons_self, x, rfl, hv⟩
  · obtain ⟨y', hy, hr⟩ := h.2.2 j w q3
    obtain ⟨L1, e1, h1⟩ := lv_store2 (l := [(j, y')]) (i := i) (v := .long x) ⟨h.1, h.2.1, fun q hq => by simp at hq; subst hq; exact hy⟩ hi rfl
    cases e0.symm.trans e1
    refine ⟨y', h1.2.2 (j, y') (List.mem_cons_of_mem _ (List.mem_filter.mpr ⟨List.mem_cons_self, ?_⟩)), hr⟩
    have : ¬ (j + 1 = i ∧ y'.category = 2) := fun q => by
      refine q4 ⟨q.1, ?_⟩
      by_cases hw1 : w.1 = 1
      · exact hw1
      · have := rv_cat1 hr hw1; omega
    simp only [Bool.and_eq_true, Bool.not_eq_true', beq_eq_false_iff_ne, Bool.and_eq_false_iff, ne_eq]
    refine ⟨q1, q2, ?_⟩
    by_cases hj : j + 1 = i
    · exact Or.inr fun q => this ⟨hj, q⟩
    · exact Or.inl hj
theorem mask_get : ∀ {bs : List Bool} {ls : PL} {j : Nat} {v : PV}, (mask bs ls)[j]? = some (some v) → ls[j]? = some (some v)
  | [], ls, j, v, h => by simp [mask] at h
  | b :: bs, [], j, v, h => by simp [mask] at h
  | b :: bs, w :: ls, 0, v, h => by
    simp only [mask, List.getElem?_cons_zero] at h ⊢
    split at h
    · exact h
    · simp at h
  | b :: bs, w :: ls, j + 1, v, h => by
    simp only [mask, List.getElem?_cons_succ] at h ⊢
    exact mask_get h
section Rules2
variable {E : PE} {cc : ByteArray} {own : String} {pc : Nat} {ls : PL} {st : List PV} {H : PH}
theorem pw_mask (bs : List Bool) {ls' : PL} (hm : mask bs ls = ls') (k : PW E pc ls' st H) : PW E pc ls st H := by
  obtain ⟨p, l, e, R, s, m, args, below, meth, c, Q, D, A, base, nL⟩ := E
  subst hm
  intro MH locs Ls St cells slots hH hO hl hL hS
  exact k MH locs Ls St cells slots hH hO hl ⟨hL.1, hL.2.1, fun i v h => hL.2.2 i v (mask_get h)⟩ hS
def nLof (E : PE) : Nat := E.2.2.2.2.2.2.2.2.2.2.2.2.2.2
theorem pw_istore_n (F : FX E cc own) {j : Fin 4} {x : Int} (hdg : decode cc pc = .ok (.istore_n j, 1)) (hi : (j : Nat) < nLof E) (ls' : PL) (hls : sto1 (j : Nat) (vi x) ls = ls') (k : PW E (pc + 1) ls' st H) : PW E pc ls (vi x :: st) H := by
  obtain ⟨p, l, e, R, s, m, args, below, meth, c, Q, D, A, base, nL⟩ := E
  intro MH locs Ls St cells slots hH hO hl hL hS
  subst hls
  obtain ⟨v, S, rfl, hx, hS1⟩ := rvs_cons hS
  obtain ⟨Ls', e', hL'⟩ := hL.sto1 (i := (j : Nat)) hi hx (pvne rfl)
  intro T hT X
  obtain ⟨t, a, b⟩ := k MH locs Ls' S cells slots hH hO hl hL' hS1 T hT X
  refine ⟨t, ?_, b⟩
  obtain ⟨i, rfl, hx⟩ := hx
  jvm_step X.here [X.here.top, F.1, F.2.1, hdg, e']
  exact a
theorem pw_istore (F : FX E cc own) {j : Nat} {x : Int} (hdg : decode cc pc = .ok (.istore j, 2)) (hi : j < nLof E) (ls' : PL) (hls : sto1 j (vi x) ls = ls') (k : PW E (pc + 2) ls' st H) : PW E pc ls (vi x :: st) H := by
  obtain ⟨p, l, e, R, s, m, args, below, meth, c, Q, D, A, base, nL⟩ := E
  intro MH locs Ls St cells slots hH hO hl hL hS
  subst hls
  obtain ⟨v, S, rfl, hx, hS1⟩ := rvs_cons hS
  obtain ⟨Ls', e', hL'⟩ := hL.sto1 (i := j) hi hx (pvne rfl)
  intro T hT X
  obtain ⟨t, a, b⟩ := k MH locs Ls' S cells slots hH hO hl hL' hS1 T hT X
  refine ⟨t, ?_, b⟩
  obtain ⟨i, rfl, hx⟩ := hx
  jvm_step X.here [X.here.top, F.1, F.2.1, hdg, e']
  exact a
theorem pw_astore_n (F : FX E cc own) {j : Fin 4} {x : Int} (hdg : decode cc pc = .ok (.astore_n j, 1)) (hi : (j : Nat) < nLof E) (ls' : PL) (hls : sto1 (j : Nat) (vr x) ls = ls') (k : PW E (pc + 1) ls' st H) : PW E pc ls (vr x :: st) H := by
  obtain ⟨p, l, e, R, s, m, args, below, meth, c, Q, D, A, base, nL⟩ := E
  intro MH locs Ls St cells slots hH hO hl hL hS
  subst hls
  obtain ⟨v, S, rfl, hx, hS1⟩ := rvs_cons hS
  obtain ⟨Ls', e', hL'⟩ := hL.sto1 (i := (j : Nat)) hi hx (pvne rfl)
  intro T hT X
  obtain ⟨t, a, b⟩ := k MH locs Ls' S cells slots hH hO hl hL' hS1 T hT X
  refine ⟨t, ?_, b⟩
  rcases hx with ⟨hx, rfl⟩ | ⟨hx, rfl⟩
  · jvm_step X.here [X.here.top, F.1, F.2.1, hdg, e']
    exact ⟨rfl, a⟩
  · jvm_step X.here [X.here.top, F.1, F.2.1, hdg, e']
    exact ⟨rfl, a⟩
theorem pw_astore (F : FX E cc own) {j : Nat} {x : Int} (hdg : decode cc pc = .ok (.astore j, 2)) (hi : j < nLof E) (ls' : PL) (hls : sto1 j (vr x) ls = ls') (k : PW E (pc + 2) ls' st H) : PW E pc ls (vr x :: st) H := by
  obtain ⟨p, l, e, R, s, m, args, below, meth, c, Q, D, A, base, nL⟩ := E
  intro MH locs Ls St cells slots hH hO hl hL hS
  subst hls
  obtain ⟨v, S, rfl, hx, hS1⟩ := rvs_cons hS
  obtain ⟨Ls', e', hL'⟩ := hL.sto1 (i := j) hi hx (pvne rfl)
  intro T hT X
  obtain ⟨t, a, b⟩ := k MH locs Ls' S cells slots hH hO hl hL' hS1 T hT X
  refine ⟨t, ?_, b⟩
  rcases hx with ⟨hx, rfl⟩ | ⟨hx, rfl⟩
  · jvm_step X.here [X.here.top, F.1, F.2.1, hdg, e']
    exact ⟨rfl, a⟩
  · jvm_step X.here [X.here.top, F.1, F.2.1, hdg, e']
    exact ⟨rfl, a⟩
theorem pw_lstore_n (F : FX E cc own) {j : Fin 4} {x : Int} (hdg : decode cc pc = .ok (.lstore_n j, 1)) (hi : (j : Nat) + 1 < nLof E) (ls' : PL) (hls : sto2 (j : Nat) (vl x) ls = ls') (k : PW E (pc + 1) ls' st H) : PW E pc ls (vl x :: st) H := by
  obtain ⟨p, l, e, R, s, m, args, below, meth, c, Q, D, A, base, nL⟩ := E
  intro MH locs Ls St cells slots hH hO hl hL hS
  subst hls
  obtain ⟨v, S, rfl, ⟨i, rfl, hx⟩, hS1⟩ := rvs_cons hS
  obtain ⟨Ls', e', hL'⟩ := hL.sto2 (i := (j : Nat)) hi hx
  intro T hT X
  obtain ⟨t, a, b⟩ := k MH locs Ls' S cells slots hH hO hl hL' hS1 T hT X
  refine ⟨t, ?_, b⟩
  jvm_step X.here [X.here.top, F.1, F.2.1, hdg, e']
  exact a
theorem pw_lstore (F : FX E cc own) {j : Nat} {x : Int} (hdg : decode cc pc = .ok (.lstore j, 2)) (hi : j + 1 < nLof E) (ls' : PL) (hls : sto2 j (vl x) ls = ls') (k : PW E (pc + 2) ls' st H) : PW E pc ls (vl x :: st) H := by
  obtain ⟨p, l, e, R, s, m, args, below, meth, c, Q, D, A, base, nL⟩ := E
  intro MH locs Ls St cells slots hH hO hl hL hS
  subst hls
  obtain ⟨v, S, rfl, ⟨i, rfl, hx⟩, hS1⟩ := rvs_cons hS
  obtain ⟨Ls', e', hL'⟩ := hL.sto2 (i := j) hi hx
  intro T hT X
  obtain ⟨t, a, b⟩ := k MH locs Ls' S cells slots hH hO hl hL' hS1 T hT X
  refine ⟨t, ?_, b⟩
  jvm_step X.here [X.here.top, F.1, F.2.1, hdg, e']
  exact a
theorem pw_iinc (F : FX E cc own) {j : Nat} {n x : Int} (hdg : decode cc pc = .ok (.iinc j n, 3)) (hx : ls[j]? = some (some (vi x))) (hi : j < nLof E) (ls' : PL) (hls : sto1 j (vi (w32 (x + n))) ls = ls') (hn : (Int32.ofInt n).toInt = n) (k : PW E (pc + 3) ls' st H) : PW E pc ls st H := by
  obtain ⟨p, l, e, R, s, m, args, below, meth, c, Q, D, A, base, nL⟩ := E
  intro MH locs Ls St cells slots hH hO hl hL hS
  subst hls
  obtain ⟨v, h1, i, rfl, h2⟩ := hL.at hx
  obtain ⟨Ls', e', hL'⟩ := hL.sto1 (i := j) (v := vi (w32 (x + n))) (x := .int (i + Int32.ofInt n)) hi ⟨_, rfl, by rw [Int32.toInt_add, h2, hn]; rfl⟩ (pvne rfl)
  intro T hT X
  obtain ⟨t, a, b⟩ := k MH locs Ls' St cells slots hH hO hl hL' hS T hT X
  refine ⟨t, ?_, b⟩
  jvm_step X.here [X.here.top, ↓top_set X.here.top, F.1, F.2.1, hdg, h1, e']
  exact a
theorem pw_iadd (F : FX E cc own) {a b : Int} (hdg : decode cc pc = .ok (.iadd, 1)) (k : PW E (pc + 1) ls (vi (w32 (a + b)) :: st) H) : PW E pc ls (vi b :: vi a :: st) H := by
  obtain ⟨p, l, e, R, s, m, args, below, meth, c, Q, D, A, base, nL⟩ := E
  intro MH locs Ls St cells slots hH hO hl hL hS
  obtain ⟨v1, S1, rfl, ⟨y, rfl, hy⟩, hS1⟩ := rvs_cons hS
  obtain ⟨v2, S2, rfl, ⟨x, rfl, hx⟩, hS2⟩ := rvs_cons hS1
  dsimp only at hx hy
  exact lv_iadd F.1 F.2.1 hdg (k MH locs Ls _ cells slots hH hO hl hL ⟨⟨_, rfl, by rw [Int32.toInt_add, hx, hy]; rfl⟩, hS2⟩)
theorem pw_isub (F : FX E cc own) {a b : Int} (hdg : decode cc pc = .ok (.isub, 1)) (k : PW E (pc + 1) ls (vi (w32 (a - b)) :: st) H) : PW E pc ls (vi b :: vi a :: st) H := by
  obtain ⟨p, l, e, R, s, m, args, below, meth, c, Q, D, A, base, nL⟩ := E
  intro MH locs Ls St cells slots hH hO hl hL hS
  obtain ⟨v1, S1, rfl, ⟨y, rfl, hy⟩, hS1⟩ := rvs_cons hS
  obtain ⟨v2, S2, rfl, ⟨x, rfl, hx⟩, hS2⟩ := rvs_cons hS1
  dsimp only at hx hy
  exact lv_isub F.1 F.2.1 hdg (k MH locs Ls _ cells slots hH hO hl hL ⟨⟨_, rfl, by rw [Int32.toInt_sub, hx, hy]; rfl⟩, hS2⟩)
theorem pw_imul (F : FX E cc own) {a b : Int} (hdg : decode cc pc = .ok (.imul, 1)) (k : PW E (pc + 1) ls (vi (w32 (a * b)) :: st) H) : PW E pc ls (vi b :: vi a :: st) H := by
  obtain ⟨p, l, e, R, s, m, args, below, meth, c, Q, D, A, base, nL⟩ := E
  intro MH locs Ls St cells slots hH hO hl hL hS
  obtain ⟨v1, S1, rfl, ⟨y, rfl, hy⟩, hS1⟩ := rvs_cons hS
  obtain ⟨v2, S2, rfl, ⟨x, rfl, hx⟩, hS2⟩ := rvs_cons hS1
  dsimp only at hx hy
  exact lv_imul F.1 F.2.1 hdg (k MH locs Ls _ cells slots hH hO hl hL ⟨⟨_, rfl, by rw [Int32.toInt_mul, hx, hy]; rfl⟩, hS2⟩)
theorem pw_idiv (F : FX E cc own) {a b : Int} (hdg : decode cc pc = .ok (.idiv, 1)) (hne : b ≠ 0) (k : PW E (pc + 1) ls (vi (w32 (Int.tdiv a b)) :: st) H) : PW E pc ls (vi b :: vi a :: st) H := by
  obtain ⟨p, l, e, R, s, m, args, below, meth, c, Q, D, A, base, nL⟩ := E
  intro MH locs Ls St cells slots hH hO hl hL hS
  obtain ⟨v1, S1, rfl, ⟨y, rfl, hy⟩, hS1⟩ := rvs_cons hS
  obtain ⟨v2, S2, rfl, ⟨x, rfl, hx⟩, hS2⟩ := rvs_cons hS1
  dsimp only at hx hy
  exact lv_idiv F.1 F.2.1 hdg (fun q => hne (by rw [← hy, q]; rfl)) (k MH locs Ls _ cells slots hH hO hl hL ⟨⟨_, rfl, by rw [Int32.toInt_div, hx, hy]; rfl⟩, hS2⟩)
theorem pw_irem (F : FX E cc own) {a b : Int} (hdg : decode cc pc = .ok (.irem, 1)) (hne : b ≠ 0) (k : PW E (pc + 1) ls (vi (Int.tmod a b) :: st) H) : PW E pc ls (vi b :: vi a :: st) H := by
  obtain ⟨p, l, e, R, s, m, args, below, meth, c, Q, D, A, base, nL⟩ := E
  intro MH locs Ls St cells slots hH hO hl hL hS
  obtain ⟨v1, S1, rfl, ⟨y, rfl, hy⟩, hS1⟩ := rvs_cons hS
  obtain ⟨v2, S2, rfl, ⟨x, rfl, hx⟩, hS2⟩ := rvs_cons hS1
  dsimp only at hx hy
  exact lv_irem F.1 F.2.1 hdg (fun q => hne (by rw [← hy, q]; rfl)) (k MH locs Ls _ cells slots hH hO hl hL ⟨⟨_, rfl, by rw [rem_toInt, hx, hy]⟩, hS2⟩)
def i_shl (a b : Int) : Int := (Int32.ofInt a <<< (Int32.ofInt b &&& 31)).toInt
def i_shr (a b : Int) : Int := (Int32.ofInt a >>> (Int32.ofInt b &&& 31)).toInt
def i_ushr (a b : Int) : Int := ((Int32.ofInt a).toUInt32 >>> ((Int32.ofInt b).toUInt32 &&& Int32.toUInt32 31)).toInt32.toInt
def i_and (a b : Int) : Int := (Int32.ofInt a &&& Int32.ofInt b).toInt
def i_or (a b : Int) : Int := (Int32.ofInt a ||| Int32.ofInt b).toInt
def i_xor (a b : Int) : Int := (Int32.ofInt a ^^^ Int32.ofInt b).toInt
def l_shl (a b : Int) : Int := (Int64.ofInt a <<< ((Int32.ofInt b).toInt64 &&& 63)).toInt
def l_shr (a b : Int) : Int := (Int64.ofInt a >>> ((Int32.ofInt b).toInt64 &&& 63)).toInt
def l_and (a b : Int) : Int := (Int64.ofInt a &&& Int64.ofInt b).toInt
def l_or (a b : Int) : Int := (Int64.ofInt a ||| Int64.ofInt b).toInt
theorem pw_ishl (F : FX E cc own) {a b : Int} (hdg : decode cc pc = .ok (.ishl, 1)) (k : PW E (pc + 1) ls (vi (i_shl a b) :: st) H) : PW E pc ls (vi b :: vi a :: st) H := by
  obtain ⟨p, l, e, R, s, m, args, below, meth, c, Q, D, A, base, nL⟩ := E
  intro MH locs Ls St cells slots hH hO hl hL hS
  obtain ⟨v1, S1, rfl, ⟨y, rfl, hy⟩, hS1⟩ := rvs_cons hS
  obtain ⟨v2, S2, rfl, ⟨x, rfl, hx⟩, hS2⟩ := rvs_cons hS1
  dsimp only at hx hy
  exact lv_ishl F.1 F.2.1 hdg (k MH locs Ls _ cells slots hH hO hl hL ⟨⟨_, rfl, by dsimp only; rw [← hx, ← hy]; simp only [i_shl, Int32.ofInt_toInt]⟩, hS2⟩)
theorem pw_ishr (F : FX E cc own) {a b : Int} (hdg : decode cc pc = .ok (.ishr, 1)) (k : PW E (pc + 1) ls (vi (i_shr a b) :: st) H) : PW E pc ls (vi b :: vi a :: st) H := by
  obtain ⟨p, l, e, R, s, m, args, below, meth, c, Q, D, A, base, nL⟩ := E
  intro MH locs Ls St cells slots hH hO hl hL hS
  obtain ⟨v1, S1, rfl, ⟨y, rfl, hy⟩, hS1⟩ := rvs_cons hS
  obtain ⟨v2, S2, rfl, ⟨x, rfl, hx⟩, hS2⟩ := rvs_cons hS1
  dsimp only at hx hy
  exact lv_ishr F.1 F.2.1 hdg (k MH locs Ls _ cells slots hH hO hl hL ⟨⟨_, rfl, by dsimp only; rw [← hx, ← hy]; simp only [i_shr, Int32.ofInt_toInt]⟩, hS2⟩)
theorem pw_iand (F : FX E cc own) {a b : Int} (hdg : decode cc pc = .ok (.iand, 1)) (k : PW E (pc + 1) ls (vi (i_and a b) :: st) H) : PW E pc ls (vi b :: vi a :: st) H := by
  obtain ⟨p, l, e, R, s, m, args, below, meth, c, Q, D, A, base, nL⟩ := E
  intro MH locs Ls St cells slots hH hO hl hL hS
  obtain ⟨v1, S1, rfl, ⟨y, rfl, hy⟩, hS1⟩ := rvs_cons hS
  obtain ⟨v2, S2, rfl, ⟨x, rfl, hx⟩, hS2⟩ := rvs_cons hS1
  dsimp only at hx hy
  exact lv_iand F.1 F.2.1 hdg (k MH locs Ls _ cells slots hH hO hl hL ⟨⟨_, rfl, by dsimp only; rw [← hx, ← hy]; simp only [i_and, Int32.ofInt_toInt]⟩, hS2⟩)
theorem pw_ior (F : FX E cc own) {a b : Int} (hdg : decode cc pc = .ok (.ior, 1)) (k : PW E (pc + 1) ls (vi (i_or a b) :: st) H) : PW E pc ls (vi b :: vi a :: st) H := by
  obtain ⟨p, l, e, R, s, m, args, below, meth, c, Q, D, A, base, nL⟩ := E
  intro MH locs Ls St cells slots hH hO hl hL hS
  obtain ⟨v1, S1, rfl, ⟨y, rfl, hy⟩, hS1⟩ := rvs_cons hS
  obtain ⟨v2, S2, rfl, ⟨x, rfl, hx⟩, hS2⟩ := rvs_cons hS1
  dsimp only at hx hy
  exact lv_ior F.1 F.2.1 hdg (k MH locs Ls _ cells slots hH hO hl hL ⟨⟨_, rfl, by dsimp only; rw [← hx, ← hy]; simp only [i_or, Int32.ofInt_toInt]⟩, hS2⟩)
theorem pw_ixor (F : FX E cc own) {a b : Int} (hdg : decode cc pc = .ok (.ixor, 1)) (k : PW E (pc + 1) ls (vi (i_xor a b) :: st) H) : PW E pc ls (vi b :: vi a :: st) H := by
  obtain ⟨p, l, e, R, s, m, args, below, meth, c, Q, D, A, base, nL⟩ := E
  intro MH locs Ls St cells slots hH hO hl hL hS
  obtain ⟨v1, S1, rfl, ⟨y, rfl, hy⟩, hS1⟩ := rvs_cons hS
  obtain ⟨v2, S2, rfl, ⟨x, rfl, hx⟩, hS2⟩ := rvs_cons hS1
  dsimp only at hx hy
  exact lv_ixor F.1 F.2.1 hdg (k MH locs Ls _ cells slots hH hO hl hL ⟨⟨_, rfl, by dsimp only; rw [← hx, ← hy]; simp only [i_xor, Int32.ofInt_toInt]⟩, hS2⟩)
theorem pw_iushr (F : FX E cc own) {a b : Int} (hdg : decode cc pc = .ok (.iushr, 1)) (k : PW E (pc + 1) ls (vi (i_ushr a b) :: st) H) : PW E pc ls (vi b :: vi a :: st) H := by
  obtain ⟨p, l, e, R, s, m, args, below, meth, c, Q, D, A, base, nL⟩ := E
  intro MH locs Ls St cells slots hH hO hl hL hS
  obtain ⟨v1, S1, rfl, ⟨y, rfl, hy⟩, hS1⟩ := rvs_cons hS
  obtain ⟨v2, S2, rfl, ⟨x, rfl, hx⟩, hS2⟩ := rvs_cons hS1
  dsimp only at hx hy
  exact lv_iushr F.1 F.2.1 hdg rfl (k MH locs Ls _ cells slots hH hO hl hL ⟨⟨_, rfl, by dsimp only; rw [← hx, ← hy]; simp only [i_ushr, Int32.ofInt_toInt]⟩, hS2⟩)
theorem pw_ladd (F : FX E cc own) {a b : Int} (hdg : decode cc pc = .ok (.ladd, 1)) (k : PW E (pc + 1) ls (vl (w64 (a + b)) :: st) H) : PW E pc ls (vl b :: vl a :: st) H := by
  obtain ⟨p, l, e, R, s, m, args, below, meth, c, Q, D, A, base, nL⟩ := E
  intro MH locs Ls St cells slots hH hO hl hL hS
  obtain ⟨v1, S1, rfl, ⟨y, rfl, hy⟩, hS1⟩ := rvs_cons hS
  obtain ⟨v2, S2, rfl, ⟨x, rfl, hx⟩, hS2⟩ := rvs_cons hS1
  dsimp only at hx hy
  exact lv_ladd F.1 F.2.1 hdg (k MH locs Ls _ cells slots hH hO hl hL ⟨⟨_, rfl, by rw [Int64.toInt_add, hx, hy]; rfl⟩, hS2⟩)
theorem pw_lsub (F : FX E cc own) {a b : Int} (hdg : decode cc pc = .ok (.lsub, 1)) (k : PW E (pc + 1) ls (vl (w64 (a - b)) :: st) H) : PW E pc ls (vl b :: vl a :: st) H := by
  obtain ⟨p, l, e, R, s, m, args, below, meth, c, Q, D, A, base, nL⟩ := E
  intro MH locs Ls St cells slots hH hO hl hL hS
  obtain ⟨v1, S1, rfl, ⟨y, rfl, hy⟩, hS1⟩ := rvs_cons hS
  obtain ⟨v2, S2, rfl, ⟨x, rfl, hx⟩, hS2⟩ := rvs_cons hS1
  dsimp only at hx hy
  exact lv_lsub F.1 F.2.1 hdg (k MH locs Ls _ cells slots hH hO hl hL ⟨⟨_, rfl, by rw [Int64.toInt_sub, hx, hy]; rfl⟩, hS2⟩)
theorem pw_lmul (F : FX E cc own) {a b : Int} (hdg : decode cc pc = .ok (.lmul, 1)) (k : PW E (pc + 1) ls (vl (w64 (a * b)) :: st) H) : PW E pc ls (vl b :: vl a :: st) H := by
  obtain ⟨p, l, e, R, s, m, args, below, meth, c, Q, D, A, base, nL⟩ := E
  intro MH locs Ls St cells slots hH hO hl hL hS
  obtain ⟨v1, S1, rfl, ⟨y, rfl, hy⟩, hS1⟩ := rvs_cons hS
  obtain ⟨v2, S2, rfl, ⟨x, rfl, hx⟩, hS2⟩ := rvs_cons hS1
  dsimp only at hx hy
  exact lv_lmul F.1 F.2.1 hdg (k MH locs Ls _ cells slots hH hO hl hL ⟨⟨_, rfl, by rw [Int64.toInt_mul, hx, hy]; rfl⟩, hS2⟩)
theorem pw_ldiv (F : FX E cc own) {a b : Int} (hdg : decode cc pc = .ok (.ldiv, 1)) (hne : b ≠ 0) (k : PW E (pc + 1) ls (vl (w64 (Int.tdiv a b)) :: st) H) : PW E pc ls (vl b :: vl a :: st) H := by
  obtain ⟨p, l, e, R, s, m, args, below, meth, c, Q, D, A, base, nL⟩ := E
  intro MH locs Ls St cells slots hH hO hl hL hS
  obtain ⟨v1, S1, rfl, ⟨y, rfl, hy⟩, hS1⟩ := rvs_cons hS
  obtain ⟨v2, S2, rfl, ⟨x, rfl, hx⟩, hS2⟩ := rvs_cons hS1
  dsimp only at hx hy
  exact lv_ldiv F.1 F.2.1 hdg (fun q => hne (by rw [← hy, q]; rfl)) (k MH locs Ls _ cells slots hH hO hl hL ⟨⟨_, rfl, by rw [Int64.toInt_div, hx, hy]; rfl⟩, hS2⟩)
theorem rem_toInt64 (x y : Int64) : (x - (x / y) * y).toInt = x.toInt.tmod y.toInt := by
  have h1 := Int64.le_toInt (x % y)
  have h2 := Int64.toInt_lt (x % y)
  rw [Int64.toInt_sub, Int64.toInt_mul, Int64.toInt_div, Int.bmod_mul_bmod, Int.sub_bmod_bmod, Int.mul_comm (x.toInt.tdiv y.toInt), ← Int.tmod_def, ← Int64.toInt_mod]
  exact Int.bmod_eq_of_le_mul_two (by omega) (by omega)
theorem pw_lrem (F : FX E cc own) {a b : Int} (hdg : decode cc pc = .ok (.lrem, 1)) (hne : b ≠ 0) (k : PW E (pc + 1) ls (vl (Int.tmod a b) :: st) H) : PW E pc ls (vl b :: vl a :: st) H := by
  obtain ⟨p, l, e, R, s, m, args, below, meth, c, Q, D, A, base, nL⟩ := E
  intro MH locs Ls St cells slots hH hO hl hL hS
  obtain ⟨v1, S1, rfl, ⟨y, rfl, hy⟩, hS1⟩ := rvs_cons hS
  obtain ⟨v2, S2, rfl, ⟨x, rfl, hx⟩, hS2⟩ := rvs_cons hS1
  dsimp only at hx hy
  exact lv_lrem F.1 F.2.1 hdg (fun q => hne (by rw [← hy, q]; rfl)) (k MH locs Ls _ cells slots hH hO hl hL ⟨⟨_, rfl, by rw [rem_toInt64, hx, hy]⟩, hS2⟩)
theorem pw_land (F : FX E cc own) {a b : Int} (hdg : decode cc pc = .ok (.land, 1)) (k : PW E (pc + 1) ls (vl (l_and a b) :: st) H) : PW E pc ls (vl b :: vl a :: st) H := by
  obtain ⟨p, l, e, R, s, m, args, below, meth, c, Q, D, A, base, nL⟩ := E
  intro MH locs Ls St cells slots hH hO hl hL hS
  obtain ⟨v1, S1, rfl, ⟨y, rfl, hy⟩, hS1⟩ := rvs_cons hS
  obtain ⟨v2, S2, rfl, ⟨x, rfl, hx⟩, hS2⟩ := rvs_cons hS1
  dsimp only at hx hy
  exact lv_land F.1 F.2.1 hdg (k MH locs Ls _ cells slots hH hO hl hL ⟨⟨_, rfl, by dsimp only; rw [← hx, ← hy]; simp only [l_and, Int64.ofInt_toInt]⟩, hS2⟩)
theorem pw_lor (F : FX E cc own) {a b : Int} (hdg : decode cc pc = .ok (.lor, 1)) (k : PW E (pc + 1) ls (vl (l_or a b) :: st) H) : PW E pc ls (vl b :: vl a :: st) H := by
  obtain ⟨p, l, e, R, s, m, args, below, meth, c, Q, D, A, base, nL⟩ := E
  intro MH locs Ls St cells slots hH hO hl hL hS
  obtain ⟨v1, S1, rfl, ⟨y, rfl, hy⟩, hS1⟩ := rvs_cons hS
  obtain ⟨v2, S2, rfl, ⟨x, rfl, hx⟩, hS2⟩ := rvs_cons hS1
  dsimp only at hx hy
  exact lv_lor F.1 F.2.1 hdg (k MH locs Ls _ cells slots hH hO hl hL ⟨⟨_, rfl, by dsimp only; rw [← hx, ← hy]; simp only [l_or, Int64.ofInt_toInt]⟩, hS2⟩)
theorem pw_lshl (F : FX E cc own) {a b : Int} (hdg : decode cc pc = .ok (.lshl, 1)) (k : PW E (pc + 1) ls (vl (l_shl a b) :: st) H) : PW E pc ls (vi b :: vl a :: st) H := by
  obtain ⟨p, l, e, R, s, m, args, below, meth, c, Q, D, A, base, nL⟩ := E
  intro MH locs Ls St cells slots hH hO hl hL hS
  obtain ⟨v1, S1, rfl, ⟨y, rfl, hy⟩, hS1⟩ := rvs_cons hS
  obtain ⟨v2, S2, rfl, ⟨x, rfl, hx⟩, hS2⟩ := rvs_cons hS1
  dsimp only at hx hy
  exact lv_lshl F.1 F.2.1 hdg rfl (k MH locs Ls _ cells slots hH hO hl hL ⟨⟨_, rfl, by dsimp only; rw [← hx, ← hy]; simp only [l_shl, Int32.ofInt_toInt, Int64.ofInt_toInt]⟩, hS2⟩)
theorem pw_lshr (F : FX E cc own) {a b : Int} (hdg : decode cc pc = .ok (.lshr, 1)) (k : PW E (pc + 1) ls (vl (l_shr a b) :: st) H) : PW E pc ls (vi b :: vl a :: st) H := by
  obtain ⟨p, l, e, R, s, m, args, below, meth, c, Q, D, A, base, nL⟩ := E
  intro MH locs Ls St cells slots hH hO hl hL hS
  obtain ⟨v1, S1, rfl, ⟨y, rfl, hy⟩, hS1⟩ := rvs_cons hS
  obtain ⟨v2, S2, rfl, ⟨x, rfl, hx⟩, hS2⟩ := rvs_cons hS1
  dsimp only at hx hy
  exact lv_lshr F.1 F.2.1 hdg rfl (k MH locs Ls _ cells slots hH hO hl hL ⟨⟨_, rfl, by dsimp only; rw [← hx, ← hy]; simp only [l_shr, Int32.ofInt_toInt, Int64.ofInt_toInt]⟩, hS2⟩)
theorem pw_i2l (F : FX E cc own) {a : Int} (hdg : decode cc pc = .ok (.i2l, 1)) (k : PW E (pc + 1) ls (vl a :: st) H) : PW E pc ls (vi a :: st) H := by
  obtain ⟨p, l, e, R, s, m, args, below, meth, c, Q, D, A, base, nL⟩ := E
  intro MH locs Ls St cells slots hH hO hl hL hS
  obtain ⟨v1, S1, rfl, ⟨y, rfl, hy⟩, hS1⟩ := rvs_cons hS
  exact lv_i2l F.1 F.2.1 hdg rfl (k MH locs Ls _ cells slots hH hO hl hL ⟨⟨_, rfl, by rw [Int32.toInt_toInt64]; exact hy⟩, hS1⟩)
theorem pw_l2i (F : FX E cc own) {a : Int} (hdg : decode cc pc = .ok (.l2i, 1)) (k : PW E (pc + 1) ls (vi (w32 a) :: st) H) : PW E pc ls (vl a :: st) H := by
  obtain ⟨p, l, e, R, s, m, args, below, meth, c, Q, D, A, base, nL⟩ := E
  intro MH locs Ls St cells slots hH hO hl hL hS
  obtain ⟨v1, S1, rfl, ⟨y, rfl, hy⟩, hS1⟩ := rvs_cons hS
  exact lv_l2i F.1 F.2.1 hdg rfl (k MH locs Ls _ cells slots hH hO hl hL ⟨⟨_, rfl, by rw [Int64.toInt_toInt32, hy]; rfl⟩, hS1⟩)
theorem lc_cmp (x y : Int64) : (lg_cmp x y).toInt = lc x.toInt y.toInt := by
  unfold lg_cmp lc
  simp only [gt_iff_lt, Int64.lt_iff_toInt_lt, ← Int64.toInt_inj]
  repeat' split
  all_goals rfl
theorem pw_lcmp (F : FX E cc own) {a b : Int} (hdg : decode cc pc = .ok (.lcmp, 1)) (k : PW E (pc + 1) ls (vi (lc a b) :: st) H) : PW E pc ls (vl b :: vl a :: st) H := by
  obtain ⟨p, l, e, R, s, m, args, below, meth, c, Q, D, A, base, nL⟩ := E
  intro MH locs Ls St cells slots hH hO hl hL hS
  obtain ⟨v1, S1, rfl, ⟨y, rfl, hy⟩, hS1⟩ := rvs_cons hS
  obtain ⟨v2, S2, rfl, ⟨x, rfl, hx⟩, hS2⟩ := rvs_cons hS1
  dsimp only at hx hy
  exact W.lcmp F.1 F.2.1 hdg (k MH locs Ls _ cells slots hH hO hl hL ⟨⟨_, rfl, by rw [lc_cmp, hx, hy]⟩, hS2⟩)
theorem pw_dup (F : FX E cc own) {v : PV} (hdg : decode cc pc = .ok (.dup, 1)) (hv : v.1 ≠ 1) (k : PW E (pc + 1) ls (v :: v :: st) H) : PW E pc ls (v :: st) H := by
  obtain ⟨p, l, e, R, s, m, args, below, meth, c, Q, D, A, base, nL⟩ := E
  intro MH locs Ls St cells slots hH hO hl hL hS
  obtain ⟨v1, S1, rfl, hx, hS1⟩ := rvs_cons hS
  exact lv_dup F.1 F.2.1 hdg (rv_cat1 hx hv) (k MH locs Ls _ cells slots hH hO hl hL ⟨hx, hx, hS1⟩)
theorem pw_dup2 (F : FX E cc own) {v w : PV} (hdg : decode cc pc = .ok (.dup2, 1)) (hv : v.1 ≠ 1) (hw : w.1 ≠ 1) (k : PW E (pc + 1) ls (v :: w :: v :: w :: st) H) : PW E pc ls (v :: w :: st) H := by
  obtain ⟨p, l, e, R, s, m, args, below, meth, c, Q, D, A, base, nL⟩ := E
  intro MH locs Ls St cells slots hH hO hl hL hS
  obtain ⟨v1, S1, rfl, hx, hS1⟩ := rvs_cons hS
  obtain ⟨v2, S2, rfl, hy, hS2⟩ := rvs_cons hS1
  exact lv_dup2_11 F.1 F.2.1 hdg (rv_cat1 hx hv) (rv_cat1 hy hw) (k MH locs Ls _ cells slots hH hO hl hL ⟨hx, hy, hx, hy, hS2⟩)
theorem pw_pop (F : FX E cc own) {v : PV} (hdg : decode cc pc = .ok (.pop, 1)) (hv : v.1 ≠ 1) (k : PW E (pc + 1) ls st H) : PW E pc ls (v :: st) H := by
  obtain ⟨p, l, e, R, s, m, args, below, meth, c, Q, D, A, base, nL⟩ := E
  intro MH locs Ls St cells slots hH hO hl hL hS
  obtain ⟨v1, S1, rfl, hx, hS1⟩ := rvs_cons hS
  exact lv_pop F.1 F.2.1 hdg (rv_cat1 hx hv) (k MH locs Ls _ cells slots hH hO hl hL hS1)
theorem pw_goto (F : FX E cc own) {off : Int} (tgt : Nat) (hdg : decode cc pc = .ok (.goto off, 3)) (ht : (pc : Int) + off = (tgt : Int)) (k : PW E tgt ls st H) : PW E pc ls st H := by
  obtain ⟨p, l, e, R, s, m, args, below, meth, c, Q, D, A, base, nL⟩ := E
  intro MH locs Ls St cells slots hH hO hl hL hS
  exact lv_goto F.1 F.2.1 hdg ht (k MH locs Ls _ cells slots hH hO hl hL hS)
theorem pw_if_lt (F : FX E cc own) {a : Int} {off : Int} (tgt : Nat) (hdg : decode cc pc = .ok (.ifCond .lt off, 3)) (ht : (pc : Int) + off = (tgt : Int)) (kt : a < 0 → PW E tgt ls st H) (kf : ¬ a < 0 → PW E (pc + 3) ls st H) : PW E pc ls (vi a :: st) H := by
  obtain ⟨p, l, e, R, s, m, args, below, meth, c, Q, D, A, base, nL⟩ := E
  intro MH locs Ls St cells slots hH hO hl hL hS
  obtain ⟨v1, S1, rfl, ⟨x, rfl, hx⟩, hS1⟩ := rvs_cons hS
  exact lv_if_lt F.1 F.2.1 hdg ht (fun q => kt (by simpa only [gt_iff_lt, ge_iff_le, Int32.lt_iff_toInt_lt, Int32.toInt_zero, hx] using q) MH locs Ls _ cells slots hH hO hl hL hS1) (fun q => kf (by simpa only [gt_iff_lt, ge_iff_le, Int32.lt_iff_toInt_lt, Int32.toInt_zero, hx] using q) MH locs Ls _ cells slots hH hO hl hL hS1)
theorem pw_icmp_lt (F : FX E cc own) {a b : Int} {off : Int} (tgt : Nat) (hdg : decode cc pc = .ok (.if_icmp .lt off, 3)) (ht : (pc : Int) + off = (tgt : Int)) (kt : a < b → PW E tgt ls st H) (kf : ¬ a < b → PW E (pc + 3) ls st H) : PW E pc ls (vi b :: vi a :: st) H := by
  obtain ⟨p, l, e, R, s, m, args, below, meth, c, Q, D, A, base, nL⟩ := E
  intro MH locs Ls St cells slots hH hO hl hL hS
  obtain ⟨v1, S1, rfl, ⟨y, rfl, hy⟩, hS1⟩ := rvs_cons hS
  obtain ⟨v2, S2, rfl, ⟨x, rfl, hx⟩, hS2⟩ := rvs_cons hS1
  dsimp only at hx hy
  exact lv_icmp_lt F.1 F.2.1 hdg ht (fun q => kt (by simpa only [gt_iff_lt, ge_iff_le, Int32.lt_iff_toInt_lt, hx, hy] using q) MH locs Ls _ cells slots hH hO hl hL hS2) (fun q => kf (by simpa only [gt_iff_lt, ge_iff_le, Int32.lt_iff_toInt_lt, hx, hy] using q) MH locs Ls _ cells slots hH hO hl hL hS2)
theorem pw_if_le (F : FX E cc own) {a : Int} {off : Int} (tgt : Nat) (hdg : decode cc pc = .ok (.ifCond .le off, 3)) (ht : (pc : Int) + off = (tgt : Int)) (kt : a ≤ 0 → PW E tgt ls st H) (kf : ¬ a ≤ 0 → PW E (pc + 3) ls st H) : PW E pc ls (vi a :: st) H := by
  obtain ⟨p, l, e, R, s, m, args, below, meth, c, Q, D, A, base, nL⟩ := E
  intro MH locs Ls St cells slots hH hO hl hL hS
  obtain ⟨v1, S1, rfl, ⟨x, rfl, hx⟩, hS1⟩ := rvs_cons hS
  exact lv_if_le F.1 F.2.1 hdg ht (fun q => kt (by simpa only [gt_iff_lt, ge_iff_le, Int32.le_iff_toInt_le, Int32.toInt_zero, hx] using q) MH locs Ls _ cells slots hH hO hl hL hS1) (fun q => kf (by simpa only [gt_iff_lt, ge_iff_le, Int32.le_iff_toInt_le, Int32.toInt_zero, hx] using q) MH locs Ls _ cells slots hH hO hl hL hS1)
theorem pw_icmp_le (F : FX E cc own) {a b : Int} {off : Int} (tgt : Nat) (hdg : decode cc pc = .ok (.if_icmp .le off, 3)) (ht : (pc : Int) + off = (tgt : Int)) (kt : a ≤ b → PW E tgt ls st H) (kf : ¬ a ≤ b → PW E (pc + 3) ls st H) : PW E pc ls (vi b :: vi a :: st) H := by
  obtain ⟨p, l, e, R, s, m, args, below, meth, c, Q, D, A, base, nL⟩ := E
  intro MH locs Ls St cells slots hH hO hl hL hS
  obtain ⟨v1, S1, rfl, ⟨y, rfl, hy⟩, hS1⟩ := rvs_cons hS
  obtain ⟨v2, S2, rfl, ⟨x, rfl, hx⟩, hS2⟩ := rvs_cons hS1
  dsimp only at hx hy
  exact lv_icmp_le F.1 F.2.1 hdg ht (fun q => kt (by simpa only [gt_iff_lt, ge_iff_le, Int32.le_iff_toInt_le, hx, hy] using q) MH locs Ls _ cells slots hH hO hl hL hS2) (fun q => kf (by simpa only [gt_iff_lt, ge_iff_le, Int32.le_iff_toInt_le, hx, hy] using q) MH locs Ls _ cells slots hH hO hl hL hS2)
theorem pw_if_gt (F : FX E cc own) {a : Int} {off : Int} (tgt : Nat) (hdg : decode cc pc = .ok (.ifCond .gt off, 3)) (ht : (pc : Int) + off = (tgt : Int)) (kt : a > 0 → PW E tgt ls st H) (kf : ¬ a > 0 → PW E (pc + 3) ls st H) : PW E pc ls (vi a :: st) H := by
  obtain ⟨p, l, e, R, s, m, args, below, meth, c, Q, D, A, base, nL⟩ := E
  intro MH locs Ls St cells slots hH hO hl hL hS
  obtain ⟨v1, S1, rfl, ⟨x, rfl, hx⟩, hS1⟩ := rvs_cons hS
  exact lv_if_gt F.1 F.2.1 hdg ht (fun q => kt (by simpa only [gt_iff_lt, ge_iff_le, Int32.lt_iff_toInt_lt, Int32.toInt_zero, hx] using q) MH locs Ls _ cells slots hH hO hl hL hS1) (fun q => kf (by simpa only [gt_iff_lt, ge_iff_le, Int32.lt_iff_toInt_lt, Int32.toInt_zero, hx] using q) MH locs Ls _ cells slots hH hO hl hL hS1)
theorem pw_icmp_gt (F : FX E cc own) {a b : Int} {off : Int} (tgt : Nat) (hdg : decode cc pc = .ok (.if_icmp .gt off, 3)) (ht : (pc : Int) + off = (tgt : Int)) (kt : a > b → PW E tgt ls st H) (kf : ¬ a > b → PW E (pc + 3) ls st H) : PW E pc ls (vi b :: vi a :: st) H := by
  obtain ⟨p, l, e, R, s, m, args, below, meth, c, Q, D, A, base, nL⟩ := E
  intro MH locs Ls St cells slots hH hO hl hL hS
  obtain ⟨v1, S1, rfl, ⟨y, rfl, hy⟩, hS1⟩ := rvs_cons hS
  obtain ⟨v2, S2, rfl, ⟨x, rfl, hx⟩, hS2⟩ := rvs_cons hS1
  dsimp only at hx hy
  exact lv_icmp_gt F.1 F.2.1 hdg ht (fun q => kt (by simpa only [gt_iff_lt, ge_iff_le, Int32.lt_iff_toInt_lt, hx, hy] using q) MH locs Ls _ cells slots hH hO hl hL hS2) (fun q => kf (by simpa only [gt_iff_lt, ge_iff_le, Int32.lt_iff_toInt_lt, hx, hy] using q) MH locs Ls _ cells slots hH hO hl hL hS2)
theorem pw_if_ge (F : FX E cc own) {a : Int} {off : Int} (tgt : Nat) (hdg : decode cc pc = .ok (.ifCond .ge off, 3)) (ht : (pc : Int) + off = (tgt : Int)) (kt : a ≥ 0 → PW E tgt ls st H) (kf : ¬ a ≥ 0 → PW E (pc + 3) ls st H) : PW E pc ls (vi a :: st) H := by
  obtain ⟨p, l, e, R, s, m, args, below, meth, c, Q, D, A, base, nL⟩ := E
  intro MH locs Ls St cells slots hH hO hl hL hS
  obtain ⟨v1, S1, rfl, ⟨x, rfl, hx⟩, hS1⟩ := rvs_cons hS
  exact lv_if_ge F.1 F.2.1 hdg ht (fun q => kt (by simpa only [gt_iff_lt, ge_iff_le, Int32.le_iff_toInt_le, Int32.toInt_zero, hx] using q) MH locs Ls _ cells slots hH hO hl hL hS1) (fun q => kf (by simpa only [gt_iff_lt, ge_iff_le, Int32.le_iff_toInt_le, Int32.toInt_zero, hx] using q) MH locs Ls _ cells slots hH hO hl hL hS1)
theorem pw_icmp_ge (F : FX E cc own) {a b : Int} {off : Int} (tgt : Nat) (hdg : decode cc pc = .ok (.if_icmp .ge off, 3)) (ht : (pc : Int) + off = (tgt : Int)) (kt : a ≥ b → PW E tgt ls st H) (kf : ¬ a ≥ b → PW E (pc + 3) ls st H) : PW E pc ls (vi b :: vi a :: st) H := by
  obtain ⟨p, l, e, R, s, m, args, below, meth, c, Q, D, A, base, nL⟩ := E
  intro MH locs Ls St cells slots hH hO hl hL hS
  obtain ⟨v1, S1, rfl, ⟨y, rfl, hy⟩, hS1⟩ := rvs_cons hS
  obtain ⟨v2, S2, rfl, ⟨x, rfl, hx⟩, hS2⟩ := rvs_cons hS1
  dsimp only at hx hy
  exact lv_icmp_ge F.1 F.2.1 hdg ht (fun q => kt (by simpa only [gt_iff_lt, ge_iff_le, Int32.le_iff_toInt_le, hx, hy] using q) MH locs Ls _ cells slots hH hO hl hL hS2) (fun q => kf (by simpa only [gt_iff_lt, ge_iff_le, Int32.le_iff_toInt_le, hx, hy] using q) MH locs Ls _ cells slots hH hO hl hL hS2)
theorem pw_if_eq (F : FX E cc own) {a : Int} {off : Int} (tgt : Nat) (hdg : decode cc pc = .ok (.ifCond .eq off, 3)) (ht : (pc : Int) + off = (tgt : Int)) (kt : a = 0 → PW E tgt ls st H) (kf : ¬ a = 0 → PW E (pc + 3) ls st H) : PW E pc ls (vi a :: st) H := by
  obtain ⟨p, l, e, R, s, m, args, below, meth, c, Q, D, A, base, nL⟩ := E
  intro MH locs Ls St cells slots hH hO hl hL hS
  obtain ⟨v1, S1, rfl, ⟨x, rfl, hx⟩, hS1⟩ := rvs_cons hS
  exact lv_if_eq F.1 F.2.1 hdg ht (fun q => kt (by simpa only [ne_eq, ← Int32.toInt_inj, Int32.toInt_zero, hx] using q) MH locs Ls _ cells slots hH hO hl hL hS1) (fun q => kf (by simpa only [ne_eq, ← Int32.toInt_inj, Int32.toInt_zero, hx] using q) MH locs Ls _ cells slots hH hO hl hL hS1)
theorem pw_icmp_eq (F : FX E cc own) {a b : Int} {off : Int} (tgt : Nat) (hdg : decode cc pc = .ok (.if_icmp .eq off, 3)) (ht : (pc : Int) + off = (tgt : Int)) (kt : a = b → PW E tgt ls st H) (kf : ¬ a = b → PW E (pc + 3) ls st H) : PW E pc ls (vi b :: vi a :: st) H := by
  obtain ⟨p, l, e, R, s, m, args, below, meth, c, Q, D, A, base, nL⟩ := E
  intro MH locs Ls St cells slots hH hO hl hL hS
  obtain ⟨v1, S1, rfl, ⟨y, rfl, hy⟩, hS1⟩ := rvs_cons hS
  obtain ⟨v2, S2, rfl, ⟨x, rfl, hx⟩, hS2⟩ := rvs_cons hS1
  dsimp only at hx hy
  exact lv_icmp_eq F.1 F.2.1 hdg ht (fun q => kt (by simpa only [ne_eq, ← Int32.toInt_inj, hx, hy] using q) MH locs Ls _ cells slots hH hO hl hL hS2) (fun q => kf (by simpa only [ne_eq, ← Int32.toInt_inj, hx, hy] using q) MH locs Ls _ cells slots hH hO hl hL hS2)
theorem pw_if_ne (F : FX E cc own) {a : Int} {off : Int} (tgt : Nat) (hdg : decode cc pc = .ok (.ifCond .ne off, 3)) (ht : (pc : Int) + off = (tgt : Int)) (kt : a ≠ 0 → PW E tgt ls st H) (kf : ¬ a ≠ 0 → PW E (pc + 3) ls st H) : PW E pc ls (vi a :: st) H := by
  obtain ⟨p, l, e, R, s, m, args, below, meth, c, Q, D, A, base, nL⟩ := E
  intro MH locs Ls St cells slots hH hO hl hL hS
  obtain ⟨v1, S1, rfl, ⟨x, rfl, hx⟩, hS1⟩ := rvs_cons hS
  exact lv_if_ne F.1 F.2.1 hdg ht (fun q => kt (by simpa only [ne_eq, ← Int32.toInt_inj, Int32.toInt_zero, hx] using q) MH locs Ls _ cells slots hH hO hl hL hS1) (fun q => kf (fun z => z (by simpa only [ne_eq, ← Int32.toInt_inj, Int32.toInt_zero, hx] using q)) MH locs Ls _ cells slots hH hO hl hL hS1)
theorem pw_icmp_ne (F : FX E cc own) {a b : Int} {off : Int} (tgt : Nat) (hdg : decode cc pc = .ok (.if_icmp .ne off, 3)) (ht : (pc : Int) + off = (tgt : Int)) (kt : a ≠ b → PW E tgt ls st H) (kf : ¬ a ≠ b → PW E (pc + 3) ls st H) : PW E pc ls (vi b :: vi a :: st) H := by
  obtain ⟨p, l, e, R, s, m, args, below, meth, c, Q, D, A, base, nL⟩ := E
  intro MH locs Ls St cells slots hH hO hl hL hS
  obtain ⟨v1, S1, rfl, ⟨y, rfl, hy⟩, hS1⟩ := rvs_cons hS
  obtain ⟨v2, S2, rfl, ⟨x, rfl, hx⟩, hS2⟩ := rvs_cons hS1
  dsimp only at hx hy
  exact lv_icmp_ne F.1 F.2.1 hdg ht (fun q => kt (by simpa only [ne_eq, ← Int32.toInt_inj, hx, hy] using q) MH locs Ls _ cells slots hH hO hl hL hS2) (fun q => kf (fun z => z (by simpa only [ne_eq, ← Int32.toInt_inj, hx, hy] using q)) MH locs Ls _ cells slots hH hO hl hL hS2)
theorem pw_ifnull (F : FX E cc own) {a : Int} {off : Int} (tgt : Nat) (hdg : decode cc pc = .ok (.ifnull off, 3)) (ht : (pc : Int) + off = (tgt : Int)) (kt : a = -1 → PW E tgt ls st H) (kf : ¬ a = -1 → PW E (pc + 3) ls st H) : PW E pc ls (vr a :: st) H := by
  obtain ⟨p, l, e, R, s, m, args, below, meth, c, Q, D, A, base, nL⟩ := E
  intro MH locs Ls St cells slots hH hO hl hL hS
  obtain ⟨v1, S1, rfl, ⟨hx, rfl⟩ | ⟨hx, rfl⟩, hS1⟩ := rvs_cons hS
  · exact lv_ifnullN F.1 F.2.1 hdg ht (kt hx MH locs Ls _ cells slots hH hO hl hL hS1)
  · exact lv_ifnull F.1 F.2.1 hdg (kf (fun q => by have hx : 0 ≤ a := hx; omega) MH locs Ls _ cells slots hH hO hl hL hS1)
theorem pw_ifnonnull (F : FX E cc own) {a : Int} {off : Int} (tgt : Nat) (hdg : decode cc pc = .ok (.ifnonnull off, 3)) (ht : (pc : Int) + off = (tgt : Int)) (kt : a ≠ -1 → PW E tgt ls st H) (kf : ¬ a ≠ -1 → PW E (pc + 3) ls st H) : PW E pc ls (vr a :: st) H := by
  obtain ⟨p, l, e, R, s, m, args, below, meth, c, Q, D, A, base, nL⟩ := E
  intro MH locs Ls St cells slots hH hO hl hL hS
  obtain ⟨v1, S1, rfl, ⟨hx, rfl⟩ | ⟨hx, rfl⟩, hS1⟩ := rvs_cons hS
  · exact lv_ifnonnullN F.1 F.2.1 hdg (kf (fun q => q hx) MH locs Ls _ cells slots hH hO hl hL hS1)
  · exact lv_ifnonnull F.1 F.2.1 hdg ht (kt (fun q => by have hx : 0 ≤ a := hx; omega) MH locs Ls _ cells slots hH hO hl hL hS1)
theorem pw_table (F : FX E cc own) {a : Int} {dflt lo hi : Int} {offs : Array Int} {len : Nat} (hdg : decode cc pc = .ok (.tableswitch dflt lo hi offs, len)) (td : Nat) (htd : (pc : Int) + dflt = (td : Int)) (ts : List Nat) (hts : offs.toList.map (fun o => (pc : Int) + o) = ts.map (fun n : Nat => (n : Int))) (hlh : hi - lo + 1 = ts.length)
    (kd : a < lo ∨ hi < a → PW E td ls st H) (kt : ∀ (i t : Nat), ts[i]? = some t → a = lo + i → PW E t ls st H) : PW E pc ls (vi a :: st) H := by
  obtain ⟨p, l, e, R, s, m, args, below, meth, c, Q, D, A, base, nL⟩ := E
  intro MH locs Ls St cells slots hH hO hl hL hS
  obtain ⟨v1, S1, rfl, ⟨x, rfl, hx⟩, hS1⟩ := rvs_cons hS
  have hx : x.toInt = a := hx
  by_cases h : a < lo ∨ hi < a
  · exact lv_tableOut F.1 F.2.1 hdg (by rw [hx]; exact h) htd (kd h MH locs Ls _ cells slots hH hO hl hL hS1)
  · have h1 : ¬ a < lo := fun q => h (Or.inl q)
    have h2 : ¬ hi < a := fun q => h (Or.inr q)
    obtain ⟨i, hi'⟩ : ∃ i : Nat, a = lo + i := ⟨(a - lo).toNat, by omega⟩
    have hlt : i < ts.length := by omega
    have e0 : ts[i]? = some ts[i] := List.getElem?_eq_getElem hlt
    have e1 := congrArg (fun z => z[i]?) hts
    simp only [List.getElem?_map, e0, Option.map_some] at e1
    obtain ⟨o, ho, hot⟩ := Option.map_eq_some_iff.mp e1
    exact lv_tableIn F.1 F.2.1 hdg (by rw [hx]; exact h1) (by rw [hx]; exact h2) (off := o) (by rw [hx, show (a - lo).toNat = i by omega, ← Array.getElem?_toList]; exact ho) hot (kt i _ e0 hi' MH locs Ls _ cells slots hH hO hl hL hS1)
end Rules2
