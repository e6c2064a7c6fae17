/-! THE WALK OVER PURE STATES -/
abbrev PE : Type := Program × Launch × Env × Room × State × MethodId × Array Value × List Frame × Method × Code × (State → Prop) × va_G × (Nat → ClassId) × Nat × Nat
/-- locals: by their places; none: nothing is said of it -/
abbrev PL : Type := List (Option PV)
def LR (base nL : Nat) (ls : PL) (Ls : Array Slot) : Prop := Ls.size = nL ∧ lv_wf Ls ∧ ∀ (i : Nat) (v : PV), ls[i]? = some (some v) → ∃ x, Ls[i]? = some (.val x) ∧ rv base v x
def PWx (p : Program) (l : Launch) (e : Env) (R : Room) (s : State) (m : MethodId) (args : Array Value) (below : List Frame) (meth : Method) (c : Code) (Q : State → Prop) (D : va_G) (A : Nat → ClassId) (base nL : Nat) (pc : Nat) (ls : PL) (st : List PV) (H : PH) : Prop :=
  ∀ (MH : Heap) (locs : List Loc) (Ls : Array Slot) (St : List Value) (cells slots : Nat), HR D A base H MH → (∀ q : Nat, q < base → MH[q]? = s.heap[q]?) → (∀ q ∈ locs, base ≤ q.base) → LR base nL ls Ls → rvs base st St →
    W p l e R s m args below meth c MH locs cells slots Q (F0 m pc Ls St)
def PW (E : PE) (pc : Nat) (ls : PL) (st : List PV) (H : PH) : Prop := match E with
  | (p, l, e, R, s, m, args, below, meth, c, Q, D, A, base, nL) => PWx p l e R s m args below meth c Q D A base nL pc ls st H
def FXx (p : Program) (l : Launch) (e : Env) (R : Room) (s : State) (m : MethodId) (args : Array Value) (below : List Frame) (meth : Method) (c : Code) (Q : State → Prop) (D : va_G) (A : Nat → ClassId) (base nL : Nat) (cc : ByteArray) (own : String) : Prop :=
  p.tables.exec = Jvm.exec ∧ c.code = cc ∧ c.maxLocals = nL ∧ s.vm.findClass own = some m.cls ∧ (∀ w ∈ wsG, w.before args s = true) ∧ KF D A s ∧ meth.locks = false ∧
  ∃ H0 : PH, HR D A base H0 s.heap ∧ R.cells = 600000 - H0.length ∧ R.slots = 7302250 - szs H0
def FX (E : PE) (cc : ByteArray) (own : String) : Prop := match E with
  | (p, l, e, R, s, m, args, below, meth, c, Q, D, A, base, nL) => FXx p l e R s m args below meth c Q D A base nL cc own
section Tight
variable {p : Program} {l : Launch} {e : Env} {R : Room} {s : State} {m : MethodId} {args : Array Value} {below : List Frame} {meth : Method} {c : Code} {locs : List Loc} {cells slots : Nat} {Q : State → Prop}
theorem HR.sizes {D : va_G} {A : Nat → ClassId} {base : Nat} {H : PH} {MH : Heap} (h : HR D A base H MH) : (MH.toList.drop base).map (·.slots.size) = H.map fun c => c.2.length := by
  obtain ⟨h1, -, -, h4⟩ := h
  apply List.ext_getElem?
  intro k
  rw [List.getElem?_map, List.getElem?_map, List.getElem?_drop, Array.getElem?_toList]
  cases hk : H[k]? with
  | none =>
    have : H.length ≤ k := by simpa using hk
    have : MH[base + k]? = none := by simp; omega
    rw [this]; rfl
  | some c =>
    obtain ⟨cell, e1, -, e3, -⟩ := h4 k c hk
    rw [e1]; simp [e3]
theorem HR.sums {D : va_G} {A : Nat → ClassId} {base : Nat} {H0 H : PH} {MH0 MH : Heap} (h0 : HR D A base H0 MH0) (h : HR D A base H MH) (hle : MH0.size ≤ MH.size) (hs : ∀ (a : Nat) (c c' : Cell), MH0[a]? = some c → MH[a]? = some c' → c'.slots.size = c.slots.size) :
    ((MH.toList.drop MH0.size).map (·.slots.size)).sum + szs H0 = szs H := by
  have e0 := h0.sizes
  have e1 := h.sizes
  have hz : MH0.size = base + H0.length := h0.1
  have hz1 : MH.size = base + H.length := h.1
  have hd : (MH.toList.drop MH0.size).map (·.slots.size) = (H.map fun c => c.2.length).drop H0.length := by
    rw [hz, ← List.drop_drop, List.map_drop, e1]
  have ht : (H.map fun c => c.2.length).take H0.length = H0.map fun c => c.2.length := by
    apply List.ext_getElem?
    intro k
    rw [List.getElem?_take]
    by_cases hk : k < H0.length
    · rw [if_pos hk]
      have hk0 : H0[k]? = some H0[k] := List.getElem?_eq_getElem hk
      have hk1 : H[k]? = some (H[k]'(by omega)) := List.getElem?_eq_getElem (by omega)
      obtain ⟨c0, a1, -, a3, -⟩ := h0.2.2.2 k _ hk0
      obtain ⟨c1, b1, -, b3, -⟩ := h.2.2.2 k _ hk1
      have := hs _ _ _ a1 b1
      rw [List.getElem?_map, List.getElem?_map, hk0, hk1]
      simp only [Option.map_some]
      rw [← a3, ← b3, this]
    · rw [if_neg hk, List.getElem?_map, List.getElem?_eq_none (by omega)]; rfl
  have := List.take_append_drop H0.length (H.map fun c => c.2.length)
  unfold szs
  rw [hd, ← ht, Nat.add_comm, ← List.sum_append, this]
theorem W.tight {D : va_G} {A : Nat → ClassId} {base : Nat} {H0 H : PH} {MH : Heap} {g : JFrame} (h0 : HR D A base H0 s.heap) (h : HR D A base H MH) {k n : Nat} (hk : H.length ≤ H0.length + k) (hn : szs H ≤ szs H0 + n)
    (kk : W p l e R s m args below meth c MH locs k n Q g) : W p l e R s m args below meth c MH locs cells slots Q g := by
  intro T hT X
  refine kk T hT { X with same := ?_ }
  obtain ⟨x1, x2, x3, x4, x5, x6⟩ := X.same
  have hT' : (T.setVm s.vm).heap = MH := hT
  have hsum := HR.sums h0 h (by rw [← hT']; exact x2) (fun a c1 c2 e1 e2 => by
    obtain ⟨c', f1, -, f3, -⟩ := x6 a c1 e1
    rw [hT'] at f1
    cases f1.symm.trans e2
    exact f3)
  refine ⟨x1, x2, ?_, x4, ?_, x6⟩
  · rw [hT', h.1, h0.1]; omega
  · rw [hT']; omega
end Tight
section Rules
variable {E : PE} {cc : ByteArray} {own : String} {pc : Nat} {ls : PL} {st : List PV} {H : PH}
theorem LR.at {base nL : Nat} {ls : PL} {Ls : Array Slot} (h : LR base nL ls Ls) {i : Nat} {v : PV} (hi : ls[i]? = some (some v)) : ∃ x, Ls[i]? = some (.val x) ∧ rv base v x := h.2.2 i v hi
-- constants
theorem pw_iconst (F : FX E cc own) {n : Int} (v : Int) (hdg : decode cc pc = .ok (.iconst n, 1)) (hv : (Int32.ofInt n).toInt = v) (k : PW E (pc + 1) ls (vi v :: st) H) : PW E pc ls st H := by
  obtain ⟨p, l, e, R, s, m, args, below, meth, c, Q, D, A, base, nL⟩ := E
  intro MH locs Ls St cells slots hH hO hl hL hS
  exact lv_iconst F.1 F.2.1 hdg rfl (k MH locs Ls _ cells slots hH hO hl hL ⟨⟨_, rfl, hv⟩, hS⟩)
theorem pw_bipush (F : FX E cc own) {n : Int} (v : Int) (hdg : decode cc pc = .ok (.bipush n, 2)) (hv : (Int8.ofInt n).toInt32.toInt = v) (k : PW E (pc + 2) ls (vi v :: st) H) : PW E pc ls st H := by
  obtain ⟨p, l, e, R, s, m, args, below, meth, c, Q, D, A, base, nL⟩ := E
  intro MH locs Ls St cells slots hH hO hl hL hS
  exact lv_bipush F.1 F.2.1 hdg rfl (k MH locs Ls _ cells slots hH hO hl hL ⟨⟨_, rfl, hv⟩, hS⟩)
theorem pw_sipush (F : FX E cc own) {n : Int} (v : Int) (hdg : decode cc pc = .ok (.sipush n, 3)) (hv : (Int16.ofInt n).toInt32.toInt = v) (k : PW E (pc + 3) ls (vi v :: st) H) : PW E pc ls st H := by
  obtain ⟨p, l, e, R, s, m, args, below, meth, c, Q, D, A, base, nL⟩ := E
  intro MH locs Ls St cells slots hH hO hl hL hS
  exact lv_sipush F.1 F.2.1 hdg rfl (k MH locs Ls _ cells slots hH hO hl hL ⟨⟨_, rfl, hv⟩, hS⟩)
theorem pw_lconst (F : FX E cc own) {n : Fin 2} (v : Int) (hdg : decode cc pc = .ok (.lconst n, 1)) (hv : (Int64.ofNat (n : Nat)).toInt = v) (k : PW E (pc + 1) ls (vl v :: st) H) : PW E pc ls st H := by
  obtain ⟨p, l, e, R, s, m, args, below, meth, c, Q, D, A, base, nL⟩ := E
  intro MH locs Ls St cells slots hH hO hl hL hS
  exact lv_lconst F.1 F.2.1 hdg rfl (k MH locs Ls _ cells slots hH hO hl hL ⟨⟨_, rfl, hv⟩, hS⟩)
theorem pw_null (F : FX E cc own) (hdg : decode cc pc = .ok (.aconst_null, 1)) (k : PW E (pc + 1) ls (vr (-1) :: st) H) : PW E pc ls st H := by
  obtain ⟨p, l, e, R, s, m, args, below, meth, c, Q, D, A, base, nL⟩ := E
  intro MH locs Ls St cells slots hH hO hl hL hS
  exact lv_null F.1 F.2.1 hdg (k MH locs Ls _ cells slots hH hO hl hL ⟨Or.inl ⟨rfl, rfl⟩, hS⟩)
theorem pw_ldc (F : FX E cc own) {index : Nat} {n : Int32} (v : Int) (hw : Cond.constant own index n ∈ wsG) (hdg : decode cc pc = .ok (.ldc index, 2)) (hv : n.toInt = v) (k : PW E (pc + 2) ls (vi v :: st) H) : PW E pc ls st H := by
  obtain ⟨p, l, e, R, s, m, args, below, meth, c, Q, D, A, base, nL⟩ := E
  intro MH locs Ls St cells slots hH hO hl hL hS
  exact lv_ldc F.1 F.2.1 F.2.2.2.1 (F.2.2.2.2.1 _ hw) hdg (k MH locs Ls _ cells slots hH hO hl hL ⟨⟨_, rfl, hv⟩, hS⟩)
theorem pw_ldcw (F : FX E cc own) {index : Nat} {n : Int32} (v : Int) (hw : Cond.constant own index n ∈ wsG) (hdg : decode cc pc = .ok (.ldc_w index, 3)) (hv : n.toInt = v) (k : PW E (pc + 3) ls (vi v :: st) H) : PW E pc ls st H := by
  obtain ⟨p, l, e, R, s, m, args, below, meth, c, Q, D, A, base, nL⟩ := E
  intro MH locs Ls St cells slots hH hO hl hL hS
  exact lv_ldcw F.1 F.2.1 F.2.2.2.1 (F.2.2.2.2.1 _ hw) hdg (k MH locs Ls _ cells slots hH hO hl hL ⟨⟨_, rfl, hv⟩, hS⟩)
theorem pw_ldc2 (F : FX E cc own) {index : Nat} {n : Int64} (v : Int) (hw : Cond.constantLong own index n ∈ wsG) (hdg : decode cc pc = .ok (.ldc2_w index, 3)) (hv : n.toInt = v) (k : PW E (pc + 3) ls (vl v :: st) H) : PW E pc ls st H := by
  obtain ⟨p, l, e, R, s, m, args, below, meth, c, Q, D, A, base, nL⟩ := E
  intro MH locs Ls St cells slots hH hO hl hL hS
  exact lv_ldc2 F.1 F.2.1 F.2.2.2.1 (F.2.2.2.2.1 _ hw) hdg (k MH locs Ls _ cells slots hH hO hl hL ⟨⟨_, rfl, hv⟩, hS⟩)
-- loads
theorem pw_iload_n (F : FX E cc own) {j : Fin 4} {x : Int} (hdg : decode cc pc = .ok (.iload_n j, 1)) (hi : ls[(j : Nat)]? = some (some (vi x))) (k : PW E (pc + 1) ls (vi x :: st) H) : PW E pc ls st H := by
  obtain ⟨p, l, e, R, s, m, args, below, meth, c, Q, D, A, base, nL⟩ := E
  intro MH locs Ls St cells slots hH hO hl hL hS
  obtain ⟨v, h1, i, rfl, h2⟩ := hL.at hi
  exact lv_iload_n F.1 F.2.1 hdg rfl h1 (k MH locs Ls _ cells slots hH hO hl hL ⟨⟨_, rfl, h2⟩, hS⟩)
theorem pw_iload (F : FX E cc own) {j : Nat} {x : Int} (hdg : decode cc pc = .ok (.iload j, 2)) (hi : ls[j]? = some (some (vi x))) (k : PW E (pc + 2) ls (vi x :: st) H) : PW E pc ls st H := by
  obtain ⟨p, l, e, R, s, m, args, below, meth, c, Q, D, A, base, nL⟩ := E
  intro MH locs Ls St cells slots hH hO hl hL hS
  obtain ⟨v, h1, i, rfl, h2⟩ := hL.at hi
  exact lv_iload F.1 F.2.1 hdg h1 (k MH locs Ls _ cells slots hH hO hl hL ⟨⟨_, rfl, h2⟩, hS⟩)
theorem pw_lload_n (F : FX E cc own) {j : Fin 4} {x : Int} (hdg : decode cc pc = .ok (.lload_n j, 1)) (hi : ls[(j : Nat)]? = some (some (vl x))) (k : PW E (pc + 1) ls (vl x :: st) H) : PW E pc ls st H := by
  obtain ⟨p, l, e, R, s, m, args, below, meth, c, Q, D, A, base, nL⟩ := E
  intro MH locs Ls St cells slots hH hO hl hL hS
  obtain ⟨v, h1, i, rfl, h2⟩ := hL.at hi
  exact lv_lload_n F.1 F.2.1 hdg rfl h1 (k MH locs Ls _ cells slots hH hO hl hL ⟨⟨_, rfl, h2⟩, hS⟩)
theorem pw_lload (F : FX E cc own) {j : Nat} {x : Int} (hdg : decode cc pc = .ok (.lload j, 2)) (hi : ls[j]? = some (some (vl x))) (k : PW E (pc + 2) ls (vl x :: st) H) : PW E pc ls st H := by
  obtain ⟨p, l, e, R, s, m, args, below, meth, c, Q, D, A, base, nL⟩ := E
  intro MH locs Ls St cells slots hH hO hl hL hS
  obtain ⟨v, h1, i, rfl, h2⟩ := hL.at hi
  exact lv_lload F.1 F.2.1 hdg h1 (k MH locs Ls _ cells slots hH hO hl hL ⟨⟨_, rfl, h2⟩, hS⟩)
theorem pw_aload_n (F : FX E cc own) {j : Fin 4} {x : Int} (hdg : decode cc pc = .ok (.aload_n j, 1)) (hi : ls[(j : Nat)]? = some (some (vr x))) (k : PW E (pc + 1) ls (vr x :: st) H) : PW E pc ls st H := by
  obtain ⟨p, l, e, R, s, m, args, below, meth, c, Q, D, A, base, nL⟩ := E
  intro MH locs Ls St cells slots hH hO hl hL hS
  obtain ⟨v, h1, ⟨h2, rfl⟩ | ⟨h2, rfl⟩⟩ := hL.at hi
  · exact lv_aload_nN F.1 F.2.1 hdg rfl h1 (k MH locs Ls _ cells slots hH hO hl hL ⟨Or.inl ⟨h2, rfl⟩, hS⟩)
  · exact lv_aload_n F.1 F.2.1 hdg rfl h1 (k MH locs Ls _ cells slots hH hO hl hL ⟨Or.inr ⟨h2, rfl⟩, hS⟩)
theorem pw_aload (F : FX E cc own) {j : Nat} {x : Int} (hdg : decode cc pc = .ok (.aload j, 2)) (hi : ls[j]? = some (some (vr x))) (k : PW E (pc + 2) ls (vr x :: st) H) : PW E pc ls st H := by
  obtain ⟨p, l, e, R, s, m, args, below, meth, c, Q, D, A, base, nL⟩ := E
  intro MH locs Ls St cells slots hH hO hl hL hS
  obtain ⟨v, h1, ⟨h2, rfl⟩ | ⟨h2, rfl⟩⟩ := hL.at hi
  · exact lv_aloadN F.1 F.2.1 hdg h1 (k MH locs Ls _ cells slots hH hO hl hL ⟨Or.inl ⟨h2, rfl⟩, hS⟩)
  · exact lv_aload F.1 F.2.1 hdg h1 (k MH locs Ls _ cells slots hH hO hl hL ⟨Or.inr ⟨h2, rfl⟩, hS⟩)
theorem pw_sload_n (F : FX E cc own) {j : Fin 4} {x : Int} (hdg : decode cc pc = .ok (.aload_n j, 1)) (hi : ls[(j : Nat)]? = some (some (vsc x))) (k : PW E (pc + 1) ls (vsc x :: st) H) : PW E pc ls st H := by
  obtain ⟨p, l, e, R, s, m, args, below, meth, c, Q, D, A, base, nL⟩ := E
  intro MH locs Ls St cells slots hH hO hl hL hS
  obtain ⟨v, h1, h2⟩ := hL.at hi
  have h2 : v = .ref x.toNat := h2
  subst h2
  exact lv_aload_n F.1 F.2.1 hdg rfl h1 (k MH locs Ls _ cells slots hH hO hl hL ⟨rfl, hS⟩)
end Rules
