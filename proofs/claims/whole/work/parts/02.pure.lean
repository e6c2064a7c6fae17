/-! PURE MACHINE: values, heap, the relation to the machine's heap, and PW, the walk's goal over pure states -/
abbrev PH : Type := List (Nat × List Int)
abbrev PV : Type := Nat × Int
abbrev vi (x : Int) : PV := (0, x)
abbrev vl (x : Int) : PV := (1, x)
abbrev vr (x : Int) : PV := (2, x)
abbrev vsc (x : Int) : PV := (3, x)
def w32 (x : Int) : Int := Int.bmod x 4294967296
def w64 (x : Int) : Int := Int.bmod x 18446744073709551616
def lc (a b : Int) : Int := if a > b then 1 else if a = b then 0 else -1
/-- a value of the pure machine and one of the machine; 2: a reference, the cell's number behind base, -1 is null; 3: the script's own address -/
def rv (base : Nat) (v : PV) (x : Value) : Prop := match v.1 with
  | 0 => ∃ i : Int32, x = .int i ∧ i.toInt = v.2
  | 1 => ∃ i : Int64, x = .long i ∧ i.toInt = v.2
  | 2 => (v.2 = -1 ∧ x = .null) ∨ (0 ≤ v.2 ∧ x = .ref (base + v.2.toNat))
  | 3 => x = .ref v.2.toNat
  | _ => False
def rvs (base : Nat) : List PV → List Value → Prop
  | [], [] => True
  | v :: vs, x :: xs => rv base v x ∧ rvs base vs xs
  | _, _ => False
theorem rvs_cons {base : Nat} {v : PV} {vs : List PV} {xs : List Value} (h : rvs base (v :: vs) xs) : ∃ x ys, xs = x :: ys ∧ rv base v x ∧ rvs base vs ys := by
  cases xs with
  | nil => exact h.elim
  | cons x ys => exact ⟨x, ys, rfl, h.1, h.2⟩
theorem rvs_nil {base : Nat} {xs : List Value} (h : rvs base [] xs) : xs = [] := by
  cases xs with
  | nil => rfl
  | cons x ys => exact h.elim
theorem rvs_app {base : Nat} : ∀ {vs ws : List PV} {xs : List Value}, rvs base (vs ++ ws) xs → ∃ ys zs, xs = ys ++ zs ∧ rvs base vs ys ∧ rvs base ws zs
  | [], ws, xs, h => ⟨[], xs, rfl, trivial, h⟩
  | v :: vs, ws, xs, h => by
    obtain ⟨x, ys, rfl, h1, h2⟩ := rvs_cons (by simpa using h)
    obtain ⟨as, bs, rfl, h3, h4⟩ := rvs_app h2
    exact ⟨x :: as, bs, rfl, ⟨h1, h3⟩, h4⟩
theorem rvs_push {base : Nat} : ∀ {vs ws : List PV} {xs zs : List Value}, rvs base vs xs → rvs base ws zs → rvs base (vs ++ ws) (xs ++ zs)
  | [], ws, xs, zs, h, h' => by cases rvs_nil h; exact h'
  | v :: vs, ws, xs, zs, h, h' => by
    obtain ⟨x, ys, rfl, h1, h2⟩ := rvs_cons h
    exact ⟨h1, rvs_push h2 h'⟩
theorem rvs_rev {base : Nat} : ∀ {vs : List PV} {xs : List Value}, rvs base vs xs → rvs base vs.reverse xs.reverse
  | [], xs, h => by cases rvs_nil h; exact trivial
  | v :: vs, xs, h => by
    obtain ⟨x, ys, rfl, h1, h2⟩ := rvs_cons h
    simpa using rvs_push (rvs_rev h2) (show rvs base [v] [x] from ⟨h1, trivial⟩)
theorem rvs_len {base : Nat} : ∀ {vs : List PV} {xs : List Value}, rvs base vs xs → xs.length = vs.length
  | [], xs, h => by cases rvs_nil h; rfl
  | v :: vs, xs, h => by
    obtain ⟨x, ys, rfl, h1, h2⟩ := rvs_cons h
    simp [rvs_len h2]
-- the classes by their numbers
def cR : Nat → String := fun c => match c with
  | 0 => RX0 | 1 => RX1 | 2 => RX2 | 3 => RX3 | 4 => RX4 | 5 => RX5 | 6 => RX6 | 7 => RX7 | 8 => RX8 | _ => RX9
def cT : Nat → u_T := fun c => match c with
  | 0 => TX0 | 1 => TX1 | 2 => TX2 | 3 => TX3 | 4 => TX4 | 5 => TX5 | 6 => TX6 | 7 => TX7 | 8 => TX8 | _ => TX9
def cty : Nat → Nat → FieldType := fun c => match c with
  | 0 => tyX0 | 1 => tyX1 | 2 => tyX2 | 3 => tyX3 | 4 => tyX4 | 5 => tyX5 | 6 => tyX6 | 7 => tyX7 | 8 => tyX8 | _ => tyX9
def cN : Nat → Nat := fun c => match c with
  | 0 => 7 | 1 => 2 | 2 => 5 | 3 => 6 | 4 => 4 | 5 => 13 | 6 => 2 | 7 => 9 | 8 => 8 | _ => 53
theorem cty_ok : ∀ c, c < 10 → ∀ k, k < cN c → parseFieldDescriptor (cT c k).2.2.1 = some (cty c k) := by decide +kernel
theorem cnm : ∀ c, c < 10 → ∀ a, a < cN c → ∀ b, b < cN c → a ≠ b → (cT c a).2.1 ≠ (cT c b).2.1 := by decide +kernel
def aC : Nat → String := fun t => match t with
  | 3 => RX0 | 4 => RX1 | 5 => RX4 | 6 => RX5 | _ => RX6
def aty : Nat → FieldType := fun t => match t with
  | 0 => .int | 1 => .long | 2 => .boolean | t + 3 => .object (aC (t + 3))
def kd : FieldType → Nat := fun t => match t with
  | .int => 0 | .boolean => 0 | .long => 1 | .object _ => 2 | .array _ => 2 | _ => 9
/-- the type of a cell's place: t < 16 an array (aty), else an object of class t - 16 -/
def fty (t j : Nat) : FieldType := if t < 16 then aty t else cty (t - 16) j
def posOf (D : va_G) (t j : Nat) : Nat := if t < 16 then j else D.2 (t - 16) j
def clsOf (D : va_G) (A : Nat → ClassId) (t : Nat) : ClassId := if t < 16 then A t else D.1 (t - 16)
def szs (H : PH) : Nat := (H.map fun c => c.2.length).sum
/-- the words that every method has: those of the tables that stay -/
def wsG : List Cond := lw_tbl.filter goodWord
def KF (D : va_G) (A : Nat → ClassId) (U : State) : Prop :=
  (∀ c, c < 10 → u_Kn U (cR c) (cT c) (cN c) (D.1 c) (D.2 c)) ∧ (∀ t, t < 8 → ArrOfT U (A t) (aty t) ∧ va_RA U (A t) (aty t)) ∧ (∀ t, 3 ≤ t → t < 8 → va_AO (aC t) U) ∧
  va_Nw (.methodLinkNest RX8 37 yX2_init RX8) U ∧ va_Nw (.methodLinkNest RX3 109 yX8_placesOf RX8) U ∧ va_Nw (.methodLinkNest RX3 85 yX8_spot RX8) U ∧ va_Nw (.methodLinkNest RX6 41 yX8_spot RX8) U ∧
  va_Nw (.castable "[I" "java/lang/Cloneable") U ∧ va_Nw (.castable "[J" "java/lang/Cloneable") U
theorem KF.warm {D : va_G} {A : Nat → ClassId} {s U : State} (hW : s.WarmedH U.vm) (h : KF D A s) : KF D A U :=
  ⟨fun c hc => u_Kn_moved hW.alike (h.1 c hc), fun t ht => ⟨arrOfT_moved hW.alike (h.2.1 t ht).1, (h.2.1 t ht).2.moved hW.alike⟩, fun t h3 h8 => (h.2.2.1 t h3 h8).moved hW.alike,
    va_Nw.warmM hW h.2.2.2.1, va_Nw.warmM hW h.2.2.2.2.1, va_Nw.warmM hW h.2.2.2.2.2.1, va_Nw.warmM hW h.2.2.2.2.2.2.1, va_Nw.warmC hW h.2.2.2.2.2.2.2.1, va_Nw.warmC hW h.2.2.2.2.2.2.2.2⟩
theorem KF.same {D : va_G} {A : Nat → ClassId} {s U : State} (hv : s.vm = U.vm) (h : KF D A s) : KF D A U :=
  have ha : s.vm.Alike U.vm := by rw [hv]; exact Vm.Alike.refl _
  ⟨fun c hc => u_Kn_moved ha (h.1 c hc), fun t ht => ⟨arrOfT_moved ha (h.2.1 t ht).1, (h.2.1 t ht).2.moved ha⟩, fun t h3 h8 => (h.2.2.1 t h3 h8).moved ha,
    va_Nw.same rfl hv h.2.2.2.1, va_Nw.same rfl hv h.2.2.2.2.1, va_Nw.same rfl hv h.2.2.2.2.2.1, va_Nw.same rfl hv h.2.2.2.2.2.2.1, va_Nw.same rfl hv h.2.2.2.2.2.2.2.1, va_Nw.same rfl hv h.2.2.2.2.2.2.2.2⟩
/-- a pure cell and the machine's -/
def CR (D : va_G) (A : Nat → ClassId) (base : Nat) (c : Nat × List Int) (MH : Heap) (k : Nat) : Prop :=
  ∃ cell : Cell, MH[base + k]? = some cell ∧ cell.vm = .none ∧ cell.slots.size = c.2.length ∧ cell.cls = clsOf D A c.1 ∧ ((c.1 < 8 ∨ (16 ≤ c.1 ∧ c.1 < 26 ∧ c.2.length = cN (c.1 - 16)))) ∧
    ∀ (j : Nat) (x : Int), c.2[j]? = some x → ∃ v, cell.slots[posOf D c.1 j]? = some v ∧ rv base (kd (fty c.1 j), x) v
def HR (D : va_G) (A : Nat → ClassId) (base : Nat) (H : PH) (MH : Heap) : Prop :=
  MH.size = base + H.length ∧ H.length ≤ 600000 ∧ szs H ≤ 7302250 ∧ ∀ (k : Nat) (c : Nat × List Int), H[k]? = some c → CR D A base c MH k
theorem CR.kept {D : va_G} {A : Nat → ClassId} {base : Nat} {c : Nat × List Int} {MH MH' : Heap} {k : Nat} (h : CR D A base c MH k) (hq : MH'[base + k]? = MH[base + k]?) : CR D A base c MH' k := by
  obtain ⟨cell, h1, h2⟩ := h
  exact ⟨cell, hq.trans h1, h2⟩
-- pure heap operations
def gcell (H : PH) (a : Int) : Option (Nat × List Int) := if 0 ≤ a then H[a.toNat]? else none
def ld (t : Nat) (H : PH) (a i : Int) : Option Int := (gcell H a).bind fun c => if c.1 = t ∧ 0 ≤ i then c.2[i.toNat]? else none
def stv (t : Nat) (H : PH) (a i v : Int) : Option PH := (gcell H a).bind fun c => if c.1 = t ∧ 0 ≤ i ∧ i < c.2.length then some (H.set a.toNat (t, c.2.set i.toNat v)) else none
def alen (H : PH) (a : Int) : Option Int := (gcell H a).bind fun c => if c.1 < 8 then some (c.2.length : Int) else none
def alc (c : Nat × List Int) (H : PH) : Option (Int × PH) := if H.length < 600000 ∧ szs H + c.2.length ≤ 7302250 then some ((H.length : Int), H ++ [c]) else none
def dfl (c : Nat) : List Int := (List.range (cN c)).map fun k => if kd (cty c k) = 2 then -1 else 0
def newo (c : Nat) (H : PH) : Option (Int × PH) := alc (16 + c, dfl c) H
def newa (t : Nat) (n : Int) (H : PH) : Option (Int × PH) := if 0 ≤ n ∧ n ≤ 100000 then alc (t, List.replicate n.toNat (if t < 3 then 0 else -1)) H else none
theorem ld_spec {t : Nat} {H : PH} {a i x : Int} (h : ld t H a i = some x) : ∃ xs, 0 ≤ a ∧ 0 ≤ i ∧ H[a.toNat]? = some (t, xs) ∧ xs[i.toNat]? = some x := by
  unfold ld gcell at h
  obtain ⟨c, hc, h0⟩ := Option.bind_eq_some_iff.mp h
  clear h
  obtain ⟨t', xs⟩ := c
  split at hc
  · split at h0
    · rename_i h1 h2
      obtain ⟨h4, h3⟩ := h2
      dsimp only at h4
      subst h4
      exact ⟨xs, h1, h3, hc, h0⟩
    · cases h0
  · cases hc
theorem stv_spec {t : Nat} {H H' : PH} {a i v : Int} (h : stv t H a i v = some H') : ∃ xs, 0 ≤ a ∧ 0 ≤ i ∧ i.toNat < xs.length ∧ H[a.toNat]? = some (t, xs) ∧ H' = H.set a.toNat (t, xs.set i.toNat v) := by
  unfold stv gcell at h
  obtain ⟨c, hc, h⟩ := Option.bind_eq_some_iff.mp h
  obtain ⟨t', xs⟩ := c
  split at hc
  · split at h
    · rename_i h1 h2
      obtain ⟨h4, h3, h5⟩ := h2
      dsimp only at h4 h5
      subst h4
      exact ⟨xs, h1, h3, by omega, hc, (Option.some.inj h).symm⟩
    · cases h
  · cases hc
theorem alen_spec {H : PH} {a x : Int} (h : alen H a = some x) : ∃ t xs, 0 ≤ a ∧ t < 8 ∧ H[a.toNat]? = some (t, xs) ∧ x = (xs.length : Int) := by
  unfold alen gcell at h
  obtain ⟨c, hc, h⟩ := Option.bind_eq_some_iff.mp h
  obtain ⟨t', xs⟩ := c
  split at hc
  · split at h
    · rename_i h1 h2
      exact ⟨t', xs, h1, h2, hc, (Option.some.inj h).symm⟩
    · cases h
  · cases hc
theorem alc_spec {c : Nat × List Int} {H H' : PH} {a : Int} (h : alc c H = some (a, H')) : H.length < 600000 ∧ szs H + c.2.length ≤ 7302250 ∧ a = (H.length : Int) ∧ H' = H ++ [c] := by
  unfold alc at h
  split at h
  · rename_i h1
    obtain ⟨rfl, rfl⟩ := Prod.mk.inj (Option.some.inj h)
    exact ⟨h1.1, h1.2, rfl, rfl⟩
  · cases h
theorem szs_app (H : PH) (c : Nat × List Int) : szs (H ++ [c]) = szs H + c.2.length := by simp [szs]
theorem szs_set {H : PH} {k t : Nat} {xs ys : List Int} (h : H[k]? = some (t, xs)) (hl : ys.length = xs.length) : szs (H.set k (t, ys)) = szs H := by
  unfold szs
  rw [List.map_set]
  congr 1
  apply List.ext_getElem?
  intro j
  rw [List.getElem?_set]
  split
  · rename_i hj
    subst hj
    have hk : k < H.length := (List.getElem?_eq_some_iff.mp h).1
    rw [List.getElem?_map, h]
    simp [hl, hk]
  · rfl
