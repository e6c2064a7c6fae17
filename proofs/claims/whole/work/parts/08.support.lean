/-! SUPPORT for the printed methods: binds, guards, loops with fuel, words -/
abbrev RO : Type := Option (Int × PH)
theorem bnd {α β : Type} {o : Option α} {f : α → Option β} {r : β} (h : o.bind f = some r) : ∃ x, o = some x ∧ f x = some r := Option.bind_eq_some_iff.mp h
theorem iteT {α : Type} {c : Prop} {d : Decidable c} {A B r : α} (hc : c) (h : (@ite α c d A B) = r) : A = r := by rw [if_pos hc] at h; exact h
theorem iteF {α : Type} {c : Prop} {d : Decidable c} {A B r : α} (hc : ¬ c) (h : (@ite α c d A B) = r) : B = r := by rw [if_neg hc] at h; exact h
/-- an instance method's guard: the receiver is an object of class c -/
def vm (c : Nat) (a : Int) (H : PH) (o : RO) : RO := if (gcell H a).map (fun q => q.1) = some (16 + c) then o else none
theorem vm_spec {c : Nat} {a : Int} {H : PH} {o : RO} {r : Int × PH} (h : vm c a H o = some r) : (∃ ys, gcell H a = some (16 + c, ys)) ∧ o = some r := by
  unfold vm at h
  split at h
  · rename_i h1
    obtain ⟨⟨t, ys⟩, h2, h3⟩ := Option.map_eq_some_iff.mp h1
    dsimp only at h3
    subst h3
    exact ⟨⟨ys, h2⟩, h⟩
  · cases h
theorem vm_nn {c : Nat} {a : Int} {H : PH} (h : ∃ ys, gcell H a = some (16 + c, ys)) : 0 ≤ a := by
  obtain ⟨ys, h⟩ := h
  exact (gcell_spec h).1
def zr (x : Int) (H : PH) : RO := if x = 0 ∨ x = 1 then some (x, H) else none
theorem zr_spec {x : Int} {H : PH} {r : Int × PH} (h : zr x H = some r) : (x = 0 ∨ x = 1) ∧ some (x, H) = some r := by
  unfold zr at h
  split at h
  · exact ⟨‹_›, h⟩
  · cases h
def stz (t : Nat) (H : PH) (a i v : Int) : Option PH := if v = 0 ∨ v = 1 then stv t H a i v else none
theorem stz_spec {t : Nat} {H H' : PH} {a i v : Int} (h : stz t H a i v = some H') : (v = 0 ∨ v = 1) ∧ stv t H a i v = some H' := by
  unfold stz at h
  split at h
  · exact ⟨‹_›, h⟩
  · cases h
def sta (t c : Nat) (H : PH) (a i x : Int) : Option PH := if (gcell H x).map (fun q => q.1) = some (16 + c) then stv t H a i x else none
theorem sta_spec {t c : Nat} {H H' : PH} {a i x : Int} (h : sta t c H a i x = some H') : (∃ ys, gcell H x = some (16 + c, ys)) ∧ stv t H a i x = some H' := by
  unfold sta at h
  split at h
  · rename_i h1
    obtain ⟨⟨t', ys⟩, h2, h3⟩ := Option.map_eq_some_iff.mp h1
    dsimp only at h3
    subst h3
    exact ⟨⟨ys, h2⟩, h⟩
  · cases h
theorem newo_nn {c : Nat} {H : PH} {z : Int × PH} (h : newo c H = some z) : 0 ≤ z.1 := by
  obtain ⟨a, H'⟩ := z
  obtain ⟨-, -, h3, -⟩ := alc_spec h
  dsimp only
  omega
theorem lt_nl {E : PE} {n j : Nat} (hn : nLof E = n) (h : j < n) : j < nLof E := by rw [hn]; exact h
theorem rm_ok {E : PE} {a b x y : Nat} (hf : (roomOf E).frames = a) (hl : (roomOf E).locals = b) (h1 : x ≤ a) (h2 : y ≤ b) : x ≤ (roomOf E).frames ∧ y ≤ (roomOf E).locals := by rw [hf, hl]; exact ⟨h1, h2⟩
theorem inG (i : Nat) {w : Cond} (h : tables_1[i]? = some w) (hg : goodWord w = true) : w ∈ wsG := List.mem_filter.mpr ⟨List.mem_append_right _ (List.mem_of_getElem? h), hg⟩
theorem inS (i : Nat) {w : Cond} (h : (k2_sels lw_privs)[i]? = some w) (hg : goodWord w = true) : w ∈ wsG := List.mem_filter.mpr ⟨List.mem_append_left _ (List.mem_of_getElem? h), hg⟩
theorem inL {ws : List Cond} (ps : List Nat) (hp : ws = ps.filterMap (fun i => tables_1[i]?)) (hg : ws.all goodWord = true) : ∀ w ∈ ws, w ∈ wsG := by
  intro w hw
  have h1 := List.all_eq_true.mp hg w hw
  rw [hp] at hw
  obtain ⟨i, -, hi⟩ := List.mem_filterMap.mp hw
  exact inG i hi h1
def lq0 (body : (PH → RO) → PH → RO) : Nat → PH → RO
  | 0 => fun _ => none
  | k + 1 => fun H => body (lq0 body k) H
theorem lq0_ind {body : (PH → RO) → PH → RO} {P : PH → Prop} {R : Int × PH} (hb : ∀ self : PH → RO, (∀ (H : PH), self H = some R → P H) → ∀ (H : PH), body self H = some R → P H) : ∀ (k : Nat) (H : PH), lq0 body k H = some R → P H := by
  intro k
  induction k with
  | zero => intro H h; cases h
  | succ k ih => intro H h; exact hb _ ih H h
def lq1 (body : (Int → PH → RO) → Int → PH → RO) : Nat → Int → PH → RO
  | 0 => fun _ _ => none
  | k + 1 => fun x0 H => body (lq1 body k) x0 H
theorem lq1_ind {body : (Int → PH → RO) → Int → PH → RO} {P : Int → PH → Prop} {R : Int × PH} (hb : ∀ self : Int → PH → RO, (∀ (x0 : Int) (H : PH), self x0 H = some R → P x0 H) → ∀ (x0 : Int) (H : PH), body self x0 H = some R → P x0 H) : ∀ (k : Nat) (x0 : Int) (H : PH), lq1 body k x0 H = some R → P x0 H := by
  intro k
  induction k with
  | zero => intro x0 H h; cases h
  | succ k ih => intro x0 H h; exact hb _ ih x0 H h
def lq2 (body : (Int → Int → PH → RO) → Int → Int → PH → RO) : Nat → Int → Int → PH → RO
  | 0 => fun _ _ _ => none
  | k + 1 => fun x0 x1 H => body (lq2 body k) x0 x1 H
theorem lq2_ind {body : (Int → Int → PH → RO) → Int → Int → PH → RO} {P : Int → Int → PH → Prop} {R : Int × PH} (hb : ∀ self : Int → Int → PH → RO, (∀ (x0 x1 : Int) (H : PH), self x0 x1 H = some R → P x0 x1 H) → ∀ (x0 x1 : Int) (H : PH), body self x0 x1 H = some R → P x0 x1 H) : ∀ (k : Nat) (x0 x1 : Int) (H : PH), lq2 body k x0 x1 H = some R → P x0 x1 H := by
  intro k
  induction k with
  | zero => intro x0 x1 H h; cases h
  | succ k ih => intro x0 x1 H h; exact hb _ ih x0 x1 H h
def lq3 (body : (Int → Int → Int → PH → RO) → Int → Int → Int → PH → RO) : Nat → Int → Int → Int → PH → RO
  | 0 => fun _ _ _ _ => none
  | k + 1 => fun x0 x1 x2 H => body (lq3 body k) x0 x1 x2 H
theorem lq3_ind {body : (Int → Int → Int → PH → RO) → Int → Int → Int → PH → RO} {P : Int → Int → Int → PH → Prop} {R : Int × PH} (hb : ∀ self : Int → Int → Int → PH → RO, (∀ (x0 x1 x2 : Int) (H : PH), self x0 x1 x2 H = some R → P x0 x1 x2 H) → ∀ (x0 x1 x2 : Int) (H : PH), body self x0 x1 x2 H = some R → P x0 x1 x2 H) : ∀ (k : Nat) (x0 x1 x2 : Int) (H : PH), lq3 body k x0 x1 x2 H = some R → P x0 x1 x2 H := by
  intro k
  induction k with
  | zero => intro x0 x1 x2 H h; cases h
  | succ k ih => intro x0 x1 x2 H h; exact hb _ ih x0 x1 x2 H h
def lq4 (body : (Int → Int → Int → Int → PH → RO) → Int → Int → Int → Int → PH → RO) : Nat → Int → Int → Int → Int → PH → RO
  | 0 => fun _ _ _ _ _ => none
  | k + 1 => fun x0 x1 x2 x3 H => body (lq4 body k) x0 x1 x2 x3 H
theorem lq4_ind {body : (Int → Int → Int → Int → PH → RO) → Int → Int → Int → Int → PH → RO} {P : Int → Int → Int → Int → PH → Prop} {R : Int × PH} (hb : ∀ self : Int → Int → Int → Int → PH → RO, (∀ (x0 x1 x2 x3 : Int) (H : PH), self x0 x1 x2 x3 H = some R → P x0 x1 x2 x3 H) → ∀ (x0 x1 x2 x3 : Int) (H : PH), body self x0 x1 x2 x3 H = some R → P x0 x1 x2 x3 H) : ∀ (k : Nat) (x0 x1 x2 x3 : Int) (H : PH), lq4 body k x0 x1 x2 x3 H = some R → P x0 x1 x2 x3 H := by
  intro k
  induction k with
  | zero => intro x0 x1 x2 x3 H h; cases h
  | succ k ih => intro x0 x1 x2 x3 H h; exact hb _ ih x0 x1 x2 x3 H h
def lq5 (body : (Int → Int → Int → Int → Int → PH → RO) → Int → Int → Int → Int → Int → PH → RO) : Nat → Int → Int → Int → Int → Int → PH → RO
  | 0 => fun _ _ _ _ _ _ => none
  | k + 1 => fun x0 x1 x2 x3 x4 H => body (lq5 body k) x0 x1 x2 x3 x4 H
theorem lq5_ind {body : (Int → Int → Int → Int → Int → PH → RO) → Int → Int → Int → Int → Int → PH → RO} {P : Int → Int → Int → Int → Int → PH → Prop} {R : Int × PH} (hb : ∀ self : Int → Int → Int → Int → Int → PH → RO, (∀ (x0 x1 x2 x3 x4 : Int) (H : PH), self x0 x1 x2 x3 x4 H = some R → P x0 x1 x2 x3 x4 H) → ∀ (x0 x1 x2 x3 x4 : Int) (H : PH), body self x0 x1 x2 x3 x4 H = some R → P x0 x1 x2 x3 x4 H) : ∀ (k : Nat) (x0 x1 x2 x3 x4 : Int) (H : PH), lq5 body k x0 x1 x2 x3 x4 H = some R → P x0 x1 x2 x3 x4 H := by
  intro k
  induction k with
  | zero => intro x0 x1 x2 x3 x4 H h; cases h
  | succ k ih => intro x0 x1 x2 x3 x4 H h; exact hb _ ih x0 x1 x2 x3 x4 H h
def lq6 (body : (Int → Int → Int → Int → Int → Int → PH → RO) → Int → Int → Int → Int → Int → Int → PH → RO) : Nat → Int → Int → Int → Int → Int → Int → PH → RO
  | 0 => fun _ _ _ _ _ _ _ => none
  | k + 1 => fun x0 x1 x2 x3 x4 x5 H => body (lq6 body k) x0 x1 x2 x3 x4 x5 H
theorem lq6_ind {body : (Int → Int → Int → Int → Int → Int → PH → RO) → Int → Int → Int → Int → Int → Int → PH → RO} {P : Int → Int → Int → Int → Int → Int → PH → Prop} {R : Int × PH} (hb : ∀ self : Int → Int → Int → Int → Int → Int → PH → RO, (∀ (x0 x1 x2 x3 x4 x5 : Int) (H : PH), self x0 x1 x2 x3 x4 x5 H = some R → P x0 x1 x2 x3 x4 x5 H) → ∀ (x0 x1 x2 x3 x4 x5 : Int) (H : PH), body self x0 x1 x2 x3 x4 x5 H = some R → P x0 x1 x2 x3 x4 x5 H) : ∀ (k : Nat) (x0 x1 x2 x3 x4 x5 : Int) (H : PH), lq6 body k x0 x1 x2 x3 x4 x5 H = some R → P x0 x1 x2 x3 x4 x5 H := by
  intro k
  induction k with
  | zero => intro x0 x1 x2 x3 x4 x5 H h; cases h
  | succ k ih => intro x0 x1 x2 x3 x4 x5 H h; exact hb _ ih x0 x1 x2 x3 x4 x5 H h
def lq7 (body : (Int → Int → Int → Int → Int → Int → Int → PH → RO) → Int → Int → Int → Int → Int → Int → Int → PH → RO) : Nat → Int → Int → Int → Int → Int → Int → Int → PH → RO
  | 0 => fun _ _ _ _ _ _ _ _ => none
  | k + 1 => fun x0 x1 x2 x3 x4 x5 x6 H => body (lq7 body k) x0 x1 x2 x3 x4 x5 x6 H
theorem lq7_ind {body : (Int → Int → Int → Int → Int → Int → Int → PH → RO) → Int → Int → Int → Int → Int → Int → Int → PH → RO} {P : Int → Int → Int → Int → Int → Int → Int → PH → Prop} {R : Int × PH} (hb : ∀ self : Int → Int → Int → Int → Int → Int → Int → PH → RO, (∀ (x0 x1 x2 x3 x4 x5 x6 : Int) (H : PH), self x0 x1 x2 x3 x4 x5 x6 H = some R → P x0 x1 x2 x3 x4 x5 x6 H) → ∀ (x0 x1 x2 x3 x4 x5 x6 : Int) (H : PH), body self x0 x1 x2 x3 x4 x5 x6 H = some R → P x0 x1 x2 x3 x4 x5 x6 H) : ∀ (k : Nat) (x0 x1 x2 x3 x4 x5 x6 : Int) (H : PH), lq7 body k x0 x1 x2 x3 x4 x5 x6 H = some R → P x0 x1 x2 x3 x4 x5 x6 H := by
  intro k
  induction k with
  | zero => intro x0 x1 x2 x3 x4 x5 x6 H h; cases h
  | succ k ih => intro x0 x1 x2 x3 x4 x5 x6 H h; exact hb _ ih x0 x1 x2 x3 x4 x5 x6 H h
def lq8 (body : (Int → Int → Int → Int → Int → Int → Int → Int → PH → RO) → Int → Int → Int → Int → Int → Int → Int → Int → PH → RO) : Nat → Int → Int → Int → Int → Int → Int → Int → Int → PH → RO
  | 0 => fun _ _ _ _ _ _ _ _ _ => none
  | k + 1 => fun x0 x1 x2 x3 x4 x5 x6 x7 H => body (lq8 body k) x0 x1 x2 x3 x4 x5 x6 x7 H
theorem lq8_ind {body : (Int → Int → Int → Int → Int → Int → Int → Int → PH → RO) → Int → Int → Int → Int → Int → Int → Int → Int → PH → RO} {P : Int → Int → Int → Int → Int → Int → Int → Int → PH → Prop} {R : Int × PH} (hb : ∀ self : Int → Int → Int → Int → Int → Int → Int → Int → PH → RO, (∀ (x0 x1 x2 x3 x4 x5 x6 x7 : Int) (H : PH), self x0 x1 x2 x3 x4 x5 x6 x7 H = some R → P x0 x1 x2 x3 x4 x5 x6 x7 H) → ∀ (x0 x1 x2 x3 x4 x5 x6 x7 : Int) (H : PH), body self x0 x1 x2 x3 x4 x5 x6 x7 H = some R → P x0 x1 x2 x3 x4 x5 x6 x7 H) : ∀ (k : Nat) (x0 x1 x2 x3 x4 x5 x6 x7 : Int) (H : PH), lq8 body k x0 x1 x2 x3 x4 x5 x6 x7 H = some R → P x0 x1 x2 x3 x4 x5 x6 x7 H := by
  intro k
  induction k with
  | zero => intro x0 x1 x2 x3 x4 x5 x6 x7 H h; cases h
  | succ k ih => intro x0 x1 x2 x3 x4 x5 x6 x7 H h; exact hb _ ih x0 x1 x2 x3 x4 x5 x6 x7 H h
def imax (a b : Int) : Int := if a < b then b else a
def imin (a b : Int) : Int := if b < a then b else a
section MathRules
variable {E : PE} {cc : ByteArray} {own : String} {pc : Nat} {ls : PL} {st : List PV} {H H' : PH}
theorem pw_mmax (F : FX E cc own) (index : Nat) {a b : Int} (w1 : Cond.methodLink own index Lib.Math.max.name ∈ wsG) (w2 : Cond.static Lib.Math.max.name ∈ wsG) (w4 : Cond.initialized "java/lang/Math" ∈ wsG) (w5 : Cond.code Lib.Math.max.name Lib.Math.max.code 2 (some .int) ∈ wsG) (hR : 1 ≤ (roomOf E).frames ∧ 21 ≤ (roomOf E).locals) (hcat : Nat.ble (st.map pcat).sum 8 = true)
    (hdg : decode cc pc = .ok (.invokestatic index, 3)) (k : PW E (pc + 3) ls (vi (imax a b) :: st) H) : PW E pc ls (vi b :: vi a :: st) H := by
  obtain ⟨p, l, e, R, s, m, args, below, meth, c, Q, D, A, base, nL⟩ := E
  intro MH locs Ls St cells slots hH hO hl hL hS
  obtain ⟨v1, S1, rfl, ⟨y, rfl, hy⟩, hS1⟩ := rvs_cons hS
  obtain ⟨v2, S2, rfl, ⟨x, rfl, hx⟩, hS2⟩ := rvs_cons hS1
  dsimp only at hx hy
  obtain ⟨hx0, hb, hml, hown, hts, hK, hlk, H0, hH0, hRc, hRs⟩ := F
  refine W.room hH0 hH fun hle hsle => ?_
  have q1 := hH.2.1
  have q2 := hH.2.2.1
  have hcat' := Nat.le_of_ble_eq_true hcat
  have hR2 : 21 ≤ R.locals := hR.2
  have z1 : (S2.map fun v => v.category).sum + 13 ≤ R.locals := by rw [rvs_cats hS2]; omega
  have z2 : H.length - H0.length ≤ R.cells := by rw [hRc]; omega
  have z3 : szs H - szs H0 ≤ R.slots := by rw [hRs]; omega
  refine va_mmax hx0 hb (hml.trans hL.1.symm) hown (hts _ w1) (hts _ w2) (hts _ w4) (hts _ w5) hR.1 z1 z2 z3 hdg (k MH locs Ls _ _ _ hH hO hl hL ⟨⟨_, rfl, ?_⟩, hS2⟩)
  dsimp only
  unfold imax
  rw [← hx, ← hy]
  by_cases h : x < y
  · rw [if_pos h, if_pos (Int32.lt_iff_toInt_lt.mp h)]
  · rw [if_neg h, if_neg (fun q => h (Int32.lt_iff_toInt_lt.mpr q))]
theorem pw_mmin (F : FX E cc own) (index : Nat) {a b : Int} (w1 : Cond.methodLink own index Lib.Math.min.name ∈ wsG) (w2 : Cond.static Lib.Math.min.name ∈ wsG) (w4 : Cond.initialized "java/lang/Math" ∈ wsG) (w5 : Cond.code Lib.Math.min.name Lib.Math.min.code 2 (some .int) ∈ wsG) (hR : 1 ≤ (roomOf E).frames ∧ 21 ≤ (roomOf E).locals) (hcat : Nat.ble (st.map pcat).sum 8 = true)
    (hdg : decode cc pc = .ok (.invokestatic index, 3)) (k : PW E (pc + 3) ls (vi (imin a b) :: st) H) : PW E pc ls (vi b :: vi a :: st) H := by
  obtain ⟨p, l, e, R, s, m, args, below, meth, c, Q, D, A, base, nL⟩ := E
  intro MH locs Ls St cells slots hH hO hl hL hS
  obtain ⟨v1, S1, rfl, ⟨y, rfl, hy⟩, hS1⟩ := rvs_cons hS
  obtain ⟨v2, S2, rfl, ⟨x, rfl, hx⟩, hS2⟩ := rvs_cons hS1
  dsimp only at hx hy
  obtain ⟨hx0, hb, hml, hown, hts, hK, hlk, H0, hH0, hRc, hRs⟩ := F
  refine W.room hH0 hH fun hle hsle => ?_
  have q1 := hH.2.1
  have q2 := hH.2.2.1
  have hcat' := Nat.le_of_ble_eq_true hcat
  have hR2 : 21 ≤ R.locals := hR.2
  have z1 : (S2.map fun v => v.category).sum + 13 ≤ R.locals := by rw [rvs_cats hS2]; omega
  have z2 : H.length - H0.length ≤ R.cells := by rw [hRc]; omega
  have z3 : szs H - szs H0 ≤ R.slots := by rw [hRs]; omega
  refine va_mmin hx0 hb (hml.trans hL.1.symm) hown (hts _ w1) (hts _ w2) (hts _ w4) (hts _ w5) hR.1 z1 z2 z3 hdg (k MH locs Ls _ _ _ hH hO hl hL ⟨⟨_, rfl, ?_⟩, hS2⟩)
  dsimp only
  unfold imin
  rw [← hx, ← hy]
  by_cases h : y < x
  · rw [if_pos h, if_pos (Int32.lt_iff_toInt_lt.mp h)]
  · rw [if_neg h, if_neg (fun q => h (Int32.lt_iff_toInt_lt.mpr q))]
end MathRules
/-- what Arrays.copyOf makes: the first n places of the array, the rest 0 -/
def cpof (t : Nat) (a n : Int) (H : PH) : RO := (gcell H a).bind fun c => if c.1 = t ∧ 0 ≤ n ∧ n ≤ 100000 then alc (t, c.2.take n.toNat ++ List.replicate (n.toNat - c.2.length) 0) H else none
