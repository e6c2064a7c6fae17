/-! THE REFERENCE'S SMALL FUNCTIONS, in closed form -/
theorem lc_lt {a b : Int} : lc a b < 0 ↔ a < b := by
  unfold lc; (repeat' split) <;> omega
theorem lc_gt {a b : Int} : lc a b > 0 ↔ b < a := by
  unfold lc; (repeat' split) <;> omega
theorem lc_ne {a b : Int} : lc a b ≠ 0 ↔ a ≠ b := by
  unfold lc; (repeat' split) <;> omega
theorem lc_eq {a b : Int} : lc a b = 0 ↔ a = b := by
  unfold lc; (repeat' split) <;> omega
theorem lc_ge {a b : Int} : lc a b ≥ 0 ↔ b ≤ a := by
  unfold lc; (repeat' split) <;> omega
theorem lc_le {a b : Int} : lc a b ≤ 0 ↔ a ≤ b := by
  unfold lc; (repeat' split) <;> omega
/-- 1 where it holds, else 0 -/
def b2i (p : Prop) (d : Decidable p) : Int := @ite Int p d 1 0
theorem r_in (a b c : Int) (G : GS) : g_X9_in a b c G = some (if b ≤ a ∧ a ≤ c then 1 else 0, G) := by
  unfold g_X9_in
  by_cases h1 : a < b
  · rw [if_pos (lc_lt.mpr h1), if_neg (by omega)]
  · rw [if_neg (fun q => h1 (lc_lt.mp q))]
    by_cases h2 : c < a
    · rw [if_pos (lc_gt.mpr h2), if_neg (by omega)]
    · rw [if_neg (fun q => h2 (lc_gt.mp q)), if_pos (by omega)]
theorem ifc {p q : Prop} {d1 : Decidable p} {d2 : Decidable q} (h : p ↔ q) : @ite Int p d1 1 0 = @ite Int q d2 1 0 := by
  by_cases hp : p
  · rw [if_pos hp, if_pos (h.mp hp)]
  · rw [if_neg hp, if_neg (fun z => hp (h.mpr z))]
theorem gzr_if {p : Prop} {d : Decidable p} {G : GS} : gzr (@ite Int p d 1 0) G = some (@ite Int p d 1 0, G) := by
  unfold gzr
  rw [if_pos]
  by_cases h : p
  · rw [if_pos h]; exact Or.inr rfl
  · rw [if_neg h]; exact Or.inl rfl
theorem gvm0 (o : GO) : gvm 0 o = o := if_pos (by decide)
/-- numbers that the reference keeps: how many questions, households, conditions, editions -/
def MB (G : GS) : Prop := (0 ≤ gV G 100 0 0 ∧ gV G 100 0 0 ≤ 24) ∧ (0 ≤ gV G 100 0 14 ∧ gV G 100 0 14 ≤ 40) ∧ (0 ≤ gV G 100 0 18 ∧ gV G 100 0 18 ≤ 60) ∧ (0 ≤ gV G 100 0 30 ∧ gV G 100 0 30 ≤ 6)
theorem r_isQuestion {G : GS} (h : MR G) (hb : MB G) (q : Int) : g_X9_isQuestion 0 q G = some (if 0 ≤ q ∧ q < gV G 100 0 0 then 1 else 0, G) := by
  obtain ⟨⟨b1, b2⟩, -⟩ := hb
  unfold g_X9_isQuestion
  rw [gvm0, mf_0 h, Option.bind_some, r_in, Option.bind_some, w32_id (by omega) (by omega), gzr_if]
  congr 2
  exact ifc (by omega)
theorem r_isHousehold {G : GS} (h : MR G) (hb : MB G) (q : Int) : g_X9_isHousehold 0 q G = some (if 0 ≤ q ∧ q < gV G 100 0 14 then 1 else 0, G) := by
  obtain ⟨-, ⟨b1, b2⟩, -⟩ := hb
  unfold g_X9_isHousehold
  rw [gvm0, mf_14 h, Option.bind_some, r_in, Option.bind_some, w32_id (by omega) (by omega), gzr_if]
  congr 2
  exact ifc (by omega)
theorem r_isCondition {G : GS} (h : MR G) (hb : MB G) (q : Int) : g_X9_isCondition 0 q G = some (if 0 ≤ q ∧ q < gV G 100 0 18 then 1 else 0, G) := by
  obtain ⟨-, -, ⟨b1, b2⟩, -⟩ := hb
  unfold g_X9_isCondition
  rw [gvm0, mf_18 h, Option.bind_some, r_in, Option.bind_some, w32_id (by omega) (by omega), gzr_if]
  congr 2
  exact ifc (by omega)
theorem r_isEdition {G : GS} (h : MR G) (hb : MB G) (q : Int) : g_X9_isEdition 0 q G = some (if 0 ≤ q ∧ q < gV G 100 0 30 then 1 else 0, G) := by
  obtain ⟨-, -, -, ⟨b1, b2⟩⟩ := hb
  unfold g_X9_isEdition
  rw [gvm0, mf_30 h, Option.bind_some, r_in, Option.bind_some, w32_id (by omega) (by omega), gzr_if]
  congr 2
  exact ifc (by omega)
theorem r_place {h q s : Int} (G : GS) (h0 : 0 ≤ h ∧ h < 40) (q0 : 0 ≤ q ∧ q < 24) (s0 : 0 ≤ s ∧ s < 6) : g_X9_place h q s G = some ((24 * h + q) * 6 + s, G) := by
  unfold g_X9_place
  rw [w32_id (x := 24 * h) (by omega) (by omega), w32_id (x := 24 * h + q) (by omega) (by omega), w32_id (x := (24 * h + q) * 6) (by omega) (by omega), w32_id (by omega) (by omega)]
/-- the last of the first n of the q-th codes that is c, else d -/
def lastc (V : Nat → Nat → Nat → Int) (q : Nat) (c : Int) : Nat → Int
  | 0 => -1
  | n + 1 => if V 108 0 (8 * q + n) = c then (n : Int) else lastc V q c n
theorem r_codeNumber_loop {G : GS} (h : MR G) (q : Nat) (c : Int) (hq : q < 24) (m : Nat) (hm : gV G 109 0 q = (m : Int)) (hm8 : m ≤ 8) : ∀ (n i : Nat), i ≤ m → m - i ≤ n → lh2 (glX9_codeNumber_6 0 (q : Int) c) (n + 1) (lastc (gV G) q c i) (i : Int) G = some (lastc (gV G) q c m, G) := by
  intro n
  induction n with
  | zero =>
    intro i hi hn
    obtain rfl : i = m := by omega
    rw [lh2_s]
    generalize lh2 (glX9_codeNumber_6 0 (q : Int) c) 0 = self
    unfold glX9_codeNumber_6
    rw [ma_9 h, Option.bind_some, mg_9 h (by omega) (by omega), Option.bind_some, show ((q : Nat) : Int).toNat = q by omega, hm, if_pos (by omega)]
  | succ n ih =>
    intro i hi hn
    rw [lh2_s]
    by_cases hil : i = m
    · subst hil
      generalize lh2 (glX9_codeNumber_6 0 (q : Int) c) (n + 1) = self
      unfold glX9_codeNumber_6
      rw [ma_9 h, Option.bind_some, mg_9 h (by omega) (by omega), Option.bind_some, show ((q : Nat) : Int).toNat = q by omega, hm, if_pos (by omega)]
    · have ih' := ih (i + 1) (by omega) (by omega)
      generalize lh2 (glX9_codeNumber_6 0 (q : Int) c) (n + 1) = self at ih' ⊢
      unfold glX9_codeNumber_6 gjX9_codeNumber_42
      rw [ma_9 h, Option.bind_some, mg_9 h (by omega) (by omega), Option.bind_some, show ((q : Nat) : Int).toNat = q by omega, hm, if_neg (by omega), ma_8 h, Option.bind_some, w32_id (x := 8 * (q : Int)) (by omega) (by omega), w32_id (x := 8 * (q : Int) + i) (by omega) (by omega), mg_8 h (by omega) (by omega), Option.bind_some, w32_id (x := (i : Int) + 1) (by omega) (by omega)]
      rw [show (8 * (q : Int) + (i : Int)).toNat = 8 * q + i by omega]
      have e : ((i : Int) + 1) = ((i + 1 : Nat) : Int) := by omega
      rw [e]
      by_cases hc : gV G 108 0 (8 * q + i) = c
      · rw [if_neg (fun z => lc_ne.mp z hc)]
        have : lastc (gV G) q c (i + 1) = (i : Int) := by unfold lastc; rw [if_pos hc]
        rw [this] at ih'
        exact ih'
      · rw [if_pos (lc_ne.mpr hc)]
        have : lastc (gV G) q c (i + 1) = lastc (gV G) q c i := by
          show (if gV G 108 0 (8 * q + i) = c then (i : Int) else lastc (gV G) q c i) = _
          rw [if_neg hc]
        rw [this] at ih'
        exact ih'
theorem r_codeNumber {G : GS} (h : MR G) (q : Nat) (c : Int) (hq : q < 24) (m : Nat) (hm : gV G 109 0 q = (m : Int)) (hm8 : m ≤ 8) : g_X9_codeNumber 0 (q : Int) c G = some (lastc (gV G) q c m, G) := by
  unfold g_X9_codeNumber
  rw [gvm0]
  exact r_codeNumber_loop h q c hq m hm hm8 5999 0 (by omega) (by omega)
