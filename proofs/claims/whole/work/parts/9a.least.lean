section Least
def lo (hh ct : Nat → Int) (N : Nat) (P : Nat → Prop) (x : Int) : Prop := (x = -1 ∧ ∀ c, c < N → P c → hh c ≠ 0) ∨ (∃ c : Nat, c < N ∧ x = (c : Int) ∧ P c ∧ hh c = 0 ∧ ∀ c', c' < N → P c' → hh c' = 0 → ct c < ct c' ∨ (ct c = ct c' ∧ c ≤ c'))
variable {hh ct : Nat → Int} {N p : Nat} {P : Nat → Prop} {x : Int}
theorem lo_un {x' : Int} (h : lo hh ct N P x) (h' : lo hh ct N P x') : x = x' := by
  rcases h with ⟨e, h⟩ | ⟨c, hc, e, hp, h0, hl⟩ <;> rcases h' with ⟨e', h'⟩ | ⟨c', hc', e', hp', h0', hl'⟩
  · rw [e, e']
  · exact absurd h0' (h c' hc' hp')
  · exact absurd h0 (h' c hc hp)
  · have a := hl c' hc' hp' h0'
    have b := hl' c hc hp h0
    omega
theorem lo_cg {hh' ct' : Nat → Int} {P' : Nat → Prop} (h1 : ∀ c, c < N → hh' c = hh c) (h2 : ∀ c, c < N → ct' c = ct c) (h3 : ∀ c, c < N → (P' c ↔ P c)) (h : lo hh ct N P x) : lo hh' ct' N P' x := by
  rcases h with ⟨e, h⟩ | ⟨c, hc, e, hp, h0, hl⟩
  · exact Or.inl ⟨e, fun c hc hp => by rw [h1 c hc]; exact h c hc ((h3 c hc).mp hp)⟩
  · refine Or.inr ⟨c, hc, e, (h3 c hc).mpr hp, by rw [h1 c hc]; exact h0, fun c' hc' hp' h0' => ?_⟩
    rw [h2 c hc, h2 c' hc']
    exact hl c' hc' ((h3 c' hc').mp hp') (by rw [← h1 c' hc']; exact h0')
theorem lo_0 (h : ∀ c, c < p → ¬ P c) : lo hh ct p P (-1) := Or.inl ⟨rfl, fun c hc hp => absurd hp (h c hc)⟩
theorem lo_jump {p' : Nat} (hp : p ≤ p') (hn : ∀ c, p ≤ c → c < p' → ¬ P c) (h : lo hh ct p P x) : lo hh ct p' P x := by
  rcases h with ⟨e, h⟩ | ⟨c, hc, e, hpc, h0, hl⟩
  · refine Or.inl ⟨e, fun c hc hp' => ?_⟩
    by_cases l : c < p
    · exact h c l hp'
    · exact absurd hp' (hn c (by omega) hc)
  · refine Or.inr ⟨c, by omega, e, hpc, h0, fun c' hc' hp' h0' => ?_⟩
    by_cases l : c' < p
    · exact hl c' l hp' h0'
    · exact absurd hp' (hn c' (by omega) hc')
theorem lo_skip (hs : ¬ P p ∨ hh p ≠ 0) (h : lo hh ct p P x) : lo hh ct (p + 1) P x := by
  rcases h with ⟨e, h⟩ | ⟨c, hc, e, hpc, h0, hl⟩
  · refine Or.inl ⟨e, fun c hc hp' => ?_⟩
    by_cases l : c = p
    · subst l
      rcases hs with z | z
      · exact absurd hp' z
      · exact z
    · exact h c (by omega) hp'
  · refine Or.inr ⟨c, by omega, e, hpc, h0, fun c' hc' hp' h0' => ?_⟩
    by_cases l : c' = p
    · subst l
      rcases hs with z | z
      · exact absurd hp' z
      · exact absurd h0' z
    · exact hl c' (by omega) hp' h0'
theorem lo_new (hp : P p) (hz : hh p = 0) (hx : x = -1 ∨ ∃ c : Nat, x = (c : Int) ∧ ct p < ct c) (h : lo hh ct p P x) : lo hh ct (p + 1) P (p : Int) := by
  refine Or.inr ⟨p, by omega, rfl, hp, hz, fun c' hc' hp' h0' => ?_⟩
  by_cases l : c' = p
  · subst l; exact Or.inr ⟨rfl, Nat.le_refl _⟩
  · rcases h with ⟨e, h⟩ | ⟨c, hc, e, hpc, h0, hl⟩
    · exact absurd h0' (h c' (by omega) hp')
    · rcases hx with z | ⟨d, ed, hd⟩
      · omega
      · have : d = c := by omega
        subst this
        have := hl c' (by omega) hp' h0'
        omega
theorem lo_keep {c : Nat} (hx : x = (c : Int)) (hd : ct c ≤ ct p) (h : lo hh ct p P x) : lo hh ct (p + 1) P x := by
  rcases h with ⟨e, h⟩ | ⟨d, hc, e, hpc, h0, hl⟩
  · omega
  · have : d = c := by omega
    subst this
    refine Or.inr ⟨d, by omega, e, hpc, h0, fun c' hc' hp' h0' => ?_⟩
    by_cases l : c' = p
    · subst l; omega
    · exact hl c' (by omega) hp' h0'
theorem lo_lt (h : lo hh ct N P x) : -1 ≤ x ∧ x < (N : Int) := by
  rcases h with ⟨e, _⟩ | ⟨c, hc, e, _⟩ <;> omega
def cov (hh ct : Nat → Int) (m n i j : Nat) (x : Int) : Prop := ∃ x0, lo hh ct (m * n) (fun c => c / n = i) x0 ∧ ((x0 ≠ -1 ∧ x = x0) ∨ (x0 = -1 ∧ ∃ x1, lo hh ct (m * n) (fun c => c % n = j) x1 ∧ ((x1 ≠ -1 ∧ x = x1) ∨ (x1 = -1 ∧ lo hh ct (m * n) (fun _ => True) x))))
theorem cov_un {m n i j : Nat} {x' : Int} (h : cov hh ct m n i j x) (h' : cov hh ct m n i j x') : x = x' := by
  obtain ⟨x0, l0, h⟩ := h
  obtain ⟨y0, k0, h'⟩ := h'
  have e0 := lo_un l0 k0
  subst e0
  rcases h with ⟨a, b⟩ | ⟨a, x1, l1, h⟩ <;> rcases h' with ⟨a', b'⟩ | ⟨a', y1, k1, h'⟩
  · rw [b, b']
  · exact absurd a' a
  · exact absurd a a'
  · have e1 := lo_un l1 k1
    subst e1
    rcases h with ⟨c, d⟩ | ⟨c, d⟩ <;> rcases h' with ⟨c', d'⟩ | ⟨c', d'⟩
    · rw [d, d']
    · exact absurd c' c
    · exact absurd c c'
    · exact lo_un d d'
theorem cov_cg {m n i j : Nat} {hh' ct' : Nat → Int} (h1 : ∀ c, c < m * n → hh' c = hh c) (h2 : ∀ c, c < m * n → ct' c = ct c) (h : cov hh ct m n i j x) : cov hh' ct' m n i j x := by
  obtain ⟨x0, l0, h⟩ := h
  refine ⟨x0, lo_cg h1 h2 (fun _ _ => Iff.rfl) l0, ?_⟩
  rcases h with h | ⟨a, x1, l1, h⟩
  · exact Or.inl h
  · refine Or.inr ⟨a, x1, lo_cg h1 h2 (fun _ _ => Iff.rfl) l1, ?_⟩
    rcases h with h | ⟨c, d⟩
    · exact Or.inl h
    · exact Or.inr ⟨c, lo_cg h1 h2 (fun _ _ => Iff.rfl) d⟩
theorem cov_open {m n i j : Nat} (h : cov hh ct m n i j x) : x = -1 ∨ ∃ c : Nat, x = (c : Int) ∧ c < m * n ∧ hh c = 0 := by
  have g : ∀ {P : Nat → Prop} {x : Int}, lo hh ct (m * n) P x → x = -1 ∨ ∃ c : Nat, x = (c : Int) ∧ c < m * n ∧ hh c = 0 := by
    rintro P x (⟨e, _⟩ | ⟨c, hc, e, _, h0, _⟩)
    · exact Or.inl e
    · exact Or.inr ⟨c, e, hc, h0⟩
  obtain ⟨x0, l0, h⟩ := h
  rcases h with ⟨_, e⟩ | ⟨a, x1, l1, h⟩
  · rw [e]; exact g l0
  · rcases h with ⟨_, e⟩ | ⟨c, d⟩
    · rw [e]; exact g l1
    · exact g d
variable {two : Int} {m n : Nat} {hh' : Nat → Int}
theorem clo_cg {H H' : Nat → Nat → Prop} {i j : Nat} {A B : Nat → Prop} (h : ∀ a b, a < m → (H a b ↔ H' a b)) (hc : clo H m i j A B) : clo H' m i j A B := fun a b ha hb hn => hc a b ha ((h a b ha).mpr hb) hn
theorem hel_cg (h : ∀ c, c < m * n → hh' c = hh c) (a b : Nat) (ha : a < m) : hel hh' n a b ↔ hel hh n a b := by
  unfold hel
  refine ⟨fun z => ⟨z.1, ?_⟩, fun z => ⟨z.1, ?_⟩⟩
  · rw [← h (a * n + b) ?_]; exact z.2
    have h1 : (a + 1) * n ≤ m * n := Nat.mul_le_mul_right n ha
    rw [Nat.add_mul] at h1
    have := z.1
    omega
  · rw [h (a * n + b) ?_]; exact z.2
    have h1 : (a + 1) * n ≤ m * n := Nat.mul_le_mul_right n ha
    rw [Nat.add_mul] at h1
    have := z.1
    omega
theorem fol_cg {i j : Nat} (h : ∀ c, c < m * n → hh' c = hh c) (hi : i < m) (hj : j < n) : fol two hh' m n i j ↔ fol two hh m n i j := by
  have r : rch (hel hh' n) m i j j ↔ rch (hel hh n) m i j j := ⟨fun z A B hA hc => z A B hA (clo_cg (fun a b ha => (hel_cg h a b ha).symm) hc), fun z A B hA hc => z A B hA (clo_cg (fun a b ha => hel_cg h a b ha) hc)⟩
  have h1 : (i + 1) * n ≤ m * n := Nat.mul_le_mul_right n hi
  rw [Nat.add_mul] at h1
  unfold fol
  rw [h (i * n + j) (by omega), r, wsm_cg (w := hh) (w' := hh') h]
theorem ffs_cg {r : Int} (h : ∀ c, c < m * n → hh' c = hh c) (hf : ffs two hh m n r) : ffs two hh' m n r := by
  rcases hf with ⟨e, hf⟩ | ⟨i, j, hi, hj, e, hf, hl⟩
  · exact Or.inl ⟨e, fun i j hi hj z => hf i j hi hj ((fol_cg h hi hj).mp z)⟩
  · exact Or.inr ⟨i, j, hi, hj, e, (fol_cg h hi hj).mpr hf, fun a b ha hb hl' z => hl a b ha hb hl' ((fol_cg h ha hb).mp z)⟩
def Runx (two : Int) (ct : Nat → Int) (m n : Nat) : Nat → (Nat → Int) → (Nat → Int) → Prop
  | 0, h, h' => h' = h ∧ (ffs two h m n (-1) ∨ ∃ i j : Nat, i < m ∧ j < n ∧ ffs two h m n ((i * n + j : Nat) : Int) ∧ cov h ct m n i j (-1))
  | t + 1, h, h' => ∃ i j c : Nat, i < m ∧ j < n ∧ c < m * n ∧ ffs two h m n ((i * n + j : Nat) : Int) ∧ cov h ct m n i j (c : Int) ∧ Runx two ct m n t (updx h c 1) h'
def hb (ct : Nat → Int) (th : Int) (p : Nat) : Nat → Int := fun c => if c < p ∧ 0 < ct c ∧ ct c < th then 1 else 0
theorem hb_01 {th : Int} {c : Nat} : hb ct th p c = 0 ∨ hb ct th p c = 1 := by
  unfold hb; split
  · exact Or.inr rfl
  · exact Or.inl rfl
theorem hb_s1 {th : Int} (h : 0 < ct p ∧ ct p < th) : hb ct th (p + 1) = updx (hb ct th p) p 1 := by
  funext c
  unfold hb updx
  by_cases e : c = p
  · subst e; rw [if_pos ⟨by omega, h⟩, if_pos rfl]
  · rw [if_neg e]
    dsimp only
    by_cases d : c < p ∧ 0 < ct c ∧ ct c < th
    · rw [if_pos d, if_pos ⟨by omega, d.2⟩]
    · rw [if_neg d, if_neg (fun z => d ⟨by omega, z.2⟩)]
theorem hb_s0 {th : Int} (h : ¬ (0 < ct p ∧ ct p < th)) : hb ct th (p + 1) = hb ct th p := by
  funext c
  unfold hb
  by_cases d : c < p ∧ 0 < ct c ∧ ct c < th
  · rw [if_pos d, if_pos ⟨by omega, d.2⟩]
  · rw [if_neg d, if_neg (fun z => ?_)]
    by_cases e : c = p
    · subst e; exact h z.2
    · exact d ⟨by omega, z.2⟩
theorem hb_p {th : Int} : hb ct th p p = 0 := by unfold hb; rw [if_neg (fun z => absurd z.1 (by omega))]
theorem wsm_upd {c : Nat} (hc : c < N) (h0 : hh c = 0) : wsm (updx hh c 1) N = wsm hh N + 1 := by
  have := (wsm_u (f := hh) (g := updx hh c 1) (b := c) (v := 1) (fun k hk => if_neg hk) (if_pos rfl) (k := N)).1 hc
  omega
end Least
