section RFree
variable {V : GV} {R : GR} {Q : Int → GS → Prop} {m n : Nat} {two : Int}
def tabr (V : GV) (m n : Nat) (two : Int) : Prop := (1 ≤ m ∧ m ≤ 9 ∧ 1 ≤ n ∧ n ≤ 9) ∧ (V 100 0 37 = (m : Int) ∧ V 100 0 38 = (n : Int) ∧ V 100 0 36 = two ∧ (two = 1 ∨ (two = 0 ∧ n = 1))) ∧ (∀ k, k < m * n → V 142 0 k = 0 ∨ V 142 0 k = 1)
theorem tabr.cg {V' : GV} {L : PL'} (h : tabr V m n two) (sm : same V V' L) (hd : disP L [(100, some 37), (100, some 38), (100, some 36), (142, none)] = true) : tabr V' m n two := by
  obtain ⟨a, ⟨b1, b2, b3, b4⟩, c⟩ := h
  refine ⟨a, ⟨(sm.at hd ⟨(100, some 37), by decide, rfl, Or.inr rfl⟩).trans b1, (sm.at hd ⟨(100, some 38), by decide, rfl, Or.inr rfl⟩).trans b2, (sm.at hd ⟨(100, some 36), by decide, rfl, Or.inr rfl⟩).trans b3, b4⟩, fun k hk => ?_⟩
  rw [sm.at hd ⟨(142, none), by decide, rfl, Or.inl rfl⟩]; exact c k hk
theorem divmod {n k : Nat} (hn : 1 ≤ n) (h9 : n ≤ 9) (hk : k < 81) : w32 (Int.tdiv (k : Int) (n : Int)) = ((k / n : Nat) : Int) ∧ Int.tmod (k : Int) (n : Int) = ((k % n : Nat) : Int) ∧ k / n * n + k % n = k ∧ k % n < n := by
  have e1 : Int.tdiv (k : Int) (n : Int) = ((k / n : Nat) : Int) := by rw [Int.tdiv_eq_ediv_of_nonneg (by omega), Int.natCast_ediv]
  have e2 : Int.tmod (k : Int) (n : Int) = ((k % n : Nat) : Int) := by rw [Int.tmod_eq_emod_of_nonneg (by omega), Int.natCast_emod]
  have l : k / n ≤ k := Nat.div_le_self k n
  refine ⟨by rw [e1]; generalize k / n = d at l; rw [w32_id (by omega) (by omega)], e2, ?_, Nat.mod_lt _ (by omega)⟩
  rw [Nat.mul_comm]; exact Nat.div_add_mod k n
theorem div_lt {n k : Nat} (hn : 1 ≤ n) (h : k < m * n) : k / n < m := (Nat.div_lt_iff_lt_mul (by omega)).mpr h
def LH : PL' := [(150, none)]
def hng (V : GV) (m n i j : Nat) (W : GV) : Prop := (∀ x, x < m + n → W 150 0 x = 0 ∨ W 150 0 x = 1) ∧ W 150 0 i = 1 ∧ (∀ A B : Nat → Prop, A i → clo (hel (V 142 0) n) m i j A B → (∀ a, a < m → W 150 0 a = 1 → A a) ∧ (∀ b, b < n → W 150 0 (m + b) = 1 → B b))
theorem wsm_u {f g : Nat → Int} {b : Nat} {v : Int} (h : ∀ k, k ≠ b → g k = f k) (hb : g b = v) : ∀ {k : Nat}, (b < k → wsm g k = wsm f k - f b + v) ∧ (k ≤ b → wsm g k = wsm f k)
  | 0 => ⟨fun z => absurd z (by omega), fun _ => rfl⟩
  | k + 1 => by
    have ih := wsm_u (f := f) (g := g) h hb (k := k)
    refine ⟨fun z => ?_, fun z => ?_⟩
    · show wsm g k + g k = wsm f k + f k - f b + v
      by_cases e : k = b
      · subst e; rw [ih.2 (Nat.le_refl _), hb]; omega
      · rw [ih.1 (by omega), h k e]; omega
    · show wsm g k + g k = wsm f k + f k
      rw [ih.2 (by omega), h k (by omega)]
theorem hng_s {W : GV} {i j c : Nat} (hm : m ≤ 9) (hn1 : 1 ≤ n) (hn : n ≤ 9) (hi : i < m) (hj : j < n) (hc : c < m * n) (hne : c ≠ i * n + j) (hd : V 142 0 c = 1) (h : hng V m n i j W) (hx : W 150 0 (c / n) ≠ W 150 0 (m + c % n)) : hng V m n i j (u3 (u3 W 150 0 (c / n) 1) 150 0 (m + c % n) 1) ∧ wsm (u3 (u3 W 150 0 (c / n) 1) 150 0 (m + c % n) 1 150 0) (m + n) = wsm (W 150 0) (m + n) + 1 := by
  have mc := mn_le hm hn
  obtain ⟨-, -, dm, ml⟩ := divmod hn1 hn (k := c) (by omega)
  have dl := div_lt (m := m) hn1 hc
  obtain ⟨h1, h2, h3⟩ := h
  generalize ea : c / n = a at *
  generalize eb : c % n = b at *
  have tie : hel (V 142 0) n a b := ⟨ml, by rw [dm]; exact hd⟩
  have nij : ¬ (a = i ∧ b = j) := fun z => hne (by rw [← dm, z.1, z.2])
  refine ⟨⟨fun x hx' => ?_, ?_, fun A B hA hcl => ?_⟩, ?_⟩
  · by_cases e1 : x = m + b
    · rw [u3_ek e1]; exact Or.inr rfl
    · rw [u3_nk e1]
      by_cases e2 : x = a
      · rw [u3_ek e2]; exact Or.inr rfl
      · rw [u3_nk e2]; exact h1 x hx'
  · rw [u3_nk (by omega)]
    by_cases e2 : i = a
    · rw [u3_ek e2]
    · rw [u3_nk e2]; exact h2
  · obtain ⟨g1, g2⟩ := h3 A B hA hcl
    have iff := hcl a b dl tie nij
    have both : A a ∧ B b := by
      rcases h1 a (by omega) with z | z
      · have : W 150 0 (m + b) = 1 := by have := h1 (m + b) (by omega); omega
        have := g2 b ml this
        exact ⟨iff.mpr this, this⟩
      · have := g1 a dl z
        exact ⟨this, iff.mp this⟩
    refine ⟨fun a' ha' hw => ?_, fun b' hb' hw => ?_⟩
    · rw [u3_nk (by omega)] at hw
      by_cases e2 : a' = a
      · subst e2; exact both.1
      · rw [u3_nk e2] at hw; exact g1 a' ha' hw
    · by_cases e1 : b' = b
      · subst e1; exact both.2
      · rw [u3_nk (by omega), u3_nk (by omega)] at hw; exact g2 b' hb' hw
  · have s1 := (wsm_u (f := W 150 0) (g := u3 W 150 0 a 1 150 0) (b := a) (v := 1) (fun k hk => u3_nk hk) u3_eq (k := m + n)).1 (by omega)
    have s2 := (wsm_u (f := u3 W 150 0 a 1 150 0) (g := u3 (u3 W 150 0 a 1) 150 0 (m + b) 1 150 0) (b := m + b) (v := 1) (fun k hk => u3_nk hk) u3_eq (k := m + n)).1 (by omega)
    rw [s2, s1, u3_nk (show m + b ≠ a by omega)]
    have x1 := h1 a (by omega)
    have x2 := h1 (m + b) (by omega)
    omega
theorem w_hang {i j : Nat} {f : Int × GS → GO} (hS : SH R) (hF : RF V R) (ht : tabr V m n two) (hi : i < m) (hj : j < n)
  (k1 : ∀ V', same V V' LH → rch (hel (V 142 0) n) m i j j → Wp (f (1, (V', R))) Q) (k0 : ∀ V', same V V' LH → ¬ rch (hel (V 142 0) n) m i j j → Wp (f (0, (V', R))) Q) : Wp ((g_X9_hangTogether 0 (i : Int) (j : Int) ((i * n + j : Nat) : Int) (V, R)).bind f) Q := by
  obtain ⟨⟨m1, m9, n1, n9⟩, ⟨e0, e1, _⟩, c3⟩ := id ht
  have mc := mn_le m9 n9
  refine w_bind ?_
  unfold g_X9_hangTogether
  refine w_gv (by omega) ?_
  refine w_for (m + n) (fun x G => ∃ W, G = (W, R) ∧ same V W LH ∧ ∀ y, y < x → W 150 0 y = if y = i then 1 else 0) ?_ (i := 0) (by omega) (by omega) ⟨V, rfl, same.rf V _, fun y hy => absurd hy (by omega)⟩
  rintro x G hx ⟨W, rfl, sm, hw⟩ self ih
  have hFW := cg_RF sm rfl hF
  unfold glX9_hangTogether_3 gjX9_hangTogether_34
  ((first | ((with_reducible refine w_s hS ?_ ?_ ?_ (fun x hx => ?_)); (focus decide); (focus (first | decide | omega)); (focus (first | decide | (simp only [sl]; omega)))) | ((with_reducible refine w_m hS ?_ ?_ ?_ ?_ ?_ (fun x hx => ?_)); (focus decide); (focus (first | decide | omega)); (focus omega); (focus (first | decide | omega)); (focus (first | decide | (simp only [ml]; omega)))) | (with_reducible refine w_k (by simp (disch := omega) only [w32_id]; exact rfl) ?_; ((with_reducible refine w_s hS ?_ ?_ ?_ (fun x hx => ?_)); (focus decide); (focus (first | decide | omega)); (focus (first | decide | (simp only [sl]; omega))))) | (with_reducible refine w_k (by simp (disch := omega) only [w32_id]; exact rfl) ?_; ((with_reducible refine w_m hS ?_ ?_ ?_ ?_ ?_ (fun x hx => ?_)); (focus decide); (focus (first | decide | omega)); (focus omega); (focus (first | decide | omega)); (focus (first | decide | (simp only [ml]; omega)))))); (try simp (disch := omega) only [Int.reduceToNat, tn_c, tn8, tn8i, tn5, tn5z, tn6, tn6z, tn1, u3_ne, u3_eq, u3_ni, u3_nk, sm.r 100 rfl, e0] at hx); subst hx)
  ((first | ((with_reducible refine w_s hS ?_ ?_ ?_ (fun x hx => ?_)); (focus decide); (focus (first | decide | omega)); (focus (first | decide | (simp only [sl]; omega)))) | ((with_reducible refine w_m hS ?_ ?_ ?_ ?_ ?_ (fun x hx => ?_)); (focus decide); (focus (first | decide | omega)); (focus omega); (focus (first | decide | omega)); (focus (first | decide | (simp only [ml]; omega)))) | (with_reducible refine w_k (by simp (disch := omega) only [w32_id]; exact rfl) ?_; ((with_reducible refine w_s hS ?_ ?_ ?_ (fun x hx => ?_)); (focus decide); (focus (first | decide | omega)); (focus (first | decide | (simp only [sl]; omega))))) | (with_reducible refine w_k (by simp (disch := omega) only [w32_id]; exact rfl) ?_; ((with_reducible refine w_m hS ?_ ?_ ?_ ?_ ?_ (fun x hx => ?_)); (focus decide); (focus (first | decide | omega)); (focus omega); (focus (first | decide | omega)); (focus (first | decide | (simp only [ml]; omega)))))); (try simp (disch := omega) only [Int.reduceToNat, tn_c, tn8, tn8i, tn5, tn5z, tn6, tn6z, tn1, u3_ne, u3_eq, u3_ni, u3_nk, sm.r 100 rfl, e1] at hx); subst hx)
  rw [w32_id (x := (m : Int) + (n : Int)) (by omega) (by omega)]
  refine w_ite (fun hx' => ?_) (fun hx' => ?_)
  · have hg : hng V m n i j W := by
      refine ⟨fun y hy => ?_, ?_, fun A B hA hc => ⟨fun a ha hwa => ?_, fun b hb hwb => ?_⟩⟩
      · rw [hw y (by omega)]; split
        · exact Or.inr rfl
        · exact Or.inl rfl
      · rw [hw i (by omega), if_pos rfl]
      · rw [hw a (by omega)] at hwa
        by_cases e : a = i
        · subst e; exact hA
        · rw [if_neg e] at hwa; exact absurd hwa (by decide)
      · rw [hw (m + b) (by omega), if_neg (by omega)] at hwb
        exact absurd hwb (by decide)
    clear hw ih
    refine w_lh1 (fun x G => ∃ W, G = (W, R) ∧ same V W LH ∧ hng V m n i j W ∧ (x = 1 ∨ (x = 0 ∧ ∀ c, c < m * n → V 142 0 c = 1 → c ≠ i * n + j → W 150 0 (c / n) = W 150 0 (m + c % n)))) (fun x G => (18 - (wsm (G.1 150 0) (m + n)).toNat) + x.toNat) ?_ 6000 _ _ ⟨W, rfl, sm, hg, Or.inl rfl⟩ (by show 18 - _ + 1 < 6000; omega)
    rintro x G ⟨W, rfl, sm, hg, hx⟩ self ih
    have hFW := cg_RF sm rfl hF
    unfold glX9_hangTogether_44
    refine w_ite (fun z => ?_) (fun z => ?_)
    · obtain ⟨_, hcl⟩ := hx.resolve_left (by omega)
      ((first | ((with_reducible refine w_s hS ?_ ?_ ?_ (fun x hx => ?_)); (focus decide); (focus (first | decide | omega)); (focus (first | decide | (simp only [sl]; omega)))) | ((with_reducible refine w_m hS ?_ ?_ ?_ ?_ ?_ (fun x hx => ?_)); (focus decide); (focus (first | decide | omega)); (focus omega); (focus (first | decide | omega)); (focus (first | decide | (simp only [ml]; omega)))) | (with_reducible refine w_k (by simp (disch := omega) only [w32_id]; exact rfl) ?_; ((with_reducible refine w_s hS ?_ ?_ ?_ (fun x hx => ?_)); (focus decide); (focus (first | decide | omega)); (focus (first | decide | (simp only [sl]; omega))))) | (with_reducible refine w_k (by simp (disch := omega) only [w32_id]; exact rfl) ?_; ((with_reducible refine w_m hS ?_ ?_ ?_ ?_ ?_ (fun x hx => ?_)); (focus decide); (focus (first | decide | omega)); (focus omega); (focus (first | decide | omega)); (focus (first | decide | (simp only [ml]; omega)))))); (try simp (disch := omega) only [Int.reduceToNat, tn_c, tn8, tn8i, tn5, tn5z, tn6, tn6z, tn1, u3_ne, u3_eq, u3_ni, u3_nk, f_100_50 hFW] at hx); subst hx)
      ((first | ((with_reducible refine w_s hS ?_ ?_ ?_ (fun x hx => ?_)); (focus decide); (focus (first | decide | omega)); (focus (first | decide | (simp only [sl]; omega)))) | ((with_reducible refine w_m hS ?_ ?_ ?_ ?_ ?_ (fun x hx => ?_)); (focus decide); (focus (first | decide | omega)); (focus omega); (focus (first | decide | omega)); (focus (first | decide | (simp only [ml]; omega)))) | (with_reducible refine w_k (by simp (disch := omega) only [w32_id]; exact rfl) ?_; ((with_reducible refine w_s hS ?_ ?_ ?_ (fun x hx => ?_)); (focus decide); (focus (first | decide | omega)); (focus (first | decide | (simp only [sl]; omega))))) | (with_reducible refine w_k (by simp (disch := omega) only [w32_id]; exact rfl) ?_; ((with_reducible refine w_m hS ?_ ?_ ?_ ?_ ?_ (fun x hx => ?_)); (focus decide); (focus (first | decide | omega)); (focus omega); (focus (first | decide | omega)); (focus (first | decide | (simp only [ml]; omega)))))); (try simp (disch := omega) only [Int.reduceToNat, tn_c, tn8, tn8i, tn5, tn5z, tn6, tn6z, tn1, u3_ne, u3_eq, u3_ni, u3_nk, sm.r 100 rfl, e0] at hx); subst hx)
      rw [w32_id (x := (m : Int) + (j : Int)) (by omega) (by omega), ← Int.natCast_add]
      ((first | ((with_reducible refine w_s hS ?_ ?_ ?_ (fun x hx => ?_)); (focus decide); (focus (first | decide | omega)); (focus (first | decide | (simp only [sl]; omega)))) | ((with_reducible refine w_m hS ?_ ?_ ?_ ?_ ?_ (fun x hx => ?_)); (focus decide); (focus (first | decide | omega)); (focus omega); (focus (first | decide | omega)); (focus (first | decide | (simp only [ml]; omega)))) | (with_reducible refine w_k (by simp (disch := omega) only [w32_id]; exact rfl) ?_; ((with_reducible refine w_s hS ?_ ?_ ?_ (fun x hx => ?_)); (focus decide); (focus (first | decide | omega)); (focus (first | decide | (simp only [sl]; omega))))) | (with_reducible refine w_k (by simp (disch := omega) only [w32_id]; exact rfl) ?_; ((with_reducible refine w_m hS ?_ ?_ ?_ ?_ ?_ (fun x hx => ?_)); (focus decide); (focus (first | decide | omega)); (focus omega); (focus (first | decide | omega)); (focus (first | decide | (simp only [ml]; omega)))))); (try simp (disch := omega) only [Int.reduceToNat, tn_c, tn8, tn8i, tn5, tn5z, tn6, tn6z, tn1, u3_ne, u3_eq, u3_ni, u3_nk, tn_c] at hx); subst hx)
      rcases hg.1 (m + j) (by omega) with y | y
      · rw [y]
        refine w_gzr (Or.inl rfl) (k0 W sm (fun hr => ?_))
        have := hr (fun a => W 150 0 a = 1) (fun b => W 150 0 (m + b) = 1) hg.2.1 (fun a b ha hb hne => ?_)
        · omega
        · have mn := mn_lt m9 n9 ha hb.1
          obtain ⟨-, -, dm, ml⟩ := divmod n1 n9 (k := a * n + b) (by omega)
          have un := ij_un ml hb.1 dm
          have := hcl (a * n + b) mn.1 hb.2 (fun e => hne (ij_un hb.1 hj e))
          rw [un.1, un.2] at this
          show W 150 0 a = 1 ↔ W 150 0 (m + b) = 1
          rw [this]
      · rw [y]
        exact w_gzr (Or.inr rfl) (k1 W sm (fun A B hA hc => (hg.2.2 A B hA hc).2 j hj y))
    · have x1 : x = 1 := by omega
      subst x1
      refine w_for2 (m * n) (fun c a G => ∃ W', G = (W', R) ∧ same V W' LH ∧ hng V m n i j W' ∧ ((a = 1 ∧ wsm (W 150 0) (m + n) + 1 ≤ wsm (W' 150 0) (m + n)) ∨ (a = 0 ∧ W' = W ∧ ∀ c', c' < c → V 142 0 c' = 1 → c' ≠ i * n + j → W 150 0 (c' / n) = W 150 0 (m + c' % n)))) ?_ (i := 0) (by omega) (by omega) ⟨W, rfl, sm, hg, Or.inr ⟨rfl, rfl, fun c' h => absurd h (by omega)⟩⟩
      rintro c a G hc ⟨W', rfl, sm', hg', hh⟩ self2 ih2
      have hFW' := cg_RF sm' rfl hF
      unfold glX9_hangTogether_55 gjX9_hangTogether_144
      refine w_rdim (f := fun x => if (c : Int) ≥ x then _ else _) hS (by rw [sm'.r 100 rfl]; exact e0) (by rw [sm'.r 100 rfl]; exact e1) m9 n9 ?_
      have b0 := wsm_nn (hh := W' 150 0) hg'.1
      refine w_ite (fun hx => ?_) (fun hx => ?_)
      · rcases hh with ⟨ea, hs⟩ | ⟨ea, eW, hcl⟩
        · subst ea
          have b1 := wsm_nn (hh := W 150 0) hg.1
          refine ih _ _ ⟨W', rfl, sm', hg', Or.inl rfl⟩ ?_
          show 18 - (wsm (W' 150 0) (m + n)).toNat + 1 < 18 - (wsm (W 150 0) (m + n)).toNat + 1
          omega
        · subst ea eW
          refine ih _ _ ⟨W', rfl, sm', hg', Or.inr ⟨rfl, fun c' h' => hcl c' (by omega)⟩⟩ ?_
          show 18 - (wsm (W' 150 0) (m + n)).toNat + 0 < 18 - (wsm (W' 150 0) (m + n)).toNat + 1
          omega
      · have hcn : c < m * n := by omega
        obtain ⟨d1, d2, dm, ml⟩ := divmod n1 n9 (k := c) (by omega)
        have dl := div_lt (m := m) n1 hcn
        have q0 : (0 : Int) ≤ ((c / n : Nat) : Int) := Int.natCast_nonneg _
        have q1 : (0 : Int) ≤ ((c % n : Nat) : Int) := Int.natCast_nonneg _
        have skip : (V 142 0 c = 1 → c ≠ i * n + j → W' 150 0 (c / n) = W' 150 0 (m + c % n)) → Wp (self2 a (w32 ((c : Int) + 1)) (W', R)) (fun r G => Wp (f (r, G)) Q) := by
          intro hsk
          refine ih2 _ _ hcn ⟨W', rfl, sm', hg', ?_⟩
          rcases hh with ⟨ea, hs⟩ | ⟨ea, eW, hcl⟩
          · exact Or.inl ⟨ea, hs⟩
          · refine Or.inr ⟨ea, eW, fun c' h' h1' h2' => ?_⟩
            by_cases e : c' = c
            · subst e; rw [← eW]; exact hsk h1' h2'
            · exact hcl c' (by omega) h1' h2'
        ((first | ((with_reducible refine w_s hS ?_ ?_ ?_ (fun x hx => ?_)); (focus decide); (focus (first | decide | omega)); (focus (first | decide | (simp only [sl]; omega)))) | ((with_reducible refine w_m hS ?_ ?_ ?_ ?_ ?_ (fun x hx => ?_)); (focus decide); (focus (first | decide | omega)); (focus omega); (focus (first | decide | omega)); (focus (first | decide | (simp only [ml]; omega)))) | (with_reducible refine w_k (by simp (disch := omega) only [w32_id]; exact rfl) ?_; ((with_reducible refine w_s hS ?_ ?_ ?_ (fun x hx => ?_)); (focus decide); (focus (first | decide | omega)); (focus (first | decide | (simp only [sl]; omega))))) | (with_reducible refine w_k (by simp (disch := omega) only [w32_id]; exact rfl) ?_; ((with_reducible refine w_m hS ?_ ?_ ?_ ?_ ?_ (fun x hx => ?_)); (focus decide); (focus (first | decide | omega)); (focus omega); (focus (first | decide | omega)); (focus (first | decide | (simp only [ml]; omega)))))); (try simp (disch := omega) only [Int.reduceToNat, tn_c, tn8, tn8i, tn5, tn5z, tn6, tn6z, tn1, u3_ne, u3_eq, u3_ni, u3_nk, sm'.r 100 rfl, e1] at hx); subst hx)
        refine w_ite (fun z => absurd z (by omega)) (fun _ => ?_)
        ((first | ((with_reducible refine w_s hS ?_ ?_ ?_ (fun x hx => ?_)); (focus decide); (focus (first | decide | omega)); (focus (first | decide | (simp only [sl]; omega)))) | ((with_reducible refine w_m hS ?_ ?_ ?_ ?_ ?_ (fun x hx => ?_)); (focus decide); (focus (first | decide | omega)); (focus omega); (focus (first | decide | omega)); (focus (first | decide | (simp only [ml]; omega)))) | (with_reducible refine w_k (by simp (disch := omega) only [w32_id]; exact rfl) ?_; ((with_reducible refine w_s hS ?_ ?_ ?_ (fun x hx => ?_)); (focus decide); (focus (first | decide | omega)); (focus (first | decide | (simp only [sl]; omega))))) | (with_reducible refine w_k (by simp (disch := omega) only [w32_id]; exact rfl) ?_; ((with_reducible refine w_m hS ?_ ?_ ?_ ?_ ?_ (fun x hx => ?_)); (focus decide); (focus (first | decide | omega)); (focus omega); (focus (first | decide | omega)); (focus (first | decide | (simp only [ml]; omega)))))); (try simp (disch := omega) only [Int.reduceToNat, tn_c, tn8, tn8i, tn5, tn5z, tn6, tn6z, tn1, u3_ne, u3_eq, u3_ni, u3_nk, sm'.r 100 rfl, e0] at hx); subst hx)
        ((first | ((with_reducible refine w_s hS ?_ ?_ ?_ (fun x hx => ?_)); (focus decide); (focus (first | decide | omega)); (focus (first | decide | (simp only [sl]; omega)))) | ((with_reducible refine w_m hS ?_ ?_ ?_ ?_ ?_ (fun x hx => ?_)); (focus decide); (focus (first | decide | omega)); (focus omega); (focus (first | decide | omega)); (focus (first | decide | (simp only [ml]; omega)))) | (with_reducible refine w_k (by simp (disch := omega) only [w32_id]; exact rfl) ?_; ((with_reducible refine w_s hS ?_ ?_ ?_ (fun x hx => ?_)); (focus decide); (focus (first | decide | omega)); (focus (first | decide | (simp only [sl]; omega))))) | (with_reducible refine w_k (by simp (disch := omega) only [w32_id]; exact rfl) ?_; ((with_reducible refine w_m hS ?_ ?_ ?_ ?_ ?_ (fun x hx => ?_)); (focus decide); (focus (first | decide | omega)); (focus omega); (focus (first | decide | omega)); (focus (first | decide | (simp only [ml]; omega)))))); (try simp (disch := omega) only [Int.reduceToNat, tn_c, tn8, tn8i, tn5, tn5z, tn6, tn6z, tn1, u3_ne, u3_eq, u3_ni, u3_nk, sm'.r 100 rfl, e1] at hx); subst hx)
        refine w_ite (fun z => absurd z (by omega)) (fun _ => ?_)
        rw [d1, d2]
        ((first | ((with_reducible refine w_s hS ?_ ?_ ?_ (fun x hx => ?_)); (focus decide); (focus (first | decide | omega)); (focus (first | decide | (simp only [sl]; omega)))) | ((with_reducible refine w_m hS ?_ ?_ ?_ ?_ ?_ (fun x hx => ?_)); (focus decide); (focus (first | decide | omega)); (focus omega); (focus (first | decide | omega)); (focus (first | decide | (simp only [ml]; omega)))) | (with_reducible refine w_k (by simp (disch := omega) only [w32_id]; exact rfl) ?_; ((with_reducible refine w_s hS ?_ ?_ ?_ (fun x hx => ?_)); (focus decide); (focus (first | decide | omega)); (focus (first | decide | (simp only [sl]; omega))))) | (with_reducible refine w_k (by simp (disch := omega) only [w32_id]; exact rfl) ?_; ((with_reducible refine w_m hS ?_ ?_ ?_ ?_ ?_ (fun x hx => ?_)); (focus decide); (focus (first | decide | omega)); (focus omega); (focus (first | decide | omega)); (focus (first | decide | (simp only [ml]; omega)))))); (try simp (disch := omega) only [Int.reduceToNat, tn_c, tn8, tn8i, tn5, tn5z, tn6, tn6z, tn1, u3_ne, u3_eq, u3_ni, u3_nk, f_100_42 hFW'] at hx); subst hx)
        ((first | ((with_reducible refine w_s hS ?_ ?_ ?_ (fun x hx => ?_)); (focus decide); (focus (first | decide | omega)); (focus (first | decide | (simp only [sl]; omega)))) | ((with_reducible refine w_m hS ?_ ?_ ?_ ?_ ?_ (fun x hx => ?_)); (focus decide); (focus (first | decide | omega)); (focus omega); (focus (first | decide | omega)); (focus (first | decide | (simp only [ml]; omega)))) | (with_reducible refine w_k (by simp (disch := omega) only [w32_id]; exact rfl) ?_; ((with_reducible refine w_s hS ?_ ?_ ?_ (fun x hx => ?_)); (focus decide); (focus (first | decide | omega)); (focus (first | decide | (simp only [sl]; omega))))) | (with_reducible refine w_k (by simp (disch := omega) only [w32_id]; exact rfl) ?_; ((with_reducible refine w_m hS ?_ ?_ ?_ ?_ ?_ (fun x hx => ?_)); (focus decide); (focus (first | decide | omega)); (focus omega); (focus (first | decide | omega)); (focus (first | decide | (simp only [ml]; omega)))))); (try simp (disch := omega) only [Int.reduceToNat, tn_c, tn8, tn8i, tn5, tn5z, tn6, tn6z, tn1, u3_ne, u3_eq, u3_ni, u3_nk, tn_c, sm'.r 142 rfl] at hx); subst hx)
        refine w_ite (fun z => skip (fun y => absurd y (by omega))) (fun hz => ?_)
        refine w_ite (fun z => skip (fun _ y => absurd (by omega) y)) (fun hz2 => ?_)
        rw [w32_id (x := (m : Int) + ((c % n : Nat) : Int)) (by omega) (by omega), ← Int.natCast_add]
        ((first | ((with_reducible refine w_s hS ?_ ?_ ?_ (fun x hx => ?_)); (focus decide); (focus (first | decide | omega)); (focus (first | decide | (simp only [sl]; omega)))) | ((with_reducible refine w_m hS ?_ ?_ ?_ ?_ ?_ (fun x hx => ?_)); (focus decide); (focus (first | decide | omega)); (focus omega); (focus (first | decide | omega)); (focus (first | decide | (simp only [ml]; omega)))) | (with_reducible refine w_k (by simp (disch := omega) only [w32_id]; exact rfl) ?_; ((with_reducible refine w_s hS ?_ ?_ ?_ (fun x hx => ?_)); (focus decide); (focus (first | decide | omega)); (focus (first | decide | (simp only [sl]; omega))))) | (with_reducible refine w_k (by simp (disch := omega) only [w32_id]; exact rfl) ?_; ((with_reducible refine w_m hS ?_ ?_ ?_ ?_ ?_ (fun x hx => ?_)); (focus decide); (focus (first | decide | omega)); (focus omega); (focus (first | decide | omega)); (focus (first | decide | (simp only [ml]; omega)))))); (try simp (disch := omega) only [Int.reduceToNat, tn_c, tn8, tn8i, tn5, tn5z, tn6, tn6z, tn1, u3_ne, u3_eq, u3_ni, u3_nk, f_100_50 hFW'] at hx); subst hx)
        ((first | ((with_reducible refine w_s hS ?_ ?_ ?_ (fun x hx => ?_)); (focus decide); (focus (first | decide | omega)); (focus (first | decide | (simp only [sl]; omega)))) | ((with_reducible refine w_m hS ?_ ?_ ?_ ?_ ?_ (fun x hx => ?_)); (focus decide); (focus (first | decide | omega)); (focus omega); (focus (first | decide | omega)); (focus (first | decide | (simp only [ml]; omega)))) | (with_reducible refine w_k (by simp (disch := omega) only [w32_id]; exact rfl) ?_; ((with_reducible refine w_s hS ?_ ?_ ?_ (fun x hx => ?_)); (focus decide); (focus (first | decide | omega)); (focus (first | decide | (simp only [sl]; omega))))) | (with_reducible refine w_k (by simp (disch := omega) only [w32_id]; exact rfl) ?_; ((with_reducible refine w_m hS ?_ ?_ ?_ ?_ ?_ (fun x hx => ?_)); (focus decide); (focus (first | decide | omega)); (focus omega); (focus (first | decide | omega)); (focus (first | decide | (simp only [ml]; omega)))))); (try simp (disch := omega) only [Int.reduceToNat, tn_c, tn8, tn8i, tn5, tn5z, tn6, tn6z, tn1, u3_ne, u3_eq, u3_ni, u3_nk, tn_c] at hx); subst hx)
        ((first | ((with_reducible refine w_s hS ?_ ?_ ?_ (fun x hx => ?_)); (focus decide); (focus (first | decide | omega)); (focus (first | decide | (simp only [sl]; omega)))) | ((with_reducible refine w_m hS ?_ ?_ ?_ ?_ ?_ (fun x hx => ?_)); (focus decide); (focus (first | decide | omega)); (focus omega); (focus (first | decide | omega)); (focus (first | decide | (simp only [ml]; omega)))) | (with_reducible refine w_k (by simp (disch := omega) only [w32_id]; exact rfl) ?_; ((with_reducible refine w_s hS ?_ ?_ ?_ (fun x hx => ?_)); (focus decide); (focus (first | decide | omega)); (focus (first | decide | (simp only [sl]; omega))))) | (with_reducible refine w_k (by simp (disch := omega) only [w32_id]; exact rfl) ?_; ((with_reducible refine w_m hS ?_ ?_ ?_ ?_ ?_ (fun x hx => ?_)); (focus decide); (focus (first | decide | omega)); (focus omega); (focus (first | decide | omega)); (focus (first | decide | (simp only [ml]; omega)))))); (try simp (disch := omega) only [Int.reduceToNat, tn_c, tn8, tn8i, tn5, tn5z, tn6, tn6z, tn1, u3_ne, u3_eq, u3_ni, u3_nk, f_100_50 hFW'] at hx); subst hx)
        ((first | ((with_reducible refine w_s hS ?_ ?_ ?_ (fun x hx => ?_)); (focus decide); (focus (first | decide | omega)); (focus (first | decide | (simp only [sl]; omega)))) | ((with_reducible refine w_m hS ?_ ?_ ?_ ?_ ?_ (fun x hx => ?_)); (focus decide); (focus (first | decide | omega)); (focus omega); (focus (first | decide | omega)); (focus (first | decide | (simp only [ml]; omega)))) | (with_reducible refine w_k (by simp (disch := omega) only [w32_id]; exact rfl) ?_; ((with_reducible refine w_s hS ?_ ?_ ?_ (fun x hx => ?_)); (focus decide); (focus (first | decide | omega)); (focus (first | decide | (simp only [sl]; omega))))) | (with_reducible refine w_k (by simp (disch := omega) only [w32_id]; exact rfl) ?_; ((with_reducible refine w_m hS ?_ ?_ ?_ ?_ ?_ (fun x hx => ?_)); (focus decide); (focus (first | decide | omega)); (focus omega); (focus (first | decide | omega)); (focus (first | decide | (simp only [ml]; omega)))))); (try simp (disch := omega) only [Int.reduceToNat, tn_c, tn8, tn8i, tn5, tn5z, tn6, tn6z, tn1, u3_ne, u3_eq, u3_ni, u3_nk, tn_c] at hx); subst hx)
        refine w_ite (fun z => skip (fun _ _ => z)) (fun hz3 => ?_)
        ((first | ((with_reducible refine w_s hS ?_ ?_ ?_ (fun x hx => ?_)); (focus decide); (focus (first | decide | omega)); (focus (first | decide | (simp only [sl]; omega)))) | ((with_reducible refine w_m hS ?_ ?_ ?_ ?_ ?_ (fun x hx => ?_)); (focus decide); (focus (first | decide | omega)); (focus omega); (focus (first | decide | omega)); (focus (first | decide | (simp only [ml]; omega)))) | (with_reducible refine w_k (by simp (disch := omega) only [w32_id]; exact rfl) ?_; ((with_reducible refine w_s hS ?_ ?_ ?_ (fun x hx => ?_)); (focus decide); (focus (first | decide | omega)); (focus (first | decide | (simp only [sl]; omega))))) | (with_reducible refine w_k (by simp (disch := omega) only [w32_id]; exact rfl) ?_; ((with_reducible refine w_m hS ?_ ?_ ?_ ?_ ?_ (fun x hx => ?_)); (focus decide); (focus (first | decide | omega)); (focus omega); (focus (first | decide | omega)); (focus (first | decide | (simp only [ml]; omega)))))); (try simp (disch := omega) only [Int.reduceToNat, tn_c, tn8, tn8i, tn5, tn5z, tn6, tn6z, tn1, u3_ne, u3_eq, u3_ni, u3_nk, f_100_50 hFW'] at hx); subst hx)
        refine w_gsz (Or.inr rfl) ?_
        refine w_ss hS (by decide) (by omega) (by simp only [sl]; omega) ?_
        ((first | ((with_reducible refine w_s hS ?_ ?_ ?_ (fun x hx => ?_)); (focus decide); (focus (first | decide | omega)); (focus (first | decide | (simp only [sl]; omega)))) | ((with_reducible refine w_m hS ?_ ?_ ?_ ?_ ?_ (fun x hx => ?_)); (focus decide); (focus (first | decide | omega)); (focus omega); (focus (first | decide | omega)); (focus (first | decide | (simp only [ml]; omega)))) | (with_reducible refine w_k (by simp (disch := omega) only [w32_id]; exact rfl) ?_; ((with_reducible refine w_s hS ?_ ?_ ?_ (fun x hx => ?_)); (focus decide); (focus (first | decide | omega)); (focus (first | decide | (simp only [sl]; omega))))) | (with_reducible refine w_k (by simp (disch := omega) only [w32_id]; exact rfl) ?_; ((with_reducible refine w_m hS ?_ ?_ ?_ ?_ ?_ (fun x hx => ?_)); (focus decide); (focus (first | decide | omega)); (focus omega); (focus (first | decide | omega)); (focus (first | decide | (simp only [ml]; omega)))))); (try simp (disch := omega) only [Int.reduceToNat, tn_c, tn8, tn8i, tn5, tn5z, tn6, tn6z, tn1, u3_ne, u3_eq, u3_ni, u3_nk, f_100_50 hFW'] at hx); subst hx)
        refine w_gsz (Or.inr rfl) ?_
        refine w_ss hS (by decide) (by omega) (by simp only [sl]; omega) ?_
        rw [tn_c, tn_c]
        obtain ⟨g1, g2⟩ := hng_s (V := V) m9 n1 n9 hi hj hcn (fun e => hz2 (by omega)) (by have := c3 c hcn; omega) hg' hz3
        refine ih2 _ _ hcn ⟨_, rfl, (sm'.u ⟨(150, none), by decide, rfl, Or.inl rfl⟩).u ⟨(150, none), by decide, rfl, Or.inl rfl⟩, g1, Or.inl ⟨rfl, ?_⟩⟩
        rw [g2]
        rcases hh with ⟨_, hs⟩ | ⟨_, eW, _⟩
        · omega
        · rw [eW]; omega
  · ((first | ((with_reducible refine w_s hS ?_ ?_ ?_ (fun x hx => ?_)); (focus decide); (focus (first | decide | omega)); (focus (first | decide | (simp only [sl]; omega)))) | ((with_reducible refine w_m hS ?_ ?_ ?_ ?_ ?_ (fun x hx => ?_)); (focus decide); (focus (first | decide | omega)); (focus omega); (focus (first | decide | omega)); (focus (first | decide | (simp only [ml]; omega)))) | (with_reducible refine w_k (by simp (disch := omega) only [w32_id]; exact rfl) ?_; ((with_reducible refine w_s hS ?_ ?_ ?_ (fun x hx => ?_)); (focus decide); (focus (first | decide | omega)); (focus (first | decide | (simp only [sl]; omega))))) | (with_reducible refine w_k (by simp (disch := omega) only [w32_id]; exact rfl) ?_; ((with_reducible refine w_m hS ?_ ?_ ?_ ?_ ?_ (fun x hx => ?_)); (focus decide); (focus (first | decide | omega)); (focus omega); (focus (first | decide | omega)); (focus (first | decide | (simp only [ml]; omega)))))); (try simp (disch := omega) only [Int.reduceToNat, tn_c, tn8, tn8i, tn5, tn5z, tn6, tn6z, tn1, u3_ne, u3_eq, u3_ni, u3_nk, f_100_50 hFW] at hx); subst hx)
    have st : ∀ v : Int, (v = 0 ∨ v = 1) → v = (if x = i then 1 else 0) → Wp ((gsz 150 (W, R) 0 (x : Int) v).bind fun G1 => self (w32 ((x : Int) + 1)) G1) (fun r G => Wp (f (r, G)) Q) := by
      intro v hv ev
      refine w_gsz hv ?_
      refine w_ss hS (by decide) (by omega) (by simp only [sl]; omega) ?_
      rw [tn_c]
      refine ih _ (by omega) ⟨_, rfl, sm.u ⟨(150, none), by decide, rfl, Or.inl rfl⟩, fun y hy => ?_⟩
      by_cases e : y = x
      · subst e; rw [u3_eq]; exact ev
      · rw [u3_nk e]; exact hw y (by omega)
    refine w_ite (fun z => st 0 (Or.inl rfl) ?_) (fun z => st 1 (Or.inr rfl) ?_)
    · rw [if_neg (by omega)]
    · rw [if_pos (by omega)]
theorem w_isFol {c : Nat} {f : Int × GS → GO} (hS : SH R) (hF : RF V R) (ht : tabr V m n two) (hc : c < m * n)
  (k1 : ∀ V', same V V' LH → fol two (V 142 0) m n (c / n) (c % n) → Wp (f (1, (V', R))) Q) (k0 : ∀ V', same V V' LH → ¬ fol two (V 142 0) m n (c / n) (c % n) → Wp (f (0, (V', R))) Q) : Wp ((g_X9_isFollowing 0 (c : Int) (V, R)).bind f) Q := by
  obtain ⟨⟨m1, m9, n1, n9⟩, ⟨e0, e1, e2, e3⟩, c3⟩ := id ht
  have mc := mn_le m9 n9
  obtain ⟨d1, d2, dm, ml⟩ := divmod n1 n9 (k := c) (by omega)
  have dl := div_lt (m := m) n1 hc
  have hv := c3 c hc
  refine w_bind ?_
  unfold g_X9_isFollowing
  refine w_gv (by omega) ?_
  ((first | ((with_reducible refine w_s hS ?_ ?_ ?_ (fun x hx => ?_)); (focus decide); (focus (first | decide | omega)); (focus (first | decide | (simp only [sl]; omega)))) | ((with_reducible refine w_m hS ?_ ?_ ?_ ?_ ?_ (fun x hx => ?_)); (focus decide); (focus (first | decide | omega)); (focus omega); (focus (first | decide | omega)); (focus (first | decide | (simp only [ml]; omega)))) | (with_reducible refine w_k (by simp (disch := omega) only [w32_id]; exact rfl) ?_; ((with_reducible refine w_s hS ?_ ?_ ?_ (fun x hx => ?_)); (focus decide); (focus (first | decide | omega)); (focus (first | decide | (simp only [sl]; omega))))) | (with_reducible refine w_k (by simp (disch := omega) only [w32_id]; exact rfl) ?_; ((with_reducible refine w_m hS ?_ ?_ ?_ ?_ ?_ (fun x hx => ?_)); (focus decide); (focus (first | decide | omega)); (focus omega); (focus (first | decide | omega)); (focus (first | decide | (simp only [ml]; omega)))))); (try simp (disch := omega) only [Int.reduceToNat, tn_c, tn8, tn8i, tn5, tn5z, tn6, tn6z, tn1, u3_ne, u3_eq, u3_ni, u3_nk, f_100_42 hF] at hx); subst hx)
  ((first | ((with_reducible refine w_s hS ?_ ?_ ?_ (fun x hx => ?_)); (focus decide); (focus (first | decide | omega)); (focus (first | decide | (simp only [sl]; omega)))) | ((with_reducible refine w_m hS ?_ ?_ ?_ ?_ ?_ (fun x hx => ?_)); (focus decide); (focus (first | decide | omega)); (focus omega); (focus (first | decide | omega)); (focus (first | decide | (simp only [ml]; omega)))) | (with_reducible refine w_k (by simp (disch := omega) only [w32_id]; exact rfl) ?_; ((with_reducible refine w_s hS ?_ ?_ ?_ (fun x hx => ?_)); (focus decide); (focus (first | decide | omega)); (focus (first | decide | (simp only [sl]; omega))))) | (with_reducible refine w_k (by simp (disch := omega) only [w32_id]; exact rfl) ?_; ((with_reducible refine w_m hS ?_ ?_ ?_ ?_ ?_ (fun x hx => ?_)); (focus decide); (focus (first | decide | omega)); (focus omega); (focus (first | decide | omega)); (focus (first | decide | (simp only [ml]; omega)))))); (try simp (disch := omega) only [Int.reduceToNat, tn_c, tn8, tn8i, tn5, tn5z, tn6, tn6z, tn1, u3_ne, u3_eq, u3_ni, u3_nk, tn_c] at hx); subst hx)
  refine w_ite (fun hz => ?_) (fun hz => w_ret (k0 V (same.rf V _) (fun z => ?_)))
  · have h1 : V 142 0 c = 1 := by omega
    ((first | ((with_reducible refine w_s hS ?_ ?_ ?_ (fun x hx => ?_)); (focus decide); (focus (first | decide | omega)); (focus (first | decide | (simp only [sl]; omega)))) | ((with_reducible refine w_m hS ?_ ?_ ?_ ?_ ?_ (fun x hx => ?_)); (focus decide); (focus (first | decide | omega)); (focus omega); (focus (first | decide | omega)); (focus (first | decide | (simp only [ml]; omega)))) | (with_reducible refine w_k (by simp (disch := omega) only [w32_id]; exact rfl) ?_; ((with_reducible refine w_s hS ?_ ?_ ?_ (fun x hx => ?_)); (focus decide); (focus (first | decide | omega)); (focus (first | decide | (simp only [sl]; omega))))) | (with_reducible refine w_k (by simp (disch := omega) only [w32_id]; exact rfl) ?_; ((with_reducible refine w_m hS ?_ ?_ ?_ ?_ ?_ (fun x hx => ?_)); (focus decide); (focus (first | decide | omega)); (focus omega); (focus (first | decide | omega)); (focus (first | decide | (simp only [ml]; omega)))))); (try simp (disch := omega) only [Int.reduceToNat, tn_c, tn8, tn8i, tn5, tn5z, tn6, tn6z, tn1, u3_ne, u3_eq, u3_ni, u3_nk, tn_c] at hx); subst hx)
    refine w_ite (fun h0 => ?_) (fun h0 => ?_)
    · have h0 : two = 0 := by omega
      have en : n = 1 := by omega
      have emn : m * n = m := by rw [en, Nat.mul_one]
      refine w_for2 m (fun x a G => G = (V, R) ∧ a = wsm (V 142 0) x) ?_ (i := 0) (by omega) (by omega) ⟨rfl, rfl⟩
      rintro x a G hx ⟨rfl, rfl⟩ self ih
      unfold glX9_isFollowing_48 gjX9_isFollowing_71
      ((first | ((with_reducible refine w_s hS ?_ ?_ ?_ (fun x hx => ?_)); (focus decide); (focus (first | decide | omega)); (focus (first | decide | (simp only [sl]; omega)))) | ((with_reducible refine w_m hS ?_ ?_ ?_ ?_ ?_ (fun x hx => ?_)); (focus decide); (focus (first | decide | omega)); (focus omega); (focus (first | decide | omega)); (focus (first | decide | (simp only [ml]; omega)))) | (with_reducible refine w_k (by simp (disch := omega) only [w32_id]; exact rfl) ?_; ((with_reducible refine w_s hS ?_ ?_ ?_ (fun x hx => ?_)); (focus decide); (focus (first | decide | omega)); (focus (first | decide | (simp only [sl]; omega))))) | (with_reducible refine w_k (by simp (disch := omega) only [w32_id]; exact rfl) ?_; ((with_reducible refine w_m hS ?_ ?_ ?_ ?_ ?_ (fun x hx => ?_)); (focus decide); (focus (first | decide | omega)); (focus omega); (focus (first | decide | omega)); (focus (first | decide | (simp only [ml]; omega)))))); (try simp (disch := omega) only [Int.reduceToNat, tn_c, tn8, tn8i, tn5, tn5z, tn6, tn6z, tn1, u3_ne, u3_eq, u3_ni, u3_nk, e0] at hx); subst hx)
      refine w_ite (fun hx' => ?_) (fun hx' => ?_)
      · have ex : x = m := by omega
        subst ex
        refine w_ite (fun z => w_ret (k0 V (same.rf V _) (fun y => ?_))) (fun z => w_ret (k1 V (same.rf V _) ⟨?_, fun y => ?_, fun _ => ?_⟩))
        · have := y.2.2 h0; rw [emn] at this; exact z this
        · rw [dm]; exact h1
        · omega
        · rw [emn]; omega
      · have b := wsm_nn (hh := V 142 0) (k := x) (fun i hi => c3 i (by omega))
        have hvx := c3 x (by omega)
        have st : ∀ v : Int, v = V 142 0 x → Wp (self (w32 (wsm (V 142 0) x + v)) (w32 ((x : Int) + 1)) (V, R)) (fun r G => Wp (f (r, G)) Q) := by
          intro v ev
          rw [ev, w32_id (x := wsm (V 142 0) x + V 142 0 x) (by omega) (by omega)]
          exact ih _ _ (by omega) ⟨rfl, rfl⟩
        ((first | ((with_reducible refine w_s hS ?_ ?_ ?_ (fun x hx => ?_)); (focus decide); (focus (first | decide | omega)); (focus (first | decide | (simp only [sl]; omega)))) | ((with_reducible refine w_m hS ?_ ?_ ?_ ?_ ?_ (fun x hx => ?_)); (focus decide); (focus (first | decide | omega)); (focus omega); (focus (first | decide | omega)); (focus (first | decide | (simp only [ml]; omega)))) | (with_reducible refine w_k (by simp (disch := omega) only [w32_id]; exact rfl) ?_; ((with_reducible refine w_s hS ?_ ?_ ?_ (fun x hx => ?_)); (focus decide); (focus (first | decide | omega)); (focus (first | decide | (simp only [sl]; omega))))) | (with_reducible refine w_k (by simp (disch := omega) only [w32_id]; exact rfl) ?_; ((with_reducible refine w_m hS ?_ ?_ ?_ ?_ ?_ (fun x hx => ?_)); (focus decide); (focus (first | decide | omega)); (focus omega); (focus (first | decide | omega)); (focus (first | decide | (simp only [ml]; omega)))))); (try simp (disch := omega) only [Int.reduceToNat, tn_c, tn8, tn8i, tn5, tn5z, tn6, tn6z, tn1, u3_ne, u3_eq, u3_ni, u3_nk, f_100_42 hF] at hx); subst hx)
        ((first | ((with_reducible refine w_s hS ?_ ?_ ?_ (fun x hx => ?_)); (focus decide); (focus (first | decide | omega)); (focus (first | decide | (simp only [sl]; omega)))) | ((with_reducible refine w_m hS ?_ ?_ ?_ ?_ ?_ (fun x hx => ?_)); (focus decide); (focus (first | decide | omega)); (focus omega); (focus (first | decide | omega)); (focus (first | decide | (simp only [ml]; omega)))) | (with_reducible refine w_k (by simp (disch := omega) only [w32_id]; exact rfl) ?_; ((with_reducible refine w_s hS ?_ ?_ ?_ (fun x hx => ?_)); (focus decide); (focus (first | decide | omega)); (focus (first | decide | (simp only [sl]; omega))))) | (with_reducible refine w_k (by simp (disch := omega) only [w32_id]; exact rfl) ?_; ((with_reducible refine w_m hS ?_ ?_ ?_ ?_ ?_ (fun x hx => ?_)); (focus decide); (focus (first | decide | omega)); (focus omega); (focus (first | decide | omega)); (focus (first | decide | (simp only [ml]; omega)))))); (try simp (disch := omega) only [Int.reduceToNat, tn_c, tn8, tn8i, tn5, tn5z, tn6, tn6z, tn1, u3_ne, u3_eq, u3_ni, u3_nk, tn_c] at hx); subst hx)
        refine w_ite (fun z => st 0 (by omega)) (fun z => st 1 (by omega))
    · have h2 : two = 1 := by omega
      ((first | ((with_reducible refine w_s hS ?_ ?_ ?_ (fun x hx => ?_)); (focus decide); (focus (first | decide | omega)); (focus (first | decide | (simp only [sl]; omega)))) | ((with_reducible refine w_m hS ?_ ?_ ?_ ?_ ?_ (fun x hx => ?_)); (focus decide); (focus (first | decide | omega)); (focus omega); (focus (first | decide | omega)); (focus (first | decide | (simp only [ml]; omega)))) | (with_reducible refine w_k (by simp (disch := omega) only [w32_id]; exact rfl) ?_; ((with_reducible refine w_s hS ?_ ?_ ?_ (fun x hx => ?_)); (focus decide); (focus (first | decide | omega)); (focus (first | decide | (simp only [sl]; omega))))) | (with_reducible refine w_k (by simp (disch := omega) only [w32_id]; exact rfl) ?_; ((with_reducible refine w_m hS ?_ ?_ ?_ ?_ ?_ (fun x hx => ?_)); (focus decide); (focus (first | decide | omega)); (focus omega); (focus (first | decide | omega)); (focus (first | decide | (simp only [ml]; omega)))))); (try simp (disch := omega) only [Int.reduceToNat, tn_c, tn8, tn8i, tn5, tn5z, tn6, tn6z, tn1, u3_ne, u3_eq, u3_ni, u3_nk, e1] at hx); subst hx)
      refine w_ite (fun z => absurd z (by omega)) (fun _ => ?_)
      ((first | ((with_reducible refine w_s hS ?_ ?_ ?_ (fun x hx => ?_)); (focus decide); (focus (first | decide | omega)); (focus (first | decide | (simp only [sl]; omega)))) | ((with_reducible refine w_m hS ?_ ?_ ?_ ?_ ?_ (fun x hx => ?_)); (focus decide); (focus (first | decide | omega)); (focus omega); (focus (first | decide | omega)); (focus (first | decide | (simp only [ml]; omega)))) | (with_reducible refine w_k (by simp (disch := omega) only [w32_id]; exact rfl) ?_; ((with_reducible refine w_s hS ?_ ?_ ?_ (fun x hx => ?_)); (focus decide); (focus (first | decide | omega)); (focus (first | decide | (simp only [sl]; omega))))) | (with_reducible refine w_k (by simp (disch := omega) only [w32_id]; exact rfl) ?_; ((with_reducible refine w_m hS ?_ ?_ ?_ ?_ ?_ (fun x hx => ?_)); (focus decide); (focus (first | decide | omega)); (focus omega); (focus (first | decide | omega)); (focus (first | decide | (simp only [ml]; omega)))))); (try simp (disch := omega) only [Int.reduceToNat, tn_c, tn8, tn8i, tn5, tn5z, tn6, tn6z, tn1, u3_ne, u3_eq, u3_ni, u3_nk, e1] at hx); subst hx)
      refine w_ite (fun z => absurd z (by omega)) (fun _ => ?_)
      rw [d1, d2]
      have ec : (c : Int) = ((c / n * n + c % n : Nat) : Int) := by rw [dm]
      rw [ec]
      refine w_hang hS hF ht dl ml (fun V' sm hr => ?_) (fun V' sm hr => ?_)
      · refine w_ite (fun _ => w_ret (k0 V' sm (fun z => z.2.1 h2 hr))) (fun z => absurd (show (1 : Int) ≠ 0 by decide) z)
      · refine w_ite (fun z => absurd rfl z) (fun _ => w_ret (k1 V' sm ⟨by rw [dm]; exact h1, fun _ => hr, fun z => absurd z (by omega)⟩))
  · have := z.1
    rw [dm] at this
    omega
theorem w_rff {f : Int × GS → GO} (hS : SH R) (hF : RF V R) (ht : tabr V m n two) (K : ∀ r V', same V V' LH → ffs two (V 142 0) m n r → Wp (f (r, (V', R))) Q) : Wp ((g_X9_firstFollowing 0 (V, R)).bind f) Q := by
  obtain ⟨⟨m1, m9, n1, n9⟩, ⟨e0, e1, e2, e3⟩, c3⟩ := id ht
  have mc := mn_le m9 n9
  refine w_bind ?_
  unfold g_X9_firstFollowing
  refine w_gv (by omega) ?_
  refine w_for (m * n) (fun c G => ∃ W, G = (W, R) ∧ same V W LH ∧ ∀ c', c' < c → ¬ fol two (V 142 0) m n (c' / n) (c' % n)) ?_ (i := 0) (by omega) (by omega) ⟨V, rfl, same.rf V _, fun c' h => absurd h (by omega)⟩
  rintro c G hc ⟨W, rfl, sm, hn⟩ self ih
  have e142 : W 142 0 = V 142 0 := funext (fun k => sm.r 142 rfl 0 k)
  have cv : ∀ a b, a < m → b < n → a * n + b < c → ¬ fol two (V 142 0) m n a b := by
    intro a b ha hb hl hf
    have mn := mn_lt m9 n9 ha hb
    obtain ⟨-, -, dm, ml⟩ := divmod n1 n9 (k := a * n + b) (by omega)
    have un := ij_un ml hb dm
    have := hn (a * n + b) hl
    rw [un.1, un.2] at this
    exact this hf
  unfold glX9_firstFollowing_2
  refine w_rdim (f := fun x => if (c : Int) ≥ x then _ else _) hS (by rw [sm.r 100 rfl]; exact e0) (by rw [sm.r 100 rfl]; exact e1) m9 n9 ?_
  refine w_ite (fun hx => w_ret (K _ W sm (Or.inl ⟨rfl, fun a b ha hb => cv a b ha hb (by have := mn_lt m9 n9 ha hb; omega)⟩))) (fun hx => ?_)
  have hcn : c < m * n := by omega
  obtain ⟨d1, d2, dm, ml⟩ := divmod n1 n9 (k := c) (by omega)
  refine w_isFol hS (cg_RF sm rfl hF) (ht.cg sm rfl) hcn (fun V2 sm2 hf => ?_) (fun V2 sm2 hf => ?_)
  · refine w_ite (fun z => absurd (show (1 : Int) = 0 from z) (by decide)) (fun _ => w_ret (K _ V2 (sm.tr sm2) (Or.inr ⟨c / n, c % n, div_lt n1 hcn, ml, ?_, ?_, ?_⟩)))
    · rw [dm]
    · rw [e142] at hf; exact hf
    · rw [dm]; exact cv
  · refine w_ite (fun _ => ih _ hcn ⟨V2, rfl, sm.tr sm2, fun c' h' => ?_⟩) (fun z => absurd rfl z)
    by_cases e : c' = c
    · subst e; rw [e142] at hf; exact hf
    · exact hn c' (by omega)
theorem tab_r {m n : Nat} (ht : tab V m n) : tabr V m n (V 100 0 36) := by
  obtain ⟨d, ⟨_, e0, _, e1⟩, ⟨e2, e3⟩, c3, _⟩ := ht
  exact ⟨d, ⟨e0, e1, rfl, e3.elim (fun h => Or.inr h) Or.inl⟩, fun k hk => (c3 k hk).2.2.2.2.2.2.2⟩
theorem ffs_b {hh : Nat → Int} {r : Int} (hm : m ≤ 9) (hn : n ≤ 9) (h : ffs two hh m n r) : -1 ≤ r ∧ r < 81 := by
  rcases h with ⟨e, _⟩ | ⟨i, j, hi, hj, e, _⟩
  · omega
  · have := mn_lt hm hn hi hj; omega
theorem T_follows (hI : INV IT V R) : Wp (g_X8_follows 0 (V, R)) (fun r G => Wp (g_X9_follows 0 G) (PO r)) := by
  have hS := hI.SH
  have hF := hI.RF
  unfold g_X8_follows
  refine w_gv (by omega) ?_
  ((first | ((with_reducible refine w_s hS ?_ ?_ ?_ (fun x hx => ?_)); (focus decide); (focus (first | decide | omega)); (focus (first | decide | (simp only [sl]; omega)))) | ((with_reducible refine w_m hS ?_ ?_ ?_ ?_ ?_ (fun x hx => ?_)); (focus decide); (focus (first | decide | omega)); (focus omega); (focus (first | decide | omega)); (focus (first | decide | (simp only [ml]; omega)))) | (with_reducible refine w_k (by simp (disch := omega) only [w32_id]; exact rfl) ?_; ((with_reducible refine w_s hS ?_ ?_ ?_ (fun x hx => ?_)); (focus decide); (focus (first | decide | omega)); (focus (first | decide | (simp only [sl]; omega))))) | (with_reducible refine w_k (by simp (disch := omega) only [w32_id]; exact rfl) ?_; ((with_reducible refine w_m hS ?_ ?_ ?_ ?_ ?_ (fun x hx => ?_)); (focus decide); (focus (first | decide | omega)); (focus omega); (focus (first | decide | omega)); (focus (first | decide | (simp only [ml]; omega)))))); (try simp (disch := omega) only [Int.reduceToNat, tn_c, tn8, tn8i, tn5, tn5z, tn6, tn6z, tn1, u3_ne, u3_eq, u3_ni, u3_nk, f_0_5 hF] at hx); subst hx)
  refine w_bind ?_
  unfold g_X7_isNone
  refine w_gv (by omega) ?_
  ((first | ((with_reducible refine w_s hS ?_ ?_ ?_ (fun x hx => ?_)); (focus decide); (focus (first | decide | omega)); (focus (first | decide | (simp only [sl]; omega)))) | ((with_reducible refine w_m hS ?_ ?_ ?_ ?_ ?_ (fun x hx => ?_)); (focus decide); (focus (first | decide | omega)); (focus omega); (focus (first | decide | omega)); (focus (first | decide | (simp only [ml]; omega)))) | (with_reducible refine w_k (by simp (disch := omega) only [w32_id]; exact rfl) ?_; ((with_reducible refine w_s hS ?_ ?_ ?_ (fun x hx => ?_)); (focus decide); (focus (first | decide | omega)); (focus (first | decide | (simp only [sl]; omega))))) | (with_reducible refine w_k (by simp (disch := omega) only [w32_id]; exact rfl) ?_; ((with_reducible refine w_m hS ?_ ?_ ?_ ?_ ?_ (fun x hx => ?_)); (focus decide); (focus (first | decide | omega)); (focus omega); (focus (first | decide | omega)); (focus (first | decide | (simp only [ml]; omega)))))); (try simp (disch := omega) only [Int.reduceToNat, tn_c, tn8, tn8i, tn5, tn5z, tn6, tn6z, tn1, u3_ne, u3_eq, u3_ni, u3_nk, tn_c] at hx); subst hx)
  rcases IT_iff.mp hI.IT with h | ⟨h1, m, n, ht⟩
  · refine w_ite (fun z => absurd h.2.1 z) (fun _ => w_ret ?_)
    refine w_ite (fun z => absurd (show (1 : Int) = 0 from z) (by decide)) (fun _ => w_ret ?_)
    unfold g_X9_follows
    refine w_gv (by omega) ?_
    ((first | ((with_reducible refine w_s hS ?_ ?_ ?_ (fun x hx => ?_)); (focus decide); (focus (first | decide | omega)); (focus (first | decide | (simp only [sl]; omega)))) | ((with_reducible refine w_m hS ?_ ?_ ?_ ?_ ?_ (fun x hx => ?_)); (focus decide); (focus (first | decide | omega)); (focus omega); (focus (first | decide | omega)); (focus (first | decide | (simp only [ml]; omega)))) | (with_reducible refine w_k (by simp (disch := omega) only [w32_id]; exact rfl) ?_; ((with_reducible refine w_s hS ?_ ?_ ?_ (fun x hx => ?_)); (focus decide); (focus (first | decide | omega)); (focus (first | decide | (simp only [sl]; omega))))) | (with_reducible refine w_k (by simp (disch := omega) only [w32_id]; exact rfl) ?_; ((with_reducible refine w_m hS ?_ ?_ ?_ ?_ ?_ (fun x hx => ?_)); (focus decide); (focus (first | decide | omega)); (focus omega); (focus (first | decide | omega)); (focus (first | decide | (simp only [ml]; omega)))))); (try simp (disch := omega) only [Int.reduceToNat, tn_c, tn8, tn8i, tn5, tn5z, tn6, tn6z, tn1, u3_ne, u3_eq, u3_ni, u3_nk, h.1] at hx); subst hx)
    exact w_ite (fun _ => w_ret ⟨rfl, hI⟩) (fun z => absurd rfl z)
  · have e7 := ht.2.1.1
    have d := ht.1
    refine w_ite (fun _ => w_ret ?_) (fun z => absurd (show V 7 0 0 ≠ 0 by omega) z)
    refine w_ite (fun _ => ?_) (fun z => absurd rfl z)
    dsimp only
    ((first | ((with_reducible refine w_s hS ?_ ?_ ?_ (fun x hx => ?_)); (focus decide); (focus (first | decide | omega)); (focus (first | decide | (simp only [sl]; omega)))) | ((with_reducible refine w_m hS ?_ ?_ ?_ ?_ ?_ (fun x hx => ?_)); (focus decide); (focus (first | decide | omega)); (focus omega); (focus (first | decide | omega)); (focus (first | decide | (simp only [ml]; omega)))) | (with_reducible refine w_k (by simp (disch := omega) only [w32_id]; exact rfl) ?_; ((with_reducible refine w_s hS ?_ ?_ ?_ (fun x hx => ?_)); (focus decide); (focus (first | decide | omega)); (focus (first | decide | (simp only [sl]; omega))))) | (with_reducible refine w_k (by simp (disch := omega) only [w32_id]; exact rfl) ?_; ((with_reducible refine w_m hS ?_ ?_ ?_ ?_ ?_ (fun x hx => ?_)); (focus decide); (focus (first | decide | omega)); (focus omega); (focus (first | decide | omega)); (focus (first | decide | (simp only [ml]; omega)))))); (try simp (disch := omega) only [Int.reduceToNat, tn_c, tn8, tn8i, tn5, tn5z, tn6, tn6z, tn1, u3_ne, u3_eq, u3_ni, u3_nk, f_0_5 hF] at hx); subst hx)
    refine w_cff hS hF (tab_h ht) (fun r hr => w_ret ?_)
    unfold g_X9_follows
    refine w_gv (by omega) ?_
    ((first | ((with_reducible refine w_s hS ?_ ?_ ?_ (fun x hx => ?_)); (focus decide); (focus (first | decide | omega)); (focus (first | decide | (simp only [sl]; omega)))) | ((with_reducible refine w_m hS ?_ ?_ ?_ ?_ ?_ (fun x hx => ?_)); (focus decide); (focus (first | decide | omega)); (focus omega); (focus (first | decide | omega)); (focus (first | decide | (simp only [ml]; omega)))) | (with_reducible refine w_k (by simp (disch := omega) only [w32_id]; exact rfl) ?_; ((with_reducible refine w_s hS ?_ ?_ ?_ (fun x hx => ?_)); (focus decide); (focus (first | decide | omega)); (focus (first | decide | (simp only [sl]; omega))))) | (with_reducible refine w_k (by simp (disch := omega) only [w32_id]; exact rfl) ?_; ((with_reducible refine w_m hS ?_ ?_ ?_ ?_ ?_ (fun x hx => ?_)); (focus decide); (focus (first | decide | omega)); (focus omega); (focus (first | decide | omega)); (focus (first | decide | (simp only [ml]; omega)))))); (try simp (disch := omega) only [Int.reduceToNat, tn_c, tn8, tn8i, tn5, tn5z, tn6, tn6z, tn1, u3_ne, u3_eq, u3_ni, u3_nk, h1] at hx); subst hx)
    refine w_ite (fun z => absurd (show (1 : Int) = 0 from z) (by decide)) (fun _ => ?_)
    refine w_rff hS hF (tab_r ht) (fun r' V' sm hr' => w_ret ⟨?_, hI.scr (sm.mono (by decide))⟩)
    rw [ffs_un hr hr']
end RFree
