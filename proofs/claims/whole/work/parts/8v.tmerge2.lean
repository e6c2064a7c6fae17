section Merge
variable {V : GV} {R : GR} {Q : Int → GS → Prop}
theorem INV_merge {W U : GV} {e n : Nat} (hI : INV IT V R) (he : e < rC R 50) (en : V 50 e 1 = (n : Int)) (hW : CM V W R n e (rN R 51 e)) (hU : RMg V W U n e (rN R 51 e) (rN R 51 e) 0 0) : INV IT U R := by
  obtain ⟨b20, b30, b40, b50⟩ := hI.IN.1
  obtain ⟨⟨d1, d2⟩, ⟨d3, c0, c1⟩, _⟩ := hI.IE e he
  have hn : n ≤ rC R 20 := by omega
  obtain ⟨m1, m2, m3, m4⟩ := hW
  obtain ⟨u1, u2, u3'⟩ := hU
  have uw : ∀ s k, U 32 s k = W 32 s k ∧ U 33 s k = W 33 s k := fun s k => ⟨u1 32 s k (by decide), u1 33 s k (by decide)⟩
  have sm : same V U LC := by
    intro r j k hn
    have nm : ∀ z : Nat × Option Nat, z ∈ LC → ¬ (z.1 = r ∧ (z.2 = none ∨ z.2 = some k)) := fun z hz y => hn ⟨z, hz, y.1, y.2⟩
    have n32 : r ≠ 32 := fun y => nm (32, none) (by decide) ⟨y.symm, Or.inl rfl⟩
    have n33 : r ≠ 33 := fun y => nm (33, none) (by decide) ⟨y.symm, Or.inl rfl⟩
    have n115 : r ≠ 115 := fun y => nm (115, none) (by decide) ⟨y.symm, Or.inl rfl⟩
    have n116 : r ≠ 116 := fun y => nm (116, none) (by decide) ⟨y.symm, Or.inl rfl⟩
    have n30 : r ≠ 30 ∨ k ≠ 2 := by
      by_cases y : r = 30
      · exact Or.inr (fun w => nm (30, some 2) (by decide) ⟨y.symm, Or.inr (by rw [w])⟩)
      · exact Or.inl y
    rw [u1 r j k ⟨n115, n116⟩, m1 r j k ⟨n32, n33, n30⟩]
  have okc : ∀ q v r, okv V q v r → okv U q v r := by intro q v r; unfold okv; simp only [sm.r 101 rfl, sm.r 108 rfl, sm.r 109 rfl]; exact id
  -- a place that nothing is brought back to
  have far : ∀ {g q p : Nat}, g < rC R 30 → q < 24 → p < 5 → (V 102 0 q = -1 → p = 0) → (g < rN R 51 e → ¬ tk V n (V 30 g 0).toNat (V 51 e g).toNat q p) → U 115 0 (144 * g + 6 * q + slot (V 102 0 q) p) = V 115 0 (144 * g + 6 * q + slot (V 102 0 q) p) ∧ U 116 0 (144 * g + 6 * q + slot (V 102 0 q) p) = V 116 0 (144 * g + 6 * q + slot (V 102 0 q) p) := by
    intro g q p hg hq hp tp no
    refine u3' _ (fun h' q' p' hh hp' hd ht' w => ?_)
    obtain ⟨x1, x2, x3⟩ := slot_inj hq (by have := ht'.1; omega) hp hp' tp ht'.top (fun w => by rw [w]) w
    subst x1 x2 x3
    exact no hh ht'
  have never : ∀ {g r : Nat}, g < rC R 30 → r < rC R 20 → V 101 0 r = 5 → ∀ t' p, ¬ tk V n (V 30 g 0).toNat t' r p := by
    intro g r hg hr5 k5 t' p w
    obtain ⟨rm, rt⟩ := hI.IQ.k5 hr5 k5
    have p0 := w.top rt
    subst p0
    have ok := ((hI.IA g hg).1 r hr5 rm).1 rt
    have := w.2.2.2.1
    rw [Nat.add_zero, ok.2.1] at this
    exact this (ok.2.2.2.2.2.2.1 k5).1
  have rost : ∀ {g r : Nat}, g < rC R 30 → r < rC R 20 → V 101 0 r = 5 → U 115 0 (144 * g + 6 * r) = V 115 0 (144 * g + 6 * r) := by
    intro g r hg hr5 k5
    have rt := (hI.IQ.k5 hr5 k5).2
    have := (far (p := 0) hg (q := r) (by omega) (by omega) (fun _ => rfl) (fun _ => never hg hr5 k5 _ 0)).1
    unfold slot at this
    rw [if_pos rt] at this
    exact this
  -- a sheet's place that nothing is brought back to
  have farS : ∀ {g q p : Nat}, g < rC R 30 → p < 5 → (g < rN R 51 e → ¬ tk V n (V 30 g 0).toNat (V 51 e g).toNat q p) → U 32 (V 30 g 0).toNat (5 * q + p) = V 32 (V 30 g 0).toNat (5 * q + p) ∧ U 33 (V 30 g 0).toNat (5 * q + p) = V 33 (V 30 g 0).toNat (5 * q + p) := by
    intro g q p hg hp no
    rw [(uw _ _).1, (uw _ _).2]
    by_cases c : g < rN R 51 e
    · exact (m3 g c q p hp).2 (no c)
    · exact m2 _ _ (fun h hh z => hI.sh_ne (g := g) (h := h) hg (by omega) (by omega) z)
  have pt : ∀ {g q p : Nat}, g < rC R 30 → q < rC R 20 → V 103 0 q = 0 → ((V 102 0 q = -1 ∧ p = 0) ∨ (V 102 0 q ≠ -1 ∧ p < 5)) →
      (((p : Int) < plc V (V 30 g 0).toNat (V 102 0 q) ∧ U 32 (V 30 g 0).toNat (5 * q + p) = U 115 0 (144 * g + 6 * q + slot (V 102 0 q) p) ∧ U 33 (V 30 g 0).toNat (5 * q + p) = 0 ∧ U 116 0 (144 * g + 6 * q + slot (V 102 0 q) p) = 0 ∧ okv V q (U 115 0 (144 * g + 6 * q + slot (V 102 0 q) p)) 0) ∨
       (U 32 (V 30 g 0).toNat (5 * q + p) = V 32 (V 30 g 0).toNat (5 * q + p) ∧ U 33 (V 30 g 0).toNat (5 * q + p) = V 33 (V 30 g 0).toNat (5 * q + p) ∧ U 115 0 (144 * g + 6 * q + slot (V 102 0 q) p) = V 115 0 (144 * g + 6 * q + slot (V 102 0 q) p) ∧ U 116 0 (144 * g + 6 * q + slot (V 102 0 q) p) = V 116 0 (144 * g + 6 * q + slot (V 102 0 q) p))) := by
    intro g q p hg hq m0 hp
    by_cases c : g < rN R 51 e ∧ tk V n (V 30 g 0).toNat (V 51 e g).toNat q p
    · obtain ⟨hg5, ht⟩ := c
      obtain ⟨t, n', et, et', en', hkt, hn', ar⟩ := hI.esh he hg5
      have : n' = n := by omega
      subst this
      obtain ⟨x1, x2⟩ := u2 g q p hg5 (by omega) (by unfold dn; omega) ht
      obtain ⟨y1, y2⟩ := (m3 g hg5 q p (by omega)).1 ht
      rw [et'] at x1 y1 ht
      have hpl : (V 102 0 q = -1 ∧ slot (V 102 0 q) p = 0 ∧ p = 0) ∨ (V 102 0 q ≠ -1 ∧ slot (V 102 0 q) p = p + 1 ∧ p < 5) := by
        unfold slot
        rcases hp with ⟨w, z⟩ | ⟨w, z⟩
        · exact Or.inl ⟨w, by rw [if_pos w], z⟩
        · exact Or.inr ⟨w, by rw [if_neg w], z⟩
      obtain ⟨o1, o2, o3⟩ := eans hI ar hn' ht.1 m0 hpl
      refine Or.inl ⟨ht.2.2.1.1, ?_, ?_, x2, ?_⟩
      · rw [(uw _ _).1, y1, x1]
      · rw [(uw _ _).2, y2]
      · rw [x1]
        rw [← o1, ← o2, ht.2.2.2.2] at o3
        exact o3
    · have no : g < rN R 51 e → ¬ tk V n (V 30 g 0).toNat (V 51 e g).toNat q p := fun a b => c ⟨a, b⟩
      obtain ⟨a, b⟩ := farS (q := q) (p := p) hg (by omega) no
      obtain ⟨a', b'⟩ := far (q := q) (p := p) hg (by omega) (by omega) (fun w => by omega) no
      exact Or.inr ⟨a, b, a', b'⟩
  refine INV_told hI sm (fun s hs k => ?_) (fun g hg => ?_) (fun g hg => ?_)
  · rw [(uw _ _).1, (uw _ _).2]
    exact m2 s k (fun h hh => hs h (by omega))
  · unfold IA1
    rw [sm.f 30 0 rfl]
    refine ⟨fun q hq m0 => ?_, fun q h1 h2 p hp => ?_⟩
    · rw [sm.r 103 rfl] at m0
      rw [sm.r 102 rfl]
      obtain ⟨A1, A2⟩ := (hI.IA g hg).1 q hq m0
      refine ⟨fun tt => ?_, fun tt p hp => ?_⟩
      · obtain ⟨B1, B2, B3⟩ := A1 tt
        have h := pt (p := 0) hg hq m0 (Or.inl ⟨tt, rfl⟩)
        have sl0 : slot (V 102 0 q) 0 = 0 := by unfold slot; rw [if_pos tt]
        rw [sl0] at h
        rcases h with ⟨_, a, b, c, d⟩ | ⟨a, b, c, d⟩
        · refine ⟨a, b.trans c.symm, ?_⟩
          have := okc _ _ _ d
          rw [← c] at this; exact this
        · exact ⟨a.trans (B1.trans c.symm), b.trans (B2.trans d.symm), by
            have c' : U 115 0 (144 * g + 6 * q) = V 115 0 (144 * g + 6 * q) := c
            have d' : U 116 0 (144 * g + 6 * q) = V 116 0 (144 * g + 6 * q) := d
            rw [c', d']; exact okc _ _ _ B3⟩
      · obtain ⟨m, em, _, hm, k5', _⟩ := hI.IQ.ro hq (by omega)
        obtain ⟨B1, B2, B3, B4⟩ := A2 tt p hp
        rw [em, tn_c] at B4 ⊢
        rw [rost hg hm k5']
        have h := pt (p := p) hg hq m0 (Or.inr ⟨by omega, hp⟩)
        have sl1 : slot (V 102 0 q) p = p + 1 := by unfold slot; rw [if_neg (by omega)]
        rw [sl1] at h
        rcases h with ⟨w, a, b, c, d⟩ | ⟨a, b, c, d⟩
        · refine ⟨a, b.trans c.symm, ?_, fun z => ?_⟩
          · have := okc _ _ _ d
            rw [← c] at this; exact this
          · have := hI.per hg hm k5'
            unfold plc at w
            rw [if_neg (by omega), em, tn_c] at w
            omega
        · rw [a, b, c, d]
          exact ⟨B1, B2, okc _ _ _ B3, B4⟩
    · obtain ⟨a, b⟩ := farS (q := q) (p := p) hg hp (fun _ w => by have := w.1; omega)
      rw [a, b]; exact (hI.IA g hg).2 q h1 h2 p hp
  · rw [u1 30 g 2 (by decide)]
    rcases m4 g hg with h | ⟨h, hk⟩
    · exact Or.inl h
    · refine Or.inr ⟨h, fun k => ?_⟩
      have := farS (q := k / 5) (p := k % 5) hg (Nat.mod_lt _ (by omega)) (fun c => hk c _ _ (Nat.mod_lt _ (by omega)))
      rw [show 5 * (k / 5) + k % 5 = k by omega] at this
      exact this
theorem T_merge (hI : INV IT V R) (e' : Int) : Wp (g_X8_merge 0 e' (V, R)) (fun r G => Wp (g_X9_merge 0 e' G) (PO r)) := by
  have hS := hI.SH
  have hF := hI.RF
  have hL := hI.IL
  obtain ⟨b20, b30, b40, b50⟩ := hI.IN.1
  obtain ⟨n1, n2, n3, n4, n5, n6, n7, n8⟩ := hI.IN.2.1
  unfold g_X8_merge
  refine w_gv (by omega) ?_
  refine w_eO hS n8 (f_0_3 hF) b50 (fun n hn => l_6 hL hn) (fun e ee he => ?_) (fun hn => ?_)
  · subst ee
    obtain ⟨⟨d1, d2⟩, ⟨d3, c0, c1⟩, _⟩ := hI.IE e he
    obtain ⟨n, en⟩ : ∃ n : Nat, V 50 e 1 = (n : Int) := ⟨(V 50 e 1).toNat, by omega⟩
    dsimp only
    refine w_ite (fun _ => ?_) (fun z => absurd (show (e : Int) ≠ -1 by omega) z)
    ((first | ((with_reducible refine w_s hS ?_ ?_ ?_ (fun x hx => ?_)); (focus decide); (focus (first | decide | omega)); (focus (first | decide | (simp only [sl]; omega)))) | ((with_reducible refine w_m hS ?_ ?_ ?_ ?_ ?_ (fun x hx => ?_)); (focus decide); (focus (first | decide | omega)); (focus omega); (focus (first | decide | omega)); (focus (first | decide | (simp only [ml]; omega)))) | (with_reducible refine w_k (by simp (disch := omega) only [w32_id]; exact rfl) ?_; ((with_reducible refine w_s hS ?_ ?_ ?_ (fun x hx => ?_)); (focus decide); (focus (first | decide | omega)); (focus (first | decide | (simp only [sl]; omega))))) | (with_reducible refine w_k (by simp (disch := omega) only [w32_id]; exact rfl) ?_; ((with_reducible refine w_m hS ?_ ?_ ?_ ?_ ?_ (fun x hx => ?_)); (focus decide); (focus (first | decide | omega)); (focus omega); (focus (first | decide | omega)); (focus (first | decide | (simp only [ml]; omega)))))); (try simp (disch := omega) only [Int.reduceToNat, tn_c, tn8, tn8i, tn5, tn5z, tn6, tn6z, tn1, u3_ne, u3_eq, u3_ni, u3_nk, f_50_0 hF] at hx); subst hx)
    refine w_51n hS he ?_
    ((first | ((with_reducible refine w_s hS ?_ ?_ ?_ (fun x hx => ?_)); (focus decide); (focus (first | decide | omega)); (focus (first | decide | (simp only [sl]; omega)))) | ((with_reducible refine w_m hS ?_ ?_ ?_ ?_ ?_ (fun x hx => ?_)); (focus decide); (focus (first | decide | omega)); (focus omega); (focus (first | decide | omega)); (focus (first | decide | (simp only [ml]; omega)))) | (with_reducible refine w_k (by simp (disch := omega) only [w32_id]; exact rfl) ?_; ((with_reducible refine w_s hS ?_ ?_ ?_ (fun x hx => ?_)); (focus decide); (focus (first | decide | omega)); (focus (first | decide | (simp only [sl]; omega))))) | (with_reducible refine w_k (by simp (disch := omega) only [w32_id]; exact rfl) ?_; ((with_reducible refine w_m hS ?_ ?_ ?_ ?_ ?_ (fun x hx => ?_)); (focus decide); (focus (first | decide | omega)); (focus omega); (focus (first | decide | omega)); (focus (first | decide | (simp only [ml]; omega)))))); (try simp (disch := omega) only [Int.reduceToNat, tn_c, tn8, tn8i, tn5, tn5z, tn6, tn6z, tn1, u3_ne, u3_eq, u3_ni, u3_nk, n4] at hx); subst hx)
    rw [imin_nat, Nat.min_eq_left d2]
    refine w_cmerge hI he en (fun W hW => ?_)
    have hW1 := hW.1
    have hFW : RF W R := by
      refine ⟨fun e he => ?_, fun e he i hi => ?_⟩
      · have : ∀ e, e ∈ RL0 → e.1 ≠ 32 ∧ e.1 ≠ 33 ∧ (e.1 ≠ 30 ∨ e.2 ≠ 2) := by decide
        rw [hW1 _ _ _ (this e he)]; exact hF.1 e he
      · have : ∀ e, e ∈ RL1 → e.1 ≠ 32 ∧ e.1 ≠ 33 ∧ (e.1 ≠ 30 ∨ e.2 ≠ 2) := by decide
        rw [hW1 _ _ _ (this e he)]; exact hF.2 e he i hi
    unfold g_X9_merge
    refine w_gv (by omega) ?_
    refine w_isE hS (by rw [hW1 100 0 30 (by decide)]; exact n7) b50 (fun e2 ee2 he2 => ?_) (fun hn' => absurd (show 0 ≤ (e : Int) ∧ (e : Int) < (rC R 50 : Int) by omega) hn')
    refine w_ite (fun _ => ?_) (fun z => absurd (show (1 : Int) ≠ 0 by decide) z)
    refine w_rmerge hI he en (fun r j k hr => hW1 r j k ⟨by omega, by omega, by omega⟩) hFW (fun U hU => ⟨rfl, INV_merge hI he en hW hU⟩)
  · dsimp only
    refine w_ite (fun z => absurd rfl z) (fun _ => w_ret ?_)
    unfold g_X9_merge
    refine w_gv (by omega) ?_
    refine w_isE hS n7 b50 (fun e2 ee2 he2 => absurd (show 0 ≤ e' ∧ e' < (rC R 50 : Int) by omega) hn) (fun _ => ?_)
    exact w_ite (fun z => absurd rfl z) (fun _ => w_ret ⟨rfl, hI⟩)
end Merge
