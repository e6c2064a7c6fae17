section Merge
variable {V : GV} {R : GR} {Q : Int → GS → Prop}
theorem w_rmerge {W : GV} {e n : Nat} {f : Int → GS → Prop} (hI : INV IT V R) (he : e < rC R 50) (en : V 50 e 1 = (n : Int)) (hW : ∀ r j k, 100 ≤ r → W r j k = V r j k) (hFW : RF W R)
  (K : ∀ U, RMg V W U n e (rN R 51 e) (rN R 51 e) 0 0 → f ((lst (mga V n e) (rN R 51 e)).length : Int) (U, R)) : Wp (lh2 (glX9_merge_14 0 (e : Int)) 6000 0 0 (W, R)) f := by
  have hS := hI.SH
  have hF := hI.RF
  have hQ := hI.IQ
  obtain ⟨b20, b30, b40, b50⟩ := hI.IN.1
  obtain ⟨⟨d1, d2⟩, ⟨d3, c0, c1⟩, _⟩ := hI.IE e he
  have hn : n ≤ rC R 20 := by omega
  rw [en] at d3
  refine w_for2 (rN R 51 e) (fun i a G => ∃ U, G = (U, R) ∧ RMg V W U n e (rN R 51 e) i 0 0 ∧ a = ((lst (mga V n e) i).length : Int)) ?_ (i := 0) (by omega) (by omega) ⟨W, rfl, ⟨fun _ _ _ _ => rfl, fun h' q' p' _ _ hd => absurd hd (by unfold dn; omega), fun k _ => ⟨hW 115 0 k (by decide), hW 116 0 k (by decide)⟩⟩, rfl⟩
  rintro i a G hi ⟨U, rfl, hr, ea⟩ self ih
  have uo : ∀ {U : GV} {h q p : Nat}, RMg V W U n e (rN R 51 e) h q p → ∀ r j k, 100 ≤ r → r ≠ 115 → r ≠ 116 → U r j k = V r j k := fun hr r j k h1 h2 h3 => by rw [hr.1 r j k ⟨h2, h3⟩]; exact hW r j k h1
  have l1 := lst_len (F := mga V n e) (m := 120) (n := i) (fun h _ => by
    have := mgh_len (V := V) (n := n) (s := (V 30 h 0).toNat) (t := (V 51 e h).toNat)
    unfold mga; omega)
  unfold glX9_merge_14
  have u100 := fun k => uo hr 100 0 k (by decide) (by decide) (by decide)
  ((first | ((with_reducible refine w_s hS ?_ ?_ ?_ (fun x hx => ?_)); (focus decide); (focus (first | decide | omega)); (focus (first | decide | (simp only [sl]; omega)))) | ((with_reducible refine w_m hS ?_ ?_ ?_ ?_ ?_ (fun x hx => ?_)); (focus decide); (focus (first | decide | omega)); (focus omega); (focus (first | decide | omega)); (focus (first | decide | (simp only [ml]; omega)))) | (with_reducible refine w_k (by simp (disch := omega) only [w32_id]; exact rfl) ?_; ((with_reducible refine w_s hS ?_ ?_ ?_ (fun x hx => ?_)); (focus decide); (focus (first | decide | omega)); (focus (first | decide | (simp only [sl]; omega))))) | (with_reducible refine w_k (by simp (disch := omega) only [w32_id]; exact rfl) ?_; ((with_reducible refine w_m hS ?_ ?_ ?_ ?_ ?_ (fun x hx => ?_)); (focus decide); (focus (first | decide | omega)); (focus omega); (focus (first | decide | omega)); (focus (first | decide | (simp only [ml]; omega)))))); (try simp (disch := omega) only [Int.reduceToNat, tn_c, tn8, tn8i, tn5, tn5z, tn6, tn6z, tn1, u3_ne, u3_eq, u3_ni, u3_nk, u100, f_100_31 hF] at hx); subst hx)
  ((first | ((with_reducible refine w_s hS ?_ ?_ ?_ (fun x hx => ?_)); (focus decide); (focus (first | decide | omega)); (focus (first | decide | (simp only [sl]; omega)))) | ((with_reducible refine w_m hS ?_ ?_ ?_ ?_ ?_ (fun x hx => ?_)); (focus decide); (focus (first | decide | omega)); (focus omega); (focus (first | decide | omega)); (focus (first | decide | (simp only [ml]; omega)))) | (with_reducible refine w_k (by simp (disch := omega) only [w32_id]; exact rfl) ?_; ((with_reducible refine w_s hS ?_ ?_ ?_ (fun x hx => ?_)); (focus decide); (focus (first | decide | omega)); (focus (first | decide | (simp only [sl]; omega))))) | (with_reducible refine w_k (by simp (disch := omega) only [w32_id]; exact rfl) ?_; ((with_reducible refine w_m hS ?_ ?_ ?_ ?_ ?_ (fun x hx => ?_)); (focus decide); (focus (first | decide | omega)); (focus omega); (focus (first | decide | omega)); (focus (first | decide | (simp only [ml]; omega)))))); (try simp (disch := omega) only [Int.reduceToNat, tn_c, tn8, tn8i, tn5, tn5z, tn6, tn6z, tn1, u3_ne, u3_eq, u3_ni, u3_nk, uo hr 131 _ _ (by decide) (by decide) (by decide), d1] at hx); subst hx)
  refine w_ite (fun hx => w_ret ?_) (fun hx => ?_)
  · have ei : i = rN R 51 e := by omega
    rw [ea, ei]
    rw [ei] at hr
    exact K U hr
  · have hi51 : i < rN R 51 e := by omega
    have hi30 : i < rC R 30 := by omega
    obtain ⟨s, es, es', hk⟩ := hI.sht hi30
    obtain ⟨t, n', et, et', en', hkt, hn', ar⟩ := hI.esh he hi51
    have : n' = n := by omega
    subst this
    have hpers := hI.pers hi30
    rw [es'] at hpers
    refine w_for2 n' (fun q a G => ∃ U, G = (U, R) ∧ RMg V W U n' e (rN R 51 e) i q 0 ∧ a = ((lst (mga V n' e) i ++ lst (mgq V n' s t) q).length : Int)) ?_ (i := 0) (by omega) (by omega) ⟨U, rfl, hr, by
      show a = ((lst (mga V n' e) i ++ []).length : Int)
      rw [List.append_nil]; exact ea⟩
    rintro q a G hq ⟨U, rfl, hr, ea⟩ self' ih'
    have l2 := lst_len (F := mgq V n' s t) (m := 5) (n := q) (fun q _ => mgq_len)
    have u100 := fun k => uo hr 100 0 k (by decide) (by decide) (by decide)
    unfold glX9_merge_27 gjX9_merge_221
    ((first | ((with_reducible refine w_s hS ?_ ?_ ?_ (fun x hx => ?_)); (focus decide); (focus (first | decide | omega)); (focus (first | decide | (simp only [sl]; omega)))) | ((with_reducible refine w_m hS ?_ ?_ ?_ ?_ ?_ (fun x hx => ?_)); (focus decide); (focus (first | decide | omega)); (focus omega); (focus (first | decide | omega)); (focus (first | decide | (simp only [ml]; omega)))) | (with_reducible refine w_k (by simp (disch := omega) only [w32_id]; exact rfl) ?_; ((with_reducible refine w_s hS ?_ ?_ ?_ (fun x hx => ?_)); (focus decide); (focus (first | decide | omega)); (focus (first | decide | (simp only [sl]; omega))))) | (with_reducible refine w_k (by simp (disch := omega) only [w32_id]; exact rfl) ?_; ((with_reducible refine w_m hS ?_ ?_ ?_ ?_ ?_ (fun x hx => ?_)); (focus decide); (focus (first | decide | omega)); (focus omega); (focus (first | decide | omega)); (focus (first | decide | (simp only [ml]; omega)))))); (try simp (disch := omega) only [Int.reduceToNat, tn_c, tn8, tn8i, tn5, tn5z, tn6, tn6z, tn1, u3_ne, u3_eq, u3_ni, u3_nk, u100, f_100_32 hF] at hx); subst hx)
    ((first | ((with_reducible refine w_s hS ?_ ?_ ?_ (fun x hx => ?_)); (focus decide); (focus (first | decide | omega)); (focus (first | decide | (simp only [sl]; omega)))) | ((with_reducible refine w_m hS ?_ ?_ ?_ ?_ ?_ (fun x hx => ?_)); (focus decide); (focus (first | decide | omega)); (focus omega); (focus (first | decide | omega)); (focus (first | decide | (simp only [ml]; omega)))) | (with_reducible refine w_k (by simp (disch := omega) only [w32_id]; exact rfl) ?_; ((with_reducible refine w_s hS ?_ ?_ ?_ (fun x hx => ?_)); (focus decide); (focus (first | decide | omega)); (focus (first | decide | (simp only [sl]; omega))))) | (with_reducible refine w_k (by simp (disch := omega) only [w32_id]; exact rfl) ?_; ((with_reducible refine w_m hS ?_ ?_ ?_ ?_ ?_ (fun x hx => ?_)); (focus decide); (focus (first | decide | omega)); (focus omega); (focus (first | decide | omega)); (focus (first | decide | (simp only [ml]; omega)))))); (try simp (disch := omega) only [Int.reduceToNat, tn_c, tn8, tn8i, tn5, tn5z, tn6, tn6z, tn1, u3_ne, u3_eq, u3_ni, u3_nk, uo hr 132 _ _ (by decide) (by decide) (by decide), d3] at hx); subst hx)
    refine w_ite (fun hx => ?_) (fun hx => ?_)
    · have eq : q = n' := by omega
      subst eq
      refine ih _ _ hi51 ⟨U, rfl, hr.hnext, ?_⟩
      rw [ea]
      show _ = ((lst (mga V q e) i ++ mga V q e i).length : Int)
      unfold mga mgh
      rw [es', et']
    · have hqn : q < n' := by omega
      have hq20 : q < rC R 20 := by omega
      have skip : (∀ p, ¬ tk V n' s t q p) → Wp (self' a (w32 ((q : Int) + 1)) (U, R)) f := by
        intro hno
        refine ih' _ _ hqn ⟨U, rfl, hr.qnext (fun p' _ _ => by rw [es', et']; exact hno p'), ?_⟩
        rw [ea]
        show _ = ((lst (mga V n' e) i ++ (lst (mgq V n' s t) q ++ mgq V n' s t q)).length : Int)
        have : mgq V n' s t q = [] := lst_nil (fun p _ => one_f (hno p))
        rw [this, List.append_nil]
      ((first | ((with_reducible refine w_s hS ?_ ?_ ?_ (fun x hx => ?_)); (focus decide); (focus (first | decide | omega)); (focus (first | decide | (simp only [sl]; omega)))) | ((with_reducible refine w_m hS ?_ ?_ ?_ ?_ ?_ (fun x hx => ?_)); (focus decide); (focus (first | decide | omega)); (focus omega); (focus (first | decide | omega)); (focus (first | decide | (simp only [ml]; omega)))) | (with_reducible refine w_k (by simp (disch := omega) only [w32_id]; exact rfl) ?_; ((with_reducible refine w_s hS ?_ ?_ ?_ (fun x hx => ?_)); (focus decide); (focus (first | decide | omega)); (focus (first | decide | (simp only [sl]; omega))))) | (with_reducible refine w_k (by simp (disch := omega) only [w32_id]; exact rfl) ?_; ((with_reducible refine w_m hS ?_ ?_ ?_ ?_ ?_ (fun x hx => ?_)); (focus decide); (focus (first | decide | omega)); (focus omega); (focus (first | decide | omega)); (focus (first | decide | (simp only [ml]; omega)))))); (try simp (disch := omega) only [Int.reduceToNat, tn_c, tn8, tn8i, tn5, tn5z, tn6, tn6z, tn1, u3_ne, u3_eq, u3_ni, u3_nk, u100, f_100_3 hF] at hx); subst hx)
      ((first | ((with_reducible refine w_s hS ?_ ?_ ?_ (fun x hx => ?_)); (focus decide); (focus (first | decide | omega)); (focus (first | decide | (simp only [sl]; omega)))) | ((with_reducible refine w_m hS ?_ ?_ ?_ ?_ ?_ (fun x hx => ?_)); (focus decide); (focus (first | decide | omega)); (focus omega); (focus (first | decide | omega)); (focus (first | decide | (simp only [ml]; omega)))) | (with_reducible refine w_k (by simp (disch := omega) only [w32_id]; exact rfl) ?_; ((with_reducible refine w_s hS ?_ ?_ ?_ (fun x hx => ?_)); (focus decide); (focus (first | decide | omega)); (focus (first | decide | (simp only [sl]; omega))))) | (with_reducible refine w_k (by simp (disch := omega) only [w32_id]; exact rfl) ?_; ((with_reducible refine w_m hS ?_ ?_ ?_ ?_ ?_ (fun x hx => ?_)); (focus decide); (focus (first | decide | omega)); (focus omega); (focus (first | decide | omega)); (focus (first | decide | (simp only [ml]; omega)))))); (try simp (disch := omega) only [Int.reduceToNat, tn_c, tn8, tn8i, tn5, tn5z, tn6, tn6z, tn1, u3_ne, u3_eq, u3_ni, u3_nk, uo hr 103 _ _ (by decide) (by decide) (by decide)] at hx); subst hx)
      obtain ⟨_, _, ⟨_, mm0, _⟩, _⟩ := (hQ.1 q hq20).1
      refine w_ite (fun z => skip (fun p w => by have := w.2.1; omega)) (fun z => ?_)
      have m0 : V 103 0 q = 0 := by omega
      ((first | ((with_reducible refine w_s hS ?_ ?_ ?_ (fun x hx => ?_)); (focus decide); (focus (first | decide | omega)); (focus (first | decide | (simp only [sl]; omega)))) | ((with_reducible refine w_m hS ?_ ?_ ?_ ?_ ?_ (fun x hx => ?_)); (focus decide); (focus (first | decide | omega)); (focus omega); (focus (first | decide | omega)); (focus (first | decide | (simp only [ml]; omega)))) | (with_reducible refine w_k (by simp (disch := omega) only [w32_id]; exact rfl) ?_; ((with_reducible refine w_s hS ?_ ?_ ?_ (fun x hx => ?_)); (focus decide); (focus (first | decide | omega)); (focus (first | decide | (simp only [sl]; omega))))) | (with_reducible refine w_k (by simp (disch := omega) only [w32_id]; exact rfl) ?_; ((with_reducible refine w_m hS ?_ ?_ ?_ ?_ ?_ (fun x hx => ?_)); (focus decide); (focus (first | decide | omega)); (focus omega); (focus (first | decide | omega)); (focus (first | decide | (simp only [ml]; omega)))))); (try simp (disch := omega) only [Int.reduceToNat, tn_c, tn8, tn8i, tn5, tn5z, tn6, tn6z, tn1, u3_ne, u3_eq, u3_ni, u3_nk, u100, f_100_1 hF] at hx); subst hx)
      ((first | ((with_reducible refine w_s hS ?_ ?_ ?_ (fun x hx => ?_)); (focus decide); (focus (first | decide | omega)); (focus (first | decide | (simp only [sl]; omega)))) | ((with_reducible refine w_m hS ?_ ?_ ?_ ?_ ?_ (fun x hx => ?_)); (focus decide); (focus (first | decide | omega)); (focus omega); (focus (first | decide | omega)); (focus (first | decide | (simp only [ml]; omega)))) | (with_reducible refine w_k (by simp (disch := omega) only [w32_id]; exact rfl) ?_; ((with_reducible refine w_s hS ?_ ?_ ?_ (fun x hx => ?_)); (focus decide); (focus (first | decide | omega)); (focus (first | decide | (simp only [sl]; omega))))) | (with_reducible refine w_k (by simp (disch := omega) only [w32_id]; exact rfl) ?_; ((with_reducible refine w_m hS ?_ ?_ ?_ ?_ ?_ (fun x hx => ?_)); (focus decide); (focus (first | decide | omega)); (focus omega); (focus (first | decide | omega)); (focus (first | decide | (simp only [ml]; omega)))))); (try simp (disch := omega) only [Int.reduceToNat, tn_c, tn8, tn8i, tn5, tn5z, tn6, tn6z, tn1, u3_ne, u3_eq, u3_ni, u3_nk, uo hr 101 _ _ (by decide) (by decide) (by decide)] at hx); subst hx)
      -- a roster's number is never missing
      have never : ∀ h r, h < rC R 30 → r < rC R 20 → V 101 0 r = 5 → ∀ t' p, ¬ tk V n' (V 30 h 0).toNat t' r p := by
        intro h r hh hr5 k5 t' p w
        obtain ⟨rm, rt⟩ := hQ.k5 hr5 k5
        have p0 := w.top rt
        subst p0
        have ok := ((hI.IA h hh).1 r hr5 rm).1 rt
        have := w.2.2.2.1
        rw [Nat.add_zero, ok.2.1] at this
        exact this (ok.2.2.2.2.2.2.1 k5).1
      refine w_ite (fun k5 => ?_) (fun k5 => skip (fun p w => by
        have := never i q hi30 hq20 (by omega) t p
        rw [es'] at this
        exact this w))
      have pls := plc_q hQ hpers hq20
      have plt := eplc hI ar hn' hqn
      have core : ∀ a0 na nb : Nat, a0 < 2 → na ≤ 5 → nb ≤ 5 → (∀ p : Nat, (a0 + p ≤ na ∧ a0 + p ≤ nb) ↔ ((p : Int) < plc V s (V 102 0 q) ∧ (p : Int) < plc V t (V 102 0 q))) → (∀ p : Nat, (p : Int) < plc V s (V 102 0 q) → slot (V 102 0 q) p = a0 + p) → Wp (lh2 (glX9_merge_136 self self' 0 (e : Int) (i : Int) (q : Int) (na : Int) (nb : Int)) 6000 a (a0 : Int) (U, R)) f := by
        intro a0 na nb ha0 hna hnb iw hsl
        refine w_for2 7 (fun tt a G => a0 ≤ tt ∧ ∃ U, G = (U, R) ∧ RMg V W U n' e (rN R 51 e) i q (tt - a0) ∧ a = ((lst (mga V n' e) i ++ lst (mgq V n' s t) q ++ lst (fun p => one (tk V n' s t q p) (0, 0, 0)) (tt - a0)).length : Int)) ?_ (by omega) (by omega) ⟨Nat.le_refl _, U, rfl, by rw [Nat.sub_self]; exact hr, by
          rw [Nat.sub_self]
          show a = ((_ ++ []).length : Int)
          rw [List.append_nil]; exact ea⟩
        rintro tt a G htt ⟨hat, U, rfl, hr, ea⟩ self'' ih''
        obtain ⟨p, rfl⟩ : ∃ p, tt = a0 + p := ⟨tt - a0, by omega⟩
        rw [Nat.add_sub_cancel_left] at hr ea
        have u100 := fun k => uo hr 100 0 k (by decide) (by decide) (by decide)
        have l3 := lst_len (F := fun p => one (tk V n' s t q p) (0, 0, 0)) (m := 1) (n := p) (fun i _ => one_len)
        unfold glX9_merge_136 gjX9_merge_221 gjX9_merge_215
        have out : ¬ (a0 + p ≤ na ∧ a0 + p ≤ nb) → Wp (self' a (w32 ((q : Int) + 1)) (U, R)) f := by
          intro ho
          have rest : ∀ p', p ≤ p' → ¬ tk V n' s t q p' := fun p' hp' w => by
            have := (iw p').mpr w.2.2.1
            omega
          refine ih' _ _ hqn ⟨U, rfl, hr.qnext (fun p' _ hp' => by rw [es', et']; exact rest p' hp'), ?_⟩
          rw [ea]
          show _ = ((lst (mga V n' e) i ++ (lst (mgq V n' s t) q ++ mgq V n' s t q)).length : Int)
          have e5 : mgq V n' s t q = lst (fun p => one (tk V n' s t q p) (0, 0, 0)) p ∨ 5 < p := by
            by_cases c : p ≤ 5
            · exact Or.inl (lst_rest c (fun i h1 _ => one_f (rest i h1)))
            · exact Or.inr (by omega)
          rcases e5 with e5 | e5
          · rw [e5, List.append_assoc]
          · have : lst (fun p => one (tk V n' s t q p) (0, 0, 0)) p = mgq V n' s t q := lst_rest (m := 5) (by omega) (fun i h1 _ => one_f (fun w => by have := w.2.2.1; omega))
            rw [this, List.append_assoc]
        refine w_ite (fun z => out (by omega)) (fun z1 => w_ite (fun z => out (by omega)) (fun z2 => ?_))
        have hin := (iw p).mp ⟨by omega, by omega⟩
        have p5 : p < 5 := by omega
        have hs1 := hsl p hin.1
        have sl6 := slot_lt (r := V 102 0 q) p5
        have tp : V 102 0 q = -1 → p = 0 := fun w => by
          have := hin.1
          rw [w] at this
          unfold plc at this
          rw [if_pos rfl] at this
          omega
        have hpl : (V 102 0 q = -1 ∧ slot (V 102 0 q) p = 0 ∧ p = 0) ∨ (V 102 0 q ≠ -1 ∧ slot (V 102 0 q) p = p + 1 ∧ p < 5) := by
          unfold slot
          by_cases w : V 102 0 q = -1
          · exact Or.inl ⟨w, by rw [if_pos w], tp w⟩
          · exact Or.inr ⟨w, by rw [if_neg w], p5⟩
        obtain ⟨n1, n2, n3⟩ := hI.ans hi30 hq20 m0 hpl
        obtain ⟨o1, o2, o3⟩ := eans hI ar hn' hqn m0 hpl
        rw [es'] at n1 n2
        have cur : U 115 0 (144 * i + 6 * q + slot (V 102 0 q) p) = V 115 0 (144 * i + 6 * q + slot (V 102 0 q) p) ∧ U 116 0 (144 * i + 6 * q + slot (V 102 0 q) p) = V 116 0 (144 * i + 6 * q + slot (V 102 0 q) p) := by
          refine hr.2.2 _ (fun h' q' p' hh hp' hd ht' w => ?_)
          obtain ⟨x1, x2, x3⟩ := slot_inj (by omega) (by have := ht'.1; omega) p5 hp' tp ht'.top (fun w => by rw [w]) w
          subst x1 x2 x3
          unfold dn at hd; omega
        have i1 : ∀ r, V r 0 (5760 * e + (144 * i + 6 * q + slot (V 102 0 q) p)) = V r 0 (5760 * e + 144 * i + 6 * q + slot (V 102 0 q) p) := by intro r; congr 1; omega
        rw [← hs1]
        refine w_place (by omega) (by omega) sl6 ?_
        dsimp only
        rw [we (by omega) (by omega)]
        ((first | ((with_reducible refine w_s hS ?_ ?_ ?_ (fun x hx => ?_)); (focus decide); (focus (first | decide | omega)); (focus (first | decide | (simp only [sl]; omega)))) | ((with_reducible refine w_m hS ?_ ?_ ?_ ?_ ?_ (fun x hx => ?_)); (focus decide); (focus (first | decide | omega)); (focus omega); (focus (first | decide | omega)); (focus (first | decide | (simp only [ml]; omega)))) | (with_reducible refine w_k (by simp (disch := omega) only [w32_id]; exact rfl) ?_; ((with_reducible refine w_s hS ?_ ?_ ?_ (fun x hx => ?_)); (focus decide); (focus (first | decide | omega)); (focus (first | decide | (simp only [sl]; omega))))) | (with_reducible refine w_k (by simp (disch := omega) only [w32_id]; exact rfl) ?_; ((with_reducible refine w_m hS ?_ ?_ ?_ ?_ ?_ (fun x hx => ?_)); (focus decide); (focus (first | decide | omega)); (focus omega); (focus (first | decide | omega)); (focus (first | decide | (simp only [ml]; omega)))))); (try simp (disch := omega) only [Int.reduceToNat, tn_c, tn8, tn8i, tn5, tn5z, tn6, tn6z, tn1, u3_ne, u3_eq, u3_ni, u3_nk, u100, f_100_16 hF] at hx); subst hx)
        ((first | ((with_reducible refine w_s hS ?_ ?_ ?_ (fun x hx => ?_)); (focus decide); (focus (first | decide | omega)); (focus (first | decide | (simp only [sl]; omega)))) | ((with_reducible refine w_m hS ?_ ?_ ?_ ?_ ?_ (fun x hx => ?_)); (focus decide); (focus (first | decide | omega)); (focus omega); (focus (first | decide | omega)); (focus (first | decide | (simp only [ml]; omega)))) | (with_reducible refine w_k (by simp (disch := omega) only [w32_id]; exact rfl) ?_; ((with_reducible refine w_s hS ?_ ?_ ?_ (fun x hx => ?_)); (focus decide); (focus (first | decide | omega)); (focus (first | decide | (simp only [sl]; omega))))) | (with_reducible refine w_k (by simp (disch := omega) only [w32_id]; exact rfl) ?_; ((with_reducible refine w_m hS ?_ ?_ ?_ ?_ ?_ (fun x hx => ?_)); (focus decide); (focus (first | decide | omega)); (focus omega); (focus (first | decide | omega)); (focus (first | decide | (simp only [ml]; omega)))))); (try simp (disch := omega) only [Int.reduceToNat, tn_c, tn8, tn8i, tn5, tn5z, tn6, tn6z, tn1, u3_ne, u3_eq, u3_ni, u3_nk, cur.2, n2.symm] at hx); subst hx)
        have next0 : ¬ tk V n' s t q p → Wp (self'' a (w32 (((slot (V 102 0 q) p : Nat) : Int) + 1)) (U, R)) f := by
          intro hno
          rw [hs1]
          refine ih'' _ _ (by omega) ⟨by omega, U, rfl, ?_, ?_⟩
          · rw [show a0 + p + 1 - a0 = p + 1 by omega]
            exact hr.miss (by rw [es', et']; exact hno)
          · rw [show a0 + p + 1 - a0 = p + 1 by omega, ea]
            show _ = ((_ ++ (lst _ p ++ one _ _)).length : Int)
            rw [one_f hno, List.append_nil]
        refine w_ite (fun w => next0 (fun v => v.2.2.2.1 (by have := n3.1; omega))) (fun w => ?_)
        ((first | ((with_reducible refine w_s hS ?_ ?_ ?_ (fun x hx => ?_)); (focus decide); (focus (first | decide | omega)); (focus (first | decide | (simp only [sl]; omega)))) | ((with_reducible refine w_m hS ?_ ?_ ?_ ?_ ?_ (fun x hx => ?_)); (focus decide); (focus (first | decide | omega)); (focus omega); (focus (first | decide | omega)); (focus (first | decide | (simp only [ml]; omega)))) | (with_reducible refine w_k (by simp (disch := omega) only [w32_id]; exact rfl) ?_; ((with_reducible refine w_s hS ?_ ?_ ?_ (fun x hx => ?_)); (focus decide); (focus (first | decide | omega)); (focus (first | decide | (simp only [sl]; omega))))) | (with_reducible refine w_k (by simp (disch := omega) only [w32_id]; exact rfl) ?_; ((with_reducible refine w_m hS ?_ ?_ ?_ ?_ ?_ (fun x hx => ?_)); (focus decide); (focus (first | decide | omega)); (focus omega); (focus (first | decide | omega)); (focus (first | decide | (simp only [ml]; omega)))))); (try simp (disch := omega) only [Int.reduceToNat, tn_c, tn8, tn8i, tn5, tn5z, tn6, tn6z, tn1, u3_ne, u3_eq, u3_ni, u3_nk, u100, f_100_34 hF] at hx); subst hx)
        ((first | ((with_reducible refine w_s hS ?_ ?_ ?_ (fun x hx => ?_)); (focus decide); (focus (first | decide | omega)); (focus (first | decide | (simp only [sl]; omega)))) | ((with_reducible refine w_m hS ?_ ?_ ?_ ?_ ?_ (fun x hx => ?_)); (focus decide); (focus (first | decide | omega)); (focus omega); (focus (first | decide | omega)); (focus (first | decide | (simp only [ml]; omega)))) | (with_reducible refine w_k (by simp (disch := omega) only [w32_id]; exact rfl) ?_; ((with_reducible refine w_s hS ?_ ?_ ?_ (fun x hx => ?_)); (focus decide); (focus (first | decide | omega)); (focus (first | decide | (simp only [sl]; omega))))) | (with_reducible refine w_k (by simp (disch := omega) only [w32_id]; exact rfl) ?_; ((with_reducible refine w_m hS ?_ ?_ ?_ ?_ ?_ (fun x hx => ?_)); (focus decide); (focus (first | decide | omega)); (focus omega); (focus (first | decide | omega)); (focus (first | decide | (simp only [ml]; omega)))))); (try simp (disch := omega) only [Int.reduceToNat, tn_c, tn8, tn8i, tn5, tn5z, tn6, tn6z, tn1, u3_ne, u3_eq, u3_ni, u3_nk, uo hr 134 _ _ (by decide) (by decide) (by decide), i1, o2.symm] at hx); subst hx)
        refine w_ite (fun y => next0 (fun v => y v.2.2.2.2)) (fun y => ?_)
        have hit : tk V n' s t q p := ⟨hqn, m0, hin, by omega, by omega⟩
        ((first | ((with_reducible refine w_s hS ?_ ?_ ?_ (fun x hx => ?_)); (focus decide); (focus (first | decide | omega)); (focus (first | decide | (simp only [sl]; omega)))) | ((with_reducible refine w_m hS ?_ ?_ ?_ ?_ ?_ (fun x hx => ?_)); (focus decide); (focus (first | decide | omega)); (focus omega); (focus (first | decide | omega)); (focus (first | decide | (simp only [ml]; omega)))) | (with_reducible refine w_k (by simp (disch := omega) only [w32_id]; exact rfl) ?_; ((with_reducible refine w_s hS ?_ ?_ ?_ (fun x hx => ?_)); (focus decide); (focus (first | decide | omega)); (focus (first | decide | (simp only [sl]; omega))))) | (with_reducible refine w_k (by simp (disch := omega) only [w32_id]; exact rfl) ?_; ((with_reducible refine w_m hS ?_ ?_ ?_ ?_ ?_ (fun x hx => ?_)); (focus decide); (focus (first | decide | omega)); (focus omega); (focus (first | decide | omega)); (focus (first | decide | (simp only [ml]; omega)))))); (try simp (disch := omega) only [Int.reduceToNat, tn_c, tn8, tn8i, tn5, tn5z, tn6, tn6z, tn1, u3_ne, u3_eq, u3_ni, u3_nk, u100, f_100_15 hF] at hx); subst hx)
        ((first | ((with_reducible refine w_s hS ?_ ?_ ?_ (fun x hx => ?_)); (focus decide); (focus (first | decide | omega)); (focus (first | decide | (simp only [sl]; omega)))) | ((with_reducible refine w_m hS ?_ ?_ ?_ ?_ ?_ (fun x hx => ?_)); (focus decide); (focus (first | decide | omega)); (focus omega); (focus (first | decide | omega)); (focus (first | decide | (simp only [ml]; omega)))) | (with_reducible refine w_k (by simp (disch := omega) only [w32_id]; exact rfl) ?_; ((with_reducible refine w_s hS ?_ ?_ ?_ (fun x hx => ?_)); (focus decide); (focus (first | decide | omega)); (focus (first | decide | (simp only [sl]; omega))))) | (with_reducible refine w_k (by simp (disch := omega) only [w32_id]; exact rfl) ?_; ((with_reducible refine w_m hS ?_ ?_ ?_ ?_ ?_ (fun x hx => ?_)); (focus decide); (focus (first | decide | omega)); (focus omega); (focus (first | decide | omega)); (focus (first | decide | (simp only [ml]; omega)))))); (try simp (disch := omega) only [Int.reduceToNat, tn_c, tn8, tn8i, tn5, tn5z, tn6, tn6z, tn1, u3_ne, u3_eq, u3_ni, u3_nk, u100, f_100_33 hF] at hx); subst hx)
        ((first | ((with_reducible refine w_s hS ?_ ?_ ?_ (fun x hx => ?_)); (focus decide); (focus (first | decide | omega)); (focus (first | decide | (simp only [sl]; omega)))) | ((with_reducible refine w_m hS ?_ ?_ ?_ ?_ ?_ (fun x hx => ?_)); (focus decide); (focus (first | decide | omega)); (focus omega); (focus (first | decide | omega)); (focus (first | decide | (simp only [ml]; omega)))) | (with_reducible refine w_k (by simp (disch := omega) only [w32_id]; exact rfl) ?_; ((with_reducible refine w_s hS ?_ ?_ ?_ (fun x hx => ?_)); (focus decide); (focus (first | decide | omega)); (focus (first | decide | (simp only [sl]; omega))))) | (with_reducible refine w_k (by simp (disch := omega) only [w32_id]; exact rfl) ?_; ((with_reducible refine w_m hS ?_ ?_ ?_ ?_ ?_ (fun x hx => ?_)); (focus decide); (focus (first | decide | omega)); (focus omega); (focus (first | decide | omega)); (focus (first | decide | (simp only [ml]; omega)))))); (try simp (disch := omega) only [Int.reduceToNat, tn_c, tn8, tn8i, tn5, tn5z, tn6, tn6z, tn1, u3_ne, u3_eq, u3_ni, u3_nk, uo hr 133 _ _ (by decide) (by decide) (by decide), i1, o1.symm] at hx); subst hx)
        refine w_ss hS (by decide) (by omega) (by simp only [sl]; omega) ?_
        rw [tn_c]
        ((first | ((with_reducible refine w_s hS ?_ ?_ ?_ (fun x hx => ?_)); (focus decide); (focus (first | decide | omega)); (focus (first | decide | (simp only [sl]; omega)))) | ((with_reducible refine w_m hS ?_ ?_ ?_ ?_ ?_ (fun x hx => ?_)); (focus decide); (focus (first | decide | omega)); (focus omega); (focus (first | decide | omega)); (focus (first | decide | (simp only [ml]; omega)))) | (with_reducible refine w_k (by simp (disch := omega) only [w32_id]; exact rfl) ?_; ((with_reducible refine w_s hS ?_ ?_ ?_ (fun x hx => ?_)); (focus decide); (focus (first | decide | omega)); (focus (first | decide | (simp only [sl]; omega))))) | (with_reducible refine w_k (by simp (disch := omega) only [w32_id]; exact rfl) ?_; ((with_reducible refine w_m hS ?_ ?_ ?_ ?_ ?_ (fun x hx => ?_)); (focus decide); (focus (first | decide | omega)); (focus omega); (focus (first | decide | omega)); (focus (first | decide | (simp only [ml]; omega)))))); (try simp (disch := omega) only [Int.reduceToNat, tn_c, tn8, tn8i, tn5, tn5z, tn6, tn6z, tn1, u3_ne, u3_eq, u3_ni, u3_nk, u3_ne, u100, f_100_16 hF] at hx); subst hx)
        refine w_ss hS (by decide) (by omega) (by simp only [sl]; omega) ?_
        rw [tn_c]
        have hh' := hr.hit (v := V 32 t (5 * q + p)) (by omega) hi51 p5 (by rw [es', et']; exact hit) (by rw [et'])
        rw [hs1] at hh' ⊢
        refine ih'' _ _ (by omega) ⟨by omega, _, rfl, ?_, ?_⟩
        · rw [show a0 + p + 1 - a0 = p + 1 by omega]
          exact hh'
        · rw [List.length_append, List.length_append] at ea
          rw [show a0 + p + 1 - a0 = p + 1 by omega, ea, w32_id (by omega) (by omega)]
          show _ = ((_ ++ (lst _ p ++ one _ _)).length : Int)
          rw [one_t hit, List.length_append, List.length_append, List.length_append]
          simp only [List.length_cons, List.length_nil]
          omega
      ((first | ((with_reducible refine w_s hS ?_ ?_ ?_ (fun x hx => ?_)); (focus decide); (focus (first | decide | omega)); (focus (first | decide | (simp only [sl]; omega)))) | ((with_reducible refine w_m hS ?_ ?_ ?_ ?_ ?_ (fun x hx => ?_)); (focus decide); (focus (first | decide | omega)); (focus omega); (focus (first | decide | omega)); (focus (first | decide | (simp only [ml]; omega)))) | (with_reducible refine w_k (by simp (disch := omega) only [w32_id]; exact rfl) ?_; ((with_reducible refine w_s hS ?_ ?_ ?_ (fun x hx => ?_)); (focus decide); (focus (first | decide | omega)); (focus (first | decide | (simp only [sl]; omega))))) | (with_reducible refine w_k (by simp (disch := omega) only [w32_id]; exact rfl) ?_; ((with_reducible refine w_m hS ?_ ?_ ?_ ?_ ?_ (fun x hx => ?_)); (focus decide); (focus (first | decide | omega)); (focus omega); (focus (first | decide | omega)); (focus (first | decide | (simp only [ml]; omega)))))); (try simp (disch := omega) only [Int.reduceToNat, tn_c, tn8, tn8i, tn5, tn5z, tn6, tn6z, tn1, u3_ne, u3_eq, u3_ni, u3_nk, u100, f_100_2 hF] at hx); subst hx)
      ((first | ((with_reducible refine w_s hS ?_ ?_ ?_ (fun x hx => ?_)); (focus decide); (focus (first | decide | omega)); (focus (first | decide | (simp only [sl]; omega)))) | ((with_reducible refine w_m hS ?_ ?_ ?_ ?_ ?_ (fun x hx => ?_)); (focus decide); (focus (first | decide | omega)); (focus omega); (focus (first | decide | omega)); (focus (first | decide | (simp only [ml]; omega)))) | (with_reducible refine w_k (by simp (disch := omega) only [w32_id]; exact rfl) ?_; ((with_reducible refine w_s hS ?_ ?_ ?_ (fun x hx => ?_)); (focus decide); (focus (first | decide | omega)); (focus (first | decide | (simp only [sl]; omega))))) | (with_reducible refine w_k (by simp (disch := omega) only [w32_id]; exact rfl) ?_; ((with_reducible refine w_m hS ?_ ?_ ?_ ?_ ?_ (fun x hx => ?_)); (focus decide); (focus (first | decide | omega)); (focus omega); (focus (first | decide | omega)); (focus (first | decide | (simp only [ml]; omega)))))); (try simp (disch := omega) only [Int.reduceToNat, tn_c, tn8, tn8i, tn5, tn5z, tn6, tn6z, tn1, u3_ne, u3_eq, u3_ni, u3_nk, uo hr 102 _ _ (by decide) (by decide) (by decide)] at hx); subst hx)
      unfold gjX9_merge_88 gjX9_merge_117 gjX9_merge_134
      by_cases tt : V 102 0 q = -1
      · refine w_ite (fun z => absurd z (by omega)) (fun _ => ?_)
        ((first | ((with_reducible refine w_s hS ?_ ?_ ?_ (fun x hx => ?_)); (focus decide); (focus (first | decide | omega)); (focus (first | decide | (simp only [sl]; omega)))) | ((with_reducible refine w_m hS ?_ ?_ ?_ ?_ ?_ (fun x hx => ?_)); (focus decide); (focus (first | decide | omega)); (focus omega); (focus (first | decide | omega)); (focus (first | decide | (simp only [ml]; omega)))) | (with_reducible refine w_k (by simp (disch := omega) only [w32_id]; exact rfl) ?_; ((with_reducible refine w_s hS ?_ ?_ ?_ (fun x hx => ?_)); (focus decide); (focus (first | decide | omega)); (focus (first | decide | (simp only [sl]; omega))))) | (with_reducible refine w_k (by simp (disch := omega) only [w32_id]; exact rfl) ?_; ((with_reducible refine w_m hS ?_ ?_ ?_ ?_ ?_ (fun x hx => ?_)); (focus decide); (focus (first | decide | omega)); (focus omega); (focus (first | decide | omega)); (focus (first | decide | (simp only [ml]; omega)))))); (try simp (disch := omega) only [Int.reduceToNat, tn_c, tn8, tn8i, tn5, tn5z, tn6, tn6z, tn1, u3_ne, u3_eq, u3_ni, u3_nk, u100, f_100_2 hF] at hx); subst hx)
        ((first | ((with_reducible refine w_s hS ?_ ?_ ?_ (fun x hx => ?_)); (focus decide); (focus (first | decide | omega)); (focus (first | decide | (simp only [sl]; omega)))) | ((with_reducible refine w_m hS ?_ ?_ ?_ ?_ ?_ (fun x hx => ?_)); (focus decide); (focus (first | decide | omega)); (focus omega); (focus (first | decide | omega)); (focus (first | decide | (simp only [ml]; omega)))) | (with_reducible refine w_k (by simp (disch := omega) only [w32_id]; exact rfl) ?_; ((with_reducible refine w_s hS ?_ ?_ ?_ (fun x hx => ?_)); (focus decide); (focus (first | decide | omega)); (focus (first | decide | (simp only [sl]; omega))))) | (with_reducible refine w_k (by simp (disch := omega) only [w32_id]; exact rfl) ?_; ((with_reducible refine w_m hS ?_ ?_ ?_ ?_ ?_ (fun x hx => ?_)); (focus decide); (focus (first | decide | omega)); (focus omega); (focus (first | decide | omega)); (focus (first | decide | (simp only [ml]; omega)))))); (try simp (disch := omega) only [Int.reduceToNat, tn_c, tn8, tn8i, tn5, tn5z, tn6, tn6z, tn1, u3_ne, u3_eq, u3_ni, u3_nk, uo hr 102 _ _ (by decide) (by decide) (by decide)] at hx); subst hx)
        refine w_ite (fun z => absurd z (by omega)) (fun _ => ?_)
        ((first | ((with_reducible refine w_s hS ?_ ?_ ?_ (fun x hx => ?_)); (focus decide); (focus (first | decide | omega)); (focus (first | decide | (simp only [sl]; omega)))) | ((with_reducible refine w_m hS ?_ ?_ ?_ ?_ ?_ (fun x hx => ?_)); (focus decide); (focus (first | decide | omega)); (focus omega); (focus (first | decide | omega)); (focus (first | decide | (simp only [ml]; omega)))) | (with_reducible refine w_k (by simp (disch := omega) only [w32_id]; exact rfl) ?_; ((with_reducible refine w_s hS ?_ ?_ ?_ (fun x hx => ?_)); (focus decide); (focus (first | decide | omega)); (focus (first | decide | (simp only [sl]; omega))))) | (with_reducible refine w_k (by simp (disch := omega) only [w32_id]; exact rfl) ?_; ((with_reducible refine w_m hS ?_ ?_ ?_ ?_ ?_ (fun x hx => ?_)); (focus decide); (focus (first | decide | omega)); (focus omega); (focus (first | decide | omega)); (focus (first | decide | (simp only [ml]; omega)))))); (try simp (disch := omega) only [Int.reduceToNat, tn_c, tn8, tn8i, tn5, tn5z, tn6, tn6z, tn1, u3_ne, u3_eq, u3_ni, u3_nk, u100, f_100_2 hF] at hx); subst hx)
        ((first | ((with_reducible refine w_s hS ?_ ?_ ?_ (fun x hx => ?_)); (focus decide); (focus (first | decide | omega)); (focus (first | decide | (simp only [sl]; omega)))) | ((with_reducible refine w_m hS ?_ ?_ ?_ ?_ ?_ (fun x hx => ?_)); (focus decide); (focus (first | decide | omega)); (focus omega); (focus (first | decide | omega)); (focus (first | decide | (simp only [ml]; omega)))) | (with_reducible refine w_k (by simp (disch := omega) only [w32_id]; exact rfl) ?_; ((with_reducible refine w_s hS ?_ ?_ ?_ (fun x hx => ?_)); (focus decide); (focus (first | decide | omega)); (focus (first | decide | (simp only [sl]; omega))))) | (with_reducible refine w_k (by simp (disch := omega) only [w32_id]; exact rfl) ?_; ((with_reducible refine w_m hS ?_ ?_ ?_ ?_ ?_ (fun x hx => ?_)); (focus decide); (focus (first | decide | omega)); (focus omega); (focus (first | decide | omega)); (focus (first | decide | (simp only [ml]; omega)))))); (try simp (disch := omega) only [Int.reduceToNat, tn_c, tn8, tn8i, tn5, tn5z, tn6, tn6z, tn1, u3_ne, u3_eq, u3_ni, u3_nk, uo hr 102 _ _ (by decide) (by decide) (by decide)] at hx); subst hx)
        refine w_ite (fun z => absurd z (by omega)) (fun _ => ?_)
        refine core 0 0 0 (by omega) (by omega) (by omega) (fun p => ?_) (fun p hp => ?_)
        · unfold plc; rw [if_pos tt, if_pos tt]; omega
        · unfold plc at hp
          rw [if_pos tt] at hp
          unfold slot; rw [if_pos tt]; omega
      · obtain ⟨r, er, _, hr20, k5r, rm, rt⟩ := hQ.ro hq20 tt
        have pr := hpers r hr20 k5r
        have pe := hI.per hi30 hr20 k5r
        rw [es'] at pe
        have pu : U 115 0 (144 * i + 6 * r) = V 115 0 (144 * i + 6 * r) := by
          refine (hr.2.2 _ (fun h' q' p' hh hp' hd ht' w => ?_)).1
          have s6 := slot_lt (r := V 102 0 q') hp'
          have hq24 := ht'.1
          have e1 : h' = i := by omega
          have e2 : q' = r := by omega
          subst e1 e2
          exact never h' q' hi30 hr20 k5r _ p' ht'
        have ept := epers hI ar hn' (r := r) (by have := hQ.rlt hq20; omega) k5r
        have plS : plc V s (V 102 0 q) = V 32 s (5 * r) := by unfold plc; rw [if_neg tt, er, tn_c]
        have plT : plc V t (V 102 0 q) = V 32 t (5 * r) := by unfold plc; rw [if_neg tt, er, tn_c]
        have hFU : RF U R := by
          refine ⟨fun e he => ?_, fun e he i hi => ?_⟩
          · have : ∀ e, e ∈ RL0 → e.1 ≠ 115 ∧ e.1 ≠ 116 := by decide
            rw [hr.1 _ _ _ (this e he)]; exact hFW.1 e he
          · have : ∀ e, e ∈ RL1 → e.1 ≠ 115 ∧ e.1 ≠ 116 := by decide
            rw [hr.1 _ _ _ (this e he)]; exact hFW.2 e he i hi
        obtain ⟨na, ena⟩ : ∃ na : Nat, V 32 s (5 * r) = (na : Int) := ⟨(V 32 s (5 * r)).toNat, by omega⟩
        obtain ⟨nb, enb⟩ : ∃ nb : Nat, V 32 t (5 * r) = (nb : Int) := ⟨(V 32 t (5 * r)).toNat, by omega⟩
        refine w_ite (fun _ => ?_) (fun z => absurd z (by omega))
        ((first | ((with_reducible refine w_s hS ?_ ?_ ?_ (fun x hx => ?_)); (focus decide); (focus (first | decide | omega)); (focus (first | decide | (simp only [sl]; omega)))) | ((with_reducible refine w_m hS ?_ ?_ ?_ ?_ ?_ (fun x hx => ?_)); (focus decide); (focus (first | decide | omega)); (focus omega); (focus (first | decide | omega)); (focus (first | decide | (simp only [ml]; omega)))) | (with_reducible refine w_k (by simp (disch := omega) only [w32_id]; exact rfl) ?_; ((with_reducible refine w_s hS ?_ ?_ ?_ (fun x hx => ?_)); (focus decide); (focus (first | decide | omega)); (focus (first | decide | (simp only [sl]; omega))))) | (with_reducible refine w_k (by simp (disch := omega) only [w32_id]; exact rfl) ?_; ((with_reducible refine w_m hS ?_ ?_ ?_ ?_ ?_ (fun x hx => ?_)); (focus decide); (focus (first | decide | omega)); (focus omega); (focus (first | decide | omega)); (focus (first | decide | (simp only [ml]; omega)))))); (try simp (disch := omega) only [Int.reduceToNat, tn_c, tn8, tn8i, tn5, tn5z, tn6, tn6z, tn1, u3_ne, u3_eq, u3_ni, u3_nk, u100, f_100_2 hF] at hx); subst hx)
        ((first | ((with_reducible refine w_s hS ?_ ?_ ?_ (fun x hx => ?_)); (focus decide); (focus (first | decide | omega)); (focus (first | decide | (simp only [sl]; omega)))) | ((with_reducible refine w_m hS ?_ ?_ ?_ ?_ ?_ (fun x hx => ?_)); (focus decide); (focus (first | decide | omega)); (focus omega); (focus (first | decide | omega)); (focus (first | decide | (simp only [ml]; omega)))) | (with_reducible refine w_k (by simp (disch := omega) only [w32_id]; exact rfl) ?_; ((with_reducible refine w_s hS ?_ ?_ ?_ (fun x hx => ?_)); (focus decide); (focus (first | decide | omega)); (focus (first | decide | (simp only [sl]; omega))))) | (with_reducible refine w_k (by simp (disch := omega) only [w32_id]; exact rfl) ?_; ((with_reducible refine w_m hS ?_ ?_ ?_ ?_ ?_ (fun x hx => ?_)); (focus decide); (focus (first | decide | omega)); (focus omega); (focus (first | decide | omega)); (focus (first | decide | (simp only [ml]; omega)))))); (try simp (disch := omega) only [Int.reduceToNat, tn_c, tn8, tn8i, tn5, tn5z, tn6, tn6z, tn1, u3_ne, u3_eq, u3_ni, u3_nk, uo hr 102 _ _ (by decide) (by decide) (by decide), er] at hx); subst hx)
        refine w_rpers hS hFU (by omega) (by omega) (by omega) (by omega) ?_
        rw [pu, pe, ena]
        dsimp only
        ((first | ((with_reducible refine w_s hS ?_ ?_ ?_ (fun x hx => ?_)); (focus decide); (focus (first | decide | omega)); (focus (first | decide | (simp only [sl]; omega)))) | ((with_reducible refine w_m hS ?_ ?_ ?_ ?_ ?_ (fun x hx => ?_)); (focus decide); (focus (first | decide | omega)); (focus omega); (focus (first | decide | omega)); (focus (first | decide | (simp only [ml]; omega)))) | (with_reducible refine w_k (by simp (disch := omega) only [w32_id]; exact rfl) ?_; ((with_reducible refine w_s hS ?_ ?_ ?_ (fun x hx => ?_)); (focus decide); (focus (first | decide | omega)); (focus (first | decide | (simp only [sl]; omega))))) | (with_reducible refine w_k (by simp (disch := omega) only [w32_id]; exact rfl) ?_; ((with_reducible refine w_m hS ?_ ?_ ?_ ?_ ?_ (fun x hx => ?_)); (focus decide); (focus (first | decide | omega)); (focus omega); (focus (first | decide | omega)); (focus (first | decide | (simp only [ml]; omega)))))); (try simp (disch := omega) only [Int.reduceToNat, tn_c, tn8, tn8i, tn5, tn5z, tn6, tn6z, tn1, u3_ne, u3_eq, u3_ni, u3_nk, u100, f_100_2 hF] at hx); subst hx)
        ((first | ((with_reducible refine w_s hS ?_ ?_ ?_ (fun x hx => ?_)); (focus decide); (focus (first | decide | omega)); (focus (first | decide | (simp only [sl]; omega)))) | ((with_reducible refine w_m hS ?_ ?_ ?_ ?_ ?_ (fun x hx => ?_)); (focus decide); (focus (first | decide | omega)); (focus omega); (focus (first | decide | omega)); (focus (first | decide | (simp only [ml]; omega)))) | (with_reducible refine w_k (by simp (disch := omega) only [w32_id]; exact rfl) ?_; ((with_reducible refine w_s hS ?_ ?_ ?_ (fun x hx => ?_)); (focus decide); (focus (first | decide | omega)); (focus (first | decide | (simp only [sl]; omega))))) | (with_reducible refine w_k (by simp (disch := omega) only [w32_id]; exact rfl) ?_; ((with_reducible refine w_m hS ?_ ?_ ?_ ?_ ?_ (fun x hx => ?_)); (focus decide); (focus (first | decide | omega)); (focus omega); (focus (first | decide | omega)); (focus (first | decide | (simp only [ml]; omega)))))); (try simp (disch := omega) only [Int.reduceToNat, tn_c, tn8, tn8i, tn5, tn5z, tn6, tn6z, tn1, u3_ne, u3_eq, u3_ni, u3_nk, uo hr 102 _ _ (by decide) (by decide) (by decide)] at hx); subst hx)
        refine w_ite (fun _ => ?_) (fun z => absurd z (by omega))
        ((first | ((with_reducible refine w_s hS ?_ ?_ ?_ (fun x hx => ?_)); (focus decide); (focus (first | decide | omega)); (focus (first | decide | (simp only [sl]; omega)))) | ((with_reducible refine w_m hS ?_ ?_ ?_ ?_ ?_ (fun x hx => ?_)); (focus decide); (focus (first | decide | omega)); (focus omega); (focus (first | decide | omega)); (focus (first | decide | (simp only [ml]; omega)))) | (with_reducible refine w_k (by simp (disch := omega) only [w32_id]; exact rfl) ?_; ((with_reducible refine w_s hS ?_ ?_ ?_ (fun x hx => ?_)); (focus decide); (focus (first | decide | omega)); (focus (first | decide | (simp only [sl]; omega))))) | (with_reducible refine w_k (by simp (disch := omega) only [w32_id]; exact rfl) ?_; ((with_reducible refine w_m hS ?_ ?_ ?_ ?_ ?_ (fun x hx => ?_)); (focus decide); (focus (first | decide | omega)); (focus omega); (focus (first | decide | omega)); (focus (first | decide | (simp only [ml]; omega)))))); (try simp (disch := omega) only [Int.reduceToNat, tn_c, tn8, tn8i, tn5, tn5z, tn6, tn6z, tn1, u3_ne, u3_eq, u3_ni, u3_nk, u100, f_100_2 hF] at hx); subst hx)
        ((first | ((with_reducible refine w_s hS ?_ ?_ ?_ (fun x hx => ?_)); (focus decide); (focus (first | decide | omega)); (focus (first | decide | (simp only [sl]; omega)))) | ((with_reducible refine w_m hS ?_ ?_ ?_ ?_ ?_ (fun x hx => ?_)); (focus decide); (focus (first | decide | omega)); (focus omega); (focus (first | decide | omega)); (focus (first | decide | (simp only [ml]; omega)))) | (with_reducible refine w_k (by simp (disch := omega) only [w32_id]; exact rfl) ?_; ((with_reducible refine w_s hS ?_ ?_ ?_ (fun x hx => ?_)); (focus decide); (focus (first | decide | omega)); (focus (first | decide | (simp only [sl]; omega))))) | (with_reducible refine w_k (by simp (disch := omega) only [w32_id]; exact rfl) ?_; ((with_reducible refine w_m hS ?_ ?_ ?_ ?_ ?_ (fun x hx => ?_)); (focus decide); (focus (first | decide | omega)); (focus omega); (focus (first | decide | omega)); (focus (first | decide | (simp only [ml]; omega)))))); (try simp (disch := omega) only [Int.reduceToNat, tn_c, tn8, tn8i, tn5, tn5z, tn6, tn6z, tn1, u3_ne, u3_eq, u3_ni, u3_nk, uo hr 102 _ _ (by decide) (by decide) (by decide), er] at hx); subst hx)
        refine w_bind ?_
        unfold g_X9_personsThen
        refine w_gv (by omega) ?_
        ((first | ((with_reducible refine w_s hS ?_ ?_ ?_ (fun x hx => ?_)); (focus decide); (focus (first | decide | omega)); (focus (first | decide | (simp only [sl]; omega)))) | ((with_reducible refine w_m hS ?_ ?_ ?_ ?_ ?_ (fun x hx => ?_)); (focus decide); (focus (first | decide | omega)); (focus omega); (focus (first | decide | omega)); (focus (first | decide | (simp only [ml]; omega)))) | (with_reducible refine w_k (by simp (disch := omega) only [w32_id]; exact rfl) ?_; ((with_reducible refine w_s hS ?_ ?_ ?_ (fun x hx => ?_)); (focus decide); (focus (first | decide | omega)); (focus (first | decide | (simp only [sl]; omega))))) | (with_reducible refine w_k (by simp (disch := omega) only [w32_id]; exact rfl) ?_; ((with_reducible refine w_m hS ?_ ?_ ?_ ?_ ?_ (fun x hx => ?_)); (focus decide); (focus (first | decide | omega)); (focus omega); (focus (first | decide | omega)); (focus (first | decide | (simp only [ml]; omega)))))); (try simp (disch := omega) only [Int.reduceToNat, tn_c, tn8, tn8i, tn5, tn5z, tn6, tn6z, tn1, u3_ne, u3_eq, u3_ni, u3_nk, u100, f_100_33 hF] at hx); subst hx)
        refine w_place (s := 0) (by omega) (by omega) (by omega) ?_
        dsimp only
        rw [we (by omega) (by omega)]
        ((first | ((with_reducible refine w_s hS ?_ ?_ ?_ (fun x hx => ?_)); (focus decide); (focus (first | decide | omega)); (focus (first | decide | (simp only [sl]; omega)))) | ((with_reducible refine w_m hS ?_ ?_ ?_ ?_ ?_ (fun x hx => ?_)); (focus decide); (focus (first | decide | omega)); (focus omega); (focus (first | decide | omega)); (focus (first | decide | (simp only [ml]; omega)))) | (with_reducible refine w_k (by simp (disch := omega) only [w32_id]; exact rfl) ?_; ((with_reducible refine w_s hS ?_ ?_ ?_ (fun x hx => ?_)); (focus decide); (focus (first | decide | omega)); (focus (first | decide | (simp only [sl]; omega))))) | (with_reducible refine w_k (by simp (disch := omega) only [w32_id]; exact rfl) ?_; ((with_reducible refine w_m hS ?_ ?_ ?_ ?_ ?_ (fun x hx => ?_)); (focus decide); (focus (first | decide | omega)); (focus omega); (focus (first | decide | omega)); (focus (first | decide | (simp only [ml]; omega)))))); (try simp (disch := omega) only [Int.reduceToNat, tn_c, tn8, tn8i, tn5, tn5z, tn6, tn6z, tn1, u3_ne, u3_eq, u3_ni, u3_nk, tn_c] at hx); subst hx)
        have i0 : V 133 0 (5760 * e + (144 * i + 6 * r + 0)) = V 32 t (5 * r) := by
          rw [ept.1]; congr 1; omega
        rw [uo hr 133 _ _ (by decide) (by decide) (by decide), i0, enb]
        refine w_ret ?_
        rw [w32_id (by omega) (by omega)]
        ((first | ((with_reducible refine w_s hS ?_ ?_ ?_ (fun x hx => ?_)); (focus decide); (focus (first | decide | omega)); (focus (first | decide | (simp only [sl]; omega)))) | ((with_reducible refine w_m hS ?_ ?_ ?_ ?_ ?_ (fun x hx => ?_)); (focus decide); (focus (first | decide | omega)); (focus omega); (focus (first | decide | omega)); (focus (first | decide | (simp only [ml]; omega)))) | (with_reducible refine w_k (by simp (disch := omega) only [w32_id]; exact rfl) ?_; ((with_reducible refine w_s hS ?_ ?_ ?_ (fun x hx => ?_)); (focus decide); (focus (first | decide | omega)); (focus (first | decide | (simp only [sl]; omega))))) | (with_reducible refine w_k (by simp (disch := omega) only [w32_id]; exact rfl) ?_; ((with_reducible refine w_m hS ?_ ?_ ?_ ?_ ?_ (fun x hx => ?_)); (focus decide); (focus (first | decide | omega)); (focus omega); (focus (first | decide | omega)); (focus (first | decide | (simp only [ml]; omega)))))); (try simp (disch := omega) only [Int.reduceToNat, tn_c, tn8, tn8i, tn5, tn5z, tn6, tn6z, tn1, u3_ne, u3_eq, u3_ni, u3_nk, u100, f_100_2 hF] at hx); subst hx)
        ((first | ((with_reducible refine w_s hS ?_ ?_ ?_ (fun x hx => ?_)); (focus decide); (focus (first | decide | omega)); (focus (first | decide | (simp only [sl]; omega)))) | ((with_reducible refine w_m hS ?_ ?_ ?_ ?_ ?_ (fun x hx => ?_)); (focus decide); (focus (first | decide | omega)); (focus omega); (focus (first | decide | omega)); (focus (first | decide | (simp only [ml]; omega)))) | (with_reducible refine w_k (by simp (disch := omega) only [w32_id]; exact rfl) ?_; ((with_reducible refine w_s hS ?_ ?_ ?_ (fun x hx => ?_)); (focus decide); (focus (first | decide | omega)); (focus (first | decide | (simp only [sl]; omega))))) | (with_reducible refine w_k (by simp (disch := omega) only [w32_id]; exact rfl) ?_; ((with_reducible refine w_m hS ?_ ?_ ?_ ?_ ?_ (fun x hx => ?_)); (focus decide); (focus (first | decide | omega)); (focus omega); (focus (first | decide | omega)); (focus (first | decide | (simp only [ml]; omega)))))); (try simp (disch := omega) only [Int.reduceToNat, tn_c, tn8, tn8i, tn5, tn5z, tn6, tn6z, tn1, u3_ne, u3_eq, u3_ni, u3_nk, uo hr 102 _ _ (by decide) (by decide) (by decide)] at hx); subst hx)
        refine w_ite (fun _ => ?_) (fun z => absurd z (by omega))
        refine core 1 na nb (by omega) (by omega) (by omega) (fun p => ?_) (fun p hp => ?_)
        · rw [plS, plT]; omega
        · unfold slot; rw [if_neg tt]; omega
end Merge
