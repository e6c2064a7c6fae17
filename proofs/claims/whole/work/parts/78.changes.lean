section Changes
variable {V : GV} {R : GR} {Q : Int → GS → Prop}
def chn (V : GV) (s t q p : Nat) : Prop := ¬ ((p : Int) < plc V s (V 102 0 q) ∧ (p : Int) < plc V t (V 102 0 q)) ∨ ¬ lk V s t (5 * q + p)
noncomputable def chq (V : GV) (s t h q : Nat) : List H3 := if V 103 0 q ≠ 0 then [] else lst (fun p => one (chn V s t q p) ((h : Int), (q : Int), prs (V 102 0 q) p)) (imax (plc V s (V 102 0 q)) (plc V t (V 102 0 q))).toNat
noncomputable def chh (V : GV) (n : Nat) (e g h : Nat) : List H3 := lst (chq V (V 51 e h).toNat (V 51 g h).toNat h) n
theorem chq_same {V V' : GV} {L : PL'} {s t h q : Nat} (sm : same V V' L) (hd : disP L [(102, none), (103, none), (32, none), (33, none)] = true) : chq V' s t h q = chq V s t h q := by
  have e : ∀ r, r ∈ [102, 103, 32, 33] → ∀ i k, V' r i k = V r i k := by
    intro r hr i k
    refine sm.at hd ⟨(r, none), ?_, rfl, Or.inl rfl⟩
    simp only [List.mem_cons, List.mem_nil_iff, or_false] at hr ⊢
    rcases hr with rfl | rfl | rfl | rfl <;> simp
  simp only [chq, chn, lk, plc, e 102 (by decide), e 103 (by decide), e 32 (by decide), e 33 (by decide)]
theorem imax_le {a b : Int} (h1 : a ≤ 5) (h2 : b ≤ 5) (h3 : 0 ≤ a) (h4 : 0 ≤ b) : 0 ≤ imax a b ∧ imax a b ≤ 5 := by
  unfold imax
  by_cases c : a < b
  · rw [if_pos c]; omega
  · rw [if_neg c]; omega
theorem chq_len {s t h q : Nat} (h1 : plc V s (V 102 0 q) ≤ 5) (h2 : plc V t (V 102 0 q) ≤ 5) (h3 : 0 ≤ plc V s (V 102 0 q)) (h4 : 0 ≤ plc V t (V 102 0 q)) : (chq V s t h q).length ≤ 5 := by
  unfold chq
  have := imax_le h1 h2 h3 h4
  by_cases e : V 103 0 q ≠ 0
  · rw [if_pos e]; simp
  · rw [if_neg e]
    have := lst_len (F := fun p => one (chn V s t q p) ((h : Int), (q : Int), prs (V 102 0 q) p)) (m := 1) (n := (imax (plc V s (V 102 0 q)) (plc V t (V 102 0 q))).toNat) (fun i _ => one_len)
    omega
theorem w_personOf {r : Int} {p : Nat} {G : GS} {f : Int × GS → GO} (k : Wp (f (prs r p, G)) Q) : Wp ((g_X8_personOf r (p : Int) G).bind f) Q := by
  unfold prs at k
  refine w_bind ?_
  unfold g_X8_personOf
  refine w_ite (fun t => w_ret ?_) (fun t => w_ret ?_)
  · rw [if_neg t] at k; exact k
  · rw [if_pos (by omega)] at k; exact k
theorem w_meetChanges {s t n m h q : Nat} {L : List H3} {k : Int} {f : Int × GS → GO} (hI : INV IT V R) (hq : q < rC R 20) (m0 : V 103 0 q = 0) (hs : shk V R s n) (ht : shk V R t m) (hn : 5 * q + 5 ≤ n) (hm : 5 * q + 5 ≤ m) (h1 : plc V s (V 102 0 q) ≤ 5) (h2 : plc V t (V 102 0 q) ≤ 5) (h3 : 0 ≤ plc V s (V 102 0 q)) (h4 : 0 ≤ plc V t (V 102 0 q)) (hf : FS V L k) (hlen : L.length < 90000)
  (K : ∀ V', same V V' LF → FS V' (L ++ chq V s t h q) k → Wp (f (0, (V', R))) Q) : Wp ((g_X8_meetChanges 0 (s : Int) (t : Int) (h : Int) (q : Int) (V, R)).bind f) Q := by
  have hS := hI.SH
  have hF := hI.RF
  have hL := hI.IL
  obtain ⟨b20, b30, b40, b50⟩ := hI.IN.1
  obtain ⟨_, ⟨e1, _, _⟩, _⟩ := (hI.IQ.1 q hq).1
  have im := imax_le h1 h2 h3 h4
  obtain ⟨w, ew⟩ : ∃ w : Nat, imax (plc V s (V 102 0 q)) (plc V t (V 102 0 q)) = (w : Int) := ⟨_, (Int.toNat_of_nonneg im.1).symm⟩
  have imi : ∀ i : Nat, (i : Int) ≥ imin (plc V s (V 102 0 q)) (plc V t (V 102 0 q)) ↔ ¬ ((i : Int) < plc V s (V 102 0 q) ∧ (i : Int) < plc V t (V 102 0 q)) := by
    intro i
    unfold imin
    by_cases c : plc V t (V 102 0 q) < plc V s (V 102 0 q)
    · rw [if_pos c]; omega
    · rw [if_neg c]; omega
  have el : chq V s t h q = lst (fun p => one (chn V s t q p) ((h : Int), (q : Int), prs (V 102 0 q) p)) w := by
    unfold chq; rw [if_neg (by omega), ew, tn_c]
  rw [el] at K
  refine w_bind ?_
  unfold g_X8_meetChanges
  refine w_gv (by omega) ?_
  ((first | ((with_reducible refine w_s hS ?_ ?_ ?_ (fun x hx => ?_)); (focus decide); (focus (first | decide | omega)); (focus (first | decide | (simp only [sl]; omega)))) | ((with_reducible refine w_m hS ?_ ?_ ?_ ?_ ?_ (fun x hx => ?_)); (focus decide); (focus (first | decide | omega)); (focus omega); (focus (first | decide | omega)); (focus (first | decide | (simp only [ml]; omega)))) | (with_reducible refine w_k (by simp (disch := omega) only [w32_id]; exact rfl) ?_; ((with_reducible refine w_s hS ?_ ?_ ?_ (fun x hx => ?_)); (focus decide); (focus (first | decide | omega)); (focus (first | decide | (simp only [sl]; omega))))) | (with_reducible refine w_k (by simp (disch := omega) only [w32_id]; exact rfl) ?_; ((with_reducible refine w_m hS ?_ ?_ ?_ ?_ ?_ (fun x hx => ?_)); (focus decide); (focus (first | decide | omega)); (focus omega); (focus (first | decide | omega)); (focus (first | decide | (simp only [ml]; omega)))))); (try simp (disch := omega) only [Int.reduceToNat, tn_c, tn8, tn8i, tn5, tn5z, tn6, tn6z, tn1, u3_ne, u3_eq, u3_ni, u3_nk, f_0_0 hF] at hx); subst hx)
  ((first | ((with_reducible refine w_s hS ?_ ?_ ?_ (fun x hx => ?_)); (focus decide); (focus (first | decide | omega)); (focus (first | decide | (simp only [sl]; omega)))) | ((with_reducible refine w_m hS ?_ ?_ ?_ ?_ ?_ (fun x hx => ?_)); (focus decide); (focus (first | decide | omega)); (focus omega); (focus (first | decide | omega)); (focus (first | decide | (simp only [ml]; omega)))) | (with_reducible refine w_k (by simp (disch := omega) only [w32_id]; exact rfl) ?_; ((with_reducible refine w_s hS ?_ ?_ ?_ (fun x hx => ?_)); (focus decide); (focus (first | decide | omega)); (focus (first | decide | (simp only [sl]; omega))))) | (with_reducible refine w_k (by simp (disch := omega) only [w32_id]; exact rfl) ?_; ((with_reducible refine w_m hS ?_ ?_ ?_ ?_ ?_ (fun x hx => ?_)); (focus decide); (focus (first | decide | omega)); (focus omega); (focus (first | decide | omega)); (focus (first | decide | (simp only [ml]; omega)))))); (try simp (disch := omega) only [Int.reduceToNat, tn_c, tn8, tn8i, tn5, tn5z, tn6, tn6z, tn1, u3_ne, u3_eq, u3_ni, u3_nk, f_1_0 hF] at hx); subst hx)
  ((first | ((with_reducible refine w_s hS ?_ ?_ ?_ (fun x hx => ?_)); (focus decide); (focus (first | decide | omega)); (focus (first | decide | (simp only [sl]; omega)))) | ((with_reducible refine w_m hS ?_ ?_ ?_ ?_ ?_ (fun x hx => ?_)); (focus decide); (focus (first | decide | omega)); (focus omega); (focus (first | decide | omega)); (focus (first | decide | (simp only [ml]; omega)))) | (with_reducible refine w_k (by simp (disch := omega) only [w32_id]; exact rfl) ?_; ((with_reducible refine w_s hS ?_ ?_ ?_ (fun x hx => ?_)); (focus decide); (focus (first | decide | omega)); (focus (first | decide | (simp only [sl]; omega))))) | (with_reducible refine w_k (by simp (disch := omega) only [w32_id]; exact rfl) ?_; ((with_reducible refine w_m hS ?_ ?_ ?_ ?_ ?_ (fun x hx => ?_)); (focus decide); (focus (first | decide | omega)); (focus omega); (focus (first | decide | omega)); (focus (first | decide | (simp only [ml]; omega)))))); (try simp (disch := omega) only [Int.reduceToNat, tn_c, tn8, tn8i, tn5, tn5z, tn6, tn6z, tn1, u3_ne, u3_eq, u3_ni, u3_nk, l_2 hL] at hx); subst hx)
  ((first | ((with_reducible refine w_s hS ?_ ?_ ?_ (fun x hx => ?_)); (focus decide); (focus (first | decide | omega)); (focus (first | decide | (simp only [sl]; omega)))) | ((with_reducible refine w_m hS ?_ ?_ ?_ ?_ ?_ (fun x hx => ?_)); (focus decide); (focus (first | decide | omega)); (focus omega); (focus (first | decide | omega)); (focus (first | decide | (simp only [ml]; omega)))) | (with_reducible refine w_k (by simp (disch := omega) only [w32_id]; exact rfl) ?_; ((with_reducible refine w_s hS ?_ ?_ ?_ (fun x hx => ?_)); (focus decide); (focus (first | decide | omega)); (focus (first | decide | (simp only [sl]; omega))))) | (with_reducible refine w_k (by simp (disch := omega) only [w32_id]; exact rfl) ?_; ((with_reducible refine w_m hS ?_ ?_ ?_ ?_ ?_ (fun x hx => ?_)); (focus decide); (focus (first | decide | omega)); (focus omega); (focus (first | decide | omega)); (focus (first | decide | (simp only [ml]; omega)))))); (try simp (disch := omega) only [Int.reduceToNat, tn_c, tn8, tn8i, tn5, tn5z, tn6, tn6z, tn1, u3_ne, u3_eq, u3_ni, u3_nk, e1] at hx); subst hx)
  refine w_placesOf hS hs (hI.roq hq (by omega)) h3 h1 ?_
  refine w_placesOf hS ht (hI.roq hq (by omega)) h4 h2 ?_
  dsimp only
  rw [ew]
  refine w_for w (fun i G => ∃ V', G = (V', R) ∧ same V V' LF ∧ FS V' (L ++ lst (fun p => one (chn V s t q p) ((h : Int), (q : Int), prs (V 102 0 q) p)) i) k) ?_ (i := 0) (by omega) (by omega) ⟨V, rfl, same.rf V _, by unfold lst; rw [List.append_nil]; exact hf⟩
  rintro i G hi ⟨V', rfl, sm, hfs⟩ self ih
  have hI' := hI.scr sm.fx
  have hF' := hI'.RF
  have hs' := hs.cg (V' := V') (sm.r 31 rfl)
  have ht' := ht.cg (V' := V') (sm.r 31 rfl)
  have ll := lst_len (F := fun p => one (chn V s t q p) ((h : Int), (q : Int), prs (V 102 0 q) p)) (m := 1) (n := i) (fun i _ => one_len)
  unfold glX8_meetChanges_52 gjX8_meetChanges_98
  refine w_ite (fun hx => w_ret ?_) (fun hx => ?_)
  · have ei : i = w := by omega
    subst ei
    exact K V' sm hfs
  · have lkc : lk V' s t (5 * q + i) ↔ lk V s t (5 * q + i) := by simp only [lk, sm.r 32 rfl, sm.r 33 rfl]
    have hit : chn V s t q i → Wp (gjX8_meetChanges_81 self 0 (s : Int) (t : Int) (h : Int) (q : Int) (V 102 0 q) (imin (plc V s (V 102 0 q)) (plc V t (V 102 0 q))) (w : Int) (i : Int) (V', R)) (fun r G => Wp (f (r, G)) Q) := by
      intro c
      unfold gjX8_meetChanges_81 gjX8_meetChanges_98
      ((first | ((with_reducible refine w_s hS ?_ ?_ ?_ (fun x hx => ?_)); (focus decide); (focus (first | decide | omega)); (focus (first | decide | (simp only [sl]; omega)))) | ((with_reducible refine w_m hS ?_ ?_ ?_ ?_ ?_ (fun x hx => ?_)); (focus decide); (focus (first | decide | omega)); (focus omega); (focus (first | decide | omega)); (focus (first | decide | (simp only [ml]; omega)))) | (with_reducible refine w_k (by simp (disch := omega) only [w32_id]; exact rfl) ?_; ((with_reducible refine w_s hS ?_ ?_ ?_ (fun x hx => ?_)); (focus decide); (focus (first | decide | omega)); (focus (first | decide | (simp only [sl]; omega))))) | (with_reducible refine w_k (by simp (disch := omega) only [w32_id]; exact rfl) ?_; ((with_reducible refine w_m hS ?_ ?_ ?_ ?_ ?_ (fun x hx => ?_)); (focus decide); (focus (first | decide | omega)); (focus omega); (focus (first | decide | omega)); (focus (first | decide | (simp only [ml]; omega)))))); (try simp (disch := omega) only [Int.reduceToNat, tn_c, tn8, tn8i, tn5, tn5z, tn6, tn6z, tn1, u3_ne, u3_eq, u3_ni, u3_nk, f_0_6 hF'] at hx); subst hx)
      refine w_personOf ?_
      refine w_meet hS hfs (by rw [List.length_append]; omega) (fun V'' sm' hfs' => ?_)
      refine ih _ (by omega) ⟨V'', rfl, sm.tr sm', ?_⟩
      show FS V'' (L ++ (lst _ i ++ one _ _)) k
      rw [one_t c, ← List.append_assoc]; exact hfs'
    refine w_ite (fun z => hit (Or.inl ((imi i).mp z))) (fun z => ?_)
    rw [imi i] at z
    refine w_spot (by omega) (by omega) ?_
    refine w_isLike hS hs' ht' (by omega) (by omega) (fun y => ?_) (fun y => ?_)
    · refine w_ite (fun _ => ?_) (fun z => absurd (show (1 : Int) ≠ 0 by decide) z)
      refine ih _ (by omega) ⟨V', rfl, sm, ?_⟩
      show FS V' (L ++ (lst _ i ++ one _ _)) k
      rw [one_f (fun c => ?_), List.append_nil]
      · exact hfs
      · rcases c with c | c
        · exact z c
        · exact c (lkc.mp y)
    · refine w_ite (fun z => absurd rfl z) (fun _ => hit (Or.inr (fun c => y (lkc.mpr c))))
theorem imin_nat {a b : Nat} : imin (a : Int) (b : Int) = ((min a b : Nat) : Int) := by
  unfold imin
  by_cases c : (b : Int) < (a : Int)
  · rw [if_pos c]; omega
  · rw [if_neg c]; omega
theorem w_findChanges {e g : Nat} {k : Int} {f : Int × GS → GO} (hI : INV IT V R) (he : e < rC R 50) (hg : g < rC R 50) (K : ∀ V', same V V' LF → FS V' (lst (chh V (min (V 50 e 1).toNat (V 50 g 1).toNat) e g) (min (rN R 51 e) (rN R 51 g))) k → Wp (f (0, (V', R))) Q) : Wp ((g_X8_findChanges 0 (e : Int) (g : Int) k (V, R)).bind f) Q := by
  have hS := hI.SH
  have hF := hI.RF
  obtain ⟨b20, b30, b40, b50⟩ := hI.IN.1
  obtain ⟨⟨_, d2⟩, ⟨_, c0, c1⟩, _⟩ := hI.IE e he
  obtain ⟨⟨_, d2'⟩, ⟨_, c0', c1'⟩, _⟩ := hI.IE g hg
  obtain ⟨n, en⟩ : ∃ n : Nat, V 50 e 1 = (n : Int) := ⟨_, (Int.toNat_of_nonneg c0).symm⟩
  obtain ⟨m, em⟩ : ∃ m : Nat, V 50 g 1 = (m : Int) := ⟨_, (Int.toNat_of_nonneg c0').symm⟩
  rw [en, em, tn_c, tn_c] at K
  refine w_bind ?_
  unfold g_X8_findChanges
  refine w_gv (by omega) ?_
  ((first | ((with_reducible refine w_s hS ?_ ?_ ?_ (fun x hx => ?_)); (focus decide); (focus (first | decide | omega)); (focus (first | decide | (simp only [sl]; omega)))) | ((with_reducible refine w_m hS ?_ ?_ ?_ ?_ ?_ (fun x hx => ?_)); (focus decide); (focus (first | decide | omega)); (focus omega); (focus (first | decide | omega)); (focus (first | decide | (simp only [ml]; omega)))) | (with_reducible refine w_k (by simp (disch := omega) only [w32_id]; exact rfl) ?_; ((with_reducible refine w_s hS ?_ ?_ ?_ (fun x hx => ?_)); (focus decide); (focus (first | decide | omega)); (focus (first | decide | (simp only [sl]; omega))))) | (with_reducible refine w_k (by simp (disch := omega) only [w32_id]; exact rfl) ?_; ((with_reducible refine w_m hS ?_ ?_ ?_ ?_ ?_ (fun x hx => ?_)); (focus decide); (focus (first | decide | omega)); (focus omega); (focus (first | decide | omega)); (focus (first | decide | (simp only [ml]; omega)))))); (try simp (disch := omega) only [Int.reduceToNat, tn_c, tn8, tn8i, tn5, tn5z, tn6, tn6z, tn1, u3_ne, u3_eq, u3_ni, u3_nk, f_0_6 hF] at hx); subst hx)
  refine w_start hS (fun V1 sm1 hfs1 => ?_)
  have hI1 := hI.scr sm1.fx
  have hF1 := hI1.RF
  ((first | ((with_reducible refine w_s hS ?_ ?_ ?_ (fun x hx => ?_)); (focus decide); (focus (first | decide | omega)); (focus (first | decide | (simp only [sl]; omega)))) | ((with_reducible refine w_m hS ?_ ?_ ?_ ?_ ?_ (fun x hx => ?_)); (focus decide); (focus (first | decide | omega)); (focus omega); (focus (first | decide | omega)); (focus (first | decide | (simp only [ml]; omega)))) | (with_reducible refine w_k (by simp (disch := omega) only [w32_id]; exact rfl) ?_; ((with_reducible refine w_s hS ?_ ?_ ?_ (fun x hx => ?_)); (focus decide); (focus (first | decide | omega)); (focus (first | decide | (simp only [sl]; omega))))) | (with_reducible refine w_k (by simp (disch := omega) only [w32_id]; exact rfl) ?_; ((with_reducible refine w_m hS ?_ ?_ ?_ ?_ ?_ (fun x hx => ?_)); (focus decide); (focus (first | decide | omega)); (focus omega); (focus (first | decide | omega)); (focus (first | decide | (simp only [ml]; omega)))))); (try simp (disch := omega) only [Int.reduceToNat, tn_c, tn8, tn8i, tn5, tn5z, tn6, tn6z, tn1, u3_ne, u3_eq, u3_ni, u3_nk, f_50_0 hF1] at hx); subst hx)
  refine w_51n hS he ?_
  ((first | ((with_reducible refine w_s hS ?_ ?_ ?_ (fun x hx => ?_)); (focus decide); (focus (first | decide | omega)); (focus (first | decide | (simp only [sl]; omega)))) | ((with_reducible refine w_m hS ?_ ?_ ?_ ?_ ?_ (fun x hx => ?_)); (focus decide); (focus (first | decide | omega)); (focus omega); (focus (first | decide | omega)); (focus (first | decide | (simp only [ml]; omega)))) | (with_reducible refine w_k (by simp (disch := omega) only [w32_id]; exact rfl) ?_; ((with_reducible refine w_s hS ?_ ?_ ?_ (fun x hx => ?_)); (focus decide); (focus (first | decide | omega)); (focus (first | decide | (simp only [sl]; omega))))) | (with_reducible refine w_k (by simp (disch := omega) only [w32_id]; exact rfl) ?_; ((with_reducible refine w_m hS ?_ ?_ ?_ ?_ ?_ (fun x hx => ?_)); (focus decide); (focus (first | decide | omega)); (focus omega); (focus (first | decide | omega)); (focus (first | decide | (simp only [ml]; omega)))))); (try simp (disch := omega) only [Int.reduceToNat, tn_c, tn8, tn8i, tn5, tn5z, tn6, tn6z, tn1, u3_ne, u3_eq, u3_ni, u3_nk, f_50_0 hF1] at hx); subst hx)
  refine w_51n hS hg ?_
  ((first | ((with_reducible refine w_s hS ?_ ?_ ?_ (fun x hx => ?_)); (focus decide); (focus (first | decide | omega)); (focus (first | decide | (simp only [sl]; omega)))) | ((with_reducible refine w_m hS ?_ ?_ ?_ ?_ ?_ (fun x hx => ?_)); (focus decide); (focus (first | decide | omega)); (focus omega); (focus (first | decide | omega)); (focus (first | decide | (simp only [ml]; omega)))) | (with_reducible refine w_k (by simp (disch := omega) only [w32_id]; exact rfl) ?_; ((with_reducible refine w_s hS ?_ ?_ ?_ (fun x hx => ?_)); (focus decide); (focus (first | decide | omega)); (focus (first | decide | (simp only [sl]; omega))))) | (with_reducible refine w_k (by simp (disch := omega) only [w32_id]; exact rfl) ?_; ((with_reducible refine w_m hS ?_ ?_ ?_ ?_ ?_ (fun x hx => ?_)); (focus decide); (focus (first | decide | omega)); (focus omega); (focus (first | decide | omega)); (focus (first | decide | (simp only [ml]; omega)))))); (try simp (disch := omega) only [Int.reduceToNat, tn_c, tn8, tn8i, tn5, tn5z, tn6, tn6z, tn1, u3_ne, u3_eq, u3_ni, u3_nk, sm1.r 50 rfl, en] at hx); subst hx)
  ((first | ((with_reducible refine w_s hS ?_ ?_ ?_ (fun x hx => ?_)); (focus decide); (focus (first | decide | omega)); (focus (first | decide | (simp only [sl]; omega)))) | ((with_reducible refine w_m hS ?_ ?_ ?_ ?_ ?_ (fun x hx => ?_)); (focus decide); (focus (first | decide | omega)); (focus omega); (focus (first | decide | omega)); (focus (first | decide | (simp only [ml]; omega)))) | (with_reducible refine w_k (by simp (disch := omega) only [w32_id]; exact rfl) ?_; ((with_reducible refine w_s hS ?_ ?_ ?_ (fun x hx => ?_)); (focus decide); (focus (first | decide | omega)); (focus (first | decide | (simp only [sl]; omega))))) | (with_reducible refine w_k (by simp (disch := omega) only [w32_id]; exact rfl) ?_; ((with_reducible refine w_m hS ?_ ?_ ?_ ?_ ?_ (fun x hx => ?_)); (focus decide); (focus (first | decide | omega)); (focus omega); (focus (first | decide | omega)); (focus (first | decide | (simp only [ml]; omega)))))); (try simp (disch := omega) only [Int.reduceToNat, tn_c, tn8, tn8i, tn5, tn5z, tn6, tn6z, tn1, u3_ne, u3_eq, u3_ni, u3_nk, sm1.r 50 rfl, em] at hx); subst hx)
  rw [imin_nat, imin_nat]
  generalize hnm : min n m = nq at K ⊢
  generalize hnh : min (rN R 51 e) (rN R 51 g) = nh at K ⊢
  refine w_for nh (fun i G => ∃ V', G = (V', R) ∧ same V V' LF ∧ FS V' (lst (chh V nq e g) i) k) ?_ (i := 0) (by omega) (by omega) ⟨V1, rfl, sm1, hfs1⟩
  rintro i G hi ⟨V', rfl, sm, hfs⟩ self ih
  unfold glX8_findChanges_39
  refine w_ite (fun hx => w_ret ?_) (fun hx => ?_)
  · have ei : i = nh := by omega
    subst ei
    exact K V' sm hfs
  · have hie : i < rN R 51 e := by omega
    have hig : i < rN R 51 g := by omega
    obtain ⟨s, n', es, es', en', hk, hn, ar⟩ := hI.esh he hie
    obtain ⟨t, m', et, et', em', hk', hm, ar'⟩ := hI.esh hg hig
    have : n' = n := by omega
    subst this
    have : m' = m := by omega
    subst this
    have cl : ∀ q, q < nq → (chq V s t i q).length ≤ 5 := by
      intro q hq
      have a := eplc hI ar hn (q := q) (by omega)
      have b := eplc hI ar' hm (q := q) (by omega)
      exact chq_len a.2 b.2 a.1 b.1
    have hl1 : (lst (chh V nq e g) i).length ≤ 4800 := by
      have := lst_len (F := chh V nq e g) (m := 120) (n := i) (fun j hj => ?_)
      · omega
      · have hje : j < rN R 51 e := by omega
        have hjg : j < rN R 51 g := by omega
        obtain ⟨s, n'', es, es', en'', hk, hn, ar⟩ := hI.esh he hje
        obtain ⟨t, m'', et, et', em'', hk', hm, ar'⟩ := hI.esh hg hjg
        unfold chh
        rw [es', et']
        have := lst_len (F := chq V s t j) (m := 5) (n := nq) (fun q hq => ?_)
        · omega
        · have a := eplc hI ar hn (q := q) (by omega)
          have b := eplc hI ar' hm (q := q) (by omega)
          exact chq_len a.2 b.2 a.1 b.1
    refine w_for nq (fun q G => ∃ V3, G = (V3, R) ∧ same V V3 LF ∧ FS V3 (lst (chh V nq e g) i ++ lst (chq V s t i) q) k) ?_ (i := 0) (by omega) (by omega) ⟨V', rfl, sm, by
      show FS V' (lst (chh V nq e g) i ++ []) k
      rw [List.append_nil]; exact hfs⟩
    rintro q G hq ⟨V3, rfl, sm3, hfs3⟩ self' ih'
    have hI3 := hI.scr sm3.fx
    have hF3 := hI3.RF
    unfold glX8_findChanges_49 gjX8_findChanges_94
    refine w_ite (fun hx => ?_) (fun hx => ?_)
    · have eq : q = nq := by omega
      subst eq
      refine ih _ (by omega) ⟨V3, rfl, sm3, ?_⟩
      show FS V3 (lst (chh V q e g) i ++ lst (chq V (V 51 e i).toNat (V 51 g i).toNat i) q) k
      rw [es', et']; exact hfs3
    · have hq20 : q < rC R 20 := by omega
      have e2 := (hI.IQ.1 q hq20).1.2.2.1.1
      ((first | ((with_reducible refine w_s hS ?_ ?_ ?_ (fun x hx => ?_)); (focus decide); (focus (first | decide | omega)); (focus (first | decide | (simp only [sl]; omega)))) | ((with_reducible refine w_m hS ?_ ?_ ?_ ?_ ?_ (fun x hx => ?_)); (focus decide); (focus (first | decide | omega)); (focus omega); (focus (first | decide | omega)); (focus (first | decide | (simp only [ml]; omega)))) | (with_reducible refine w_k (by simp (disch := omega) only [w32_id]; exact rfl) ?_; ((with_reducible refine w_s hS ?_ ?_ ?_ (fun x hx => ?_)); (focus decide); (focus (first | decide | omega)); (focus (first | decide | (simp only [sl]; omega))))) | (with_reducible refine w_k (by simp (disch := omega) only [w32_id]; exact rfl) ?_; ((with_reducible refine w_m hS ?_ ?_ ?_ ?_ ?_ (fun x hx => ?_)); (focus decide); (focus (first | decide | omega)); (focus omega); (focus (first | decide | omega)); (focus (first | decide | (simp only [ml]; omega)))))); (try simp (disch := omega) only [Int.reduceToNat, tn_c, tn8, tn8i, tn5, tn5z, tn6, tn6z, tn1, u3_ne, u3_eq, u3_ni, u3_nk, f_0_0 hF3] at hx); subst hx)
      ((first | ((with_reducible refine w_s hS ?_ ?_ ?_ (fun x hx => ?_)); (focus decide); (focus (first | decide | omega)); (focus (first | decide | (simp only [sl]; omega)))) | ((with_reducible refine w_m hS ?_ ?_ ?_ ?_ ?_ (fun x hx => ?_)); (focus decide); (focus (first | decide | omega)); (focus omega); (focus (first | decide | omega)); (focus (first | decide | (simp only [ml]; omega)))) | (with_reducible refine w_k (by simp (disch := omega) only [w32_id]; exact rfl) ?_; ((with_reducible refine w_s hS ?_ ?_ ?_ (fun x hx => ?_)); (focus decide); (focus (first | decide | omega)); (focus (first | decide | (simp only [sl]; omega))))) | (with_reducible refine w_k (by simp (disch := omega) only [w32_id]; exact rfl) ?_; ((with_reducible refine w_m hS ?_ ?_ ?_ ?_ ?_ (fun x hx => ?_)); (focus decide); (focus (first | decide | omega)); (focus omega); (focus (first | decide | omega)); (focus (first | decide | (simp only [ml]; omega)))))); (try simp (disch := omega) only [Int.reduceToNat, tn_c, tn8, tn8i, tn5, tn5z, tn6, tn6z, tn1, u3_ne, u3_eq, u3_ni, u3_nk, f_1_0 hF3] at hx); subst hx)
      ((first | ((with_reducible refine w_s hS ?_ ?_ ?_ (fun x hx => ?_)); (focus decide); (focus (first | decide | omega)); (focus (first | decide | (simp only [sl]; omega)))) | ((with_reducible refine w_m hS ?_ ?_ ?_ ?_ ?_ (fun x hx => ?_)); (focus decide); (focus (first | decide | omega)); (focus omega); (focus (first | decide | omega)); (focus (first | decide | (simp only [ml]; omega)))) | (with_reducible refine w_k (by simp (disch := omega) only [w32_id]; exact rfl) ?_; ((with_reducible refine w_s hS ?_ ?_ ?_ (fun x hx => ?_)); (focus decide); (focus (first | decide | omega)); (focus (first | decide | (simp only [sl]; omega))))) | (with_reducible refine w_k (by simp (disch := omega) only [w32_id]; exact rfl) ?_; ((with_reducible refine w_m hS ?_ ?_ ?_ ?_ ?_ (fun x hx => ?_)); (focus decide); (focus (first | decide | omega)); (focus omega); (focus (first | decide | omega)); (focus (first | decide | (simp only [ml]; omega)))))); (try simp (disch := omega) only [Int.reduceToNat, tn_c, tn8, tn8i, tn5, tn5z, tn6, tn6z, tn1, u3_ne, u3_eq, u3_ni, u3_nk, l_2 hI3.IL] at hx); subst hx)
      ((first | ((with_reducible refine w_s hS ?_ ?_ ?_ (fun x hx => ?_)); (focus decide); (focus (first | decide | omega)); (focus (first | decide | (simp only [sl]; omega)))) | ((with_reducible refine w_m hS ?_ ?_ ?_ ?_ ?_ (fun x hx => ?_)); (focus decide); (focus (first | decide | omega)); (focus omega); (focus (first | decide | omega)); (focus (first | decide | (simp only [ml]; omega)))) | (with_reducible refine w_k (by simp (disch := omega) only [w32_id]; exact rfl) ?_; ((with_reducible refine w_s hS ?_ ?_ ?_ (fun x hx => ?_)); (focus decide); (focus (first | decide | omega)); (focus (first | decide | (simp only [sl]; omega))))) | (with_reducible refine w_k (by simp (disch := omega) only [w32_id]; exact rfl) ?_; ((with_reducible refine w_m hS ?_ ?_ ?_ ?_ ?_ (fun x hx => ?_)); (focus decide); (focus (first | decide | omega)); (focus omega); (focus (first | decide | omega)); (focus (first | decide | (simp only [ml]; omega)))))); (try simp (disch := omega) only [Int.reduceToNat, tn_c, tn8, tn8i, tn5, tn5z, tn6, tn6z, tn1, u3_ne, u3_eq, u3_ni, u3_nk, sm3.r 20 rfl, e2] at hx); subst hx)
      refine w_ite (fun z => ?_) (fun z => ?_)
      · refine ih' _ (by omega) ⟨V3, rfl, sm3, ?_⟩
        show FS V3 (_ ++ (lst _ q ++ chq V s t i q)) k
        have : chq V s t i q = [] := by unfold chq; rw [if_pos z]
        rw [this, List.append_nil]; exact hfs3
      · have m0 : V 103 0 q = 0 := by omega
        have a := eplc hI ar hn (q := q) (by omega)
        have b := eplc hI ar' hm (q := q) (by omega)
        have ec : ∀ s, plc V3 s (V3 102 0 q) = plc V s (V 102 0 q) := by intro s; unfold plc; rw [sm3.r 102 rfl, sm3.r 32 rfl]
        have l2 := lst_len (F := chq V s t i) (m := 5) (n := q) (fun q' hq' => cl q' (by omega))
        ((first | ((with_reducible refine w_s hS ?_ ?_ ?_ (fun x hx => ?_)); (focus decide); (focus (first | decide | omega)); (focus (first | decide | (simp only [sl]; omega)))) | ((with_reducible refine w_m hS ?_ ?_ ?_ ?_ ?_ (fun x hx => ?_)); (focus decide); (focus (first | decide | omega)); (focus omega); (focus (first | decide | omega)); (focus (first | decide | (simp only [ml]; omega)))) | (with_reducible refine w_k (by simp (disch := omega) only [w32_id]; exact rfl) ?_; ((with_reducible refine w_s hS ?_ ?_ ?_ (fun x hx => ?_)); (focus decide); (focus (first | decide | omega)); (focus (first | decide | (simp only [sl]; omega))))) | (with_reducible refine w_k (by simp (disch := omega) only [w32_id]; exact rfl) ?_; ((with_reducible refine w_m hS ?_ ?_ ?_ ?_ ?_ (fun x hx => ?_)); (focus decide); (focus (first | decide | omega)); (focus omega); (focus (first | decide | omega)); (focus (first | decide | (simp only [ml]; omega)))))); (try simp (disch := omega) only [Int.reduceToNat, tn_c, tn8, tn8i, tn5, tn5z, tn6, tn6z, tn1, u3_ne, u3_eq, u3_ni, u3_nk, f_50_0 hF3] at hx); subst hx)
        refine w_51 hS he hie ?_
        ((first | ((with_reducible refine w_s hS ?_ ?_ ?_ (fun x hx => ?_)); (focus decide); (focus (first | decide | omega)); (focus (first | decide | (simp only [sl]; omega)))) | ((with_reducible refine w_m hS ?_ ?_ ?_ ?_ ?_ (fun x hx => ?_)); (focus decide); (focus (first | decide | omega)); (focus omega); (focus (first | decide | omega)); (focus (first | decide | (simp only [ml]; omega)))) | (with_reducible refine w_k (by simp (disch := omega) only [w32_id]; exact rfl) ?_; ((with_reducible refine w_s hS ?_ ?_ ?_ (fun x hx => ?_)); (focus decide); (focus (first | decide | omega)); (focus (first | decide | (simp only [sl]; omega))))) | (with_reducible refine w_k (by simp (disch := omega) only [w32_id]; exact rfl) ?_; ((with_reducible refine w_m hS ?_ ?_ ?_ ?_ ?_ (fun x hx => ?_)); (focus decide); (focus (first | decide | omega)); (focus omega); (focus (first | decide | omega)); (focus (first | decide | (simp only [ml]; omega)))))); (try simp (disch := omega) only [Int.reduceToNat, tn_c, tn8, tn8i, tn5, tn5z, tn6, tn6z, tn1, u3_ne, u3_eq, u3_ni, u3_nk, f_50_0 hF3] at hx); subst hx)
        refine w_51 hS hg hig ?_
        rw [sm3.r 51 rfl, sm3.r 51 rfl, es, et]
        refine w_meetChanges hI3 hq20 (by rw [sm3.r 103 rfl]; exact m0) (hk.cg (V' := V3) (sm3.r 31 rfl)) (hk'.cg (V' := V3) (sm3.r 31 rfl)) (by omega) (by omega) (by rw [ec]; exact a.2) (by rw [ec]; exact b.2) (by rw [ec]; exact a.1) (by rw [ec]; exact b.1) hfs3 (by rw [List.length_append]; omega) (fun V4 sm4 hfs4 => ?_)
        refine ih' _ (by omega) ⟨V4, rfl, sm3.tr sm4, ?_⟩
        show FS V4 (_ ++ (lst _ q ++ chq V s t i q)) k
        rw [← chq_same sm3 rfl, ← List.append_assoc]; exact hfs4
end Changes
