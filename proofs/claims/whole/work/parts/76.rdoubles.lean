section Doubles
variable {V : GV} {R : GR} {Q : Int → GS → Prop}
def RS2 (V : GV) (m : Int) (L : List H3) (k : Int) : Prop := m = (L.length : Int) ∧ ∀ n : Nat, k = (n : Int) → n < L.length → V 100 0 46 = (L.getD n (0, 0, 0)).1 ∧ V 100 0 47 = (L.getD n (0, 0, 0)).2.1
theorem rs2_meet {m : Int} {L : List H3} {k a b c : Int} (hr : RS2 V m L k) (hne : m ≠ k) : RS2 V (m + 1) (L ++ [(a, b, c)]) k := by
  obtain ⟨f1, f2⟩ := hr
  refine ⟨by rw [List.length_append, f1]; simp, fun n e h => ?_⟩
  rw [List.length_append] at h
  have h : n < L.length := by
    simp only [List.length_cons, List.length_nil] at h
    omega
  rw [getD_app1 h]
  exact f2 n e h
theorem rs2_meet' {m : Int} {L : List H3} {k a b c : Int} (hr : m = (L.length : Int)) (he : m = k) (e1 : V 100 0 46 = a) (e2 : V 100 0 47 = b) : RS2 V (m + 1) (L ++ [(a, b, c)]) k := by
  refine ⟨by rw [List.length_append, hr]; simp, fun n e h => ?_⟩
  have e' : n = L.length := by omega
  subst e'
  rw [getD_app2]
  exact ⟨e1, e2⟩
theorem w_areDouble {h g : Nat} {f : Int × GS → GO} (hI : INV IT V R) (hh : h < rC R 30) (hg : g < rC R 30)
  (k1 : mkd V R ∧ dbl V R (V 30 h 0).toNat (V 30 g 0).toNat → Wp (f (1, (V, R))) Q) (k0 : ¬ (mkd V R ∧ dbl V R (V 30 h 0).toNat (V 30 g 0).toNat) → Wp (f (0, (V, R))) Q) : Wp ((g_X9_areDouble 0 (h : Int) (g : Int) (V, R)).bind f) Q := by
  have hS := hI.SH
  have hF := hI.RF
  obtain ⟨b20, b30, b40, b50⟩ := hI.IN.1
  have n1 := hI.IN.2.1.1
  obtain ⟨s, e30, es, hk⟩ := hI.sht hh
  obtain ⟨t, t30, et, ht⟩ := hI.sht hg
  have pe := hI.pers hh
  rw [es] at pe
  rw [es, et] at k1 k0
  -- the second loop
  have second : ∀ (any isl : Int), (any = 0 ∨ any = 1) → (any = 1 ↔ mkd V R) → (isl = 0 → ¬ dbl V R s t) → (isl ≠ 0 → ∀ q, q < rC R 20 → V 107 0 q = 1 → lk V s t (5 * q)) → Wp (gjX9_areDouble_51 0 (h : Int) (g : Int) any isl (V, R)) (fun r G => Wp (f (r, G)) Q) := by
    intro any isl a01 am i0 i1
    have last0 : ∀ any : Int, Wp (gjX9_areDouble_152 any 0 (V, R)) (fun r G => r = 0 ∧ G = (V, R)) := by
      intro any
      unfold gjX9_areDouble_152
      exact w_ite (fun _ => w_ret ⟨rfl, rfl⟩) (fun _ => w_ite (fun _ => w_ret ⟨rfl, rfl⟩) (fun z => absurd rfl z))
    unfold gjX9_areDouble_51
    refine w_for2 (rC R 20) (fun i x G => G = (V, R) ∧ (x = 0 → ¬ dbl V R s t) ∧ (x ≠ 0 → (∀ q, q < rC R 20 → V 107 0 q = 1 → lk V s t (5 * q)) ∧ ∀ q', q' < i → V 103 0 q' = 0 → ∀ r : Nat, V 102 0 q' = (r : Int) → V 107 0 r = 1 → ∀ p : Nat, (p : Int) < V 32 s (5 * r) → lk V s t (5 * q' + p))) ?_ (i := 0) (by omega) (by omega) ⟨rfl, i0, fun z => ⟨i1 z, fun q' hq' => absurd hq' (by omega)⟩⟩
    rintro i x G hi ⟨rfl, x0, x1⟩ self ih
    unfold glX9_areDouble_54 gjX9_areDouble_146
    ((first | ((with_reducible refine w_s hS ?_ ?_ ?_ (fun x hx => ?_)); (focus decide); (focus (first | decide | omega)); (focus (first | decide | (simp only [sl]; omega)))) | ((with_reducible refine w_m hS ?_ ?_ ?_ ?_ ?_ (fun x hx => ?_)); (focus decide); (focus (first | decide | omega)); (focus omega); (focus (first | decide | omega)); (focus (first | decide | (simp only [ml]; omega)))) | (with_reducible refine w_k (by simp (disch := omega) only [w32_id]; exact rfl) ?_; ((with_reducible refine w_s hS ?_ ?_ ?_ (fun x hx => ?_)); (focus decide); (focus (first | decide | omega)); (focus (first | decide | (simp only [sl]; omega))))) | (with_reducible refine w_k (by simp (disch := omega) only [w32_id]; exact rfl) ?_; ((with_reducible refine w_m hS ?_ ?_ ?_ ?_ ?_ (fun x hx => ?_)); (focus decide); (focus (first | decide | omega)); (focus omega); (focus (first | decide | omega)); (focus (first | decide | (simp only [ml]; omega)))))); (try simp (disch := omega) only [Int.reduceToNat, tn_c, tn8, tn8i, tn5, tn5z, tn6, tn6z, tn1, u3_ne, u3_eq, u3_ni, u3_nk, n1] at hx); subst hx)
    refine w_ite (fun hx => ?_) (fun hx => ?_)
    · have ei : i = rC R 20 := by omega
      subst ei
      unfold gjX9_areDouble_152
      refine w_ite (fun z => w_ret (k0 (fun y => ?_))) (fun z => w_ite (fun y => w_ret (k0 (fun w => x0 y w.2))) (fun y => w_ret (k1 ⟨am.mp (by omega), ?_⟩)))
      · have := am.mpr y.1; omega
      · obtain ⟨X1, X2⟩ := x1 y
        exact fun q hq mq => ⟨X1 q hq mq, fun k5 q' hq' r m0 p hp => X2 q' hq' m0 q r mq p hp⟩
    · have hq : i < rC R 20 := by omega
      refine w_ite (fun z => ?_) (fun z => ?_)
      · subst z
        refine w_mono (last0 any) ?_
        rintro r G ⟨rfl, rfl⟩
        exact k0 (fun w => x0 rfl w.2)
      · obtain ⟨X1, X2⟩ := x1 z
        have skip : (V 103 0 i = 0 → ∀ r : Nat, V 102 0 i = (r : Int) → V 107 0 r = 1 → False) → Wp (self x (w32 ((i : Int) + 1)) (V, R)) (fun r G => Wp (f (r, G)) Q) := by
          intro sk
          refine ih _ _ hq ⟨rfl, x0, fun _ => ⟨X1, fun q' hq' m0 r er mr p hp => ?_⟩⟩
          by_cases e : q' = i
          · subst e; exact absurd (sk m0 r er mr) id
          · exact X2 q' (by omega) m0 r er mr p hp
        ((first | ((with_reducible refine w_s hS ?_ ?_ ?_ (fun x hx => ?_)); (focus decide); (focus (first | decide | omega)); (focus (first | decide | (simp only [sl]; omega)))) | ((with_reducible refine w_m hS ?_ ?_ ?_ ?_ ?_ (fun x hx => ?_)); (focus decide); (focus (first | decide | omega)); (focus omega); (focus (first | decide | omega)); (focus (first | decide | (simp only [ml]; omega)))) | (with_reducible refine w_k (by simp (disch := omega) only [w32_id]; exact rfl) ?_; ((with_reducible refine w_s hS ?_ ?_ ?_ (fun x hx => ?_)); (focus decide); (focus (first | decide | omega)); (focus (first | decide | (simp only [sl]; omega))))) | (with_reducible refine w_k (by simp (disch := omega) only [w32_id]; exact rfl) ?_; ((with_reducible refine w_m hS ?_ ?_ ?_ ?_ ?_ (fun x hx => ?_)); (focus decide); (focus (first | decide | omega)); (focus omega); (focus (first | decide | omega)); (focus (first | decide | (simp only [ml]; omega)))))); (try simp (disch := omega) only [Int.reduceToNat, tn_c, tn8, tn8i, tn5, tn5z, tn6, tn6z, tn1, u3_ne, u3_eq, u3_ni, u3_nk, f_100_2 hF] at hx); subst hx)
        ((first | ((with_reducible refine w_s hS ?_ ?_ ?_ (fun x hx => ?_)); (focus decide); (focus (first | decide | omega)); (focus (first | decide | (simp only [sl]; omega)))) | ((with_reducible refine w_m hS ?_ ?_ ?_ ?_ ?_ (fun x hx => ?_)); (focus decide); (focus (first | decide | omega)); (focus omega); (focus (first | decide | omega)); (focus (first | decide | (simp only [ml]; omega)))) | (with_reducible refine w_k (by simp (disch := omega) only [w32_id]; exact rfl) ?_; ((with_reducible refine w_s hS ?_ ?_ ?_ (fun x hx => ?_)); (focus decide); (focus (first | decide | omega)); (focus (first | decide | (simp only [sl]; omega))))) | (with_reducible refine w_k (by simp (disch := omega) only [w32_id]; exact rfl) ?_; ((with_reducible refine w_m hS ?_ ?_ ?_ ?_ ?_ (fun x hx => ?_)); (focus decide); (focus (first | decide | omega)); (focus omega); (focus (first | decide | omega)); (focus (first | decide | (simp only [ml]; omega)))))); (try simp (disch := omega) only [Int.reduceToNat, tn_c, tn8, tn8i, tn5, tn5z, tn6, tn6z, tn1, u3_ne, u3_eq, u3_ni, u3_nk, tn_c] at hx); subst hx)
        refine w_ite (fun y => skip (fun _ r er _ => by omega)) (fun y => ?_)
        obtain ⟨r, er, _, hr, k5, r0, rt⟩ := hI.IQ.ro hq (by omega)
        ((first | ((with_reducible refine w_s hS ?_ ?_ ?_ (fun x hx => ?_)); (focus decide); (focus (first | decide | omega)); (focus (first | decide | (simp only [sl]; omega)))) | ((with_reducible refine w_m hS ?_ ?_ ?_ ?_ ?_ (fun x hx => ?_)); (focus decide); (focus (first | decide | omega)); (focus omega); (focus (first | decide | omega)); (focus (first | decide | (simp only [ml]; omega)))) | (with_reducible refine w_k (by simp (disch := omega) only [w32_id]; exact rfl) ?_; ((with_reducible refine w_s hS ?_ ?_ ?_ (fun x hx => ?_)); (focus decide); (focus (first | decide | omega)); (focus (first | decide | (simp only [sl]; omega))))) | (with_reducible refine w_k (by simp (disch := omega) only [w32_id]; exact rfl) ?_; ((with_reducible refine w_m hS ?_ ?_ ?_ ?_ ?_ (fun x hx => ?_)); (focus decide); (focus (first | decide | omega)); (focus omega); (focus (first | decide | omega)); (focus (first | decide | (simp only [ml]; omega)))))); (try simp (disch := omega) only [Int.reduceToNat, tn_c, tn8, tn8i, tn5, tn5z, tn6, tn6z, tn1, u3_ne, u3_eq, u3_ni, u3_nk, f_100_3 hF] at hx); subst hx)
        ((first | ((with_reducible refine w_s hS ?_ ?_ ?_ (fun x hx => ?_)); (focus decide); (focus (first | decide | omega)); (focus (first | decide | (simp only [sl]; omega)))) | ((with_reducible refine w_m hS ?_ ?_ ?_ ?_ ?_ (fun x hx => ?_)); (focus decide); (focus (first | decide | omega)); (focus omega); (focus (first | decide | omega)); (focus (first | decide | (simp only [ml]; omega)))) | (with_reducible refine w_k (by simp (disch := omega) only [w32_id]; exact rfl) ?_; ((with_reducible refine w_s hS ?_ ?_ ?_ (fun x hx => ?_)); (focus decide); (focus (first | decide | omega)); (focus (first | decide | (simp only [sl]; omega))))) | (with_reducible refine w_k (by simp (disch := omega) only [w32_id]; exact rfl) ?_; ((with_reducible refine w_m hS ?_ ?_ ?_ ?_ ?_ (fun x hx => ?_)); (focus decide); (focus (first | decide | omega)); (focus omega); (focus (first | decide | omega)); (focus (first | decide | (simp only [ml]; omega)))))); (try simp (disch := omega) only [Int.reduceToNat, tn_c, tn8, tn8i, tn5, tn5z, tn6, tn6z, tn1, u3_ne, u3_eq, u3_ni, u3_nk, tn_c] at hx); subst hx)
        refine w_ite (fun m => skip (fun m0 => absurd m0 m)) (fun m => ?_)
        have m0 : V 103 0 i = 0 := by omega
        ((first | ((with_reducible refine w_s hS ?_ ?_ ?_ (fun x hx => ?_)); (focus decide); (focus (first | decide | omega)); (focus (first | decide | (simp only [sl]; omega)))) | ((with_reducible refine w_m hS ?_ ?_ ?_ ?_ ?_ (fun x hx => ?_)); (focus decide); (focus (first | decide | omega)); (focus omega); (focus (first | decide | omega)); (focus (first | decide | (simp only [ml]; omega)))) | (with_reducible refine w_k (by simp (disch := omega) only [w32_id]; exact rfl) ?_; ((with_reducible refine w_s hS ?_ ?_ ?_ (fun x hx => ?_)); (focus decide); (focus (first | decide | omega)); (focus (first | decide | (simp only [sl]; omega))))) | (with_reducible refine w_k (by simp (disch := omega) only [w32_id]; exact rfl) ?_; ((with_reducible refine w_m hS ?_ ?_ ?_ ?_ ?_ (fun x hx => ?_)); (focus decide); (focus (first | decide | omega)); (focus omega); (focus (first | decide | omega)); (focus (first | decide | (simp only [ml]; omega)))))); (try simp (disch := omega) only [Int.reduceToNat, tn_c, tn8, tn8i, tn5, tn5z, tn6, tn6z, tn1, u3_ne, u3_eq, u3_ni, u3_nk, f_100_7 hF] at hx); subst hx)
        ((first | ((with_reducible refine w_s hS ?_ ?_ ?_ (fun x hx => ?_)); (focus decide); (focus (first | decide | omega)); (focus (first | decide | (simp only [sl]; omega)))) | ((with_reducible refine w_m hS ?_ ?_ ?_ ?_ ?_ (fun x hx => ?_)); (focus decide); (focus (first | decide | omega)); (focus omega); (focus (first | decide | omega)); (focus (first | decide | (simp only [ml]; omega)))) | (with_reducible refine w_k (by simp (disch := omega) only [w32_id]; exact rfl) ?_; ((with_reducible refine w_s hS ?_ ?_ ?_ (fun x hx => ?_)); (focus decide); (focus (first | decide | omega)); (focus (first | decide | (simp only [sl]; omega))))) | (with_reducible refine w_k (by simp (disch := omega) only [w32_id]; exact rfl) ?_; ((with_reducible refine w_m hS ?_ ?_ ?_ ?_ ?_ (fun x hx => ?_)); (focus decide); (focus (first | decide | omega)); (focus omega); (focus (first | decide | omega)); (focus (first | decide | (simp only [ml]; omega)))))); (try simp (disch := omega) only [Int.reduceToNat, tn_c, tn8, tn8i, tn5, tn5z, tn6, tn6z, tn1, u3_ne, u3_eq, u3_ni, u3_nk, f_100_2 hF] at hx); subst hx)
        ((first | ((with_reducible refine w_s hS ?_ ?_ ?_ (fun x hx => ?_)); (focus decide); (focus (first | decide | omega)); (focus (first | decide | (simp only [sl]; omega)))) | ((with_reducible refine w_m hS ?_ ?_ ?_ ?_ ?_ (fun x hx => ?_)); (focus decide); (focus (first | decide | omega)); (focus omega); (focus (first | decide | omega)); (focus (first | decide | (simp only [ml]; omega)))) | (with_reducible refine w_k (by simp (disch := omega) only [w32_id]; exact rfl) ?_; ((with_reducible refine w_s hS ?_ ?_ ?_ (fun x hx => ?_)); (focus decide); (focus (first | decide | omega)); (focus (first | decide | (simp only [sl]; omega))))) | (with_reducible refine w_k (by simp (disch := omega) only [w32_id]; exact rfl) ?_; ((with_reducible refine w_m hS ?_ ?_ ?_ ?_ ?_ (fun x hx => ?_)); (focus decide); (focus (first | decide | omega)); (focus omega); (focus (first | decide | omega)); (focus (first | decide | (simp only [ml]; omega)))))); (try simp (disch := omega) only [Int.reduceToNat, tn_c, tn8, tn8i, tn5, tn5z, tn6, tn6z, tn1, u3_ne, u3_eq, u3_ni, u3_nk, er] at hx); subst hx)
        ((first | ((with_reducible refine w_s hS ?_ ?_ ?_ (fun x hx => ?_)); (focus decide); (focus (first | decide | omega)); (focus (first | decide | (simp only [sl]; omega)))) | ((with_reducible refine w_m hS ?_ ?_ ?_ ?_ ?_ (fun x hx => ?_)); (focus decide); (focus (first | decide | omega)); (focus omega); (focus (first | decide | omega)); (focus (first | decide | (simp only [ml]; omega)))) | (with_reducible refine w_k (by simp (disch := omega) only [w32_id]; exact rfl) ?_; ((with_reducible refine w_s hS ?_ ?_ ?_ (fun x hx => ?_)); (focus decide); (focus (first | decide | omega)); (focus (first | decide | (simp only [sl]; omega))))) | (with_reducible refine w_k (by simp (disch := omega) only [w32_id]; exact rfl) ?_; ((with_reducible refine w_m hS ?_ ?_ ?_ ?_ ?_ (fun x hx => ?_)); (focus decide); (focus (first | decide | omega)); (focus omega); (focus (first | decide | omega)); (focus (first | decide | (simp only [ml]; omega)))))); (try simp (disch := omega) only [Int.reduceToNat, tn_c, tn8, tn8i, tn5, tn5z, tn6, tn6z, tn1, u3_ne, u3_eq, u3_ni, u3_nk, tn_c] at hx); subst hx)
        obtain ⟨_, mk0, mk1⟩ := (hI.IQ.1 r hr).1.2.2.2.2.2.2.1
        refine w_ite (fun w => skip (fun _ r' er' mr => ?_)) (fun w => ?_)
        · have : r' = r := by omega
          subst this; omega
        · obtain ⟨p0, p5⟩ := pe r hr k5
          obtain ⟨n, en⟩ : ∃ n : Nat, V 32 s (5 * r) = (n : Int) := ⟨_, (Int.toNat_of_nonneg p0).symm⟩
          refine w_for2 (n + 1) (fun j y G => 1 ≤ j ∧ G = (V, R) ∧ (y = 0 → ¬ dbl V R s t) ∧ (y ≠ 0 → ∀ p, p + 1 < j → lk V s t (5 * i + p))) ?_ (i := 1) (by omega) (by omega) ⟨Nat.le_refl _, rfl, x0, fun _ p hp => absurd hp (by omega)⟩
          rintro j y G hj ⟨hj1, rfl, y0, y1⟩ self' ih'
          unfold glX9_areDouble_106 gjX9_areDouble_146
          ((first | ((with_reducible refine w_s hS ?_ ?_ ?_ (fun x hx => ?_)); (focus decide); (focus (first | decide | omega)); (focus (first | decide | (simp only [sl]; omega)))) | ((with_reducible refine w_m hS ?_ ?_ ?_ ?_ ?_ (fun x hx => ?_)); (focus decide); (focus (first | decide | omega)); (focus omega); (focus (first | decide | omega)); (focus (first | decide | (simp only [ml]; omega)))) | (with_reducible refine w_k (by simp (disch := omega) only [w32_id]; exact rfl) ?_; ((with_reducible refine w_s hS ?_ ?_ ?_ (fun x hx => ?_)); (focus decide); (focus (first | decide | omega)); (focus (first | decide | (simp only [sl]; omega))))) | (with_reducible refine w_k (by simp (disch := omega) only [w32_id]; exact rfl) ?_; ((with_reducible refine w_m hS ?_ ?_ ?_ ?_ ?_ (fun x hx => ?_)); (focus decide); (focus (first | decide | omega)); (focus omega); (focus (first | decide | omega)); (focus (first | decide | (simp only [ml]; omega)))))); (try simp (disch := omega) only [Int.reduceToNat, tn_c, tn8, tn8i, tn5, tn5z, tn6, tn6z, tn1, u3_ne, u3_eq, u3_ni, u3_nk, f_100_2 hF] at hx); subst hx)
          ((first | ((with_reducible refine w_s hS ?_ ?_ ?_ (fun x hx => ?_)); (focus decide); (focus (first | decide | omega)); (focus (first | decide | (simp only [sl]; omega)))) | ((with_reducible refine w_m hS ?_ ?_ ?_ ?_ ?_ (fun x hx => ?_)); (focus decide); (focus (first | decide | omega)); (focus omega); (focus (first | decide | omega)); (focus (first | decide | (simp only [ml]; omega)))) | (with_reducible refine w_k (by simp (disch := omega) only [w32_id]; exact rfl) ?_; ((with_reducible refine w_s hS ?_ ?_ ?_ (fun x hx => ?_)); (focus decide); (focus (first | decide | omega)); (focus (first | decide | (simp only [sl]; omega))))) | (with_reducible refine w_k (by simp (disch := omega) only [w32_id]; exact rfl) ?_; ((with_reducible refine w_m hS ?_ ?_ ?_ ?_ ?_ (fun x hx => ?_)); (focus decide); (focus (first | decide | omega)); (focus omega); (focus (first | decide | omega)); (focus (first | decide | (simp only [ml]; omega)))))); (try simp (disch := omega) only [Int.reduceToNat, tn_c, tn8, tn8i, tn5, tn5z, tn6, tn6z, tn1, u3_ne, u3_eq, u3_ni, u3_nk, er] at hx); subst hx)
          refine w_rp hI hh hr k5 es (fun _ _ => ?_)
          dsimp only
          rw [en]
          have go : ((y ≠ 0) → ∀ p : Nat, (p : Int) < (n : Int) → lk V s t (5 * i + p)) → Wp (self y (w32 ((i : Int) + 1)) (V, R)) (fun r G => Wp (f (r, G)) Q) := by
            intro Y
            refine ih _ _ hq ⟨rfl, y0, fun yn => ⟨X1, fun q' hq' m0' r' er' mr p hp => ?_⟩⟩
            by_cases e : q' = i
            · subst e
              have : r' = r := by omega
              subst this
              rw [en] at hp
              exact Y yn p hp
            · exact X2 q' (by omega) m0' r' er' mr p hp
          refine w_ite (fun hx' => go (fun yn p hp => y1 yn p (by omega))) (fun hx' => w_ite (fun yz => go (fun yn => absurd yz yn)) (fun yz => ?_))
          obtain ⟨p, rfl⟩ : ∃ p, j = p + 1 := ⟨j - 1, by omega⟩
          refine w_areLike (p := p) hI hh hg hq m0 (Or.inr ⟨by omega, rfl, by omega⟩) (fun A => ?_) (fun A => ?_)
          · rw [es, et] at A
            refine ih' _ _ (by omega) ⟨by omega, rfl, fun z => absurd (show (1 : Int) = 0 from z) (by decide), fun _ p' hp' => ?_⟩
            by_cases e : p' = p
            · subst e; exact A
            · exact y1 yz p' (by omega)
          · rw [es, et] at A
            refine ih' _ _ (by omega) ⟨by omega, rfl, fun _ D => ?_, fun z => absurd rfl z⟩
            exact A ((D r hr (by omega)).2 k5 i hq er m0 p (by rw [en]; omega))
  refine w_bind ?_
  unfold g_X9_areDouble
  refine w_gv (by omega) ?_
  refine w_for3 (rC R 20) (fun i a x G => G = (V, R) ∧ (a = 0 ∨ a = 1) ∧ (a = 1 ↔ ∃ q, q < i ∧ V 107 0 q = 1) ∧ (x = 0 → ¬ dbl V R s t ∧ a = 1) ∧ (x ≠ 0 → ∀ q, q < i → V 107 0 q = 1 → lk V s t (5 * q))) ?_ (i := 0) (by omega) (by omega) ⟨rfl, Or.inl rfl, ⟨fun z => absurd z (by decide), fun ⟨q, hq, _⟩ => absurd hq (by omega)⟩, fun z => absurd (show (1 : Int) = 0 from z) (by decide), fun _ q hq => absurd hq (by omega)⟩
  rintro i a x G hi ⟨rfl, a01, am, x0, x1⟩ self ih
  unfold glX9_areDouble_8 gjX9_areDouble_45
  ((first | ((with_reducible refine w_s hS ?_ ?_ ?_ (fun x hx => ?_)); (focus decide); (focus (first | decide | omega)); (focus (first | decide | (simp only [sl]; omega)))) | ((with_reducible refine w_m hS ?_ ?_ ?_ ?_ ?_ (fun x hx => ?_)); (focus decide); (focus (first | decide | omega)); (focus omega); (focus (first | decide | omega)); (focus (first | decide | (simp only [ml]; omega)))) | (with_reducible refine w_k (by simp (disch := omega) only [w32_id]; exact rfl) ?_; ((with_reducible refine w_s hS ?_ ?_ ?_ (fun x hx => ?_)); (focus decide); (focus (first | decide | omega)); (focus (first | decide | (simp only [sl]; omega))))) | (with_reducible refine w_k (by simp (disch := omega) only [w32_id]; exact rfl) ?_; ((with_reducible refine w_m hS ?_ ?_ ?_ ?_ ?_ (fun x hx => ?_)); (focus decide); (focus (first | decide | omega)); (focus omega); (focus (first | decide | omega)); (focus (first | decide | (simp only [ml]; omega)))))); (try simp (disch := omega) only [Int.reduceToNat, tn_c, tn8, tn8i, tn5, tn5z, tn6, tn6z, tn1, u3_ne, u3_eq, u3_ni, u3_nk, n1] at hx); subst hx)
  refine w_ite (fun hx => ?_) (fun hx => ?_)
  · have ei : i = rC R 20 := by omega
    subst ei
    exact second a x a01 am (fun z => (x0 z).1) x1
  · have hq : i < rC R 20 := by omega
    refine w_ite (fun z => ?_) (fun z => ?_)
    · refine second a x a01 ⟨fun w => ?_, fun _ => (x0 z).2⟩ (fun z => (x0 z).1) (fun w => absurd z w)
      obtain ⟨q, hq', e⟩ := am.mp w
      exact ⟨q, by omega, e⟩
    · obtain ⟨_, mk0, mk1⟩ := (hI.IQ.1 i hq).1.2.2.2.2.2.2.1
      have mq := (hI.IQ.1 i hq).1.2.2.2.2.2.2.2.2.2.1
      ((first | ((with_reducible refine w_s hS ?_ ?_ ?_ (fun x hx => ?_)); (focus decide); (focus (first | decide | omega)); (focus (first | decide | (simp only [sl]; omega)))) | ((with_reducible refine w_m hS ?_ ?_ ?_ ?_ ?_ (fun x hx => ?_)); (focus decide); (focus (first | decide | omega)); (focus omega); (focus (first | decide | omega)); (focus (first | decide | (simp only [ml]; omega)))) | (with_reducible refine w_k (by simp (disch := omega) only [w32_id]; exact rfl) ?_; ((with_reducible refine w_s hS ?_ ?_ ?_ (fun x hx => ?_)); (focus decide); (focus (first | decide | omega)); (focus (first | decide | (simp only [sl]; omega))))) | (with_reducible refine w_k (by simp (disch := omega) only [w32_id]; exact rfl) ?_; ((with_reducible refine w_m hS ?_ ?_ ?_ ?_ ?_ (fun x hx => ?_)); (focus decide); (focus (first | decide | omega)); (focus omega); (focus (first | decide | omega)); (focus (first | decide | (simp only [ml]; omega)))))); (try simp (disch := omega) only [Int.reduceToNat, tn_c, tn8, tn8i, tn5, tn5z, tn6, tn6z, tn1, u3_ne, u3_eq, u3_ni, u3_nk, f_100_7 hF] at hx); subst hx)
      ((first | ((with_reducible refine w_s hS ?_ ?_ ?_ (fun x hx => ?_)); (focus decide); (focus (first | decide | omega)); (focus (first | decide | (simp only [sl]; omega)))) | ((with_reducible refine w_m hS ?_ ?_ ?_ ?_ ?_ (fun x hx => ?_)); (focus decide); (focus (first | decide | omega)); (focus omega); (focus (first | decide | omega)); (focus (first | decide | (simp only [ml]; omega)))) | (with_reducible refine w_k (by simp (disch := omega) only [w32_id]; exact rfl) ?_; ((with_reducible refine w_s hS ?_ ?_ ?_ (fun x hx => ?_)); (focus decide); (focus (first | decide | omega)); (focus (first | decide | (simp only [sl]; omega))))) | (with_reducible refine w_k (by simp (disch := omega) only [w32_id]; exact rfl) ?_; ((with_reducible refine w_m hS ?_ ?_ ?_ ?_ ?_ (fun x hx => ?_)); (focus decide); (focus (first | decide | omega)); (focus omega); (focus (first | decide | omega)); (focus (first | decide | (simp only [ml]; omega)))))); (try simp (disch := omega) only [Int.reduceToNat, tn_c, tn8, tn8i, tn5, tn5z, tn6, tn6z, tn1, u3_ne, u3_eq, u3_ni, u3_nk, tn_c] at hx); subst hx)
      refine w_ite (fun y => ?_) (fun y => ?_)
      · refine ih _ _ _ hq ⟨rfl, a01, ?_, x0, fun xn q hq' e => ?_⟩
        · rw [am]
          constructor
          · rintro ⟨q, hq', e⟩; exact ⟨q, by omega, e⟩
          · rintro ⟨q, hq', e⟩
            refine ⟨q, ?_, e⟩
            by_cases e' : q = i
            · subst e'; omega
            · omega
        · by_cases e' : q = i
          · subst e'; omega
          · exact x1 xn q (by omega) e
      · have e1 : V 107 0 i = 1 := by omega
        obtain ⟨t1, t2⟩ := mq e1
        refine w_areLike (p := 0) (t := 0) hI hh hg hq t2 (Or.inl ⟨t1, rfl, rfl⟩) (fun A => ?_) (fun A => ?_)
        · rw [es, et, Nat.add_zero] at A
          refine ih _ _ _ hq ⟨rfl, Or.inr rfl, ⟨fun _ => ⟨i, by omega, e1⟩, fun _ => rfl⟩, fun w => absurd (show (1 : Int) = 0 from w) (by decide), fun _ q hq' e => ?_⟩
          by_cases e' : q = i
          · subst e'; exact A
          · exact x1 z q (by omega) e
        · rw [es, et, Nat.add_zero] at A
          exact ih _ _ _ hq ⟨rfl, Or.inr rfl, ⟨fun _ => ⟨i, by omega, e1⟩, fun _ => rfl⟩, fun _ => ⟨fun D => A (D i hq e1).1, rfl⟩, fun w => absurd rfl w⟩
theorem w_countDoubles {k : Int} {f : Int × GS → GO} (hI : INV IT V R) (K : ∀ V' m, same V V' LG → RS2 V' m (lst (dbs V R) (rC R 30)) k → Wp (f (m, (V', R))) Q) : Wp ((g_X9_countDoubles 0 k (V, R)).bind f) Q := by
  have hS := hI.SH
  obtain ⟨b20, b30, b40, b50⟩ := hI.IN.1
  refine w_bind ?_
  unfold g_X9_countDoubles
  refine w_gv (by omega) ?_
  refine w_for2 (rC R 30) (fun i m G => ∃ V', G = (V', R) ∧ same V V' LG ∧ RS2 V' m (lst (dbs V R) i) k) ?_ (i := 0) (by omega) (by omega) ⟨V, rfl, same.rf V _, rfl, fun n _ h => absurd h (by unfold lst; simp)⟩
  rintro i m G hi ⟨V', rfl, sm, hrs⟩ self ih
  have hI' := hI.scr sm.gx
  have n3 := hI'.IN.2.1.2.2.1
  have l1 := lst_len (F := dbs V R) (m := 40) (n := i) (fun g hg => dbs_len b30)
  unfold glX9_countDoubles_4
  ((first | ((with_reducible refine w_s hS ?_ ?_ ?_ (fun x hx => ?_)); (focus decide); (focus (first | decide | omega)); (focus (first | decide | (simp only [sl]; omega)))) | ((with_reducible refine w_m hS ?_ ?_ ?_ ?_ ?_ (fun x hx => ?_)); (focus decide); (focus (first | decide | omega)); (focus omega); (focus (first | decide | omega)); (focus (first | decide | (simp only [ml]; omega)))) | (with_reducible refine w_k (by simp (disch := omega) only [w32_id]; exact rfl) ?_; ((with_reducible refine w_s hS ?_ ?_ ?_ (fun x hx => ?_)); (focus decide); (focus (first | decide | omega)); (focus (first | decide | (simp only [sl]; omega))))) | (with_reducible refine w_k (by simp (disch := omega) only [w32_id]; exact rfl) ?_; ((with_reducible refine w_m hS ?_ ?_ ?_ ?_ ?_ (fun x hx => ?_)); (focus decide); (focus (first | decide | omega)); (focus omega); (focus (first | decide | omega)); (focus (first | decide | (simp only [ml]; omega)))))); (try simp (disch := omega) only [Int.reduceToNat, tn_c, tn8, tn8i, tn5, tn5z, tn6, tn6z, tn1, u3_ne, u3_eq, u3_ni, u3_nk, n3] at hx); subst hx)
  refine w_ite (fun hx => w_ret ?_) (fun hx => ?_)
  · have ei : i = rC R 30 := by omega
    subst ei
    exact K V' m sm hrs
  · have hh : i < rC R 30 := by omega
    rw [ws1 (by omega)]
    refine w_for2 (rC R 30) (fun g m G => i < g ∧ ∃ V', G = (V', R) ∧ same V V' LG ∧ RS2 V' m (lst (dbs V R) i ++ lst (fun g => one (i < g ∧ mkd V R ∧ dbl V R (V 30 i 0).toNat (V 30 g 0).toNat) ((i : Int), (g : Int), -1)) g) k) ?_ (by omega) (by omega) ⟨by omega, V', rfl, sm, by
      rw [lst_nil (n := i + 1) (fun g hg => one_f (fun z => absurd z.1 (by omega))), List.append_nil]; exact hrs⟩
    rintro g m G hg ⟨hig, V2, rfl, sm2, hrs2⟩ self' ih'
    have hI2 := hI.scr sm2.gx
    have hF2 := hI2.RF
    have n3 := hI2.IN.2.1.2.2.1
    unfold glX9_countDoubles_17 gjX9_countDoubles_52 gjX9_countDoubles_55
    ((first | ((with_reducible refine w_s hS ?_ ?_ ?_ (fun x hx => ?_)); (focus decide); (focus (first | decide | omega)); (focus (first | decide | (simp only [sl]; omega)))) | ((with_reducible refine w_m hS ?_ ?_ ?_ ?_ ?_ (fun x hx => ?_)); (focus decide); (focus (first | decide | omega)); (focus omega); (focus (first | decide | omega)); (focus (first | decide | (simp only [ml]; omega)))) | (with_reducible refine w_k (by simp (disch := omega) only [w32_id]; exact rfl) ?_; ((with_reducible refine w_s hS ?_ ?_ ?_ (fun x hx => ?_)); (focus decide); (focus (first | decide | omega)); (focus (first | decide | (simp only [sl]; omega))))) | (with_reducible refine w_k (by simp (disch := omega) only [w32_id]; exact rfl) ?_; ((with_reducible refine w_m hS ?_ ?_ ?_ ?_ ?_ (fun x hx => ?_)); (focus decide); (focus (first | decide | omega)); (focus omega); (focus (first | decide | omega)); (focus (first | decide | (simp only [ml]; omega)))))); (try simp (disch := omega) only [Int.reduceToNat, tn_c, tn8, tn8i, tn5, tn5z, tn6, tn6z, tn1, u3_ne, u3_eq, u3_ni, u3_nk, n3] at hx); subst hx)
    refine w_ite (fun hx => ?_) (fun hx => ?_)
    · have eg : g = rC R 30 := by omega
      subst eg
      exact ih _ _ hh ⟨V2, rfl, sm2, hrs2⟩
    · have hg : g < rC R 30 := by omega
      have dc : (mkd V2 R ∧ dbl V2 R (V2 30 i 0).toNat (V2 30 g 0).toNat) ↔ (mkd V R ∧ dbl V R (V 30 i 0).toNat (V 30 g 0).toNat) := by
        rw [sm2.f 30 0 rfl, sm2.f 30 0 rfl, dbl_same sm2 rfl]
        unfold mkd
        simp only [sm2.r 107 rfl]
      have l2 := lst_len (F := fun g => one (i < g ∧ mkd V R ∧ dbl V R (V 30 i 0).toNat (V 30 g 0).toNat) ((i : Int), (g : Int), -1)) (m := 1) (n := g) (fun i _ => one_len)
      have ml := hrs2.1
      rw [List.length_append] at ml
      refine w_areDouble hI2 hh hg (fun D => ?_) (fun D => ?_)
      · have D := dc.mp D
        have eL : ∀ V5 : GV, RS2 V5 (m + 1) ((lst (dbs V R) i ++ lst (fun g => one (i < g ∧ mkd V R ∧ dbl V R (V 30 i 0).toNat (V 30 g 0).toNat) ((i : Int), (g : Int), -1)) g) ++ [((i : Int), (g : Int), -1)]) k → RS2 V5 (w32 (m + 1)) (lst (dbs V R) i ++ lst (fun g => one (i < g ∧ mkd V R ∧ dbl V R (V 30 i 0).toNat (V 30 g 0).toNat) ((i : Int), (g : Int), -1)) (g + 1)) k := by
          intro V5 h
          rw [w32_id (by omega) (by omega)]
          show RS2 V5 _ (_ ++ (lst _ g ++ one _ _)) k
          rw [one_t ⟨hig, D.1, D.2⟩, ← List.append_assoc]; exact h
        refine w_ite (fun z => absurd (show (1 : Int) = 0 from z) (by decide)) (fun _ => ?_)
        refine w_ite (fun z => ?_) (fun z => ?_)
        · exact ih' _ _ hg ⟨by omega, V2, rfl, sm2, eL V2 (rs2_meet hrs2 z)⟩
        · refine w_ss hS (by decide) (by omega) (by decide) ?_
          refine w_ss hS (by decide) (by omega) (by decide) ?_
          simp only [Int.reduceToNat]
          refine ih' _ _ hg ⟨by omega, _, rfl, (sm2.u ⟨(100, some 46), by decide, rfl, Or.inr rfl⟩).u ⟨(100, some 47), by decide, rfl, Or.inr rfl⟩, eL _ (rs2_meet' hrs2.1 (by omega) ?_ ?_)⟩
          · rw [u3_nk (by decide), u3_eq]
          · rw [u3_eq]
      · refine w_ite (fun _ => ?_) (fun z => absurd rfl z)
        refine ih' _ _ hg ⟨by omega, V2, rfl, sm2, ?_⟩
        show RS2 V2 _ (_ ++ (lst _ g ++ one _ _)) k
        rw [one_f (fun z => D (dc.mpr z.2)), List.append_nil]; exact hrs2
theorem T_doubles (hI : INV IT V R) : Wp (g_X8_doubles 0 (V, R)) (fun r G => Wp (g_X9_doubles 0 G) (PO r)) := by
  have hS := hI.SH
  unfold g_X8_doubles
  refine w_gv (by omega) ?_
  refine w_findDoubles hI (fun V' sm hfs => ?_)
  have hI' := hI.scr sm.fx
  have hF' := hI'.RF
  ((first | ((with_reducible refine w_s hS ?_ ?_ ?_ (fun x hx => ?_)); (focus decide); (focus (first | decide | omega)); (focus (first | decide | (simp only [sl]; omega)))) | ((with_reducible refine w_m hS ?_ ?_ ?_ ?_ ?_ (fun x hx => ?_)); (focus decide); (focus (first | decide | omega)); (focus omega); (focus (first | decide | omega)); (focus (first | decide | (simp only [ml]; omega)))) | (with_reducible refine w_k (by simp (disch := omega) only [w32_id]; exact rfl) ?_; ((with_reducible refine w_s hS ?_ ?_ ?_ (fun x hx => ?_)); (focus decide); (focus (first | decide | omega)); (focus (first | decide | (simp only [sl]; omega))))) | (with_reducible refine w_k (by simp (disch := omega) only [w32_id]; exact rfl) ?_; ((with_reducible refine w_m hS ?_ ?_ ?_ ?_ ?_ (fun x hx => ?_)); (focus decide); (focus (first | decide | omega)); (focus omega); (focus (first | decide | omega)); (focus (first | decide | (simp only [ml]; omega)))))); (try simp (disch := omega) only [Int.reduceToNat, tn_c, tn8, tn8i, tn5, tn5z, tn6, tn6z, tn1, u3_ne, u3_eq, u3_ni, u3_nk, f_0_6 hF'] at hx); subst hx)
  ((first | ((with_reducible refine w_s hS ?_ ?_ ?_ (fun x hx => ?_)); (focus decide); (focus (first | decide | omega)); (focus (first | decide | (simp only [sl]; omega)))) | ((with_reducible refine w_m hS ?_ ?_ ?_ ?_ ?_ (fun x hx => ?_)); (focus decide); (focus (first | decide | omega)); (focus omega); (focus (first | decide | omega)); (focus (first | decide | (simp only [ml]; omega)))) | (with_reducible refine w_k (by simp (disch := omega) only [w32_id]; exact rfl) ?_; ((with_reducible refine w_s hS ?_ ?_ ?_ (fun x hx => ?_)); (focus decide); (focus (first | decide | omega)); (focus (first | decide | (simp only [sl]; omega))))) | (with_reducible refine w_k (by simp (disch := omega) only [w32_id]; exact rfl) ?_; ((with_reducible refine w_m hS ?_ ?_ ?_ ?_ ?_ (fun x hx => ?_)); (focus decide); (focus (first | decide | omega)); (focus omega); (focus (first | decide | omega)); (focus (first | decide | (simp only [ml]; omega)))))); (try simp (disch := omega) only [Int.reduceToNat, tn_c, tn8, tn8i, tn5, tn5z, tn6, tn6z, tn1, u3_ne, u3_eq, u3_ni, u3_nk, hfs.2.1] at hx); subst hx)
  refine w_ret ?_
  unfold g_X9_doubles
  refine w_gv (by omega) ?_
  refine w_countDoubles hI' (fun V2 m sm2 hrs => w_ret ⟨?_, hI'.scr sm2.gx⟩)
  have e : ∀ h, dbs V' R h = dbs V R h := by
    intro h
    unfold dbs
    refine lst_cg (fun g _ => one_cg ?_)
    rw [sm.f 30 0 rfl, sm.f 30 0 rfl, dbl_same sm rfl]
    unfold mkd
    simp only [sm.r 107 rfl]
  rw [hrs.1, lst_cg (fun h _ => e h)]
theorem T_doubleAt (hI : INV IT V R) (k what : Int) : Wp (g_X8_doubleAt 0 k what (V, R)) (fun r G => Wp (g_X9_doubleAt 0 k what G) (PO r)) := by
  have hS := hI.SH
  unfold g_X8_doubleAt
  refine w_gv (by omega) ?_
  refine w_ite (fun hk => ?_) (fun hk => w_ret ?_)
  · obtain ⟨n, rfl⟩ := n_pos hk
    refine w_findDoubles hI (fun V' sm hfs => ?_)
    have hI' := hI.scr sm.fx
    have hF' := hI'.RF
    have e : ∀ h, dbs V' R h = dbs V R h := by
      intro h
      unfold dbs
      refine lst_cg (fun g _ => one_cg ?_)
      rw [sm.f 30 0 rfl, sm.f 30 0 rfl, dbl_same sm rfl]
      unfold mkd
      simp only [sm.r 107 rfl]
    rw [← lst_cg (fun h _ => e h)] at hfs
    ((first | ((with_reducible refine w_s hS ?_ ?_ ?_ (fun x hx => ?_)); (focus decide); (focus (first | decide | omega)); (focus (first | decide | (simp only [sl]; omega)))) | ((with_reducible refine w_m hS ?_ ?_ ?_ ?_ ?_ (fun x hx => ?_)); (focus decide); (focus (first | decide | omega)); (focus omega); (focus (first | decide | omega)); (focus (first | decide | (simp only [ml]; omega)))) | (with_reducible refine w_k (by simp (disch := omega) only [w32_id]; exact rfl) ?_; ((with_reducible refine w_s hS ?_ ?_ ?_ (fun x hx => ?_)); (focus decide); (focus (first | decide | omega)); (focus (first | decide | (simp only [sl]; omega))))) | (with_reducible refine w_k (by simp (disch := omega) only [w32_id]; exact rfl) ?_; ((with_reducible refine w_m hS ?_ ?_ ?_ ?_ ?_ (fun x hx => ?_)); (focus decide); (focus (first | decide | omega)); (focus omega); (focus (first | decide | omega)); (focus (first | decide | (simp only [ml]; omega)))))); (try simp (disch := omega) only [Int.reduceToNat, tn_c, tn8, tn8i, tn5, tn5z, tn6, tn6z, tn1, u3_ne, u3_eq, u3_ni, u3_nk, f_0_6 hF'] at hx); subst hx)
    refine w_ftold hS hfs (by decide) (fun r er => w_ret ?_)
    unfold g_X9_doubleAt gjX9_doubleAt_23
    refine w_gv (by omega) ?_
    refine w_in (fun hw => ?_) (fun hw => ?_)
    · refine w_ite (fun z => absurd (show (1 : Int) = 0 from z) (by decide)) (fun _ => ?_)
      refine w_ite (fun z => absurd z (by omega)) (fun _ => ?_)
      refine w_countDoubles hI' (fun V2 m sm2 hrs => ?_)
      have em := hrs.1
      have hI2 := hI'.scr sm2.gx
      refine w_ite (fun hl => ?_) (fun hl => w_ret ⟨?_, hI2⟩)
      · dsimp only at hl
        obtain ⟨g0, g1⟩ := hrs.2 n rfl (by omega)
        refine w_ite (fun h0 => ?_) (fun h0 => ?_)
        · ((first | ((with_reducible refine w_s hS ?_ ?_ ?_ (fun x hx => ?_)); (focus decide); (focus (first | decide | omega)); (focus (first | decide | (simp only [sl]; omega)))) | ((with_reducible refine w_m hS ?_ ?_ ?_ ?_ ?_ (fun x hx => ?_)); (focus decide); (focus (first | decide | omega)); (focus omega); (focus (first | decide | omega)); (focus (first | decide | (simp only [ml]; omega)))) | (with_reducible refine w_k (by simp (disch := omega) only [w32_id]; exact rfl) ?_; ((with_reducible refine w_s hS ?_ ?_ ?_ (fun x hx => ?_)); (focus decide); (focus (first | decide | omega)); (focus (first | decide | (simp only [sl]; omega))))) | (with_reducible refine w_k (by simp (disch := omega) only [w32_id]; exact rfl) ?_; ((with_reducible refine w_m hS ?_ ?_ ?_ ?_ ?_ (fun x hx => ?_)); (focus decide); (focus (first | decide | omega)); (focus omega); (focus (first | decide | omega)); (focus (first | decide | (simp only [ml]; omega)))))); (try simp (disch := omega) only [Int.reduceToNat, tn_c, tn8, tn8i, tn5, tn5z, tn6, tn6z, tn1, u3_ne, u3_eq, u3_ni, u3_nk, g1] at hx); subst hx)
          exact w_ret ⟨by rw [er, if_neg (by omega), if_neg h0, if_pos (by omega)], hI2⟩
        · ((first | ((with_reducible refine w_s hS ?_ ?_ ?_ (fun x hx => ?_)); (focus decide); (focus (first | decide | omega)); (focus (first | decide | (simp only [sl]; omega)))) | ((with_reducible refine w_m hS ?_ ?_ ?_ ?_ ?_ (fun x hx => ?_)); (focus decide); (focus (first | decide | omega)); (focus omega); (focus (first | decide | omega)); (focus (first | decide | (simp only [ml]; omega)))) | (with_reducible refine w_k (by simp (disch := omega) only [w32_id]; exact rfl) ?_; ((with_reducible refine w_s hS ?_ ?_ ?_ (fun x hx => ?_)); (focus decide); (focus (first | decide | omega)); (focus (first | decide | (simp only [sl]; omega))))) | (with_reducible refine w_k (by simp (disch := omega) only [w32_id]; exact rfl) ?_; ((with_reducible refine w_m hS ?_ ?_ ?_ ?_ ?_ (fun x hx => ?_)); (focus decide); (focus (first | decide | omega)); (focus omega); (focus (first | decide | omega)); (focus (first | decide | (simp only [ml]; omega)))))); (try simp (disch := omega) only [Int.reduceToNat, tn_c, tn8, tn8i, tn5, tn5z, tn6, tn6z, tn1, u3_ne, u3_eq, u3_ni, u3_nk, g0] at hx); subst hx)
          exact w_ret ⟨by rw [er, if_neg (by omega), if_pos (by omega)], hI2⟩
      · dsimp only at hl
        rw [er, if_pos (by omega)]
    · refine w_ite (fun _ => w_ret ⟨?_, hI'⟩) (fun z => absurd rfl z)
      rw [er, if_pos (by omega)]
  · unfold g_X9_doubleAt gjX9_doubleAt_23
    refine w_gv (by omega) ?_
    refine w_in (fun hw => ?_) (fun hw => ?_)
    · refine w_ite (fun z => absurd (show (1 : Int) = 0 from z) (by decide)) (fun _ => ?_)
      exact w_ite (fun _ => w_ret ⟨rfl, hI⟩) (fun z => absurd (show k < 0 by omega) z)
    · exact w_ite (fun _ => w_ret ⟨rfl, hI⟩) (fun z => absurd rfl z)
end Doubles
