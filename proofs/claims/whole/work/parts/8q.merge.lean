section Merge
variable {V : GV} {R : GR} {Q : Int → GS → Prop}
def tk (V : GV) (n s t q p : Nat) : Prop := q < n ∧ V 103 0 q = 0 ∧ ((p : Int) < plc V s (V 102 0 q) ∧ (p : Int) < plc V t (V 102 0 q)) ∧ V 33 s (5 * q + p) ≠ 0 ∧ V 33 t (5 * q + p) = 0
noncomputable def mgq (V : GV) (n s t q : Nat) : List H3 := lst (fun p => one (tk V n s t q p) (0, 0, 0)) 5
noncomputable def mgh (V : GV) (n s t : Nat) : List H3 := lst (mgq V n s t) n
theorem mgq_len {n s t q : Nat} : (mgq V n s t q).length ≤ 5 := by
  have := lst_len (F := fun p => one (tk V n s t q p) (0, 0, 0)) (m := 1) (n := 5) (fun i _ => one_len)
  unfold mgq; omega
theorem mgh_len {n s t : Nat} : (mgh V n s t).length ≤ n * 5 := lst_len (fun q _ => mgq_len)
theorem w_takeFrom {s t n m k : Nat} {f : Int × GS → GO} (hS : SH R) (hs : shk V R s n) (ht : shk V R t m) (hn : k < n) (hm : k < m) (k1 : V 33 s k ≠ 0 ∧ V 33 t k = 0 → Wp (f (1, (putv V s k (V 32 t k) 0, R))) Q) (k0 : ¬ (V 33 s k ≠ 0 ∧ V 33 t k = 0) → Wp (f (0, (V, R))) Q) : Wp ((g_X6_takeFrom (s : Int) (t : Int) (k : Int) (V, R)).bind f) Q := by
  refine w_bind ?_
  unfold g_X6_takeFrom
  refine w_gv (by omega) ?_
  refine w_31 hS hs (Or.inr rfl) ?_
  refine w_33 hs hn ?_
  refine w_ite (fun z => w_ret (k0 (fun y => y.1 z))) (fun z => ?_)
  refine w_31 hS ht (Or.inr rfl) ?_
  refine w_33 ht hm ?_
  refine w_ite (fun y => ?_) (fun y => w_ret (k0 (fun w => y w.2)))
  refine w_31 hS ht (Or.inl rfl) ?_
  refine w_32 ht hm ?_
  exact w_put hS hs hn (w_ret (k1 ⟨z, y⟩))
def mgs (V W : GV) (n s t j p : Nat) : Prop := (∀ r i k, ¬ ((r = 32 ∨ r = 33) ∧ i = s) → W r i k = V r i k) ∧ (∀ q p', p' < 5 → ((q < j ∨ (q = j ∧ p' < p)) ∧ tk V n s t q p') → W 32 s (5 * q + p') = V 32 t (5 * q + p') ∧ W 33 s (5 * q + p') = 0) ∧ (∀ q p', p' < 5 → ¬ ((q < j ∨ (q = j ∧ p' < p)) ∧ tk V n s t q p') → W 32 s (5 * q + p') = V 32 s (5 * q + p') ∧ W 33 s (5 * q + p') = V 33 s (5 * q + p'))
theorem mgs.step {W : GV} {n s t j p : Nat} (h : mgs V W n s t j p) (hst : s ≠ t) (p5 : p < 5) (hit : tk V n s t j p) : mgs V (putv W s (5 * j + p) (V 32 t (5 * j + p)) 0) n s t j (p + 1) := by
  obtain ⟨h1, h2, h3⟩ := h
  refine ⟨fun r i k hn => ?_, fun q p' hp' hq => ?_, fun q p' hp' hq => ?_⟩
  · rw [putv_o ?_]
    · exact h1 r i k hn
    · by_cases e : i = s
      · exact Or.inl ⟨fun z => hn ⟨Or.inl z, e⟩, fun z => hn ⟨Or.inr z, e⟩⟩
      · exact Or.inr (Or.inl e)
  · by_cases e : q = j ∧ p' = p
    · obtain ⟨rfl, rfl⟩ := e
      rw [putv_32, putv_33]; exact ⟨rfl, rfl⟩
    · rw [putv_o (Or.inr (Or.inr (by omega))), putv_o (Or.inr (Or.inr (by omega)))]
      exact h2 q p' hp' ⟨by omega, hq.2⟩
  · by_cases e : q = j ∧ p' = p
    · obtain ⟨rfl, rfl⟩ := e
      exact absurd ⟨Or.inr ⟨rfl, by omega⟩, hit⟩ hq
    · rw [putv_o (Or.inr (Or.inr (by omega))), putv_o (Or.inr (Or.inr (by omega)))]
      exact h3 q p' hp' (fun z => hq ⟨by omega, z.2⟩)
theorem mgs.skip {W : GV} {n s t j p : Nat} (h : mgs V W n s t j p) (miss : ¬ tk V n s t j p) : mgs V W n s t j (p + 1) := by
  obtain ⟨h1, h2, h3⟩ := h
  refine ⟨h1, fun q p' hp' hq => ?_, fun q p' hp' hq => h3 q p' hp' (fun z => hq ⟨by omega, z.2⟩)⟩
  refine h2 q p' hp' ⟨?_, hq.2⟩
  by_cases e : q = j ∧ p' = p
  · obtain ⟨rfl, rfl⟩ := e; exact absurd hq.2 miss
  · omega
theorem mgs.next {W : GV} {n s t j p : Nat} (h : mgs V W n s t j p) (rest : ∀ p', p ≤ p' → ¬ tk V n s t j p') : mgs V W n s t (j + 1) 0 := by
  obtain ⟨h1, h2, h3⟩ := h
  refine ⟨h1, fun q p' hp' hq => ?_, fun q p' hp' hq => h3 q p' hp' (fun z => hq ⟨by omega, z.2⟩)⟩
  refine h2 q p' hp' ⟨?_, hq.2⟩
  by_cases e : q = j
  · subst e
    by_cases e' : p' < p
    · exact Or.inr ⟨rfl, e'⟩
    · exact absurd hq.2 (rest p' (by omega))
  · omega
theorem lst_rest {F : Nat → List H3} {m : Nat} : ∀ {n : Nat}, m ≤ n → (∀ i, m ≤ i → i < n → F i = []) → lst F n = lst F m
  | 0, h, _ => by rw [show m = 0 by omega]
  | n + 1, h, hF => by
    by_cases e : m = n + 1
    · rw [e]
    · have : m ≤ n := by omega
      unfold lst
      rw [lst_rest this (fun i h1 h2 => hF i h1 (by omega)), hF n this (by omega), List.append_nil]
      cases m <;> rfl
end Merge
