section Merge
variable {V : GV} {R : GR} {Q : Int → GS → Prop}
def dn (h q p h' q' p' : Nat) : Prop := h' < h ∨ (h' = h ∧ (q' < q ∨ (q' = q ∧ p' < p)))
def RMg (V W U : GV) (n e m h q p : Nat) : Prop := (∀ r i k, (r ≠ 115 ∧ r ≠ 116) → U r i k = W r i k) ∧
  (∀ h' q' p', h' < m → p' < 5 → dn h q p h' q' p' → tk V n (V 30 h' 0).toNat (V 51 e h').toNat q' p' → U 115 0 (144 * h' + 6 * q' + slot (V 102 0 q') p') = V 32 (V 51 e h').toNat (5 * q' + p') ∧ U 116 0 (144 * h' + 6 * q' + slot (V 102 0 q') p') = 0) ∧
  (∀ k, (∀ h' q' p', h' < m → p' < 5 → dn h q p h' q' p' → tk V n (V 30 h' 0).toNat (V 51 e h').toNat q' p' → k ≠ 144 * h' + 6 * q' + slot (V 102 0 q') p') → U 115 0 k = V 115 0 k ∧ U 116 0 k = V 116 0 k)
theorem RMg.mono {W U : GV} {n e m h q p h2 q2 p2 : Nat} (hr : RMg V W U n e m h q p) (up : ∀ h' q' p', h' < m → p' < 5 → tk V n (V 30 h' 0).toNat (V 51 e h').toNat q' p' → (dn h q p h' q' p' ↔ dn h2 q2 p2 h' q' p')) : RMg V W U n e m h2 q2 p2 := by
  obtain ⟨a, b, c⟩ := hr
  refine ⟨a, fun h' q' p' hh hp hd ht => b h' q' p' hh hp ((up h' q' p' hh hp ht).mpr hd) ht, fun k hk => c k (fun h' q' p' hh hp hd ht => hk h' q' p' hh hp ((up h' q' p' hh hp ht).mp hd) ht)⟩
theorem slot_inj {r r' : Int} {h h' q q' p p' : Nat} (hq : q < 24) (hq' : q' < 24) (hp : p < 5) (hp' : p' < 5) (t : r = -1 → p = 0) (t' : r' = -1 → p' = 0) (hr : q = q' → r = r') (e : 144 * h + 6 * q + slot r p = 144 * h' + 6 * q' + slot r' p') : h = h' ∧ q = q' ∧ p = p' := by
  have s1 := slot_lt (r := r) hp
  have s2 := slot_lt (r := r') hp'
  have e1 : h = h' := by omega
  have e2 : q = q' := by omega
  refine ⟨e1, e2, ?_⟩
  have er := hr e2
  subst e1 e2 er
  have e3 : slot r p = slot r p' := by omega
  unfold slot at e3
  by_cases z : r = -1
  · rw [t z, t' z]
  · rw [if_neg z, if_neg z] at e3; omega
theorem tk.top {n s t q p : Nat} (h : tk V n s t q p) (z : V 102 0 q = -1) : p = 0 := by
  have := h.2.2.1.1
  rw [z] at this
  unfold plc at this
  rw [if_pos rfl] at this
  omega
theorem RMg.hit {W U : GV} {n e m h q p : Nat} {v : Int} (hr : RMg V W U n e m h q p) (n24 : n ≤ 24) (hm : h < m) (hp : p < 5) (ht : tk V n (V 30 h 0).toNat (V 51 e h).toNat q p) (ev : v = V 32 (V 51 e h).toNat (5 * q + p)) : RMg V W (u3 (u3 U 115 0 (144 * h + 6 * q + slot (V 102 0 q) p) v) 116 0 (144 * h + 6 * q + slot (V 102 0 q) p) 0) n e m h q (p + 1) := by
  obtain ⟨a, b, c⟩ := hr
  refine ⟨fun r i k h => ?_, fun h' q' p' hh hp' hd ht' => ?_, fun k hk => ?_⟩
  · rw [u3_ne h.2, u3_ne h.1]; exact a r i k h
  · by_cases e' : h' = h ∧ q' = q ∧ p' = p
    · obtain ⟨rfl, rfl, rfl⟩ := e'
      rw [u3_ne (by decide), u3_eq, u3_eq, ev]; exact ⟨rfl, rfl⟩
    · have ne : 144 * h' + 6 * q' + slot (V 102 0 q') p' ≠ 144 * h + 6 * q + slot (V 102 0 q) p := by
        intro z
        exact e' (slot_inj (by have := ht'.1; omega) (by have := ht.1; omega) hp' hp ht'.top ht.top (fun w => by rw [w]) z)
      rw [u3_ne (by decide), u3_nk ne, u3_nk ne, u3_ne (by decide)]
      refine b h' q' p' hh hp' ?_ ht'
      unfold dn at hd ⊢
      omega
  · have ne : k ≠ 144 * h + 6 * q + slot (V 102 0 q) p := hk h q p hm hp (by unfold dn; omega) ht
    rw [u3_ne (by decide), u3_nk ne, u3_nk ne, u3_ne (by decide)]
    exact c k (fun h' q' p' hh hp' hd ht' => hk h' q' p' hh hp' (by unfold dn at hd ⊢; omega) ht')
theorem RMg.miss {W U : GV} {n e m h q p : Nat} (hr : RMg V W U n e m h q p) (ht : ¬ tk V n (V 30 h 0).toNat (V 51 e h).toNat q p) : RMg V W U n e m h q (p + 1) := by
  refine hr.mono (fun h' q' p' hh hp' ht' => ?_)
  unfold dn
  constructor
  · intro z; omega
  · intro z
    by_cases e' : h' = h ∧ q' = q ∧ p' = p
    · obtain ⟨rfl, rfl, rfl⟩ := e'; exact absurd ht' ht
    · omega
theorem RMg.qnext {W U : GV} {n e m h q p : Nat} (hr : RMg V W U n e m h q p) (rest : ∀ p', p' < 5 → p ≤ p' → ¬ tk V n (V 30 h 0).toNat (V 51 e h).toNat q p') : RMg V W U n e m h (q + 1) 0 := by
  refine hr.mono (fun h' q' p' hh hp' ht' => ?_)
  unfold dn
  constructor
  · intro z; omega
  · intro z
    by_cases e' : h' = h ∧ q' = q
    · obtain ⟨rfl, rfl⟩ := e'
      by_cases e2 : p' < p
      · omega
      · exact absurd ht' (rest p' hp' (by omega))
    · omega
theorem RMg.hnext {W U : GV} {n e m h : Nat} (hr : RMg V W U n e m h n 0) : RMg V W U n e m (h + 1) 0 0 := by
  refine hr.mono (fun h' q' p' hh hp' ht' => ?_)
  have := ht'.1
  unfold dn
  omega
end Merge
