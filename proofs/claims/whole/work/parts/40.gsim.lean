/-- the tag of a role's cells -/
def rtag : Nat → Nat := fun r => match r with
  | 0 => 24
  | 1 => 19
  | 2 => 6
  | 3 => 3
  | 4 => 0
  | 5 => 5
  | 6 => 4
  | 7 => 23
  | 8 => 0
  | 9 => 1
  | 10 => 0
  | 11 => 1
  | 12 => 0
  | 13 => 18
  | 14 => 0
  | 20 => 21
  | 21 => 0
  | 22 => 1
  | 23 => 1
  | 24 => 0
  | 30 => 20
  | 31 => 22
  | 32 => 1
  | 33 => 0
  | 34 => 0
  | 40 => 16
  | 50 => 17
  | 51 => 7
  | 100 => 25
  | 101 => 0
  | 102 => 0
  | 103 => 0
  | 104 => 0
  | 105 => 0
  | 106 => 0
  | 107 => 2
  | 108 => 0
  | 109 => 0
  | 110 => 1
  | 111 => 1
  | 112 => 0
  | 113 => 0
  | 115 => 1
  | 116 => 0
  | 117 => 0
  | 119 => 0
  | 120 => 0
  | 121 => 0
  | 122 => 1
  | 123 => 0
  | 124 => 0
  | 125 => 0
  | 126 => 0
  | 127 => 0
  | 128 => 0
  | 131 => 0
  | 132 => 0
  | 133 => 1
  | 134 => 0
  | 139 => 0
  | 140 => 1
  | 141 => 0
  | 142 => 2
  | 143 => 1
  | 144 => 0
  | 145 => 2
  | 149 => 1
  | 150 => 2
  | 151 => 1
  | 152 => 0
  | _ => 99
/-- what a place of a role's cells refers to: 0 no reference, else the role and one -/
def rtr : Nat → Nat → Nat := fun r => match r with
  | 0 => fun k => match k with
    | 0 => 2
    | 1 => 6
    | 3 => 7
    | 5 => 8
    | 6 => 14
    | 7 => 15
    | _ => 0
  | 1 => fun k => match k with
    | 0 => 3
    | 2 => 4
    | 4 => 5
    | _ => 0
  | 2 => fun _ => 21
  | 3 => fun _ => 41
  | 5 => fun _ => 31
  | 6 => fun _ => 51
  | 7 => fun k => match k with
    | 3 => 9
    | 4 => 10
    | 5 => 11
    | 6 => 12
    | 7 => 13
    | _ => 0
  | 20 => fun k => match k with
    | 4 => 22
    | 6 => 23
    | 7 => 24
    | 8 => 25
    | _ => 0
  | 30 => fun k => match k with
    | 0 => 32
    | 1 => 35
    | _ => 0
  | 31 => fun k => match k with
    | 0 => 33
    | 1 => 34
    | _ => 0
  | 50 => fun k => match k with
    | 0 => 52
    | _ => 0
  | 51 => fun _ => 32
  | 100 => fun k => match k with
    | 1 => 102
    | 2 => 103
    | 3 => 104
    | 4 => 105
    | 5 => 106
    | 6 => 107
    | 7 => 108
    | 8 => 109
    | 9 => 110
    | 10 => 111
    | 11 => 112
    | 12 => 113
    | 13 => 114
    | 15 => 116
    | 16 => 117
    | 17 => 118
    | 19 => 120
    | 20 => 121
    | 21 => 122
    | 22 => 123
    | 23 => 124
    | 24 => 125
    | 25 => 126
    | 26 => 127
    | 27 => 128
    | 28 => 129
    | 31 => 132
    | 32 => 133
    | 33 => 134
    | 34 => 135
    | 39 => 140
    | 40 => 141
    | 41 => 142
    | 42 => 143
    | 43 => 144
    | 44 => 145
    | 45 => 146
    | 49 => 150
    | 50 => 151
    | 51 => 152
    | 52 => 153
    | _ => 0
  | _ => fun _ => 0
/-! STATES BY ROLES: the same functions over a state of numbers alone: every cell is (role, index), a reference is the index of its cell within its role, -1 is null -/
abbrev GS : Type := (Nat → Nat → Nat → Int) × (Nat → Nat → Nat) × (Nat → Nat) × Nat × Nat
abbrev GO : Type := Option (Int × GS)
def gV (G : GS) : Nat → Nat → Nat → Int := G.1
def gN (G : GS) : Nat → Nat → Nat := G.2.1
def gC (G : GS) : Nat → Nat := G.2.2.1
def gK (G : GS) : Nat := G.2.2.2.1
def gZ (G : GS) : Nat := G.2.2.2.2
def u3 (f : Nat → Nat → Nat → Int) (r i k : Nat) (v : Int) : Nat → Nat → Nat → Int := fun r' i' k' => if r' = r ∧ i' = i ∧ k' = k then v else f r' i' k'
def gl (r : Nat) (G : GS) (i k : Int) : Option Int := if 0 ≤ i ∧ i.toNat < gC G r ∧ 0 ≤ k ∧ k.toNat < gN G r i.toNat then some (gV G r i.toNat k.toNat) else none
def gs (r : Nat) (G : GS) (i k v : Int) : Option GS := if 0 ≤ i ∧ i.toNat < gC G r ∧ 0 ≤ k ∧ k.toNat < gN G r i.toNat then some (u3 (gV G) r i.toNat k.toNat v, G.2) else none
def gsz (r : Nat) (G : GS) (i k v : Int) : Option GS := if v = 0 ∨ v = 1 then gs r G i k v else none
def gsa (r : Nat) (G : GS) (i k v : Int) : Option GS := if 0 ≤ v then gs r G i k v else none
def gal (r : Nat) (G : GS) (i : Int) : Option Int := if 0 ≤ i ∧ i.toNat < gC G r then some (gN G r i.toNat : Int) else none
def gn (r : Nat) (n : Int) (G : GS) : Option (Int × GS) := if 0 ≤ n ∧ n ≤ 100000 ∧ gK G < 600000 ∧ gZ G + n.toNat ≤ 7302250 then
    some ((gC G r : Int), (fun r' i' k' => if r' = r ∧ i' = gC G r then (if rtr r k' = 0 then 0 else -1) else gV G r' i' k'), (fun r' i' => if r' = r ∧ i' = gC G r then n.toNat else gN G r' i'), (fun r' => if r' = r then gC G r + 1 else gC G r'), gK G + 1, gZ G + n.toNat)
  else none
def gvm (i : Int) (o : GO) : GO := if 0 ≤ i then o else none
def gzr (x : Int) (G : GS) : GO := if x = 0 ∨ x = 1 then some (x, G) else none
theorem gvm_spec {i : Int} {o : GO} {r : Int × GS} (h : gvm i o = some r) : 0 ≤ i ∧ o = some r := by
  unfold gvm at h
  split at h
  · exact ⟨‹_›, h⟩
  · cases h
theorem gzr_spec {x : Int} {G : GS} {r : Int × GS} (h : gzr x G = some r) : (x = 0 ∨ x = 1) ∧ some (x, G) = some r := by
  unfold gzr at h
  split at h
  · exact ⟨‹_›, h⟩
  · cases h
theorem gl_spec {r : Nat} {G : GS} {i k y : Int} (h : gl r G i k = some y) : 0 ≤ i ∧ i.toNat < gC G r ∧ 0 ≤ k ∧ k.toNat < gN G r i.toNat ∧ y = gV G r i.toNat k.toNat := by
  unfold gl at h
  split at h
  · rename_i h1
    exact ⟨h1.1, h1.2.1, h1.2.2.1, h1.2.2.2, (Option.some.inj h).symm⟩
  · cases h
theorem gs_spec {r : Nat} {G G1 : GS} {i k y : Int} (h : gs r G i k y = some G1) : 0 ≤ i ∧ i.toNat < gC G r ∧ 0 ≤ k ∧ k.toNat < gN G r i.toNat ∧ G1 = (u3 (gV G) r i.toNat k.toNat y, G.2) := by
  unfold gs at h
  split at h
  · rename_i h1
    exact ⟨h1.1, h1.2.1, h1.2.2.1, h1.2.2.2, (Option.some.inj h).symm⟩
  · cases h
-- relation to the pure heap
def rval (ad : Nat → Nat → Nat) (t : Nat) (v : Int) : Int := match t with
  | 0 => v
  | ρ + 1 => if v = -1 then -1 else (ad ρ v.toNat : Int)
def vrel (ad : Nat → Nat → Nat) (Cn : Nat → Nat) (ρ : Nat) (a v : Int) : Prop := (v = -1 ∧ a = -1) ∨ (0 ≤ v ∧ v.toNat < Cn ρ ∧ a = (ad ρ v.toNat : Int))
def rrel (ad : Nat → Nat → Nat) (Cn : Nat → Nat) (t : Nat) (a v : Int) : Prop := match t with
  | 0 => a = v
  | ρ + 1 => vrel ad Cn ρ a v
def gcel (ad : Nat → Nat → Nat) (G : GS) (r i : Nat) : List Int := (List.range (gN G r i)).map fun k => rval ad (rtr r k) (gV G r i k)
def SimA (ad : Nat → Nat → Nat) (Cn : Nat → Nat) (H : PH) (G : GS) : Prop :=
  gC G = Cn ∧ H.length = gK G ∧ szs H = gZ G ∧ (∀ r i, i < Cn r → H[ad r i]? = some (rtag r, gcel ad G r i)) ∧ (∀ r i r' i', i < Cn r → i' < Cn r' → ad r i = ad r' i' → r = r' ∧ i = i') ∧
  (∀ r i k ρ, i < Cn r → k < gN G r i → rtr r k = ρ + 1 → gV G r i k = -1 ∨ (0 ≤ gV G r i k ∧ (gV G r i k).toNat < Cn ρ))
def Ext (ad : Nat → Nat → Nat) (Cn : Nat → Nat) (ad' : Nat → Nat → Nat) (Cn' : Nat → Nat) : Prop := ∀ r i, i < Cn r → i < Cn' r ∧ ad' r i = ad r i
theorem Ext.rf {ad : Nat → Nat → Nat} {Cn : Nat → Nat} : Ext ad Cn ad Cn := fun _ _ h => ⟨h, rfl⟩
theorem Ext.tr {ad ad1 ad2 : Nat → Nat → Nat} {Cn Cn1 Cn2 : Nat → Nat} (h : Ext ad Cn ad1 Cn1) (h' : Ext ad1 Cn1 ad2 Cn2) : Ext ad Cn ad2 Cn2 := fun r i hi => ⟨(h' r i (h r i hi).1).1, (h' r i (h r i hi).1).2.trans (h r i hi).2⟩
theorem vrel.mono {ad ad' : Nat → Nat → Nat} {Cn Cn' : Nat → Nat} {ρ : Nat} {a v : Int} (h : vrel ad Cn ρ a v) (hx : Ext ad Cn ad' Cn') : vrel ad' Cn' ρ a v := by
  rcases h with h | ⟨h1, h2, h3⟩
  · exact Or.inl h
  · exact Or.inr ⟨h1, (hx ρ _ h2).1, by rw [(hx ρ _ h2).2]; exact h3⟩
theorem vrel.null {ad : Nat → Nat → Nat} {Cn : Nat → Nat} {ρ : Nat} {a v : Int} (h : vrel ad Cn ρ a v) : a = -1 ↔ v = -1 := by
  rcases h with ⟨h1, h2⟩ | ⟨h1, h2, h3⟩
  · exact ⟨fun _ => h1, fun _ => h2⟩
  · constructor <;> intro q <;> omega
theorem vrel.nul {ad : Nat → Nat → Nat} {Cn : Nat → Nat} {ρ : Nat} : vrel ad Cn ρ (-1) (-1) := Or.inl ⟨rfl, rfl⟩
section Sim
variable {ad : Nat → Nat → Nat} {Cn : Nat → Nat} {H : PH} {G G1 : GS} {r : Nat}
theorem SimA.cell (hS : SimA ad Cn H G) {a v : Int} (hv : vrel ad Cn r a v) (h0 : 0 ≤ v) : a = (ad r v.toNat : Int) ∧ gcell H a = some (rtag r, gcel ad G r v.toNat) ∧ v.toNat < Cn r := by
  rcases hv with ⟨h1, -⟩ | ⟨-, h2, h3⟩
  · omega
  · refine ⟨h3, ?_, h2⟩
    unfold gcell
    rw [if_pos (by omega), h3, show ((ad r v.toNat : Nat) : Int).toNat = ad r v.toNat by omega]
    exact hS.2.2.2.1 r _ h2
theorem gcel_get {i k : Nat} (hk : k < gN G r i) : (gcel ad G r i)[k]? = some (rval ad (rtr r k) (gV G r i k)) := by
  unfold gcel
  rw [List.getElem?_map, List.getElem?_range hk]
  rfl
theorem ld_sim (hS : SimA ad Cn H G) {a v k y : Int} (hv : vrel ad Cn r a v) (e : gl r G v k = some y) : ∃ x, ld (rtag r) H a k = some x ∧ rrel ad Cn (rtr r k.toNat) x y := by
  obtain ⟨h1, h2, h3, h4, rfl⟩ := gl_spec e
  obtain ⟨-, c2, c3⟩ := hS.cell hv h1
  refine ⟨rval ad (rtr r k.toNat) (gV G r v.toNat k.toNat), ?_, ?_⟩
  · unfold ld
    rw [c2]
    show (if rtag r = rtag r ∧ 0 ≤ k then (gcel ad G r v.toNat)[k.toNat]? else none) = _
    rw [if_pos ⟨rfl, h3⟩, gcel_get h4]
  · cases hr : rtr r k.toNat with
    | zero => rfl
    | succ ρ =>
      show vrel ad Cn ρ (if gV G r v.toNat k.toNat = -1 then -1 else (ad ρ (gV G r v.toNat k.toNat).toNat : Int)) _
      rcases hS.2.2.2.2.2 r _ _ ρ c3 h4 hr with q | ⟨q1, q2⟩
      · rw [if_pos q]; exact Or.inl ⟨q, rfl⟩
      · rw [if_neg (by omega)]; exact Or.inr ⟨q1, q2, rfl⟩
theorem rrel_val {t : Nat} {x y : Int} (h : rrel ad Cn t x y) : x = rval ad t y := by
  cases t with
  | zero => exact h
  | succ ρ =>
    show x = if y = -1 then -1 else (ad ρ y.toNat : Int)
    rcases h with ⟨h1, h2⟩ | ⟨h1, h2, h3⟩
    · rw [if_pos h1]; exact h2
    · rw [if_neg (by omega)]; exact h3
theorem st_sim (hS : SimA ad Cn H G) {a v k x y : Int} (hv : vrel ad Cn r a v) (hx : rrel ad Cn (rtr r k.toNat) x y) (e : gs r G v k y = some G1) : ∃ H1, stv (rtag r) H a k x = some H1 ∧ SimA ad Cn H1 G1 := by
  obtain ⟨h1, h2, h3, h4, rfl⟩ := gs_spec e
  obtain ⟨c1, c2, c3⟩ := hS.cell hv h1
  have hlen : (gcel ad G r v.toNat).length = gN G r v.toNat := by simp [gcel]
  refine ⟨H.set a.toNat (rtag r, (gcel ad G r v.toNat).set k.toNat x), ?_, ?_⟩
  · unfold stv
    rw [c2]
    show (if rtag r = rtag r ∧ 0 ≤ k ∧ k < ((gcel ad G r v.toNat).length : Int) then _ else none) = _
    rw [if_pos ⟨rfl, h3, by rw [hlen]; omega⟩]
  · obtain ⟨s1, s2, s3, s4, s5, s6⟩ := hS
    have ha : a.toNat = ad r v.toNat := by omega
    have hH : H[a.toNat]? = some (rtag r, gcel ad G r v.toNat) := by rw [ha]; exact s4 r _ c3
    refine ⟨s1, by rw [List.length_set]; exact s2, by rw [szs_set hH (by simp)]; exact s3, fun r' i' hi' => ?_, s5, fun r' i' k' ρ hi' hk' hr' => ?_⟩
    · by_cases hq : r' = r ∧ i' = v.toNat
      · obtain ⟨rfl, rfl⟩ := hq
        rw [ha, List.getElem?_set]
        have hlt : ad r' v.toNat < H.length := by rw [← ha]; exact (List.getElem?_eq_some_iff.mp hH).1
        simp only [if_true, hlt]
        congr 2
        apply List.ext_getElem?
        intro j
        by_cases hj : j < gN G r' v.toNat
        · rw [gcel_get (G := (u3 (gV G) r' v.toNat k.toNat y, G.2)) (show j < gN G r' v.toNat from hj)]
          by_cases hjk : k.toNat = j
          · subst hjk
            rw [List.getElem?_set]
            simp only [if_true, hlen, hj]
            show some x = some (rval ad _ (u3 (gV G) r' v.toNat k.toNat y r' v.toNat k.toNat))
            rw [show u3 (gV G) r' v.toNat k.toNat y r' v.toNat k.toNat = y by simp [u3], ← rrel_val hx]
          · rw [List.getElem?_set_ne hjk, gcel_get hj]
            show _ = some (rval ad _ (u3 (gV G) r' v.toNat k.toNat y r' v.toNat j))
            rw [show u3 (gV G) r' v.toNat k.toNat y r' v.toNat j = gV G r' v.toNat j by simp [u3]; intro q; exact absurd q.symm hjk]
        · rw [List.getElem?_eq_none (by simp [hlen]; omega), List.getElem?_eq_none (by simp [gcel]; exact Nat.not_lt.mp hj)]
      · have hne : a.toNat ≠ ad r' i' := fun q => hq (by
          obtain ⟨q1, q2⟩ := s5 r' i' r v.toNat hi' c3 (by omega)
          exact ⟨q1, q2⟩)
        rw [List.getElem?_set_ne hne, s4 r' i' hi']
        congr 2
        unfold gcel
        apply List.map_congr_left
        intro j _
        show rval ad _ (gV G r' i' j) = rval ad _ (u3 (gV G) r v.toNat k.toNat y r' i' j)
        rw [show u3 (gV G) r v.toNat k.toNat y r' i' j = gV G r' i' j by
          unfold u3
          rw [if_neg (fun q => hq ⟨q.1, q.2.1⟩)]]
    · by_cases hq : r' = r ∧ i' = v.toNat ∧ k' = k.toNat
      · obtain ⟨rfl, rfl, rfl⟩ := hq
        show u3 (gV G) r' v.toNat k.toNat y r' v.toNat k.toNat = -1 ∨ _
        have hy : gV (u3 (gV G) r' v.toNat k.toNat y, G.2) r' v.toNat k.toNat = y := by simp [gV, u3]
        rw [hy, show u3 (gV G) r' v.toNat k.toNat y r' v.toNat k.toNat = y by simp [u3]]
        rw [hr'] at hx
        rcases hx with ⟨q1, -⟩ | ⟨q1, q2, -⟩
        · exact Or.inl q1
        · exact Or.inr ⟨q1, q2⟩
      · have hy : gV (u3 (gV G) r v.toNat k.toNat y, G.2) r' i' k' = gV G r' i' k' := by
          show u3 (gV G) r v.toNat k.toNat y r' i' k' = _
          unfold u3
          rw [if_neg hq]
        rw [hy]
        exact s6 r' i' k' ρ hi' hk' hr'
end Sim
section SimNew
variable {ad : Nat → Nat → Nat} {Cn : Nat → Nat} {H : PH} {G G1 : GS} {r : Nat}
theorem gn_spec {n v : Int} (h : gn r n G = some (v, G1)) : 0 ≤ n ∧ n ≤ 100000 ∧ gK G < 600000 ∧ gZ G + n.toNat ≤ 7302250 ∧ v = (gC G r : Int) ∧
    G1 = ((fun r' i' k' => if r' = r ∧ i' = gC G r then (if rtr r k' = 0 then 0 else -1) else gV G r' i' k'), (fun r' i' => if r' = r ∧ i' = gC G r then n.toNat else gN G r' i'), (fun r' => if r' = r then gC G r + 1 else gC G r'), gK G + 1, gZ G + n.toNat) := by
  unfold gn at h
  split at h
  · rename_i h1
    obtain ⟨q1, q2⟩ := Prod.mk.inj (Option.some.inj h)
    exact ⟨h1.1, h1.2.1, h1.2.2.1, h1.2.2.2, q1.symm, q2.symm⟩
  · cases h
theorem new_sim (hS : SimA ad Cn H G) {n v : Int} (e : gn r n G = some (v, G1)) : ∃ ad1 Cn1, alc (rtag r, (List.range n.toNat).map fun k => if rtr r k = 0 then 0 else -1) H = some ((H.length : Int), H ++ [(rtag r, (List.range n.toNat).map fun k => if rtr r k = 0 then 0 else -1)]) ∧
    SimA ad1 Cn1 (H ++ [(rtag r, (List.range n.toNat).map fun k => if rtr r k = 0 then 0 else -1)]) G1 ∧ Ext ad Cn ad1 Cn1 ∧ vrel ad1 Cn1 r (H.length : Int) v := by
  obtain ⟨h1, h2, h3, h4, rfl, rfl⟩ := gn_spec e
  obtain ⟨s1, s2, s3, s4, s5, s6⟩ := hS
  subst s1
  have hlt : ∀ r' i', i' < gC G r' → ad r' i' < H.length := fun r' i' hi => (List.getElem?_eq_some_iff.mp (s4 r' i' hi)).1
  refine ⟨fun r' i' => if r' = r ∧ i' = gC G r then H.length else ad r' i', fun r' => if r' = r then gC G r + 1 else gC G r', ?_, ⟨rfl, by simp [gK]; exact s2, ?_, ?_, ?_, ?_⟩, ?_, ?_⟩
  · unfold alc
    rw [if_pos ⟨by omega, by simp; omega⟩]
  · rw [szs_app, s3]; simp [gZ]
  · intro r' i' hi'
    dsimp only
    by_cases hq : r' = r ∧ i' = gC G r
    · obtain ⟨rfl, rfl⟩ := hq
      rw [if_pos ⟨rfl, rfl⟩]
      simp only [List.getElem?_append_right (Nat.le_refl _), Nat.sub_self, List.getElem?_cons_zero]
      congr 2
      unfold gcel
      simp only [gN, and_self, if_true]
      apply List.map_congr_left
      intro k _
      simp only [gV, and_self, if_true]
      cases hr : rtr r' k with
      | zero => rfl
      | succ ρ => simp [rval]
    · rw [if_neg hq]
      have hi : i' < gC G r' := by
        by_cases hr : r' = r
        · subst hr
          simp only [if_true] at hi'
          have : i' ≠ gC G r' := fun q => hq ⟨rfl, q⟩
          omega
        · simpa only [if_neg hr] using hi'
      rw [List.getElem?_append_left (hlt r' i' hi), s4 r' i' hi]
      congr 2
      unfold gcel
      have hN : gN ((fun r' i' k' => if r' = r ∧ i' = gC G r then (if rtr r k' = 0 then 0 else -1) else gV G r' i' k'), (fun r' i' => if r' = r ∧ i' = gC G r then n.toNat else gN G r' i'), (fun r' => if r' = r then gC G r + 1 else gC G r'), gK G + 1, gZ G + n.toNat) r' i' = gN G r' i' := if_neg hq
      rw [hN]
      apply List.map_congr_left
      intro k hk
      have hk' := List.mem_range.mp hk
      have hV : gV ((fun r' i' k' => if r' = r ∧ i' = gC G r then (if rtr r k' = 0 then 0 else -1) else gV G r' i' k'), (fun r' i' => if r' = r ∧ i' = gC G r then n.toNat else gN G r' i'), (fun r' => if r' = r then gC G r + 1 else gC G r'), gK G + 1, gZ G + n.toNat) r' i' k = gV G r' i' k := if_neg hq
      rw [hV]
      cases hr : rtr r' k with
      | zero => rfl
      | succ ρ =>
        show (if gV G r' i' k = -1 then -1 else (ad ρ (gV G r' i' k).toNat : Int)) = if gV G r' i' k = -1 then -1 else ((if ρ = r ∧ (gV G r' i' k).toNat = gC G r then H.length else ad ρ (gV G r' i' k).toNat : Nat) : Int)
        rcases s6 r' i' k ρ hi hk' hr with q | ⟨q1, q2⟩
        · rw [if_pos q, if_pos q]
        · rw [if_neg (by omega), if_neg (by omega), if_neg (fun z => by obtain ⟨rfl, z⟩ := z; omega)]
  · intro r1 i1 r2 i2 h1' h2' he
    dsimp only at h1' h2' he
    have key : ∀ r' i', i' < (if r' = r then gC G r + 1 else gC G r') → ¬ (r' = r ∧ i' = gC G r) → i' < gC G r' := fun r' i' hi' hq => by
      by_cases hr : r' = r
      · subst hr
        simp only [if_true] at hi'
        have : i' ≠ gC G r' := fun q => hq ⟨rfl, q⟩
        omega
      · simpa only [if_neg hr] using hi'
    by_cases q1 : r1 = r ∧ i1 = gC G r
    · by_cases q2 : r2 = r ∧ i2 = gC G r
      · exact ⟨q1.1.trans q2.1.symm, q1.2.trans q2.2.symm⟩
      · rw [if_pos q1, if_neg q2] at he
        have := hlt r2 i2 (key r2 i2 h2' q2)
        omega
    · by_cases q2 : r2 = r ∧ i2 = gC G r
      · rw [if_neg q1, if_pos q2] at he
        have := hlt r1 i1 (key r1 i1 h1' q1)
        omega
      · rw [if_neg q1, if_neg q2] at he
        exact s5 r1 i1 r2 i2 (key r1 i1 h1' q1) (key r2 i2 h2' q2) he
  · intro r' i' k ρ hi' hk' hr
    dsimp only at hi'
    by_cases hq : r' = r ∧ i' = gC G r
    · left
      obtain ⟨rfl, rfl⟩ := hq
      simp only [gV, and_self, if_true, hr]
      rfl
    · have hi : i' < gC G r' := by
        by_cases hr : r' = r
        · subst hr
          simp only [if_true] at hi'
          have : i' ≠ gC G r' := fun q => hq ⟨rfl, q⟩
          omega
        · simpa only [if_neg hr] using hi'
      simp only [gV, gN, if_neg hq] at hk' ⊢
      rcases s6 r' i' k ρ hi hk' hr with q | ⟨q1, q2⟩
      · exact Or.inl q
      · refine Or.inr ⟨q1, ?_⟩
        have q2 : (gV G r' i' k).toNat < gC G ρ := q2
        show (gV G r' i' k).toNat < if ρ = r then gC G r + 1 else gC G ρ
        by_cases hρ : ρ = r
        · subst hρ; rw [if_pos rfl]; omega
        · rw [if_neg hρ]; exact q2
  · intro r' i' hi
    dsimp only
    refine ⟨?_, if_neg (fun q => by obtain ⟨rfl, rfl⟩ := q; omega)⟩
    by_cases hr : r' = r
    · subst hr; rw [if_pos rfl]; omega
    · rw [if_neg hr]; exact hi
  · refine Or.inr ⟨by omega, ?_, ?_⟩
    · simp
    · simp
theorem newa_sim (hS : SimA ad Cn H G) {t : Nat} (ht : rtag r = t) (hd : ∀ k, (if rtr r k = 0 then (0 : Int) else -1) = if t < 3 then 0 else -1) {n v : Int} (e : gn r n G = some (v, G1)) : ∃ ad1 Cn1 a H1, newa t n H = some (a, H1) ∧ SimA ad1 Cn1 H1 G1 ∧ Ext ad Cn ad1 Cn1 ∧ vrel ad1 Cn1 r a v := by
  obtain ⟨ad1, Cn1, h1, h2, h3, h4⟩ := new_sim hS e
  obtain ⟨q1, q2, -⟩ := gn_spec e
  refine ⟨ad1, Cn1, _, _, ?_, h2, h3, h4⟩
  unfold newa
  rw [if_pos ⟨q1, q2⟩, ← h1, ht]
  congr 2
  apply List.ext_getElem?
  intro k
  rw [List.getElem?_replicate, List.getElem?_map]
  by_cases hk : k < n.toNat
  · rw [if_pos hk, List.getElem?_range hk]
    show _ = some (if rtr r k = 0 then 0 else -1)
    rw [hd k]
  · rw [if_neg hk, List.getElem?_eq_none (by simpa using hk)]; rfl
theorem newo_sim (hS : SimA ad Cn H G) {c : Nat} (ht : rtag r = 16 + c) (hd : ∀ k, k < cN c → (if rtr r k = 0 then (0 : Int) else -1) = if kd (cty c k) = 2 then -1 else 0) {v : Int} (e : gn r (cN c : Int) G = some (v, G1)) : ∃ ad1 Cn1 a H1, newo c H = some (a, H1) ∧ SimA ad1 Cn1 H1 G1 ∧ Ext ad Cn ad1 Cn1 ∧ vrel ad1 Cn1 r a v := by
  obtain ⟨ad1, Cn1, h1, h2, h3, h4⟩ := new_sim hS e
  refine ⟨ad1, Cn1, _, _, ?_, h2, h3, h4⟩
  unfold newo
  rw [← h1, ht, show ((cN c : Nat) : Int).toNat = cN c by omega]
  congr 2
  unfold dfl
  apply List.map_congr_left
  intro k hk
  exact (hd k (List.mem_range.mp hk)).symm
end SimNew
-- what a function's run is, by the state's run
def RS (ad : Nat → Nat → Nat) (Cn : Nat → Nat) (o : RO) (ρ : Nat) (rr : Int) (G' : GS) : Prop := ∃ ad' Cn' r' H', o = some (r', H') ∧ SimA ad' Cn' H' G' ∧ Ext ad Cn ad' Cn' ∧ rrel ad' Cn' ρ r' rr
section RSRules
variable {ad : Nat → Nat → Nat} {Cn : Nat → Nat} {H : PH} {G G1 G' : GS} {r ρ ρ1 t : Nat} {rr : Int}
theorem rret (hS : SimA ad Cn H G) {x y : Int} (hr : rrel ad Cn ρ x y) : RS ad Cn (some (x, H)) ρ y G := ⟨ad, Cn, x, H, rfl, hS, Ext.rf, hr⟩
theorem rb_ld (r : Nat) (hS : SimA ad Cn H G) {a v k y : Int} (hv : vrel ad Cn r a v) (e : gl r G v k = some y) (ht : rtag r = t) (hr : rtr r k.toNat = 0) {fx : Int → RO} (K : RS ad Cn (fx y) ρ rr G') : RS ad Cn ((ld t H a k).bind fx) ρ rr G' := by
  obtain ⟨x, h1, h2⟩ := ld_sim hS hv e
  rw [hr] at h2
  obtain rfl : x = y := h2
  rw [← ht, h1]; exact K
theorem rb_ldr (r ρ1 : Nat) (hS : SimA ad Cn H G) {a v k y : Int} (hv : vrel ad Cn r a v) (e : gl r G v k = some y) (ht : rtag r = t) (hr : rtr r k.toNat = ρ1 + 1) {fx : Int → RO} (K : ∀ x, vrel ad Cn ρ1 x y → RS ad Cn (fx x) ρ rr G') : RS ad Cn ((ld t H a k).bind fx) ρ rr G' := by
  obtain ⟨x, h1, h2⟩ := ld_sim hS hv e
  rw [hr] at h2
  rw [← ht, h1]; exact K x h2
theorem rb_st (r : Nat) (hS : SimA ad Cn H G) {a v k x y : Int} (hv : vrel ad Cn r a v) (hx : rrel ad Cn (rtr r k.toNat) x y) (e : gs r G v k y = some G1) (ht : rtag r = t) {fx : PH → RO} (K : ∀ H1, SimA ad Cn H1 G1 → RS ad Cn (fx H1) ρ rr G') : RS ad Cn ((stv t H a k x).bind fx) ρ rr G' := by
  obtain ⟨H1, h1, h2⟩ := st_sim hS hv hx e
  rw [← ht, h1]; exact K H1 h2
theorem rb_stz (r : Nat) (hS : SimA ad Cn H G) {a v k y : Int} (hv : vrel ad Cn r a v) (hr : rtr r k.toNat = 0) (e : gsz r G v k y = some G1) (ht : rtag r = t) {fx : PH → RO} (K : ∀ H1, SimA ad Cn H1 G1 → RS ad Cn (fx H1) ρ rr G') : RS ad Cn ((stz t H a k y).bind fx) ρ rr G' := by
  unfold gsz at e
  split at e
  · rename_i hb
    obtain ⟨H1, h1, h2⟩ := st_sim hS hv (by rw [hr]; rfl) e
    unfold stz
    rw [if_pos hb, ← ht, h1]; exact K H1 h2
  · cases e
theorem rb_sta (r ρ1 c : Nat) (hS : SimA ad Cn H G) {a v k x y : Int} (hv : vrel ad Cn r a v) (hx : vrel ad Cn ρ1 x y) (hr : rtr r k.toNat = ρ1 + 1) (hc : rtag ρ1 = 16 + c) (e : gsa r G v k y = some G1) (ht : rtag r = t) {fx : PH → RO} (K : ∀ H1, SimA ad Cn H1 G1 → RS ad Cn (fx H1) ρ rr G') : RS ad Cn ((sta t c H a k x).bind fx) ρ rr G' := by
  unfold gsa at e
  split at e
  · rename_i hb
    obtain ⟨-, c2, -⟩ := hS.cell hx hb
    obtain ⟨H1, h1, h2⟩ := st_sim hS hv (x := x) (by rw [hr]; exact hx) e
    unfold sta
    rw [c2, if_pos (by show some (rtag ρ1) = _; rw [hc]), ← ht, h1]; exact K H1 h2
  · cases e
theorem rb_al (r : Nat) (hS : SimA ad Cn H G) {a v y : Int} (hv : vrel ad Cn r a v) (e : gal r G v = some y) (ht : rtag r < 8) {fx : Int → RO} (K : RS ad Cn (fx y) ρ rr G') : RS ad Cn ((alen H a).bind fx) ρ rr G' := by
  unfold gal at e
  split at e
  · rename_i hb
    obtain ⟨-, c2, -⟩ := hS.cell hv hb.1
    have : alen H a = some y := by
      rw [alen_of c2 ht, ← e]; simp [gcel]
    rw [this]; exact K
  · cases e
theorem rb_newa (r : Nat) (hS : SimA ad Cn H G) {n : Int} {z : Int × GS} (e : gn r n G = some z) (ht : rtag r = t) (hd : ∀ k, (if rtr r k = 0 then (0 : Int) else -1) = if t < 3 then 0 else -1) {fx : Int × PH → RO} (K : ∀ ad1 Cn1 a H1, SimA ad1 Cn1 H1 z.2 → Ext ad Cn ad1 Cn1 → vrel ad1 Cn1 r a z.1 → RS ad1 Cn1 (fx (a, H1)) ρ rr G') : RS ad Cn ((newa t n H).bind fx) ρ rr G' := by
  obtain ⟨ad1, Cn1, a, H1, h1, h2, h3, h4⟩ := newa_sim (v := z.1) (G1 := z.2) hS ht hd e
  obtain ⟨ad2, Cn2, r2, H2, k1, k2, k3, k4⟩ := K ad1 Cn1 a H1 h2 h3 h4
  exact ⟨ad2, Cn2, r2, H2, by rw [h1]; exact k1, k2, h3.tr k3, k4⟩
theorem rb_newo (r : Nat) {c : Nat} (hS : SimA ad Cn H G) {z : Int × GS} (e : gn r (cN c : Int) G = some z) (ht : rtag r = 16 + c) (hd : ∀ k, k < cN c → (if rtr r k = 0 then (0 : Int) else -1) = if kd (cty c k) = 2 then -1 else 0) {fx : Int × PH → RO} (K : ∀ ad1 Cn1 a H1, SimA ad1 Cn1 H1 z.2 → Ext ad Cn ad1 Cn1 → vrel ad1 Cn1 r a z.1 → RS ad1 Cn1 (fx (a, H1)) ρ rr G') : RS ad Cn ((newo c H).bind fx) ρ rr G' := by
  obtain ⟨ad1, Cn1, a, H1, h1, h2, h3, h4⟩ := newo_sim (v := z.1) (G1 := z.2) hS ht hd e
  obtain ⟨ad2, Cn2, r2, H2, k1, k2, k3, k4⟩ := K ad1 Cn1 a H1 h2 h3 h4
  exact ⟨ad2, Cn2, r2, H2, by rw [h1]; exact k1, k2, h3.tr k3, k4⟩
theorem rb_call {o : RO} {ρc : Nat} {z : Int × GS} (h : RS ad Cn o ρc z.1 z.2) {fx : Int × PH → RO} (K : ∀ ad1 Cn1 x H1, SimA ad1 Cn1 H1 z.2 → Ext ad Cn ad1 Cn1 → rrel ad1 Cn1 ρc x z.1 → RS ad1 Cn1 (fx (x, H1)) ρ rr G') : RS ad Cn (o.bind fx) ρ rr G' := by
  obtain ⟨ad1, Cn1, x, H1, h1, h2, h3, h4⟩ := h
  obtain ⟨ad2, Cn2, r2, H2, k1, k2, k3, k4⟩ := K ad1 Cn1 x H1 h2 h3 h4
  exact ⟨ad2, Cn2, r2, H2, by rw [h1]; exact k1, k2, h3.tr k3, k4⟩
theorem rb_vm (r c : Nat) (hS : SimA ad Cn H G) {a v : Int} (hv : vrel ad Cn r a v) (h0 : 0 ≤ v) (ht : rtag r = 16 + c) {o : RO} (K : RS ad Cn o ρ rr G') : RS ad Cn (vm c a H o) ρ rr G' := by
  obtain ⟨-, c2, -⟩ := hS.cell hv h0
  unfold vm
  rw [c2, if_pos (by show some (rtag r) = _; rw [ht])]
  exact K
theorem rb_zr {x : Int} (hz : x = 0 ∨ x = 1) (K : RS ad Cn (some (x, H)) ρ rr G') : RS ad Cn (zr x H) ρ rr G' := by
  unfold zr; rw [if_pos hz]; exact K
theorem rif_t {c : Prop} {d : Decidable c} {A B : RO} (hc : c) (K : RS ad Cn A ρ rr G') : RS ad Cn (@ite RO c d A B) ρ rr G' := by rw [if_pos hc]; exact K
theorem rif_f {c : Prop} {d : Decidable c} {A B : RO} (hc : ¬ c) (K : RS ad Cn B ρ rr G') : RS ad Cn (@ite RO c d A B) ρ rr G' := by rw [if_neg hc]; exact K
theorem rb_o {o : Option Int} {y : Int} (e : o = some y) {fx : Int → RO} (K : RS ad Cn (fx y) ρ rr G') : RS ad Cn (o.bind fx) ρ rr G' := by rw [e]; exact K
theorem sw_case {a lo hi : Int} (n : Nat) (hc : ¬ (a < lo ∨ hi < a)) (hh : hi = lo + n - 1) : ∃ i : Nat, i < n ∧ a = lo + i := ⟨(a - lo).toNat, by omega, by omega⟩
theorem rsw {a lo : Int} {i : Nat} {L : List RO} (ha : a = lo + i) (K : RS ad Cn (List.getD L i none) ρ rr G') : RS ad Cn (List.getD L (a - lo).toNat none) ρ rr G' := by
  rw [ha, show (lo + (i : Int) - lo).toNat = i by omega]; exact K
end RSRules
theorem lq0_s {body : (PH → RO) → PH → RO} (k : Nat) (H : PH) : lq0 body (k + 1) H = body (lq0 body k) H := rfl
def lh0 (body : (GS → GO) → GS → GO) : Nat → GS → GO
  | 0 => fun _ => none
  | k + 1 => fun G => body (lh0 body k) G
theorem lh0_s {body : (GS → GO) → GS → GO} (k : Nat) (G : GS) : lh0 body (k + 1) G = body (lh0 body k) G := rfl
theorem lq1_s {body : (Int → PH → RO) → Int → PH → RO} (k : Nat) (x0 : Int) (H : PH) : lq1 body (k + 1) x0 H = body (lq1 body k) x0 H := rfl
def lh1 (body : (Int → GS → GO) → Int → GS → GO) : Nat → Int → GS → GO
  | 0 => fun _ _ => none
  | k + 1 => fun x0 G => body (lh1 body k) x0 G
theorem lh1_s {body : (Int → GS → GO) → Int → GS → GO} (k : Nat) (x0 : Int) (G : GS) : lh1 body (k + 1) x0 G = body (lh1 body k) x0 G := rfl
theorem lq2_s {body : (Int → Int → PH → RO) → Int → Int → PH → RO} (k : Nat) (x0 x1 : Int) (H : PH) : lq2 body (k + 1) x0 x1 H = body (lq2 body k) x0 x1 H := rfl
def lh2 (body : (Int → Int → GS → GO) → Int → Int → GS → GO) : Nat → Int → Int → GS → GO
  | 0 => fun _ _ _ => none
  | k + 1 => fun x0 x1 G => body (lh2 body k) x0 x1 G
theorem lh2_s {body : (Int → Int → GS → GO) → Int → Int → GS → GO} (k : Nat) (x0 x1 : Int) (G : GS) : lh2 body (k + 1) x0 x1 G = body (lh2 body k) x0 x1 G := rfl
theorem lq3_s {body : (Int → Int → Int → PH → RO) → Int → Int → Int → PH → RO} (k : Nat) (x0 x1 x2 : Int) (H : PH) : lq3 body (k + 1) x0 x1 x2 H = body (lq3 body k) x0 x1 x2 H := rfl
def lh3 (body : (Int → Int → Int → GS → GO) → Int → Int → Int → GS → GO) : Nat → Int → Int → Int → GS → GO
  | 0 => fun _ _ _ _ => none
  | k + 1 => fun x0 x1 x2 G => body (lh3 body k) x0 x1 x2 G
theorem lh3_s {body : (Int → Int → Int → GS → GO) → Int → Int → Int → GS → GO} (k : Nat) (x0 x1 x2 : Int) (G : GS) : lh3 body (k + 1) x0 x1 x2 G = body (lh3 body k) x0 x1 x2 G := rfl
theorem lq4_s {body : (Int → Int → Int → Int → PH → RO) → Int → Int → Int → Int → PH → RO} (k : Nat) (x0 x1 x2 x3 : Int) (H : PH) : lq4 body (k + 1) x0 x1 x2 x3 H = body (lq4 body k) x0 x1 x2 x3 H := rfl
def lh4 (body : (Int → Int → Int → Int → GS → GO) → Int → Int → Int → Int → GS → GO) : Nat → Int → Int → Int → Int → GS → GO
  | 0 => fun _ _ _ _ _ => none
  | k + 1 => fun x0 x1 x2 x3 G => body (lh4 body k) x0 x1 x2 x3 G
theorem lh4_s {body : (Int → Int → Int → Int → GS → GO) → Int → Int → Int → Int → GS → GO} (k : Nat) (x0 x1 x2 x3 : Int) (G : GS) : lh4 body (k + 1) x0 x1 x2 x3 G = body (lh4 body k) x0 x1 x2 x3 G := rfl
theorem lq5_s {body : (Int → Int → Int → Int → Int → PH → RO) → Int → Int → Int → Int → Int → PH → RO} (k : Nat) (x0 x1 x2 x3 x4 : Int) (H : PH) : lq5 body (k + 1) x0 x1 x2 x3 x4 H = body (lq5 body k) x0 x1 x2 x3 x4 H := rfl
def lh5 (body : (Int → Int → Int → Int → Int → GS → GO) → Int → Int → Int → Int → Int → GS → GO) : Nat → Int → Int → Int → Int → Int → GS → GO
  | 0 => fun _ _ _ _ _ _ => none
  | k + 1 => fun x0 x1 x2 x3 x4 G => body (lh5 body k) x0 x1 x2 x3 x4 G
theorem lh5_s {body : (Int → Int → Int → Int → Int → GS → GO) → Int → Int → Int → Int → Int → GS → GO} (k : Nat) (x0 x1 x2 x3 x4 : Int) (G : GS) : lh5 body (k + 1) x0 x1 x2 x3 x4 G = body (lh5 body k) x0 x1 x2 x3 x4 G := rfl
theorem lq6_s {body : (Int → Int → Int → Int → Int → Int → PH → RO) → Int → Int → Int → Int → Int → Int → PH → RO} (k : Nat) (x0 x1 x2 x3 x4 x5 : Int) (H : PH) : lq6 body (k + 1) x0 x1 x2 x3 x4 x5 H = body (lq6 body k) x0 x1 x2 x3 x4 x5 H := rfl
def lh6 (body : (Int → Int → Int → Int → Int → Int → GS → GO) → Int → Int → Int → Int → Int → Int → GS → GO) : Nat → Int → Int → Int → Int → Int → Int → GS → GO
  | 0 => fun _ _ _ _ _ _ _ => none
  | k + 1 => fun x0 x1 x2 x3 x4 x5 G => body (lh6 body k) x0 x1 x2 x3 x4 x5 G
theorem lh6_s {body : (Int → Int → Int → Int → Int → Int → GS → GO) → Int → Int → Int → Int → Int → Int → GS → GO} (k : Nat) (x0 x1 x2 x3 x4 x5 : Int) (G : GS) : lh6 body (k + 1) x0 x1 x2 x3 x4 x5 G = body (lh6 body k) x0 x1 x2 x3 x4 x5 G := rfl
theorem lq7_s {body : (Int → Int → Int → Int → Int → Int → Int → PH → RO) → Int → Int → Int → Int → Int → Int → Int → PH → RO} (k : Nat) (x0 x1 x2 x3 x4 x5 x6 : Int) (H : PH) : lq7 body (k + 1) x0 x1 x2 x3 x4 x5 x6 H = body (lq7 body k) x0 x1 x2 x3 x4 x5 x6 H := rfl
def lh7 (body : (Int → Int → Int → Int → Int → Int → Int → GS → GO) → Int → Int → Int → Int → Int → Int → Int → GS → GO) : Nat → Int → Int → Int → Int → Int → Int → Int → GS → GO
  | 0 => fun _ _ _ _ _ _ _ _ => none
  | k + 1 => fun x0 x1 x2 x3 x4 x5 x6 G => body (lh7 body k) x0 x1 x2 x3 x4 x5 x6 G
theorem lh7_s {body : (Int → Int → Int → Int → Int → Int → Int → GS → GO) → Int → Int → Int → Int → Int → Int → Int → GS → GO} (k : Nat) (x0 x1 x2 x3 x4 x5 x6 : Int) (G : GS) : lh7 body (k + 1) x0 x1 x2 x3 x4 x5 x6 G = body (lh7 body k) x0 x1 x2 x3 x4 x5 x6 G := rfl
theorem lq8_s {body : (Int → Int → Int → Int → Int → Int → Int → Int → PH → RO) → Int → Int → Int → Int → Int → Int → Int → Int → PH → RO} (k : Nat) (x0 x1 x2 x3 x4 x5 x6 x7 : Int) (H : PH) : lq8 body (k + 1) x0 x1 x2 x3 x4 x5 x6 x7 H = body (lq8 body k) x0 x1 x2 x3 x4 x5 x6 x7 H := rfl
def lh8 (body : (Int → Int → Int → Int → Int → Int → Int → Int → GS → GO) → Int → Int → Int → Int → Int → Int → Int → Int → GS → GO) : Nat → Int → Int → Int → Int → Int → Int → Int → Int → GS → GO
  | 0 => fun _ _ _ _ _ _ _ _ _ => none
  | k + 1 => fun x0 x1 x2 x3 x4 x5 x6 x7 G => body (lh8 body k) x0 x1 x2 x3 x4 x5 x6 x7 G
theorem lh8_s {body : (Int → Int → Int → Int → Int → Int → Int → Int → GS → GO) → Int → Int → Int → Int → Int → Int → Int → Int → GS → GO} (k : Nat) (x0 x1 x2 x3 x4 x5 x6 x7 : Int) (G : GS) : lh8 body (k + 1) x0 x1 x2 x3 x4 x5 x6 x7 G = body (lh8 body k) x0 x1 x2 x3 x4 x5 x6 x7 G := rfl
