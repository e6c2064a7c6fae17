/-! states that are the same but for some places -/
abbrev PL' : Type := List (Nat × Option Nat)
def memP (L : PL') (r k : Nat) : Prop := ∃ e, e ∈ L ∧ e.1 = r ∧ (e.2 = none ∨ e.2 = some k)
def same (V V' : GV) (L : PL') : Prop := ∀ r i k, ¬ memP L r k → V' r i k = V r i k
def dise (a b : Nat × Option Nat) : Bool := a.1 != b.1 || (match a.2, b.2 with
  | some x, some y => x != y
  | _, _ => false)
def disP (L M : PL') : Bool := L.all fun a => M.all fun b => dise a b
theorem dis_not {L M : PL'} (h : disP L M = true) {r k : Nat} (hm : memP M r k) : ¬ memP L r k := by
  intro hl
  obtain ⟨a, ha, ar, ak⟩ := hl
  obtain ⟨b, hb, br, bk⟩ := hm
  unfold disP at h
  have h1 := List.all_eq_true.mp (List.all_eq_true.mp h a ha) b hb
  obtain ⟨a1, a2⟩ := a
  obtain ⟨b1, b2⟩ := b
  simp only at ar br ak bk
  subst ar br
  unfold dise at h1
  rcases ak with rfl | rfl <;> rcases bk with rfl | rfl <;> simp at h1
theorem same.rf (V : GV) (L : PL') : same V V L := fun _ _ _ _ => rfl
theorem same.u {V V' : GV} {L : PL'} (h : same V V' L) {r i k : Nat} {v : Int} (hm : memP L r k) : same V (u3 V' r i k v) L := by
  intro r' i' k' hn
  by_cases e : r' = r ∧ i' = i ∧ k' = k
  · exact absurd (e.1 ▸ e.2.2 ▸ hm) hn
  · exact (if_neg e).trans (h r' i' k' hn)
theorem same.tr {V V' V'' : GV} {L : PL'} (h : same V V' L) (h' : same V' V'' L) : same V V'' L := fun r i k hn => (h' r i k hn).trans (h r i k hn)
theorem same.mono {V V' : GV} {L M : PL'} (h : same V V' L) (hs : ∀ e, e ∈ L → e ∈ M) : same V V' M := fun r i k hn => h r i k (fun ⟨e, he, q⟩ => hn ⟨e, hs e he, q⟩)
theorem same.at {V V' : GV} {L M : PL'} (h : same V V' L) (hd : disP L M = true) {r i k : Nat} (hm : memP M r k) : V' r i k = V r i k := h r i k (dis_not hd hm)
theorem same.r {V V' : GV} {L : PL'} (h : same V V' L) (r : Nat) (hd : disP L [(r, none)] = true) (i k : Nat) : V' r i k = V r i k := h.at hd ⟨(r, none), by simp, rfl, Or.inl rfl⟩
theorem same.f {V V' : GV} {L : PL'} (h : same V V' L) (r k : Nat) (hd : disP L [(r, some k)] = true) (i : Nat) : V' r i k = V r i k := h.at hd ⟨(r, some k), by simp, rfl, Or.inr rfl⟩
theorem rowf_cg {V V' : GV} (e110 : ∀ i k, V' 110 i k = V 110 i k) (e111 : ∀ i k, V' 111 i k = V 111 i k) {q : Nat} {v : Int} : ∀ {k i : Nat}, rowf V' q v k i = rowf V q v k i
  | 0, _ => rfl
  | k + 1, i => by
    unfold rowf
    rw [e110, e111, rowf_cg e110 e111]
theorem sumv_cg {V V' : GV} {s b : Nat} (e32 : ∀ i k, V' 32 i k = V 32 i k) (e33 : ∀ i k, V' 33 i k = V 33 i k) : ∀ {p : Nat}, sumv V' s b p = sumv V s b p
  | 0 => rfl
  | p + 1 => by
    unfold sumv
    rw [e32, e33, sumv_cg e32 e33]
theorem hcnt_cg {V V' : GV} (e142 : ∀ i k, V' 142 i k = V 142 i k) : ∀ {p : Nat}, hcnt V' p = hcnt V p
  | 0 => rfl
  | p + 1 => by
    unfold hcnt
    rw [e142, hcnt_cg e142]
def ft_IN : PL' := [(100, some 0), (100, some 14), (100, some 18), (100, some 30), (100, some 29), (1, some 1), (1, some 3), (1, some 5), (0, some 2), (0, some 4)]
theorem cg_IN {V V' : GV} {R : GR} {L : PL'} (h : same V V' L) (hd : disP L ft_IN = true) (hv : IN V R) : IN V' R := by
  have e100_0 : ∀ i, V' 100 i 0 = V 100 i 0 := fun i => h.at hd ⟨(100, some 0), by decide, rfl, Or.inr rfl⟩
  have e100_14 : ∀ i, V' 100 i 14 = V 100 i 14 := fun i => h.at hd ⟨(100, some 14), by decide, rfl, Or.inr rfl⟩
  have e100_18 : ∀ i, V' 100 i 18 = V 100 i 18 := fun i => h.at hd ⟨(100, some 18), by decide, rfl, Or.inr rfl⟩
  have e100_30 : ∀ i, V' 100 i 30 = V 100 i 30 := fun i => h.at hd ⟨(100, some 30), by decide, rfl, Or.inr rfl⟩
  have e100_29 : ∀ i, V' 100 i 29 = V 100 i 29 := fun i => h.at hd ⟨(100, some 29), by decide, rfl, Or.inr rfl⟩
  have e1_1 : ∀ i, V' 1 i 1 = V 1 i 1 := fun i => h.at hd ⟨(1, some 1), by decide, rfl, Or.inr rfl⟩
  have e1_3 : ∀ i, V' 1 i 3 = V 1 i 3 := fun i => h.at hd ⟨(1, some 3), by decide, rfl, Or.inr rfl⟩
  have e1_5 : ∀ i, V' 1 i 5 = V 1 i 5 := fun i => h.at hd ⟨(1, some 5), by decide, rfl, Or.inr rfl⟩
  have e0_2 : ∀ i, V' 0 i 2 = V 0 i 2 := fun i => h.at hd ⟨(0, some 2), by decide, rfl, Or.inr rfl⟩
  have e0_4 : ∀ i, V' 0 i 4 = V 0 i 4 := fun i => h.at hd ⟨(0, some 4), by decide, rfl, Or.inr rfl⟩
  revert hv
  unfold IN
  simp only [e100_0, e100_14, e100_18, e100_30, e100_29, e1_1, e1_3, e1_5, e0_2, e0_4]
  exact id
def ft_IL : PL' := [(2, none), (3, none), (5, none), (6, none)]
theorem cg_IL {V V' : GV} {R : GR} {L : PL'} (h : same V V' L) (hd : disP L ft_IL = true) (hv : IL V R) : IL V' R := by
  have e2 : ∀ i k, V' 2 i k = V 2 i k := fun i k => h.at hd ⟨(2, none), by decide, rfl, Or.inl rfl⟩
  have e3 : ∀ i k, V' 3 i k = V 3 i k := fun i k => h.at hd ⟨(3, none), by decide, rfl, Or.inl rfl⟩
  have e5 : ∀ i k, V' 5 i k = V 5 i k := fun i k => h.at hd ⟨(5, none), by decide, rfl, Or.inl rfl⟩
  have e6 : ∀ i k, V' 6 i k = V 6 i k := fun i k => h.at hd ⟨(6, none), by decide, rfl, Or.inl rfl⟩
  revert hv
  unfold IL
  simp only [e2, e3, e5, e6]
  exact id
def ft_IQ : PL' := [(101, none), (102, none), (103, none), (104, none), (105, none), (106, none), (107, none), (108, none), (109, none), (110, none), (111, none), (112, none), (113, none), (21, none), (22, none), (23, none), (24, none), (125, none), (20, some 0), (20, some 1), (20, some 2), (20, some 3), (20, some 5), (20, some 9), (20, some 10), (20, some 11)]
theorem cg_IQ {V V' : GV} {R : GR} {L : PL'} (h : same V V' L) (hd : disP L ft_IQ = true) (hv : IQ V R) : IQ V' R := by
  have e101 : ∀ i k, V' 101 i k = V 101 i k := fun i k => h.at hd ⟨(101, none), by decide, rfl, Or.inl rfl⟩
  have e102 : ∀ i k, V' 102 i k = V 102 i k := fun i k => h.at hd ⟨(102, none), by decide, rfl, Or.inl rfl⟩
  have e103 : ∀ i k, V' 103 i k = V 103 i k := fun i k => h.at hd ⟨(103, none), by decide, rfl, Or.inl rfl⟩
  have e104 : ∀ i k, V' 104 i k = V 104 i k := fun i k => h.at hd ⟨(104, none), by decide, rfl, Or.inl rfl⟩
  have e105 : ∀ i k, V' 105 i k = V 105 i k := fun i k => h.at hd ⟨(105, none), by decide, rfl, Or.inl rfl⟩
  have e106 : ∀ i k, V' 106 i k = V 106 i k := fun i k => h.at hd ⟨(106, none), by decide, rfl, Or.inl rfl⟩
  have e107 : ∀ i k, V' 107 i k = V 107 i k := fun i k => h.at hd ⟨(107, none), by decide, rfl, Or.inl rfl⟩
  have e108 : ∀ i k, V' 108 i k = V 108 i k := fun i k => h.at hd ⟨(108, none), by decide, rfl, Or.inl rfl⟩
  have e109 : ∀ i k, V' 109 i k = V 109 i k := fun i k => h.at hd ⟨(109, none), by decide, rfl, Or.inl rfl⟩
  have e110 : ∀ i k, V' 110 i k = V 110 i k := fun i k => h.at hd ⟨(110, none), by decide, rfl, Or.inl rfl⟩
  have e111 : ∀ i k, V' 111 i k = V 111 i k := fun i k => h.at hd ⟨(111, none), by decide, rfl, Or.inl rfl⟩
  have e112 : ∀ i k, V' 112 i k = V 112 i k := fun i k => h.at hd ⟨(112, none), by decide, rfl, Or.inl rfl⟩
  have e113 : ∀ i k, V' 113 i k = V 113 i k := fun i k => h.at hd ⟨(113, none), by decide, rfl, Or.inl rfl⟩
  have e21 : ∀ i k, V' 21 i k = V 21 i k := fun i k => h.at hd ⟨(21, none), by decide, rfl, Or.inl rfl⟩
  have e22 : ∀ i k, V' 22 i k = V 22 i k := fun i k => h.at hd ⟨(22, none), by decide, rfl, Or.inl rfl⟩
  have e23 : ∀ i k, V' 23 i k = V 23 i k := fun i k => h.at hd ⟨(23, none), by decide, rfl, Or.inl rfl⟩
  have e24 : ∀ i k, V' 24 i k = V 24 i k := fun i k => h.at hd ⟨(24, none), by decide, rfl, Or.inl rfl⟩
  have e125 : ∀ i k, V' 125 i k = V 125 i k := fun i k => h.at hd ⟨(125, none), by decide, rfl, Or.inl rfl⟩
  have e20_0 : ∀ i, V' 20 i 0 = V 20 i 0 := fun i => h.at hd ⟨(20, some 0), by decide, rfl, Or.inr rfl⟩
  have e20_1 : ∀ i, V' 20 i 1 = V 20 i 1 := fun i => h.at hd ⟨(20, some 1), by decide, rfl, Or.inr rfl⟩
  have e20_2 : ∀ i, V' 20 i 2 = V 20 i 2 := fun i => h.at hd ⟨(20, some 2), by decide, rfl, Or.inr rfl⟩
  have e20_3 : ∀ i, V' 20 i 3 = V 20 i 3 := fun i => h.at hd ⟨(20, some 3), by decide, rfl, Or.inr rfl⟩
  have e20_5 : ∀ i, V' 20 i 5 = V 20 i 5 := fun i => h.at hd ⟨(20, some 5), by decide, rfl, Or.inr rfl⟩
  have e20_9 : ∀ i, V' 20 i 9 = V 20 i 9 := fun i => h.at hd ⟨(20, some 9), by decide, rfl, Or.inr rfl⟩
  have e20_10 : ∀ i, V' 20 i 10 = V 20 i 10 := fun i => h.at hd ⟨(20, some 10), by decide, rfl, Or.inr rfl⟩
  have e20_11 : ∀ i, V' 20 i 11 = V 20 i 11 := fun i => h.at hd ⟨(20, some 11), by decide, rfl, Or.inr rfl⟩
  revert hv
  unfold IQ
  simp only [IQ1, IQro, IQfi, IQma, IQkr, IQc, IQr, IQm, e101, e102, e103, e104, e105, e106, e107, e108, e109, e110, e111, e112, e113, e21, e22, e23, e24, e125, e20_0, e20_1, e20_2, e20_3, e20_5, e20_9, e20_10, e20_11]
  exact id
def ft_IC : PL' := [(40, none), (119, none), (120, none), (121, none), (122, none), (123, none), (124, none), (125, none), (126, none), (127, none), (101, none), (102, none)]
theorem cg_IC {V V' : GV} {R : GR} {L : PL'} (h : same V V' L) (hd : disP L ft_IC = true) (hv : IC V R) : IC V' R := by
  have e40 : ∀ i k, V' 40 i k = V 40 i k := fun i k => h.at hd ⟨(40, none), by decide, rfl, Or.inl rfl⟩
  have e119 : ∀ i k, V' 119 i k = V 119 i k := fun i k => h.at hd ⟨(119, none), by decide, rfl, Or.inl rfl⟩
  have e120 : ∀ i k, V' 120 i k = V 120 i k := fun i k => h.at hd ⟨(120, none), by decide, rfl, Or.inl rfl⟩
  have e121 : ∀ i k, V' 121 i k = V 121 i k := fun i k => h.at hd ⟨(121, none), by decide, rfl, Or.inl rfl⟩
  have e122 : ∀ i k, V' 122 i k = V 122 i k := fun i k => h.at hd ⟨(122, none), by decide, rfl, Or.inl rfl⟩
  have e123 : ∀ i k, V' 123 i k = V 123 i k := fun i k => h.at hd ⟨(123, none), by decide, rfl, Or.inl rfl⟩
  have e124 : ∀ i k, V' 124 i k = V 124 i k := fun i k => h.at hd ⟨(124, none), by decide, rfl, Or.inl rfl⟩
  have e125 : ∀ i k, V' 125 i k = V 125 i k := fun i k => h.at hd ⟨(125, none), by decide, rfl, Or.inl rfl⟩
  have e126 : ∀ i k, V' 126 i k = V 126 i k := fun i k => h.at hd ⟨(126, none), by decide, rfl, Or.inl rfl⟩
  have e127 : ∀ i k, V' 127 i k = V 127 i k := fun i k => h.at hd ⟨(127, none), by decide, rfl, Or.inl rfl⟩
  have e101 : ∀ i k, V' 101 i k = V 101 i k := fun i k => h.at hd ⟨(101, none), by decide, rfl, Or.inl rfl⟩
  have e102 : ∀ i k, V' 102 i k = V 102 i k := fun i k => h.at hd ⟨(102, none), by decide, rfl, Or.inl rfl⟩
  revert hv
  unfold IC
  simp only [IC1, ICre, IC_0, IC_n, IC_12, IC_3, IC_4, e40, e119, e120, e121, e122, e123, e124, e125, e126, e127, e101, e102]
  exact id
def ft_IOO : PL' := [(4, none), (128, none), (103, none), (104, none), (105, none), (119, none), (121, none), (123, none), (124, none), (20, some 12), (100, some 29)]
theorem cg_IOO {V V' : GV} {R : GR} {L : PL'} (h : same V V' L) (hd : disP L ft_IOO = true) (hv : IOO V R) : IOO V' R := by
  have e4 : ∀ i k, V' 4 i k = V 4 i k := fun i k => h.at hd ⟨(4, none), by decide, rfl, Or.inl rfl⟩
  have e128 : ∀ i k, V' 128 i k = V 128 i k := fun i k => h.at hd ⟨(128, none), by decide, rfl, Or.inl rfl⟩
  have e103 : ∀ i k, V' 103 i k = V 103 i k := fun i k => h.at hd ⟨(103, none), by decide, rfl, Or.inl rfl⟩
  have e104 : ∀ i k, V' 104 i k = V 104 i k := fun i k => h.at hd ⟨(104, none), by decide, rfl, Or.inl rfl⟩
  have e105 : ∀ i k, V' 105 i k = V 105 i k := fun i k => h.at hd ⟨(105, none), by decide, rfl, Or.inl rfl⟩
  have e119 : ∀ i k, V' 119 i k = V 119 i k := fun i k => h.at hd ⟨(119, none), by decide, rfl, Or.inl rfl⟩
  have e121 : ∀ i k, V' 121 i k = V 121 i k := fun i k => h.at hd ⟨(121, none), by decide, rfl, Or.inl rfl⟩
  have e123 : ∀ i k, V' 123 i k = V 123 i k := fun i k => h.at hd ⟨(123, none), by decide, rfl, Or.inl rfl⟩
  have e124 : ∀ i k, V' 124 i k = V 124 i k := fun i k => h.at hd ⟨(124, none), by decide, rfl, Or.inl rfl⟩
  have e20_12 : ∀ i, V' 20 i 12 = V 20 i 12 := fun i => h.at hd ⟨(20, some 12), by decide, rfl, Or.inr rfl⟩
  have e100_29 : ∀ i, V' 100 i 29 = V 100 i 29 := fun i => h.at hd ⟨(100, some 29), by decide, rfl, Or.inr rfl⟩
  revert hv
  unfold IOO
  simp only [IO1, bef, e4, e128, e103, e104, e105, e119, e121, e123, e124, e20_12, e100_29]
  exact id
def ft_IHs : PL' := [(51, none), (30, some 0)]
theorem cg_IHs {V V' : GV} {R : GR} {L : PL'} (h : same V V' L) (hd : disP L ft_IHs = true) (hv : IHs V R) : IHs V' R := by
  have e51 : ∀ i k, V' 51 i k = V 51 i k := fun i k => h.at hd ⟨(51, none), by decide, rfl, Or.inl rfl⟩
  have e30_0 : ∀ i, V' 30 i 0 = V 30 i 0 := fun i => h.at hd ⟨(30, some 0), by decide, rfl, Or.inr rfl⟩
  revert hv
  unfold IHs
  simp only [e51, e30_0]
  exact id
def ft_IA : PL' := [(32, none), (33, none), (115, none), (116, none), (101, none), (102, none), (103, none), (108, none), (109, none), (30, some 0)]
theorem cg_IA {V V' : GV} {R : GR} {L : PL'} (h : same V V' L) (hd : disP L ft_IA = true) (hv : IA V R) : IA V' R := by
  have e32 : ∀ i k, V' 32 i k = V 32 i k := fun i k => h.at hd ⟨(32, none), by decide, rfl, Or.inl rfl⟩
  have e33 : ∀ i k, V' 33 i k = V 33 i k := fun i k => h.at hd ⟨(33, none), by decide, rfl, Or.inl rfl⟩
  have e115 : ∀ i k, V' 115 i k = V 115 i k := fun i k => h.at hd ⟨(115, none), by decide, rfl, Or.inl rfl⟩
  have e116 : ∀ i k, V' 116 i k = V 116 i k := fun i k => h.at hd ⟨(116, none), by decide, rfl, Or.inl rfl⟩
  have e101 : ∀ i k, V' 101 i k = V 101 i k := fun i k => h.at hd ⟨(101, none), by decide, rfl, Or.inl rfl⟩
  have e102 : ∀ i k, V' 102 i k = V 102 i k := fun i k => h.at hd ⟨(102, none), by decide, rfl, Or.inl rfl⟩
  have e103 : ∀ i k, V' 103 i k = V 103 i k := fun i k => h.at hd ⟨(103, none), by decide, rfl, Or.inl rfl⟩
  have e108 : ∀ i k, V' 108 i k = V 108 i k := fun i k => h.at hd ⟨(108, none), by decide, rfl, Or.inl rfl⟩
  have e109 : ∀ i k, V' 109 i k = V 109 i k := fun i k => h.at hd ⟨(109, none), by decide, rfl, Or.inl rfl⟩
  have e30_0 : ∀ i, V' 30 i 0 = V 30 i 0 := fun i => h.at hd ⟨(30, some 0), by decide, rfl, Or.inr rfl⟩
  revert hv
  unfold IA
  simp only [IA1, AR, okv, e32, e33, e115, e116, e101, e102, e103, e108, e109, e30_0]
  exact id
def ft_IW : PL' := [(117, none), (30, some 3)]
theorem cg_IW {V V' : GV} {R : GR} {L : PL'} (h : same V V' L) (hd : disP L ft_IW = true) (hv : IW V R) : IW V' R := by
  have e117 : ∀ i k, V' 117 i k = V 117 i k := fun i k => h.at hd ⟨(117, none), by decide, rfl, Or.inl rfl⟩
  have e30_3 : ∀ i, V' 30 i 3 = V 30 i 3 := fun i => h.at hd ⟨(30, some 3), by decide, rfl, Or.inr rfl⟩
  revert hv
  unfold IW
  simp only [e117, e30_3]
  exact id
def ft_IS : PL' := [(4, none), (32, none), (33, none), (34, none), (101, none), (102, none), (103, none), (104, none), (105, none), (110, none), (111, none), (112, none), (113, none), (119, none), (120, none), (121, none), (122, none), (123, none), (124, none), (125, none), (30, some 0), (30, some 2), (100, some 29)]
theorem cg_IS {V V' : GV} {R : GR} {L : PL'} (h : same V V' L) (hd : disP L ft_IS = true) (hv : IS V R) : IS V' R := by
  have e4 : ∀ i k, V' 4 i k = V 4 i k := fun i k => h.at hd ⟨(4, none), by decide, rfl, Or.inl rfl⟩
  have e32 : ∀ i k, V' 32 i k = V 32 i k := fun i k => h.at hd ⟨(32, none), by decide, rfl, Or.inl rfl⟩
  have e33 : ∀ i k, V' 33 i k = V 33 i k := fun i k => h.at hd ⟨(33, none), by decide, rfl, Or.inl rfl⟩
  have e34 : ∀ i k, V' 34 i k = V 34 i k := fun i k => h.at hd ⟨(34, none), by decide, rfl, Or.inl rfl⟩
  have e101 : ∀ i k, V' 101 i k = V 101 i k := fun i k => h.at hd ⟨(101, none), by decide, rfl, Or.inl rfl⟩
  have e102 : ∀ i k, V' 102 i k = V 102 i k := fun i k => h.at hd ⟨(102, none), by decide, rfl, Or.inl rfl⟩
  have e103 : ∀ i k, V' 103 i k = V 103 i k := fun i k => h.at hd ⟨(103, none), by decide, rfl, Or.inl rfl⟩
  have e104 : ∀ i k, V' 104 i k = V 104 i k := fun i k => h.at hd ⟨(104, none), by decide, rfl, Or.inl rfl⟩
  have e105 : ∀ i k, V' 105 i k = V 105 i k := fun i k => h.at hd ⟨(105, none), by decide, rfl, Or.inl rfl⟩
  have e110 : ∀ i k, V' 110 i k = V 110 i k := fun i k => h.at hd ⟨(110, none), by decide, rfl, Or.inl rfl⟩
  have e111 : ∀ i k, V' 111 i k = V 111 i k := fun i k => h.at hd ⟨(111, none), by decide, rfl, Or.inl rfl⟩
  have e112 : ∀ i k, V' 112 i k = V 112 i k := fun i k => h.at hd ⟨(112, none), by decide, rfl, Or.inl rfl⟩
  have e113 : ∀ i k, V' 113 i k = V 113 i k := fun i k => h.at hd ⟨(113, none), by decide, rfl, Or.inl rfl⟩
  have e119 : ∀ i k, V' 119 i k = V 119 i k := fun i k => h.at hd ⟨(119, none), by decide, rfl, Or.inl rfl⟩
  have e120 : ∀ i k, V' 120 i k = V 120 i k := fun i k => h.at hd ⟨(120, none), by decide, rfl, Or.inl rfl⟩
  have e121 : ∀ i k, V' 121 i k = V 121 i k := fun i k => h.at hd ⟨(121, none), by decide, rfl, Or.inl rfl⟩
  have e122 : ∀ i k, V' 122 i k = V 122 i k := fun i k => h.at hd ⟨(122, none), by decide, rfl, Or.inl rfl⟩
  have e123 : ∀ i k, V' 123 i k = V 123 i k := fun i k => h.at hd ⟨(123, none), by decide, rfl, Or.inl rfl⟩
  have e124 : ∀ i k, V' 124 i k = V 124 i k := fun i k => h.at hd ⟨(124, none), by decide, rfl, Or.inl rfl⟩
  have e125 : ∀ i k, V' 125 i k = V 125 i k := fun i k => h.at hd ⟨(125, none), by decide, rfl, Or.inl rfl⟩
  have e30_0 : ∀ i, V' 30 i 0 = V 30 i 0 := fun i => h.at hd ⟨(30, some 0), by decide, rfl, Or.inr rfl⟩
  have e30_2 : ∀ i, V' 30 i 2 = V 30 i 2 := fun i => h.at hd ⟨(30, some 2), by decide, rfl, Or.inr rfl⟩
  have e100_29 : ∀ i, V' 100 i 29 = V 100 i 29 := fun i => h.at hd ⟨(100, some 29), by decide, rfl, Or.inr rfl⟩
  revert hv
  unfold IS
  simp only [IS1, LE, LEq, LEc, conf, so, askf, mapv, sumr, plc, e4, e32, e33, e34, e101, e102, e103, e104, e105, e110, e111, e112, e113, e119, e120, e121, e122, e123, e124, e125, e30_0, e30_2, e100_29, rowf_cg e110 e111, sumv_cg e32 e33]
  exact id
def ft_IE : PL' := [(131, none), (132, none), (51, none), (32, none), (33, none), (133, none), (134, none), (101, none), (102, none), (103, none), (108, none), (109, none), (50, some 1)]
theorem cg_IE {V V' : GV} {R : GR} {L : PL'} (h : same V V' L) (hd : disP L ft_IE = true) (hv : IE V R) : IE V' R := by
  have e131 : ∀ i k, V' 131 i k = V 131 i k := fun i k => h.at hd ⟨(131, none), by decide, rfl, Or.inl rfl⟩
  have e132 : ∀ i k, V' 132 i k = V 132 i k := fun i k => h.at hd ⟨(132, none), by decide, rfl, Or.inl rfl⟩
  have e51 : ∀ i k, V' 51 i k = V 51 i k := fun i k => h.at hd ⟨(51, none), by decide, rfl, Or.inl rfl⟩
  have e32 : ∀ i k, V' 32 i k = V 32 i k := fun i k => h.at hd ⟨(32, none), by decide, rfl, Or.inl rfl⟩
  have e33 : ∀ i k, V' 33 i k = V 33 i k := fun i k => h.at hd ⟨(33, none), by decide, rfl, Or.inl rfl⟩
  have e133 : ∀ i k, V' 133 i k = V 133 i k := fun i k => h.at hd ⟨(133, none), by decide, rfl, Or.inl rfl⟩
  have e134 : ∀ i k, V' 134 i k = V 134 i k := fun i k => h.at hd ⟨(134, none), by decide, rfl, Or.inl rfl⟩
  have e101 : ∀ i k, V' 101 i k = V 101 i k := fun i k => h.at hd ⟨(101, none), by decide, rfl, Or.inl rfl⟩
  have e102 : ∀ i k, V' 102 i k = V 102 i k := fun i k => h.at hd ⟨(102, none), by decide, rfl, Or.inl rfl⟩
  have e103 : ∀ i k, V' 103 i k = V 103 i k := fun i k => h.at hd ⟨(103, none), by decide, rfl, Or.inl rfl⟩
  have e108 : ∀ i k, V' 108 i k = V 108 i k := fun i k => h.at hd ⟨(108, none), by decide, rfl, Or.inl rfl⟩
  have e109 : ∀ i k, V' 109 i k = V 109 i k := fun i k => h.at hd ⟨(109, none), by decide, rfl, Or.inl rfl⟩
  have e50_1 : ∀ i, V' 50 i 1 = V 50 i 1 := fun i => h.at hd ⟨(50, some 1), by decide, rfl, Or.inr rfl⟩
  revert hv
  unfold IE
  simp only [IE1, AR, okv, e131, e132, e51, e32, e33, e133, e134, e101, e102, e103, e108, e109, e50_1]
  exact id
def ft_IT : PL' := [(8, none), (9, none), (10, none), (12, none), (139, none), (140, none), (141, none), (142, none), (100, some 35), (100, some 36), (100, some 37), (100, some 38), (7, some 0), (7, some 1), (7, some 2), (7, some 8)]
theorem cg_IT {V V' : GV} {L : PL'} (h : same V V' L) (hd : disP L ft_IT = true) (hv : IT V) : IT V' := by
  have e8 : ∀ i k, V' 8 i k = V 8 i k := fun i k => h.at hd ⟨(8, none), by decide, rfl, Or.inl rfl⟩
  have e9 : ∀ i k, V' 9 i k = V 9 i k := fun i k => h.at hd ⟨(9, none), by decide, rfl, Or.inl rfl⟩
  have e10 : ∀ i k, V' 10 i k = V 10 i k := fun i k => h.at hd ⟨(10, none), by decide, rfl, Or.inl rfl⟩
  have e12 : ∀ i k, V' 12 i k = V 12 i k := fun i k => h.at hd ⟨(12, none), by decide, rfl, Or.inl rfl⟩
  have e139 : ∀ i k, V' 139 i k = V 139 i k := fun i k => h.at hd ⟨(139, none), by decide, rfl, Or.inl rfl⟩
  have e140 : ∀ i k, V' 140 i k = V 140 i k := fun i k => h.at hd ⟨(140, none), by decide, rfl, Or.inl rfl⟩
  have e141 : ∀ i k, V' 141 i k = V 141 i k := fun i k => h.at hd ⟨(141, none), by decide, rfl, Or.inl rfl⟩
  have e142 : ∀ i k, V' 142 i k = V 142 i k := fun i k => h.at hd ⟨(142, none), by decide, rfl, Or.inl rfl⟩
  have e100_35 : ∀ i, V' 100 i 35 = V 100 i 35 := fun i => h.at hd ⟨(100, some 35), by decide, rfl, Or.inr rfl⟩
  have e100_36 : ∀ i, V' 100 i 36 = V 100 i 36 := fun i => h.at hd ⟨(100, some 36), by decide, rfl, Or.inr rfl⟩
  have e100_37 : ∀ i, V' 100 i 37 = V 100 i 37 := fun i => h.at hd ⟨(100, some 37), by decide, rfl, Or.inr rfl⟩
  have e100_38 : ∀ i, V' 100 i 38 = V 100 i 38 := fun i => h.at hd ⟨(100, some 38), by decide, rfl, Or.inr rfl⟩
  have e7_0 : ∀ i, V' 7 i 0 = V 7 i 0 := fun i => h.at hd ⟨(7, some 0), by decide, rfl, Or.inr rfl⟩
  have e7_1 : ∀ i, V' 7 i 1 = V 7 i 1 := fun i => h.at hd ⟨(7, some 1), by decide, rfl, Or.inr rfl⟩
  have e7_2 : ∀ i, V' 7 i 2 = V 7 i 2 := fun i => h.at hd ⟨(7, some 2), by decide, rfl, Or.inr rfl⟩
  have e7_8 : ∀ i, V' 7 i 8 = V 7 i 8 := fun i => h.at hd ⟨(7, some 8), by decide, rfl, Or.inr rfl⟩
  revert hv
  unfold IT
  simp only [e8, e9, e10, e12, e139, e140, e141, e142, e100_35, e100_36, e100_37, e100_38, e7_0, e7_1, e7_2, e7_8, hcnt_cg e142]
  exact id
def ft_RF : PL' := RL0.map (fun e => (e.1, some e.2)) ++ RL1.map (fun e => (e.1, some e.2))
theorem cg_RF {V V' : GV} {R : GR} {L : PL'} (h : same V V' L) (hd : disP L ft_RF = true) (hv : RF V R) : RF V' R := by
  refine ⟨fun e he => ?_, fun e he i hi => ?_⟩
  · rw [h.at hd ⟨(e.1, some e.2), List.mem_append.mpr (Or.inl (List.mem_map.mpr ⟨e, he, rfl⟩)), rfl, Or.inr rfl⟩]; exact hv.1 e he
  · rw [h.at hd ⟨(e.1, some e.2), List.mem_append.mpr (Or.inr (List.mem_map.mpr ⟨e, he, rfl⟩)), rfl, Or.inr rfl⟩]; exact hv.2 e he i hi
/-- what is held of the table is kept by all that leaves the table alone -/
def tcl (T : GV → Prop) : Prop := ∀ (V V' : GV) (L : PL'), same V V' L → disP L ft_IT = true → T V → T V'
theorem tcl_IT : tcl IT := fun _ _ _ h hd hv => cg_IT h hd hv
theorem tcl_any : tcl (fun _ => True) := fun _ _ _ _ _ _ => trivial
theorem cg_T {T : GV → Prop} {V V' : GV} {L : PL'} (h : same V V' L) (hd : disP L ft_IT = true) (hv : T V ∧ tcl T) : T V' ∧ tcl T := ⟨hv.2 V V' L h hd hv.1, hv.2⟩
def INV (T : GV → Prop) (V : GV) (R : GR) : Prop := (SH R ∧ RF V R ∧ IN V R ∧ IL V R ∧ IR R) ∧ IQ V R ∧ IC V R ∧ IOO V R ∧ IHs V R ∧ IA V R ∧ IW V R ∧ IS V R ∧ IE V R ∧ (T V ∧ tcl T)
