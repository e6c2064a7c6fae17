section Table
variable {V : GV} {R : GR} {T : GV → Prop} {Q : Int → GS → Prop}
def LTB : PL' := [(8, none), (9, none), (10, none), (12, none), (139, none), (140, none), (141, none), (142, none), (100, some 35), (100, some 36), (100, some 37), (100, some 38), (7, some 0), (7, some 1), (7, some 2), (7, some 8), (143, none), (144, none), (145, none)]
theorem INV.tb {V' : GV} (hI : INV T V R) (sm : same V V' LTB) : INV (fun _ => True) V' R :=
  ⟨⟨hI.SH, cg_RF sm rfl hI.RF, cg_IN sm rfl hI.IN, cg_IL sm rfl hI.IL, hI.IR⟩, cg_IQ sm rfl hI.IQ, cg_IC sm rfl hI.IC, cg_IOO sm rfl hI.IOO, cg_IHs sm rfl hI.IHs, cg_IA sm rfl hI.IA, cg_IW sm rfl hI.IW, cg_IS sm rfl hI.IS, cg_IE sm rfl hI.IE, ⟨trivial, tcl_any⟩⟩
theorem INV_it (hI : INV T V R) (h : IT V) : INV IT V R := by
  obtain ⟨a, b, c, d, e, f, g, i, j, _⟩ := hI
  exact ⟨a, b, c, d, e, f, g, i, j, h, tcl_IT⟩
def cidx (V : GV) (q : Nat) (v : Int) : Nat → Nat
  | 0 => 0
  | k + 1 => if V 108 0 (8 * q + k) = v then k else cidx V q v k
theorem cidx_eq {q : Nat} {v : Int} : ∀ {k j : Nat}, j < k → V 108 0 (8 * q + j) = v → (∀ i, i < k → V 108 0 (8 * q + i) = v → i = j) → cidx V q v k = j
  | 0, j, h, _, _ => absurd h (by omega)
  | k + 1, j, h, e, u => by
    unfold cidx
    by_cases c : V 108 0 (8 * q + k) = v
    · rw [if_pos c]; exact u k (by omega) c
    · rw [if_neg c]
      have : j ≠ k := fun z => c (z ▸ e)
      exact cidx_eq (by omega) e (fun i hi => u i (by omega))
theorem cidx_cg {V' : GV} {q : Nat} {v : Int} (e : ∀ k, V' 108 0 k = V 108 0 k) : ∀ {k : Nat}, cidx V' q v k = cidx V q v k
  | 0 => rfl
  | k + 1 => by unfold cidx; rw [e, cidx_cg e]
def lns (V : GV) (q s : Nat) : Nat := if V 33 s (5 * q) = 0 then cidx V q (V 32 s (5 * q)) (V 109 0 q).toNat else (V 109 0 q).toNat
def cod (V : GV) (q s : Nat) : Prop := 0 ≤ V 33 s (5 * q) ∧ (V 33 s (5 * q) = 0 → ∃ j : Nat, (j : Int) < V 109 0 q ∧ V 108 0 (8 * q + j) = V 32 s (5 * q))
theorem lns_lt (hI : INV T V R) {q s : Nat} (hq : q < rC R 20) (hc : cod V q s) : lns V q s ≤ (V 109 0 q).toNat := by
  unfold lns
  by_cases c : V 33 s (5 * q) = 0
  · rw [if_pos c]
    obtain ⟨j, hj, ej⟩ := hc.2 c
    have h2 := (hI.IQ.1 q hq).2.1.2
    rw [cidx_eq (j := j) (by omega) ej (fun i hi e => by
      rcases Nat.lt_trichotomy i j with l | l | l
      · exact absurd (e.trans ej.symm) (h2 i j l hj)
      · exact l
      · exact absurd (ej.trans e.symm) (h2 j i l (by omega)))]
    omega
  · rw [if_neg c]; exact Nat.le_refl _
theorem cidx_at (hI : INV T V R) {q : Nat} (hq : q < rC R 20) {v : Int} {j : Nat} (hj : (j : Int) < V 109 0 q) (ej : V 108 0 (8 * q + j) = v) : cidx V q v (V 109 0 q).toNat = j := by
  have h2 := (hI.IQ.1 q hq).2.1.2
  refine cidx_eq (by omega) ej (fun i hi e => ?_)
  rcases Nat.lt_trichotomy i j with l | l | l
  · exact absurd (e.trans ej.symm) (h2 i j l hj)
  · exact l
  · exact absurd (ej.trans e.symm) (h2 j i l (by omega))
theorem cod_all (hI : INV T V R) {h q : Nat} (hh : h < rC R 30) (hd : V 30 h 2 = V 100 0 29) (hq : q < rC R 20) (k0 : V 101 0 q = 0) (top : V 102 0 q = -1) : cod V q (V 30 h 0).toNat := by
  have hQ := hI.IQ
  obtain ⟨o1, o2, o3⟩ := hI.IN.2.2
  by_cases m0 : V 103 0 q = 0
  · obtain ⟨a, b, c⟩ := ((hI.IA h hh).1 q hq m0).1 top
    unfold cod
    rw [a, b]
    exact ⟨c.1, fun z => c.2.2.2.2.2 k0 z⟩
  · obtain ⟨j, hj, ej⟩ := hI.IOO.2.2.1 q hq m0
    have b20 := hI.IN.1.1
    have L := ((hI.IS h hh).2.2 j (by omega)).1 (by omega)
    rw [show (V 4 0 j).toNat = q by omega] at L
    obtain ⟨⟨_, mm0, mm3⟩, _⟩ := (hQ.1 q hq).1.2.2
    have m1 : V 103 0 q = 1 := by
      by_cases m2 : V 103 0 q = 2
      · have := ((hQ.1 q hq).2.2.2.2.1 m2).2.2.2.2.2.2.2; omega
      · by_cases m3 : V 103 0 q = 3
        · have := ((hQ.1 q hq).2.2.2.2.2 m3).2.2.2.2.2; omega
        · omega
    have e := L.1 m1 0 (by unfold plc; rw [if_pos top]; omega)
    rw [Nat.add_zero] at e
    obtain ⟨_, b0, bq, _, eb⟩ := (hQ.1 q hq).2.2.2.1 m1
    have hle : ∀ j, j < (V 100 0 29).toNat → (j : Int) < V 100 0 29 ∧ LE V h j := fun j hj => ⟨by omega, (hI.IS h hh).2.2 j (by omega)⟩
    have okb : okr V (V 30 h 0).toNat (V 104 0 q).toNat := by
      refine okr_all hI hh rfl hle ((V 104 0 q).toNat + 1) (V 104 0 q).toNat (by omega) (by omega) ?_
      by_cases mb : V 103 0 (V 104 0 q).toNat = 0
      · exact Or.inl mb
      · obtain ⟨j, hj, ej⟩ := hI.IOO.2.2.1 (V 104 0 q).toNat (by omega) mb
        exact Or.inr ⟨j, by omega, ej⟩
    have B := okb 0 (by rw [← eb, top]; unfold plc; rw [if_pos rfl]; omega)
    rw [Nat.add_zero] at B e
    have e1 := congrArg Prod.fst e
    have e2 := congrArg Prod.snd e
    dsimp only at e1 e2
    unfold cod
    rw [e1, e2]
    unfold mapv
    by_cases c1 : V 33 (V 30 h 0).toNat (5 * (V 104 0 q).toNat) = 0
    · rw [if_neg (by omega)]
      rcases rowf_lt (V := V) (q := q) (v := V 32 (V 30 h 0).toNat (5 * (V 104 0 q).toNat)) (k := (V 113 0 q).toNat) (i := 0) with x | x
      · rw [if_pos x]; exact ⟨by omega, fun z => absurd z (by dsimp only; omega)⟩
      · rw [if_neg (by omega)]
        exact ⟨by dsimp only; omega, fun _ => (hQ.1 q hq).2.2.1.2.2 (rowf V q (V 32 (V 30 h 0).toNat (5 * (V 104 0 q).toNat)) (V 113 0 q).toNat 0).toNat (by omega)⟩
    · rw [if_pos c1]; exact ⟨B.1.1, fun z => absurd z c1⟩
theorem w_lineOf (hI : INV T V R) {q s : Nat} {f : Int × GS → GO} (hq : q < rC R 20) (hs : shk V R s 120) (hc : cod V q s) (k : Wp (f ((lns V q s : Nat), (V, R))) Q) : Wp ((g_X5_lineOf (q : Int) (s : Int) ((5 * q : Nat) : Int) (V, R)).bind f) Q := by
  have hS := hI.SH
  have hF := hI.RF
  have b20 := hI.IN.1.1
  obtain ⟨e5, c0, c8⟩ := (hI.IQ.1 q hq).1.2.2.2.1
  refine w_bind ?_
  unfold g_X5_lineOf
  refine w_gv (by omega) ?_
  refine w_31 hS hs (Or.inr rfl) ?_
  refine w_33 hs (by omega) ?_
  refine w_ite (fun z => ?_) (fun z => ?_)
  · refine w_31 hS hs (Or.inl rfl) ?_
    refine w_32 hs (by omega) ?_
    obtain ⟨j, hj, ej⟩ := hc.2 z
    refine w_codeIndex hS hF hI.IQ b20 hq (fun j hj e => ?_) (fun hn => absurd ej (hn j hj))
    dsimp only
    refine w_ite (fun _ => w_ret ?_) (fun y => absurd (show (j : Int) ≠ -1 by omega) y)
    have : lns V q s = j := by unfold lns; rw [if_pos z]; exact cidx_at hI hq hj e
    rw [← this]; exact k
  · ((first | ((with_reducible refine w_s hS ?_ ?_ ?_ (fun x hx => ?_)); (focus decide); (focus (first | decide | omega)); (focus (first | decide | (simp only [sl]; omega)))) | ((with_reducible refine w_m hS ?_ ?_ ?_ ?_ ?_ (fun x hx => ?_)); (focus decide); (focus (first | decide | omega)); (focus omega); (focus (first | decide | omega)); (focus (first | decide | (simp only [ml]; omega)))) | (with_reducible refine w_k (by simp (disch := omega) only [w32_id]; exact rfl) ?_; ((with_reducible refine w_s hS ?_ ?_ ?_ (fun x hx => ?_)); (focus decide); (focus (first | decide | omega)); (focus (first | decide | (simp only [sl]; omega))))) | (with_reducible refine w_k (by simp (disch := omega) only [w32_id]; exact rfl) ?_; ((with_reducible refine w_m hS ?_ ?_ ?_ ?_ ?_ (fun x hx => ?_)); (focus decide); (focus (first | decide | omega)); (focus omega); (focus (first | decide | omega)); (focus (first | decide | (simp only [ml]; omega)))))); (try simp (disch := omega) only [Int.reduceToNat, tn_c, tn8, tn8i, tn5, tn5z, tn6, tn6z, tn1, u3_ne, u3_eq, u3_ni, u3_nk, e5] at hx); subst hx)
    refine w_ret ?_
    have : ((lns V q s : Nat) : Int) = V 109 0 q := by unfold lns; rw [if_neg z]; omega
    rw [← this]; exact k
theorem w_line (hI : INV T V R) {q s : Nat} {f : Int × GS → GO} (hq : q < rC R 20) (top : V 102 0 q = -1) (hn : nq V s q) (hc : cod V q s) (k : Wp (f ((lns V q s : Nat), (V, R))) Q) : Wp ((g_X9_line 0 (q : Int) (V, R)).bind f) Q := by
  have hS := hI.SH
  have hF := hI.RF
  have b20 := hI.IN.1.1
  obtain ⟨e5, c0, c8⟩ := (hI.IQ.1 q hq).1.2.2.2.1
  have hn := hn 0 (by rw [top]; unfold plc; rw [if_pos rfl]; omega)
  rw [top] at hn
  have s0 : slot (-1) 0 = 0 := by unfold slot; rw [if_pos rfl]
  rw [s0, Nat.add_zero, Nat.add_zero] at hn
  refine w_bind ?_
  unfold g_X9_line
  refine w_gv (by omega) ?_
  ((first | ((with_reducible refine w_s hS ?_ ?_ ?_ (fun x hx => ?_)); (focus decide); (focus (first | decide | omega)); (focus (first | decide | (simp only [sl]; omega)))) | ((with_reducible refine w_m hS ?_ ?_ ?_ ?_ ?_ (fun x hx => ?_)); (focus decide); (focus (first | decide | omega)); (focus omega); (focus (first | decide | omega)); (focus (first | decide | (simp only [ml]; omega)))) | (with_reducible refine w_k (by simp (disch := omega) only [w32_id]; exact rfl) ?_; ((with_reducible refine w_s hS ?_ ?_ ?_ (fun x hx => ?_)); (focus decide); (focus (first | decide | omega)); (focus (first | decide | (simp only [sl]; omega))))) | (with_reducible refine w_k (by simp (disch := omega) only [w32_id]; exact rfl) ?_; ((with_reducible refine w_m hS ?_ ?_ ?_ ?_ ?_ (fun x hx => ?_)); (focus decide); (focus (first | decide | omega)); (focus omega); (focus (first | decide | omega)); (focus (first | decide | (simp only [ml]; omega)))))); (try simp (disch := omega) only [Int.reduceToNat, tn_c, tn8, tn8i, tn5, tn5z, tn6, tn6z, tn1, u3_ne, u3_eq, u3_ni, u3_nk, f_100_44 hF] at hx); subst hx)
  ((first | ((with_reducible refine w_s hS ?_ ?_ ?_ (fun x hx => ?_)); (focus decide); (focus (first | decide | omega)); (focus (first | decide | (simp only [sl]; omega)))) | ((with_reducible refine w_m hS ?_ ?_ ?_ ?_ ?_ (fun x hx => ?_)); (focus decide); (focus (first | decide | omega)); (focus omega); (focus (first | decide | omega)); (focus (first | decide | (simp only [ml]; omega)))) | (with_reducible refine w_k (by simp (disch := omega) only [w32_id]; exact rfl) ?_; ((with_reducible refine w_s hS ?_ ?_ ?_ (fun x hx => ?_)); (focus decide); (focus (first | decide | omega)); (focus (first | decide | (simp only [sl]; omega))))) | (with_reducible refine w_k (by simp (disch := omega) only [w32_id]; exact rfl) ?_; ((with_reducible refine w_m hS ?_ ?_ ?_ ?_ ?_ (fun x hx => ?_)); (focus decide); (focus (first | decide | omega)); (focus omega); (focus (first | decide | omega)); (focus (first | decide | (simp only [ml]; omega)))))); (try simp (disch := omega) only [Int.reduceToNat, tn_c, tn8, tn8i, tn5, tn5z, tn6, tn6z, tn1, u3_ne, u3_eq, u3_ni, u3_nk, hn.2] at hx); subst hx)
  have c1 := hc.1
  refine w_ite (fun z => ?_) (fun z => ?_)
  · have z : V 33 s (5 * q) = 0 := by omega
    ((first | ((with_reducible refine w_s hS ?_ ?_ ?_ (fun x hx => ?_)); (focus decide); (focus (first | decide | omega)); (focus (first | decide | (simp only [sl]; omega)))) | ((with_reducible refine w_m hS ?_ ?_ ?_ ?_ ?_ (fun x hx => ?_)); (focus decide); (focus (first | decide | omega)); (focus omega); (focus (first | decide | omega)); (focus (first | decide | (simp only [ml]; omega)))) | (with_reducible refine w_k (by simp (disch := omega) only [w32_id]; exact rfl) ?_; ((with_reducible refine w_s hS ?_ ?_ ?_ (fun x hx => ?_)); (focus decide); (focus (first | decide | omega)); (focus (first | decide | (simp only [sl]; omega))))) | (with_reducible refine w_k (by simp (disch := omega) only [w32_id]; exact rfl) ?_; ((with_reducible refine w_m hS ?_ ?_ ?_ ?_ ?_ (fun x hx => ?_)); (focus decide); (focus (first | decide | omega)); (focus omega); (focus (first | decide | omega)); (focus (first | decide | (simp only [ml]; omega)))))); (try simp (disch := omega) only [Int.reduceToNat, tn_c, tn8, tn8i, tn5, tn5z, tn6, tn6z, tn1, u3_ne, u3_eq, u3_ni, u3_nk, f_100_43 hF] at hx); subst hx)
    ((first | ((with_reducible refine w_s hS ?_ ?_ ?_ (fun x hx => ?_)); (focus decide); (focus (first | decide | omega)); (focus (first | decide | (simp only [sl]; omega)))) | ((with_reducible refine w_m hS ?_ ?_ ?_ ?_ ?_ (fun x hx => ?_)); (focus decide); (focus (first | decide | omega)); (focus omega); (focus (first | decide | omega)); (focus (first | decide | (simp only [ml]; omega)))) | (with_reducible refine w_k (by simp (disch := omega) only [w32_id]; exact rfl) ?_; ((with_reducible refine w_s hS ?_ ?_ ?_ (fun x hx => ?_)); (focus decide); (focus (first | decide | omega)); (focus (first | decide | (simp only [sl]; omega))))) | (with_reducible refine w_k (by simp (disch := omega) only [w32_id]; exact rfl) ?_; ((with_reducible refine w_m hS ?_ ?_ ?_ ?_ ?_ (fun x hx => ?_)); (focus decide); (focus (first | decide | omega)); (focus omega); (focus (first | decide | omega)); (focus (first | decide | (simp only [ml]; omega)))))); (try simp (disch := omega) only [Int.reduceToNat, tn_c, tn8, tn8i, tn5, tn5z, tn6, tn6z, tn1, u3_ne, u3_eq, u3_ni, u3_nk, hn.1] at hx); subst hx)
    obtain ⟨j, hj, ej⟩ := hc.2 z
    refine w_codeNumber hS hF hI.IQ b20 hq (fun j hj e => ?_) (fun hn => absurd ej (hn j hj))
    refine w_ret ?_
    have : lns V q s = j := by unfold lns; rw [if_pos z]; exact cidx_at hI hq hj e
    rw [← this]; exact k
  · ((first | ((with_reducible refine w_s hS ?_ ?_ ?_ (fun x hx => ?_)); (focus decide); (focus (first | decide | omega)); (focus (first | decide | (simp only [sl]; omega)))) | ((with_reducible refine w_m hS ?_ ?_ ?_ ?_ ?_ (fun x hx => ?_)); (focus decide); (focus (first | decide | omega)); (focus omega); (focus (first | decide | omega)); (focus (first | decide | (simp only [ml]; omega)))) | (with_reducible refine w_k (by simp (disch := omega) only [w32_id]; exact rfl) ?_; ((with_reducible refine w_s hS ?_ ?_ ?_ (fun x hx => ?_)); (focus decide); (focus (first | decide | omega)); (focus (first | decide | (simp only [sl]; omega))))) | (with_reducible refine w_k (by simp (disch := omega) only [w32_id]; exact rfl) ?_; ((with_reducible refine w_m hS ?_ ?_ ?_ ?_ ?_ (fun x hx => ?_)); (focus decide); (focus (first | decide | omega)); (focus omega); (focus (first | decide | omega)); (focus (first | decide | (simp only [ml]; omega)))))); (try simp (disch := omega) only [Int.reduceToNat, tn_c, tn8, tn8i, tn5, tn5z, tn6, tn6z, tn1, u3_ne, u3_eq, u3_ni, u3_nk, f_100_9 hF] at hx); subst hx)
    ((first | ((with_reducible refine w_s hS ?_ ?_ ?_ (fun x hx => ?_)); (focus decide); (focus (first | decide | omega)); (focus (first | decide | (simp only [sl]; omega)))) | ((with_reducible refine w_m hS ?_ ?_ ?_ ?_ ?_ (fun x hx => ?_)); (focus decide); (focus (first | decide | omega)); (focus omega); (focus (first | decide | omega)); (focus (first | decide | (simp only [ml]; omega)))) | (with_reducible refine w_k (by simp (disch := omega) only [w32_id]; exact rfl) ?_; ((with_reducible refine w_s hS ?_ ?_ ?_ (fun x hx => ?_)); (focus decide); (focus (first | decide | omega)); (focus (first | decide | (simp only [sl]; omega))))) | (with_reducible refine w_k (by simp (disch := omega) only [w32_id]; exact rfl) ?_; ((with_reducible refine w_m hS ?_ ?_ ?_ ?_ ?_ (fun x hx => ?_)); (focus decide); (focus (first | decide | omega)); (focus omega); (focus (first | decide | omega)); (focus (first | decide | (simp only [ml]; omega)))))); (try simp (disch := omega) only [Int.reduceToNat, tn_c, tn8, tn8i, tn5, tn5z, tn6, tn6z, tn1, u3_ne, u3_eq, u3_ni, u3_nk, tn_c] at hx); subst hx)
    refine w_ret ?_
    have : ((lns V q s : Nat) : Int) = V 109 0 q := by unfold lns; rw [if_neg (by omega)]; omega
    rw [← this]; exact k
def l2 (V : GV) (a : Int) (s : Nat) : Nat := if a = -1 then 0 else lns V a.toNat s
def n2 (V : GV) (a : Int) : Nat := if a = -1 then 1 else (V 109 0 a.toNat).toNat + 1
def cel (V : GV) (q : Nat) (a : Int) (h : Nat) : Nat := lns V q (V 30 h 0).toNat * n2 V a + l2 V a (V 30 h 0).toNat
def tct (V : GV) (q : Nat) (a : Int) (k : Nat) : Nat → Int
  | 0 => 0
  | h + 1 => tct V q a k h + (if cel V q a h = k then 1 else 0)
def twt (V : GV) (q : Nat) (a : Int) (k : Nat) : Nat → Int
  | 0 => 0
  | h + 1 => twt V q a k h + (if cel V q a h = k then V 117 0 h else 0)
theorem lns_cg {V' : GV} {q s : Nat} (e1 : V' 32 s (5 * q) = V 32 s (5 * q)) (e2 : V' 33 s (5 * q) = V 33 s (5 * q)) (e3 : ∀ k, V' 108 0 k = V 108 0 k) (e4 : ∀ k, V' 109 0 k = V 109 0 k) : lns V' q s = lns V q s := by
  unfold lns; rw [e1, e2, e4, cidx_cg e3]
theorem cel_cg {V' : GV} {q h : Nat} {a : Int} (e0 : V' 30 h 0 = V 30 h 0) (e1 : ∀ k, V' 32 (V 30 h 0).toNat k = V 32 (V 30 h 0).toNat k ∧ V' 33 (V 30 h 0).toNat k = V 33 (V 30 h 0).toNat k) (e3 : ∀ k, V' 108 0 k = V 108 0 k) (e4 : ∀ k, V' 109 0 k = V 109 0 k) : cel V' q a h = cel V q a h := by
  unfold cel l2 n2
  rw [e0, lns_cg (e1 _).1 (e1 _).2 e3 e4, lns_cg (e1 _).1 (e1 _).2 e3 e4, e4]
theorem tct_cg {V' : GV} {q k : Nat} {a : Int} : ∀ {i : Nat}, (∀ h, h < i → cel V' q a h = cel V q a h) → tct V' q a k i = tct V q a k i
  | 0, _ => rfl
  | i + 1, e => by unfold tct; rw [e i (by omega), tct_cg (fun h hh => e h (by omega))]
theorem twt_cg {V' : GV} {q k : Nat} {a : Int} : ∀ {i : Nat}, (∀ h, h < i → cel V' q a h = cel V q a h ∧ V' 117 0 h = V 117 0 h) → twt V' q a k i = twt V q a k i
  | 0, _ => rfl
  | i + 1, e => by unfold twt; rw [(e i (by omega)).1, (e i (by omega)).2, twt_cg (fun h hh => e h (by omega))]
theorem tct_le {q k : Nat} {a : Int} : ∀ {i : Nat}, 0 ≤ tct V q a k i ∧ tct V q a k i ≤ (i : Int)
  | 0 => by unfold tct; omega
  | i + 1 => by
    have := tct_le (q := q) (k := k) (a := a) (i := i)
    unfold tct
    by_cases c : cel V q a i = k
    · rw [if_pos c]; omega
    · rw [if_neg c]; omega
theorem twt_le {q k : Nat} {a : Int} : ∀ {i : Nat}, (∀ h, h < i → 0 ≤ V 117 0 h ∧ V 117 0 h ≤ 2520000) → 0 ≤ twt V q a k i ∧ twt V q a k i ≤ 2520000 * (i : Int)
  | 0, _ => by unfold twt; omega
  | i + 1, e => by
    have := twt_le (q := q) (k := k) (a := a) (i := i) (fun h hh => e h (by omega))
    have := e i (by omega)
    unfold twt
    by_cases c : cel V q a i = k
    · rw [if_pos c]; omega
    · rw [if_neg c]; omega
end Table
