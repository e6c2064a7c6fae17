/-! WHAT HOLDS BETWEEN CALLS, on both sides -/
theorem w_k {r : Nat} {G : GS} {i k k' : Int} {f : Int → GO} {Q : Int → GS → Prop} (e : k = k') (h : Wp ((gl r G i k').bind f) Q) : Wp ((gl r G i k).bind f) Q := e ▸ h
theorem w_ks {r : Nat} {G : GS} {i k k' v v' : Int} {f : GS → GO} {Q : Int → GS → Prop} (e : k = k') (e' : v = v') (h : Wp ((gs r G i k' v').bind f) Q) : Wp ((gs r G i k v).bind f) Q := e ▸ e' ▸ h
/-- numbers of things -/
def IN (V : GV) (R : GR) : Prop := (rC R 20 ≤ 24 ∧ rC R 30 ≤ 40 ∧ rC R 40 ≤ 60 ∧ rC R 50 ≤ 6) ∧
  (V 100 0 0 = (rC R 20 : Int) ∧ V 1 0 1 = (rC R 20 : Int) ∧ V 100 0 14 = (rC R 30 : Int) ∧ V 0 0 2 = (rC R 30 : Int) ∧ V 100 0 18 = (rC R 40 : Int) ∧ V 1 0 3 = (rC R 40 : Int) ∧ V 100 0 30 = (rC R 50 : Int) ∧ V 0 0 4 = (rC R 50 : Int)) ∧
  (V 1 0 5 = V 100 0 29 ∧ 0 ≤ V 100 0 29 ∧ V 100 0 29 ≤ (rC R 20 : Int) + (rC R 40 : Int))
/-- the arrays of references hold them in their order -/
def IL (V : GV) (R : GR) : Prop := (∀ q, q < rC R 20 → V 2 0 q = (q : Int)) ∧ (∀ c, c < rC R 40 → V 3 0 c = (c : Int)) ∧ (∀ h, h < rC R 30 → V 5 0 h = (h : Int)) ∧ (∀ e, e < rC R 50 → V 6 0 e = (e : Int))
/-- one question -/
def IQro (V : GV) (q : Nat) : Prop := V 102 0 q = -1 ∨ (0 ≤ V 102 0 q ∧ V 102 0 q < (q : Int) ∧ V 101 0 (V 102 0 q).toNat = 5 ∧ V 101 0 q ≠ 5)
def IQfi (V : GV) (R : GR) (q : Nat) : Prop := V 106 0 q = -1 ∨ (0 ≤ V 106 0 q ∧ V 106 0 q < (rC R 40 : Int) ∧ (V 125 0 (V 106 0 q).toNat = -1 ∨ V 125 0 (V 106 0 q).toNat = V 102 0 q))
def IQma (V : GV) (q : Nat) : Prop := V 107 0 q = 1 → V 102 0 q = -1 ∧ V 103 0 q = 0
def IQkr (V : GV) (q : Nat) : Prop := V 101 0 q = 5 → V 103 0 q = 0
def IQ1 (V : GV) (R : GR) (q : Nat) : Prop := (V 20 q 0 = V 101 0 q ∧ 0 ≤ V 101 0 q ∧ V 101 0 q ≤ 5) ∧ (V 20 q 1 = V 102 0 q ∧ -1 ≤ V 102 0 q ∧ V 102 0 q < (q : Int)) ∧
  (V 20 q 2 = V 103 0 q ∧ 0 ≤ V 103 0 q ∧ V 103 0 q ≤ 3) ∧ (V 20 q 5 = V 109 0 q ∧ 0 ≤ V 109 0 q ∧ V 109 0 q ≤ 8) ∧ (V 20 q 9 = V 113 0 q ∧ 0 ≤ V 113 0 q ∧ V 113 0 q ≤ 8) ∧
  (V 20 q 10 = V 106 0 q ∧ -1 ≤ V 106 0 q ∧ V 106 0 q < (rC R 40 : Int)) ∧ (V 20 q 11 = V 107 0 q ∧ 0 ≤ V 107 0 q ∧ V 107 0 q ≤ 1) ∧ IQro V q ∧ IQfi V R q ∧ IQma V q ∧ IQkr V q
def IQc (V : GV) (q : Nat) : Prop := (∀ i : Nat, (i : Int) < V 109 0 q → V 21 q i = V 108 0 (8 * q + i) ∧ -128 ≤ V 108 0 (8 * q + i) ∧ V 108 0 (8 * q + i) ≤ 127) ∧
  (∀ i j : Nat, i < j → (j : Int) < V 109 0 q → V 108 0 (8 * q + i) ≠ V 108 0 (8 * q + j))
def IQr (V : GV) (R : GR) (q : Nat) : Prop := (∀ i : Nat, (i : Int) < V 113 0 q → V 22 q i = V 110 0 (8 * q + i) ∧ V 23 q i = V 111 0 (8 * q + i) ∧ V 24 q i = V 112 0 (8 * q + i)) ∧
  (V 103 0 q = 1 → rN R 22 q = 8 ∧ rN R 23 q = 8 ∧ rN R 24 q = 8 ∧ V 109 0 q ≤ V 113 0 q) ∧
  (∀ i : Nat, (i : Int) < V 113 0 q → ∃ j : Nat, (j : Int) < V 109 0 q ∧ V 108 0 (8 * q + j) = V 112 0 (8 * q + i))
/-- of what it is made -/
def IQm (V : GV) (R : GR) (q : Nat) : Prop := (V 103 0 q = 1 → V 20 q 3 = V 104 0 q ∧ 0 ≤ V 104 0 q ∧ V 104 0 q < (q : Int) ∧ V 101 0 q = 0 ∧ V 102 0 q = V 102 0 (V 104 0 q).toNat) ∧
  (V 103 0 q = 2 → V 20 q 3 = V 105 0 q ∧ 0 ≤ V 105 0 q ∧ V 105 0 q < (rC R 40 : Int) ∧ 0 ≤ V 104 0 q ∧ V 104 0 q < (q : Int) ∧ V 125 0 (V 105 0 q).toNat = V 104 0 q ∧ V 102 0 q = -1 ∧ V 101 0 q = 2) ∧
  (V 103 0 q = 3 → V 20 q 3 = V 104 0 q ∧ 0 ≤ V 104 0 q ∧ V 104 0 q < (q : Int) ∧ 0 ≤ V 102 0 (V 104 0 q).toNat ∧ V 102 0 q = -1 ∧ V 101 0 q ≠ 0)
def IQ (V : GV) (R : GR) : Prop := (∀ q, q < rC R 20 → IQ1 V R q ∧ IQc V q ∧ IQr V R q ∧ IQm V R q) ∧ ∀ q, rC R 20 ≤ q → q < 24 → V 109 0 q = 0 ∧ V 113 0 q = 0 ∧ V 107 0 q = 0
/-- one condition -/
def ICre (V : GV) (R : GR) (c : Nat) : Prop := V 125 0 c = -1 ∨ (0 ≤ V 125 0 c ∧ V 125 0 c < (rC R 20 : Int) ∧ V 101 0 (V 125 0 c).toNat = 5)
def IC_0 (V : GV) (R : GR) (c : Nat) : Prop := V 119 0 c = 0 → (V 40 c 0 = V 120 0 c ∧ 0 ≤ V 120 0 c ∧ V 120 0 c ≤ 3) ∧ (V 40 c 1 = V 121 0 c ∧ 0 ≤ V 121 0 c ∧ V 121 0 c < (rC R 20 : Int)) ∧ V 40 c 3 = V 122 0 c ∧ V 125 0 c = V 102 0 (V 121 0 c).toNat ∧
    (V 101 0 (V 121 0 c).toNat = 1 → V 120 0 c = 0 → 0 ≤ V 122 0 c ∧ V 122 0 c ≤ 7) ∧ (V 101 0 (V 121 0 c).toNat ≤ 1 → V 120 0 c = 0 ∨ V 120 0 c = 3)
def IC_n (V : GV) (c : Nat) : Prop := V 119 0 c ≠ 0 → V 40 c 0 = V 119 0 c + 3 ∧ V 40 c 1 = V 123 0 c ∧ 0 ≤ V 123 0 c ∧ V 123 0 c < (c : Int)
def IC_12 (V : GV) (c : Nat) : Prop := V 119 0 c = 1 ∨ V 119 0 c = 2 → V 40 c 2 = V 124 0 c ∧ 0 ≤ V 124 0 c ∧ V 124 0 c < (c : Int) ∧ (V 125 0 (V 123 0 c).toNat = -1 ∨ V 125 0 (V 123 0 c).toNat = V 125 0 c) ∧ (V 125 0 (V 124 0 c).toNat = -1 ∨ V 125 0 (V 124 0 c).toNat = V 125 0 c)
def IC_3 (V : GV) (c : Nat) : Prop := V 119 0 c = 3 → V 125 0 c = V 125 0 (V 123 0 c).toNat
def IC_4 (V : GV) (c : Nat) : Prop := V 119 0 c = 4 → V 40 c 3 = V 120 0 c ∧ 0 ≤ V 120 0 c ∧ V 120 0 c ≤ 5 ∧ V 125 0 c = -1 ∧ 0 ≤ V 125 0 (V 123 0 c).toNat
def IC1 (V : GV) (R : GR) (c : Nat) : Prop := (V 40 c 4 = V 125 0 c ∧ -1 ≤ V 125 0 c ∧ V 125 0 c < (rC R 20 : Int)) ∧ (V 40 c 5 = V 126 0 c ∧ 1 ≤ V 126 0 c ∧ V 126 0 c ≤ 30) ∧ (V 40 c 6 = V 127 0 c ∧ 0 ≤ V 127 0 c ∧ V 127 0 c < (rC R 20 : Int)) ∧ (0 ≤ V 119 0 c ∧ V 119 0 c ≤ 4) ∧
  ICre V R c ∧ IC_0 V R c ∧ IC_n V c ∧ IC_12 V c ∧ IC_3 V c ∧ IC_4 V c
def IC (V : GV) (R : GR) : Prop := ∀ c, c < rC R 40 → IC1 V R c
/-- the steps, in their order; what a step needs comes before it -/
def bef (V : GV) (j : Nat) (t : Int) : Prop := ∃ i : Nat, i < j ∧ V 4 0 i = t
def IO1 (V : GV) (R : GR) (j : Nat) : Prop :=
  (V 4 0 j < 24 → V 128 0 j = V 4 0 j ∧ 0 ≤ V 4 0 j ∧ V 4 0 j < (rC R 20 : Int) ∧ V 103 0 (V 4 0 j).toNat ≠ 0 ∧ V 20 (V 4 0 j).toNat 12 = (j : Int) ∧
    (V 103 0 (V 4 0 j).toNat = 2 → bef V j (24 + V 105 0 (V 4 0 j).toNat)) ∧
    (V 103 0 (V 4 0 j).toNat ≠ 2 → V 103 0 (V 104 0 (V 4 0 j).toNat).toNat ≠ 0 → bef V j (V 104 0 (V 4 0 j).toNat))) ∧
  (24 ≤ V 4 0 j → V 128 0 j = V 4 0 j + 76 ∧ V 4 0 j < 24 + (rC R 40 : Int) ∧
    (V 119 0 (V 4 0 j - 24).toNat = 0 → V 103 0 (V 121 0 (V 4 0 j - 24).toNat).toNat ≠ 0 → bef V j (V 121 0 (V 4 0 j - 24).toNat)) ∧
    (V 119 0 (V 4 0 j - 24).toNat ≠ 0 → bef V j (24 + V 123 0 (V 4 0 j - 24).toNat)) ∧
    (V 119 0 (V 4 0 j - 24).toNat = 1 ∨ V 119 0 (V 4 0 j - 24).toNat = 2 → bef V j (24 + V 124 0 (V 4 0 j - 24).toNat)))
def IOO (V : GV) (R : GR) : Prop := (∀ j : Nat, (j : Int) < V 100 0 29 → IO1 V R j) ∧ (∀ i j : Nat, i < j → (j : Int) < V 100 0 29 → V 4 0 i ≠ V 4 0 j) ∧
  (∀ q, q < rC R 20 → V 103 0 q ≠ 0 → ∃ j : Nat, (j : Int) < V 100 0 29 ∧ V 4 0 j = (q : Int)) ∧ (∀ c, c < rC R 40 → ∃ j : Nat, (j : Int) < V 100 0 29 ∧ V 4 0 j = 24 + (c : Int))
/-- an answer that was told -/
def okv (V : GV) (q : Nat) (v r : Int) : Prop := 0 ≤ r ∧ r ≤ 5 ∧ (-1000000000000000 ≤ v ∧ v ≤ 1000000000000000) ∧ (r ≠ 0 → v = 0) ∧ (V 101 0 q = 5 → r = 0 ∧ 0 ≤ v ∧ v ≤ 5) ∧ (V 101 0 q = 0 → r = 0 → ∃ j : Nat, (j : Int) < V 109 0 q ∧ V 108 0 (8 * q + j) = v)
/-- a sheet against the reference's arrays a (values) and b (reasons) from o on, for the first n questions -/
def AR (V : GV) (s a b o n : Nat) : Prop := ∀ q, q < n → V 103 0 q = 0 →
  (V 102 0 q = -1 → V 32 s (5 * q) = V a 0 (o + 6 * q) ∧ V 33 s (5 * q) = V b 0 (o + 6 * q) ∧ okv V q (V a 0 (o + 6 * q)) (V b 0 (o + 6 * q))) ∧
  (0 ≤ V 102 0 q → ∀ p, p < 5 → V 32 s (5 * q + p) = V a 0 (o + 6 * q + (p + 1)) ∧ V 33 s (5 * q + p) = V b 0 (o + 6 * q + (p + 1)) ∧ okv V q (V a 0 (o + 6 * q + (p + 1))) (V b 0 (o + 6 * q + (p + 1))) ∧
    (V a 0 (o + 6 * (V 102 0 q).toNat) ≤ (p : Int) → V a 0 (o + 6 * q + (p + 1)) = 0 ∧ V b 0 (o + 6 * q + (p + 1)) = 1))
/-- the sheets of the households, apart from each other and from those of the editions -/
def IHs (V : GV) (R : GR) : Prop := (∀ h, h < rC R 30 → 0 ≤ V 30 h 0 ∧ V 30 h 0 < (rC R 31 : Int) ∧ rN R 32 (V 30 h 0).toNat = 120 ∧ rN R 33 (V 30 h 0).toNat = 120) ∧
  (∀ g h, g < h → h < rC R 30 → V 30 g 0 ≠ V 30 h 0) ∧
  (∀ e h : Nat, e < rC R 50 → h < rN R 51 e → 0 ≤ V 51 e h ∧ V 51 e h < (rC R 31 : Int) ∧ ∀ g, g < rC R 30 → V 30 g 0 ≠ V 51 e h)
def IA1 (V : GV) (R : GR) (h : Nat) : Prop := AR V (V 30 h 0).toNat 115 116 (144 * h) (rC R 20) ∧
  (∀ q, rC R 20 ≤ q → q < 24 → ∀ p, p < 5 → V 32 (V 30 h 0).toNat (5 * q + p) = 0 ∧ V 33 (V 30 h 0).toNat (5 * q + p) = 1)
def IA (V : GV) (R : GR) : Prop := ∀ h, h < rC R 30 → IA1 V R h
def IW (V : GV) (R : GR) : Prop := ∀ h, h < rC R 30 → V 30 h 3 = V 117 0 h ∧ 0 ≤ V 117 0 h ∧ V 117 0 h ≤ 2520000
/-- what a step makes, of what lies before it -/
def plc (V : GV) (s : Nat) (r : Int) : Int := if r = -1 then 1 else V 32 s (5 * r.toNat)
def rowf (V : GV) (q : Nat) (v : Int) : Nat → Nat → Int
  | 0, _ => -1
  | k + 1, i => if V 110 0 (8 * q + i) ≤ v ∧ v ≤ V 111 0 (8 * q + i) then (i : Int) else rowf V q v k (i + 1)
def mapv (V : GV) (q : Nat) (v r : Int) : Int × Int := if r ≠ 0 then (0, r) else if rowf V q v (V 113 0 q).toNat 0 = -1 then (0, 4) else (V 112 0 (8 * q + (rowf V q v (V 113 0 q).toNat 0).toNat), 0)
def sumv (V : GV) (s b : Nat) : Nat → Int × Int
  | 0 => (0, 0)
  | p + 1 => if V 33 s (5 * b + p) = 0 then (w64 ((sumv V s b p).1 + V 32 s (5 * b + p)), (sumv V s b p).2 + 1) else sumv V s b p
def sumr (V : GV) (q : Nat) (z : Int × Int) : Int × Int := if z.2 = 0 ∨ (V 101 0 q = 2 ∧ z.1 ≠ w32 z.1) then (0, 5) else (z.1, 0)
def bt (T : Int) (p : Nat) : Prop := (T / (2 ^ p : Nat)) % 2 = 1
def btd (T : Int) (p : Nat) : Decidable (bt T p) := inferInstanceAs (Decidable ((T / (2 ^ p : Nat)) % 2 = 1))
def cnt (T : Int) : Nat → Int
  | 0 => 0
  | m + 1 => cnt T m + (T / (2 ^ m : Nat)) % 2
def askf (V : GV) (s c p : Nat) : Prop :=
  if V 120 0 c = 3 then V 33 s (5 * (V 121 0 c).toNat + p) ≠ 0 else V 33 s (5 * (V 121 0 c).toNat + p) = 0 ∧
  (if V 120 0 c = 1 then V 32 s (5 * (V 121 0 c).toNat + p) < V 122 0 c else if V 120 0 c = 2 then V 122 0 c < V 32 s (5 * (V 121 0 c).toNat + p) else if V 101 0 (V 121 0 c).toNat = 1 then l_and (l_shr (V 32 s (5 * (V 121 0 c).toNat + p)) (V 122 0 c)) 1 ≠ 0 else V 32 s (5 * (V 121 0 c).toNat + p) = V 122 0 c)
def so (V : GV) (h c p : Nat) : Prop := bt (V 34 h c) (if V 125 0 c = -1 then 0 else p)
def conf (V : GV) (s h c p : Nat) : Prop := if V 119 0 c = 0 then askf V s c p else if V 119 0 c = 1 then so V h (V 123 0 c).toNat p ∧ so V h (V 124 0 c).toNat p else if V 119 0 c = 2 then so V h (V 123 0 c).toNat p ∨ so V h (V 124 0 c).toNat p else if V 119 0 c = 3 then ¬ so V h (V 123 0 c).toNat p else
  V 120 0 c ≤ cnt (V 34 h (V 123 0 c).toNat) (plc V s (V 125 0 (V 123 0 c).toNat)).toNat
def LEc (V : GV) (s h c : Nat) : Prop := 0 ≤ V 34 h c ∧ V 34 h c < (2 ^ (plc V s (V 125 0 c)).toNat : Nat) ∧ ∀ p, p < (plc V s (V 125 0 c)).toNat → (bt (V 34 h c) p ↔ conf V s h c p)
def LEq (V : GV) (s h q : Nat) : Prop := (V 103 0 q = 1 → ∀ p : Nat, (p : Int) < plc V s (V 102 0 q) → (V 32 s (5 * q + p), V 33 s (5 * q + p)) = mapv V q (V 32 s (5 * (V 104 0 q).toNat + p)) (V 33 s (5 * (V 104 0 q).toNat + p))) ∧
  (V 103 0 q = 2 → V 32 s (5 * q) = cnt (V 34 h (V 105 0 q).toNat) (V 32 s (5 * (V 104 0 q).toNat)).toNat ∧ V 33 s (5 * q) = 0) ∧
  (V 103 0 q = 3 → (V 32 s (5 * q), V 33 s (5 * q)) = sumr V q (sumv V s (V 104 0 q).toNat (V 32 s (5 * (V 102 0 (V 104 0 q).toNat).toNat)).toNat))
def LE (V : GV) (h j : Nat) : Prop := (V 4 0 j < 24 → LEq V (V 30 h 0).toNat h (V 4 0 j).toNat) ∧ (24 ≤ V 4 0 j → LEc V (V 30 h 0).toNat h (V 4 0 j - 24).toNat)
/-- the steps that a household has behind it -/
def IS1 (V : GV) (h : Nat) : Prop := 0 ≤ V 30 h 2 ∧ V 30 h 2 ≤ V 100 0 29 ∧ ∀ j : Nat, (j : Int) < V 30 h 2 → LE V h j
def IS (V : GV) (R : GR) : Prop := ∀ h, h < rC R 30 → IS1 V h
/-- the editions -/
def IE1 (V : GV) (R : GR) (e : Nat) : Prop := (V 131 0 e = (rN R 51 e : Int) ∧ rN R 51 e ≤ rC R 30) ∧ (V 132 0 e = V 50 e 1 ∧ 0 ≤ V 50 e 1 ∧ V 50 e 1 ≤ (rC R 20 : Int)) ∧
  ∀ h, h < rN R 51 e → rN R 32 (V 51 e h).toNat = 5 * (V 50 e 1).toNat ∧ rN R 33 (V 51 e h).toNat = 5 * (V 50 e 1).toNat ∧ AR V (V 51 e h).toNat 133 134 (5760 * e + 144 * h) (V 50 e 1).toNat
def IE (V : GV) (R : GR) : Prop := ∀ e, e < rC R 50 → IE1 V R e
/-- the table -/
def hcnt (V : GV) : Nat → Int
  | 0 => 0
  | k + 1 => hcnt V k + V 142 0 k
def IT (V : GV) : Prop := (V 100 0 35 = 0 ∧ V 7 0 0 = 0 ∧ V 7 0 1 = 0) ∨ (V 100 0 35 = 1 ∧ ∃ m n : Nat, (1 ≤ m ∧ m ≤ 9 ∧ 1 ≤ n ∧ n ≤ 9) ∧ (V 7 0 0 = (m : Int) ∧ V 100 0 37 = (m : Int) ∧ V 7 0 1 = (n : Int) ∧ V 100 0 38 = (n : Int)) ∧
  (V 7 0 2 = V 100 0 36 ∧ ((V 100 0 36 = 0 ∧ n = 1) ∨ V 100 0 36 = 1)) ∧
  (∀ k, k < m * n → V 8 0 k = V 139 0 k ∧ 0 ≤ V 139 0 k ∧ V 139 0 k ≤ 40 ∧ V 9 0 k = V 140 0 k ∧ 0 ≤ V 140 0 k ∧ V 140 0 k ≤ 100800000 ∧ V 10 0 k = V 141 0 k ∧ (V 142 0 k = 0 ∨ V 142 0 k = 1)) ∧
  (∀ i, i < m → 0 ≤ V 12 0 i ∧ V 12 0 i < (2 ^ n : Nat) ∧ ∀ j, j < n → (bt (V 12 0 i) j ↔ V 142 0 (i * n + j) = 1)) ∧ V 7 0 8 = hcnt V (m * n))
/-- room: what was made so far is bounded by the numbers of things -/
def rK (R : GR) : Nat := R.2.2.1
def rZ (R : GR) : Nat := R.2.2.2
def IR (R : GR) : Prop := rK R ≤ 1000 + 5 * rC R 20 + 6 * rC R 30 + rC R 40 + 500 * rC R 50 ∧ rZ R ≤ 200000 + 100 * rC R 20 + 500 * rC R 30 + 10 * rC R 40 + 50000 * rC R 50
