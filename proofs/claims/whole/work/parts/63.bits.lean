theorem bt_tb {n p : Nat} : bt (n : Int) p ↔ n.testBit p = true := by
  unfold bt
  rw [Nat.testBit_eq_decide_div_mod_eq, decide_eq_true_eq]
  have e : ((n : Int) / ((2 ^ p : Nat) : Int)) % 2 = ((n / 2 ^ p % 2 : Nat) : Int) := by rw [Int.natCast_emod, Int.natCast_ediv]; rfl
  rw [e]; omega
theorem i32_of {a : Nat} (h : a < 2147483648) : (Int32.ofInt (a : Int)).toBitVec = BitVec.ofNat 32 a := by
  show BitVec.ofInt 32 (a : Int) = _
  exact BitVec.ofInt_natCast ..
theorem i32_to {x : BitVec 32} (h : x.toNat < 2147483648) : (Int32.ofBitVec x).toInt = (x.toNat : Int) := by
  show x.toInt = _
  rw [BitVec.toInt_eq_toNat_of_lt (by omega)]
theorem i_and_nat {a b : Nat} (ha : a < 2147483648) (hb : b < 2147483648) : i_and (a : Int) (b : Int) = ((a &&& b : Nat) : Int) := by
  unfold i_and
  have e : (Int32.ofInt (a : Int) &&& Int32.ofInt (b : Int)) = Int32.ofBitVec (BitVec.ofNat 32 (a &&& b)) := by
    apply Int32.toBitVec.inj
    rw [Int32.toBitVec_and, i32_of ha, i32_of hb]
    rw [BitVec.ofNat_and]
    rfl
  have l : a &&& b ≤ a := Nat.and_le_left
  rw [e, i32_to (by rw [BitVec.toNat_ofNat, Nat.mod_eq_of_lt (by omega)]; omega), BitVec.toNat_ofNat, Nat.mod_eq_of_lt (by omega)]
theorem or_lt9 {a b : Nat} (ha : a < 1024) (hb : b < 1024) : a ||| b < 1024 := Nat.or_lt_two_pow (n := 10) ha hb
theorem i_or_nat {a b : Nat} (ha : a < 1024) (hb : b < 1024) : i_or (a : Int) (b : Int) = ((a ||| b : Nat) : Int) := by
  unfold i_or
  have e : (Int32.ofInt (a : Int) ||| Int32.ofInt (b : Int)) = Int32.ofBitVec (BitVec.ofNat 32 (a ||| b)) := by
    apply Int32.toBitVec.inj
    rw [Int32.toBitVec_or, i32_of (by omega), i32_of (by omega)]
    rw [BitVec.ofNat_or]
    rfl
  have l := or_lt9 ha hb
  rw [e, i32_to (by rw [BitVec.toNat_ofNat, Nat.mod_eq_of_lt (by omega)]; omega), BitVec.toNat_ofNat, Nat.mod_eq_of_lt (by omega)]
theorem i_shl_nat : ∀ n : Nat, n < 10 → i_shl 1 (n : Int) = ((2 ^ n : Nat) : Int) := by decide +kernel
theorem i_shr_all : ∀ a : Nat, a < 1024 → ∀ n : Nat, n < 10 → (i_and (i_shr (a : Int) (n : Int)) 1 = 0 ↔ ¬ a / 2 ^ n % 2 = 1) := by decide +kernel
theorem all_nat : ∀ n : Nat, n < 10 → w32 (i_shl 1 (n : Int) - 1) = ((2 ^ n - 1 : Nat) : Int) := by decide +kernel
theorem not_all : ∀ n : Nat, n < 6 → ∀ a : Nat, a < 32 → 0 ≤ i_and ((2 ^ n - 1 : Nat) : Int) (i_xor (a : Int) (-1)) ∧ i_and ((2 ^ n - 1 : Nat) : Int) (i_xor (a : Int) (-1)) < ((2 ^ n : Nat) : Int) ∧ ∀ p : Nat, p < n → ((i_and ((2 ^ n - 1 : Nat) : Int) (i_xor (a : Int) (-1))) / ((2 ^ p : Nat) : Int) % 2 = 1 ↔ ¬ (a : Int) / ((2 ^ p : Nat) : Int) % 2 = 1) := by decide +kernel
theorem but_all : ∀ a : Nat, a < 512 → ∀ j : Nat, j < 9 → i_and (a : Int) (i_xor (i_shl 1 (j : Int)) (-1)) = ((if a / 2 ^ j % 2 = 1 then a - 2 ^ j else a : Nat) : Int) := by decide +kernel
theorem bc_all : ∀ m : Nat, m < 6 → ∀ a : Nat, a < 2 ^ m → (g_J6_bitCount_0f7a4 (a : Int) G00).map (·.1) = some (cnt (a : Int) m) := by decide +kernel
theorem bc_w {T : Int} {m : Nat} {G : GS} {f : Int × GS → GO} {Q : Int → GS → Prop} (hm : m < 6) (h0 : 0 ≤ T) (h1 : T < ((2 ^ m : Nat) : Int)) (k : Wp (f (cnt T m, G)) Q) : Wp ((g_J6_bitCount_0f7a4 T G).bind f) Q := by
  obtain ⟨a, rfl⟩ : ∃ a : Nat, T = (a : Int) := ⟨T.toNat, by omega⟩
  have e := bc_all m hm a (by omega)
  unfold g_J6_bitCount_0f7a4 at e ⊢
  have e := Option.some.inj e
  exact w_bind (w_ret (by dsimp only at e; rw [e]; exact k))
theorem cnt_le {T : Int} : ∀ m : Nat, 0 ≤ cnt T m ∧ cnt T m ≤ (m : Int)
  | 0 => by unfold cnt; omega
  | m + 1 => by
    have := cnt_le (T := T) m
    unfold cnt; omega
