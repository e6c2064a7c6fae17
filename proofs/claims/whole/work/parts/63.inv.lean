/-! WHAT HOLDS BETWEEN CALLS, first half: numbers and questions; the methods that only read them -/
/-- the numbers of things, on both sides; the arrays of references hold them in their order -/
def IN (G : GS) : Prop := (gC G 20 ≤ 24 ∧ gC G 30 ≤ 40 ∧ gC G 40 ≤ 60 ∧ gC G 50 ≤ 6) ∧
  (gV G 100 0 0 = (gC G 20 : Int) ∧ gV G 1 0 1 = (gC G 20 : Int)) ∧ (gV G 100 0 14 = (gC G 30 : Int) ∧ gV G 0 0 2 = (gC G 30 : Int)) ∧ (gV G 100 0 18 = (gC G 40 : Int) ∧ gV G 1 0 3 = (gC G 40 : Int)) ∧ (gV G 100 0 30 = (gC G 50 : Int) ∧ gV G 0 0 4 = (gC G 50 : Int)) ∧
  (∀ q, q < gC G 20 → gV G 2 0 q = (q : Int)) ∧ (∀ c, c < gC G 40 → gV G 3 0 c = (c : Int)) ∧ (∀ h, h < gC G 30 → gV G 5 0 h = (h : Int)) ∧ (∀ e, e < gC G 50 → gV G 6 0 e = (e : Int))
/-- one question, on both sides -/
def IQ1 (G : GS) (q : Nat) : Prop := (gV G 20 q 0 = gV G 101 0 q ∧ 0 ≤ gV G 101 0 q ∧ gV G 101 0 q ≤ 5) ∧
  (gV G 20 q 1 = gV G 102 0 q ∧ (gV G 102 0 q = -1 ∨ (0 ≤ gV G 102 0 q ∧ gV G 102 0 q < (q : Int) ∧ gV G 101 0 (gV G 102 0 q).toNat = 5 ∧ gV G 101 0 q ≠ 5))) ∧
  (gV G 20 q 2 = gV G 103 0 q ∧ 0 ≤ gV G 103 0 q ∧ gV G 103 0 q ≤ 3) ∧
  (gV G 20 q 5 = gV G 109 0 q ∧ 0 ≤ gV G 109 0 q ∧ gV G 109 0 q ≤ 8) ∧
  (gV G 20 q 9 = gV G 113 0 q ∧ 0 ≤ gV G 113 0 q ∧ gV G 113 0 q ≤ 8) ∧
  (gV G 20 q 10 = gV G 106 0 q ∧ -1 ≤ gV G 106 0 q ∧ gV G 106 0 q < (gC G 40 : Int)) ∧
  (gV G 20 q 11 = gV G 107 0 q ∧ (gV G 107 0 q = 0 ∨ gV G 107 0 q = 1)) ∧
  (∀ i : Nat, (i : Int) < gV G 109 0 q → gV G 21 q i = gV G 108 0 (8 * q + i) ∧ -128 ≤ gV G 108 0 (8 * q + i) ∧ gV G 108 0 (8 * q + i) ≤ 127) ∧
  (∀ i j : Nat, i < j → (j : Int) < gV G 109 0 q → gV G 108 0 (8 * q + i) ≠ gV G 108 0 (8 * q + j)) ∧
  (∀ i : Nat, (i : Int) < gV G 113 0 q → gV G 22 q i = gV G 110 0 (8 * q + i) ∧ gV G 23 q i = gV G 111 0 (8 * q + i) ∧ gV G 24 q i = gV G 112 0 (8 * q + i))
def IQ (G : GS) : Prop := (∀ q, q < gC G 20 → IQ1 G q) ∧ ∀ q, gC G 20 ≤ q → q < 24 → gV G 109 0 q = 0 ∧ gV G 113 0 q = 0 ∧ gV G 107 0 q = 0
theorem IN.mb {G : GS} (h : IN G) : MB G := by
  obtain ⟨⟨a, b, c, d⟩, ⟨e1, -⟩, ⟨e2, -⟩, ⟨e3, -⟩, ⟨e4, -⟩, -⟩ := h
  exact ⟨by omega, by omega, by omega, by omega⟩
theorem c_questionOf {G : GS} (h : CS G) (hN : IN G) (q : Int) : g_X3_questionOf 0 q G = some (if 0 ≤ q ∧ q < (gC G 20 : Int) then q else -1, G) := by
  obtain ⟨⟨a, -⟩, ⟨-, e⟩, -, -, -, e2, -⟩ := hN
  unfold g_X3_questionOf
  rw [gvm0]
  by_cases h1 : q < 0
  · rw [if_pos h1, if_neg (by omega)]
  · rw [if_neg h1, cf_1_1 h, Option.bind_some, e]
    by_cases h2 : q ≥ (gC G 20 : Int)
    · rw [if_pos h2, if_neg (by omega)]
    · rw [if_neg h2, if_pos (by omega), ca_1_0 h, Option.bind_some, cg_2 h (by omega) (by omega), Option.bind_some, e2 q.toNat (by omega), show (q.toNat : Int) = q by omega]
theorem c_conditionOf {G : GS} (h : CS G) (hN : IN G) (c : Int) : g_X3_conditionOf 0 c G = some (if 0 ≤ c ∧ c < (gC G 40 : Int) then c else -1, G) := by
  obtain ⟨⟨-, -, a, -⟩, -, -, ⟨-, e⟩, -, -, e2, -⟩ := hN
  unfold g_X3_conditionOf
  rw [gvm0]
  by_cases h1 : c < 0
  · rw [if_pos h1, if_neg (by omega)]
  · rw [if_neg h1, cf_1_3 h, Option.bind_some, e]
    by_cases h2 : c ≥ (gC G 40 : Int)
    · rw [if_pos h2, if_neg (by omega)]
    · rw [if_neg h2, if_pos (by omega), ca_1_2 h, Option.bind_some, cg_3 h (by omega) (by omega), Option.bind_some, e2 c.toNat (by omega), show (c.toNat : Int) = c by omega]
theorem IQ.at {G : GS} (h : IQ G) {q : Int} (h0 : 0 ≤ q) (h1 : q < (gC G 20 : Int)) : IQ1 G q.toNat := h.1 q.toNat (by omega)
-- steps of an evaluation, the outermost piece first
theorem bs {α β : Type} {o : Option α} {x : α} {f : α → Option β} {r : Option β} (h : o = some x) (k : f x = r) : o.bind f = r := by rw [h]; exact k
theorem it {α : Type} {c : Prop} {d : Decidable c} {A B r : α} (hc : c) (k : A = r) : @ite α c d A B = r := by rw [if_pos hc]; exact k
theorem ie {α : Type} {c : Prop} {d : Decidable c} {A B r : α} (hc : ¬ c) (k : B = r) : @ite α c d A B = r := by rw [if_neg hc]; exact k
theorem gv {i : Int} {o r : GO} (h : 0 ≤ i) (k : o = r) : gvm i o = r := by unfold gvm; rw [if_pos h]; exact k
theorem n1 : (1 : Int) ≠ 0 := by decide
theorem nn1 : ¬ ((-1 : Int) ≠ -1) := by decide
theorem nn0 : ¬ ((0 : Int) ≠ 0) := by decide
section QuestionReads
variable {G : GS} (hC : CS G) (hM : MR G) (hN : IN G) (hQ : IQ G)
theorem isQ_t (hM : MR G) (hN : IN G) {q : Int} (h : 0 ≤ q ∧ q < (gC G 20 : Int)) : g_X9_isQuestion 0 q G = some (1, G) := by rw [r_isQuestion hM hN.mb, hN.2.1.1, if_pos h]
theorem isQ_f (hM : MR G) (hN : IN G) {q : Int} (h : ¬ (0 ≤ q ∧ q < (gC G 20 : Int))) : g_X9_isQuestion 0 q G = some (0, G) := by rw [r_isQuestion hM hN.mb, hN.2.1.1, if_neg h]
theorem isH_t (hM : MR G) (hN : IN G) {q : Int} (h : 0 ≤ q ∧ q < (gC G 30 : Int)) : g_X9_isHousehold 0 q G = some (1, G) := by rw [r_isHousehold hM hN.mb, hN.2.2.1.1, if_pos h]
theorem isH_f (hM : MR G) (hN : IN G) {q : Int} (h : ¬ (0 ≤ q ∧ q < (gC G 30 : Int))) : g_X9_isHousehold 0 q G = some (0, G) := by rw [r_isHousehold hM hN.mb, hN.2.2.1.1, if_neg h]
theorem isC_t (hM : MR G) (hN : IN G) {q : Int} (h : 0 ≤ q ∧ q < (gC G 40 : Int)) : g_X9_isCondition 0 q G = some (1, G) := by rw [r_isCondition hM hN.mb, hN.2.2.2.1.1, if_pos h]
theorem isC_f (hM : MR G) (hN : IN G) {q : Int} (h : ¬ (0 ≤ q ∧ q < (gC G 40 : Int))) : g_X9_isCondition 0 q G = some (0, G) := by rw [r_isCondition hM hN.mb, hN.2.2.2.1.1, if_neg h]
theorem isE_t (hM : MR G) (hN : IN G) {q : Int} (h : 0 ≤ q ∧ q < (gC G 50 : Int)) : g_X9_isEdition 0 q G = some (1, G) := by rw [r_isEdition hM hN.mb, hN.2.2.2.2.1.1, if_pos h]
theorem isE_f (hM : MR G) (hN : IN G) {q : Int} (h : ¬ (0 ≤ q ∧ q < (gC G 50 : Int))) : g_X9_isEdition 0 q G = some (0, G) := by rw [r_isEdition hM hN.mb, hN.2.2.2.2.1.1, if_neg h]
theorem qO_t (hC : CS G) (hN : IN G) {q : Int} (h : 0 ≤ q ∧ q < (gC G 20 : Int)) : g_X3_questionOf 0 q G = some (q, G) := by rw [c_questionOf hC hN, if_pos h]
theorem qO_f (hC : CS G) (hN : IN G) {q : Int} (h : ¬ (0 ≤ q ∧ q < (gC G 20 : Int))) : g_X3_questionOf 0 q G = some (-1, G) := by rw [c_questionOf hC hN, if_neg h]
theorem cO_t (hC : CS G) (hN : IN G) {q : Int} (h : 0 ≤ q ∧ q < (gC G 40 : Int)) : g_X3_conditionOf 0 q G = some (q, G) := by rw [c_conditionOf hC hN, if_pos h]
theorem cO_f (hC : CS G) (hN : IN G) {q : Int} (h : ¬ (0 ≤ q ∧ q < (gC G 40 : Int))) : g_X3_conditionOf 0 q G = some (-1, G) := by rw [c_conditionOf hC hN, if_neg h]
theorem in_t {a b c : Int} (h : b ≤ a ∧ a ≤ c) : g_X9_in a b c G = some (1, G) := by rw [r_in, if_pos h]
theorem in_f {a b c : Int} (h : ¬ (b ≤ a ∧ a ≤ c)) : g_X9_in a b c G = some (0, G) := by rw [r_in, if_neg h]
/-- promise 9 (codeAt): both sides answer alike, nothing changes -/
theorem T_codeAt (hC : CS G) (hM : MR G) (hN : IN G) (hQ : IQ G) (q i : Int) : ∃ r, g_X8_codeAt 0 q i G = some (r, G) ∧ g_X9_codeAt 0 q i G = some (r, G) := by
  have h24 : gC G 20 ≤ 24 := hN.1.1
  unfold g_X8_codeAt g_X9_codeAt
  by_cases hq : 0 ≤ q ∧ q < (gC G 20 : Int)
  · obtain ⟨-, -, -, ⟨c1, c2, c3⟩, -, -, -, q8, -⟩ := hQ.at hq.1 hq.2
    have hql : q.toNat < gC G 20 := by omega
    by_cases hi : 0 ≤ i ∧ i < gV G 109 0 q.toNat
    · refine ⟨gV G 108 0 (8 * q.toNat + i.toNat), ?_, ?_⟩
      · refine gv (by decide) (bs (ca_0_0 hC) (bs (qO_t hC hN hq) ?_))
        refine ie (by omega) (ie (by omega) (bs (df_20_5 hC hq.1 hql) (it (show i < gV G 20 q.toNat 5 by omega) (bs (da_20_4 hC hq.1 hql) (bs (dg_21 hC hq.1 hql hi.1 (by omega)) ?_)))))
        rw [(q8 i.toNat (by omega)).1]
      · refine gv (by decide) (bs (isQ_t hM hN hq) (ie n1 (bs (ma_9 hM) (bs (mg_9 hM hq.1 (by omega)) ?_))))
        rw [w32_id (by omega) (by omega)]
        refine bs (in_t (by omega)) (ie n1 (bs (ma_8 hM) ?_))
        rw [w32_id (x := 8 * q) (by omega) (by omega), w32_id (x := 8 * q + i) (by omega) (by omega)]
        refine bs (mg_8 hM (by omega) (by omega)) ?_
        rw [show (8 * q + i).toNat = 8 * q.toNat + i.toNat by omega]
    · refine ⟨1000, ?_, ?_⟩
      · refine gv (by decide) (bs (ca_0_0 hC) (bs (qO_t hC hN hq) (ie (by omega) ?_)))
        by_cases h0 : i < 0
        · exact it h0 rfl
        · exact ie h0 (bs (df_20_5 hC hq.1 hql) (ie (show ¬ i < gV G 20 q.toNat 5 by omega) rfl))
      · refine gv (by decide) (bs (isQ_t hM hN hq) (ie n1 (bs (ma_9 hM) (bs (mg_9 hM hq.1 (by omega)) ?_))))
        rw [w32_id (by omega) (by omega)]
        exact bs (in_f (by omega)) (it rfl rfl)
  · refine ⟨1000, ?_, ?_⟩
    · exact gv (by decide) (bs (ca_0_0 hC) (bs (qO_f hC hN hq) (it rfl rfl)))
    · exact gv (by decide) (bs (isQ_f hM hN hq) (it rfl rfl))
/-- promise 8 (of) -/
theorem T_of (hC : CS G) (hM : MR G) (hN : IN G) (hQ : IQ G) (q w : Int) : ∃ r, g_X8_of 0 q w G = some (r, G) ∧ g_X9_of 0 q w G = some (r, G) := by
  have h24 : gC G 20 ≤ 24 := hN.1.1
  unfold g_X8_of g_X9_of
  by_cases hq : 0 ≤ q ∧ q < (gC G 20 : Int)
  · obtain ⟨⟨q1, -⟩, ⟨q2, -⟩, ⟨q3, -⟩, ⟨q4, -⟩, -, ⟨q6, -⟩, ⟨q7, -⟩, -⟩ := hQ.at hq.1 hq.2
    have hql : q.toNat < gC G 20 := by omega
    have hq24 : q < 24 := by omega
    by_cases hw : w < 0 ∨ 5 < w
    · exact ⟨-1, gv (by decide) (bs (ca_0_0 hC) (bs (qO_t hC hN hq) (it (by omega) (it hw rfl)))), gv (by decide) (bs (isQ_t hM hN hq) (it n1 (it hw rfl)))⟩
    · obtain ⟨k, hk, hwk⟩ := sw_case (a := w) (lo := 0) (hi := 5) 6 hw (by decide)
      have e : (w - 0).toNat = k := by omega
      obtain rfl | rfl | rfl | rfl | rfl | rfl : k = 0 ∨ k = 1 ∨ k = 2 ∨ k = 3 ∨ k = 4 ∨ k = 5 := by omega
      · refine ⟨gV G 101 0 q.toNat, gv (by decide) (bs (ca_0_0 hC) (bs (qO_t hC hN hq) (it (by omega) (ie hw ?_)))), gv (by decide) (bs (isQ_t hM hN hq) (it n1 (ie hw ?_)))⟩
        · rw [e]; exact bs (df_20_0 hC hq.1 hql) (by rw [q1])
        · rw [e]; exact bs (ma_1 hM) (bs (mg_1 hM hq.1 hq24) rfl)
      · refine ⟨gV G 102 0 q.toNat, gv (by decide) (bs (ca_0_0 hC) (bs (qO_t hC hN hq) (it (by omega) (ie hw ?_)))), gv (by decide) (bs (isQ_t hM hN hq) (it n1 (ie hw ?_)))⟩
        · rw [e]; exact bs (df_20_1 hC hq.1 hql) (by rw [q2])
        · rw [e]; exact bs (ma_2 hM) (bs (mg_2 hM hq.1 hq24) rfl)
      · refine ⟨gV G 109 0 q.toNat, gv (by decide) (bs (ca_0_0 hC) (bs (qO_t hC hN hq) (it (by omega) (ie hw ?_)))), gv (by decide) (bs (isQ_t hM hN hq) (it n1 (ie hw ?_)))⟩
        · rw [e]; exact bs (df_20_5 hC hq.1 hql) (by rw [q4])
        · rw [e]; exact bs (ma_9 hM) (bs (mg_9 hM hq.1 hq24) rfl)
      · refine ⟨gV G 103 0 q.toNat, gv (by decide) (bs (ca_0_0 hC) (bs (qO_t hC hN hq) (it (by omega) (ie hw ?_)))), gv (by decide) (bs (isQ_t hM hN hq) (it n1 (ie hw ?_)))⟩
        · rw [e]; exact bs (df_20_2 hC hq.1 hql) (by rw [q3])
        · rw [e]; exact bs (ma_3 hM) (bs (mg_3 hM hq.1 hq24) rfl)
      · refine ⟨gV G 106 0 q.toNat, gv (by decide) (bs (ca_0_0 hC) (bs (qO_t hC hN hq) (it (by omega) (ie hw ?_)))), gv (by decide) (bs (isQ_t hM hN hq) (it n1 (ie hw ?_)))⟩
        · rw [e]; exact bs (df_20_10 hC hq.1 hql) (by rw [q6])
        · rw [e]; exact bs (ma_6 hM) (bs (mg_6 hM hq.1 hq24) rfl)
      · by_cases hz : gV G 107 0 q.toNat = 0
        · refine ⟨0, gv (by decide) (bs (ca_0_0 hC) (bs (qO_t hC hN hq) (it (by omega) (ie hw ?_)))), gv (by decide) (bs (isQ_t hM hN hq) (it n1 (ie hw ?_)))⟩
          · rw [e]; exact bs (df_20_11 hC hq.1 hql) (it (by rw [q7]; exact hz) rfl)
          · rw [e]; exact bs (ma_7 hM) (bs (mg_7 hM hq.1 hq24) (it hz rfl))
        · refine ⟨1, gv (by decide) (bs (ca_0_0 hC) (bs (qO_t hC hN hq) (it (by omega) (ie hw ?_)))), gv (by decide) (bs (isQ_t hM hN hq) (it n1 (ie hw ?_)))⟩
          · rw [e]; exact bs (df_20_11 hC hq.1 hql) (ie (by rw [q7]; exact hz) rfl)
          · rw [e]; exact bs (ma_7 hM) (bs (mg_7 hM hq.1 hq24) (ie hz rfl))
  · exact ⟨-1, gv (by decide) (bs (ca_0_0 hC) (bs (qO_f hC hN hq) (ie nn1 rfl))), gv (by decide) (bs (isQ_f hM hN hq) (ie nn0 rfl))⟩
end QuestionReads
