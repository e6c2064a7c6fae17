/-! CONTRACTS over pure states, returns, calls -/
def rvO (base : Nat) (r : Option PV) (x : Option Value) : Prop := match r with
  | none => x = none
  | some v => ∃ y, x = some y ∧ rv base v y
def PcF (D : va_G) (A : Nat → ClassId) (base : Nat) (av : List Value) (H : PH) : Array Value → State → Prop := fun a U => a = av.toArray ∧ KF D A U ∧ HR D A base H U.heap
def QcF (D : va_G) (A : Nat → ClassId) (base : Nat) (r : Option PV) (H' : PH) : Array Value → State → Outcome → State → Prop := fun _ st o t => (∃ x, o = .returned x ∧ rvO base r x) ∧ HR D A base H' t.heap ∧ ∀ q : Nat, q < base → t.heap[q]? = st.heap[q]?
def rmF (F L : Nat) (H : PH) : Room := { frames := F, cells := 600000 - H.length, slots := 7302250 - szs H, locals := L }
/-- the method y, called with args at the heap H, answers r and leaves H' -/
def CT (l : Launch) (y : MethodName) (cc : ByteArray) (maxL : Nat) (ret : Option FieldType) (F L : Nat) (args : List PV) (H : PH) (r : Option PV) (H' : PH) : Prop :=
  ∀ (D : va_G) (A : Nat → ClassId) (base : Nat) (av : List Value), rvs base args av →
    Met l y (Cond.code y cc maxL ret :: wsG) (rmF F L H) (PcF D A base av H) (QcF D A base r H') (600000 - H.length) (7302250 - szs H) (fun q => base ≤ q)
theorem PcF.blind {D : va_G} {A : Nat → ClassId} {base : Nat} {av : List Value} {H : PH} : FrameBlind (PcF D A base av H) := fun a U g mk h => ⟨h.1, KF.same (U := U.calling g mk a) rfl h.2.1, h.2.2⟩
def QEx (p : Program) (l : Launch) (e : Env) (R : Room) (s : State) (m : MethodId) (args : Array Value) (below : List Frame) (meth : Method) (c : Code) (Q : State → Prop) (D : va_G) (A : Nat → ClassId) (base nL : Nat) (r : Option PV) (H' : PH) (ret : Option FieldType) : Prop :=
  meth.sig.returnType = ret ∧ ∃ H0, HR D A base H0 s.heap ∧ Q = MQ below (QcF D A base r H') args s (600000 - H0.length) (7302250 - szs H0) (fun q => base ≤ q)
def QE (E : PE) (r : Option PV) (H' : PH) (ret : Option FieldType) : Prop := match E with
  | (p, l, e, R, s, m, args, below, meth, c, Q, D, A, base, nL) => QEx p l e R s m args below meth c Q D A base nL r H' ret
section Rets
variable {E : PE} {cc : ByteArray} {own : String} {pc : Nat} {ls : PL} {st : List PV} {H H' : PH}
theorem W.fin {p : Program} {l : Launch} {e : Env} {R : Room} {s : State} {m : MethodId} {args : Array Value} {below : List Frame} {meth : Method} {c : Code} {locs : List Loc} {cells slots : Nat} {D : va_G} {A : Nat → ClassId} {base : Nat} {H0 H : PH} {MH : Heap} {Q : State → Prop} {g : JFrame}
    (hH0 : HR D A base H0 s.heap) (hH : HR D A base H MH) (kk : W p l e R s m args below meth c MH locs (600000 - H0.length) (7302250 - szs H0) Q g) : W p l e R s m args below meth c MH locs cells slots Q g := by
  have h1 := hH0.2.1
  have h2 := hH0.2.2.1
  have h3 := hH.2.1
  have h4 := hH.2.2.1
  exact W.tight hH0 hH (by omega) (by omega) kk
theorem pw_iret (F : FX E cc own) {x : Int} (q : QE E (some (vi x)) H (some .int)) (hdg : decode cc pc = .ok (.ireturn, 1)) : PW E pc ls [vi x] H := by
  obtain ⟨p, l, e, R, s, m, args, below, meth, c, Q, D, A, base, nL⟩ := E
  intro MH locs Ls St cells slots hH hO hl hL hS
  obtain ⟨v1, S1, rfl, ⟨y, rfl, hy⟩, hS1⟩ := rvs_cons hS
  cases rvs_nil hS1
  obtain ⟨hr, H0, hH0, rfl⟩ := q
  refine W.fin hH0 hH ?_
  exact W.iret F.1 F.2.1 hr (fun t ht hW => ⟨⟨_, rfl, _, rfl, y, rfl, hy⟩, by rw [ht]; exact hH, fun q hq => by rw [ht]; exact hO q hq⟩) hl hdg F.2.2.2.2.2.2.1
theorem pw_zret (F : FX E cc own) {x : Int} (q : QE E (some (vi x)) H (some .boolean)) (hb : x = 0 ∨ x = 1) (hdg : decode cc pc = .ok (.ireturn, 1)) : PW E pc ls [vi x] H := by
  obtain ⟨p, l, e, R, s, m, args, below, meth, c, Q, D, A, base, nL⟩ := E
  intro MH locs Ls St cells slots hH hO hl hL hS
  obtain ⟨v1, S1, rfl, ⟨y, rfl, hy⟩, hS1⟩ := rvs_cons hS
  cases rvs_nil hS1
  obtain ⟨hr, H0, hH0, rfl⟩ := q
  refine W.fin hH0 hH ?_
  exact W.zret F.1 F.2.1 hr (bool_nar hy hb) (fun t ht hW => ⟨⟨_, rfl, _, rfl, y, rfl, hy⟩, by rw [ht]; exact hH, fun q hq => by rw [ht]; exact hO q hq⟩) hl hdg F.2.2.2.2.2.2.1
theorem pw_lret (F : FX E cc own) {x : Int} (q : QE E (some (vl x)) H (some .long)) (hdg : decode cc pc = .ok (.lreturn, 1)) : PW E pc ls [vl x] H := by
  obtain ⟨p, l, e, R, s, m, args, below, meth, c, Q, D, A, base, nL⟩ := E
  intro MH locs Ls St cells slots hH hO hl hL hS
  obtain ⟨v1, S1, rfl, ⟨y, rfl, hy⟩, hS1⟩ := rvs_cons hS
  cases rvs_nil hS1
  obtain ⟨hr, H0, hH0, rfl⟩ := q
  refine W.fin hH0 hH ?_
  exact W.lret F.1 F.2.1 hr (fun t ht hW => ⟨⟨_, rfl, _, rfl, y, rfl, hy⟩, by rw [ht]; exact hH, fun q hq => by rw [ht]; exact hO q hq⟩) hl hdg F.2.2.2.2.2.2.1
theorem pw_aret (F : FX E cc own) {x : Int} {rt : FieldType} (hrt : (∃ n, rt = .object n) ∨ ∃ t, rt = .array t) (q : QE E (some (vr x)) H (some rt)) (hdg : decode cc pc = .ok (.areturn, 1)) : PW E pc ls [vr x] H := by
  obtain ⟨p, l, e, R, s, m, args, below, meth, c, Q, D, A, base, nL⟩ := E
  intro MH locs Ls St cells slots hH hO hl hL hS
  obtain ⟨v1, S1, rfl, hx, hS1⟩ := rvs_cons hS
  cases rvs_nil hS1
  obtain ⟨hr, H0, hH0, rfl⟩ := q
  refine W.fin hH0 hH ?_
  refine W.aret F.1 F.2.1 hr hrt ?_ (fun t ht hW => ⟨⟨_, rfl, _, rfl, hx⟩, by rw [ht]; exact hH, fun q hq => by rw [ht]; exact hO q hq⟩) hl hdg F.2.2.2.2.2.2.1
  rcases hx with ⟨-, h⟩ | ⟨-, h⟩
  · exact Or.inl h
  · exact Or.inr ⟨_, h⟩
theorem pw_vret (F : FX E cc own) (q : QE E none H none) (hdg : decode cc pc = .ok (.return_, 1)) : PW E pc ls [] H := by
  obtain ⟨p, l, e, R, s, m, args, below, meth, c, Q, D, A, base, nL⟩ := E
  intro MH locs Ls St cells slots hH hO hl hL hS
  cases rvs_nil hS
  obtain ⟨hr, H0, hH0, rfl⟩ := q
  refine W.fin hH0 hH ?_
  exact W.vret F.1 F.2.1 hr (fun t ht hW => ⟨⟨_, rfl, rfl⟩, by rw [ht]; exact hH, fun q hq => by rw [ht]; exact hO q hq⟩) hl hdg F.2.2.2.2.2.2.1
end Rets
-- the entry
def entL : List PV → PL
  | [] => []
  | v :: vs => if v.1 = 1 then some v :: none :: entL vs else some v :: entL vs
def entP (n : Nat) (vs : List PV) : PL := entL vs ++ List.replicate (n - (entL vs).length) none
def pcat (v : PV) : Nat := if v.1 = 1 then 2 else 1
theorem rv_cat {base : Nat} {v : PV} {x : Value} (h : rv base v x) : x.category = pcat v := by
  unfold pcat
  split
  · rename_i h1
    obtain ⟨t, i⟩ := v
    dsimp only at h1
    subst h1
    obtain ⟨z, rfl, -⟩ := h
    rfl
  · rename_i h1
    exact rv_cat1 h h1
theorem rvs_cats {base : Nat} : ∀ {vs : List PV} {xs : List Value}, rvs base vs xs → (xs.map fun v => v.category).sum = (vs.map pcat).sum
  | [], xs, h => by cases rvs_nil h; rfl
  | v :: vs, xs, h => by
    obtain ⟨x, ys, rfl, h1, h2⟩ := rvs_cons h
    simp [rvs_cats h2, rv_cat h1]
theorem sl_len {base : Nat} : ∀ {vs : List PV} {xs : List Value}, rvs base vs xs → (lg_sl xs).length = (entL vs).length
  | [], xs, h => by cases rvs_nil h; rfl
  | v :: vs, xs, h => by
    obtain ⟨x, ys, rfl, h1, h2⟩ := rvs_cons h
    have h3 := sl_len h2
    have h4 := rv_cat h1
    unfold pcat at h4
    unfold lg_sl at h3 ⊢
    rw [List.flatMap_cons, List.length_append, h3]
    show _ = (if v.1 = 1 then some v :: none :: entL vs else some v :: entL vs).length
    split at h4
    · rename_i h5
      rw [if_pos h5, if_pos h4]; simp; omega
    · rename_i h5
      rw [if_neg h5, if_neg (by omega)]; simp; omega
theorem ent_get {base : Nat} : ∀ {vs : List PV} {xs : List Value} (k i : Nat) (v : PV), rvs base vs xs → (entL vs)[i]? = some (some v) → ∃ x, (k + i, x) ∈ lv_args k xs ∧ rv base v x
  | [], xs, k, i, v, h, hi => by simp [entL] at hi
  | w :: vs, xs, k, i, v, h, hi => by
    obtain ⟨x, ys, rfl, h1, h2⟩ := rvs_cons h
    have h4 := rv_cat h1
    unfold pcat at h4
    unfold entL at hi
    unfold lv_args
    split at h4
    · rename_i h5
      rw [if_pos h5] at hi
      rw [if_pos h4]
      match i, hi with
      | 0, hi =>
        cases hi
        exact ⟨x, List.mem_cons_self, h1⟩
      | 1, hi => simp at hi
      | i + 2, hi =>
        obtain ⟨z, z1, z2⟩ := ent_get (k + 2) i v h2 (by simpa using hi)
        exact ⟨z, List.mem_cons_of_mem _ (by rw [show k + (i + 2) = k + 2 + i by omega]; exact z1), z2⟩
    · rename_i h5
      rw [if_neg h5] at hi
      rw [if_neg (by omega)]
      match i, hi with
      | 0, hi =>
        cases hi
        exact ⟨x, List.mem_cons_self, h1⟩
      | i + 1, hi =>
        obtain ⟨z, z1, z2⟩ := ent_get (k + 1) i v h2 (by simpa using hi)
        exact ⟨z, List.mem_cons_of_mem _ (by rw [show k + (i + 1) = k + 1 + i by omega]; exact z1), z2⟩
theorem LR.entry {base n : Nat} {vs : List PV} {xs : List Value} (h : rvs base vs xs) (hn : (entL vs).length ≤ n) : LR base n (entP n vs) ((lg_sl xs ++ List.replicate (n - (lg_sl xs).length) Slot.unset).toArray) := by
  obtain ⟨h1, h2, h3⟩ := lv_entry xs (n := n) (by rw [sl_len h]; exact hn)
  refine ⟨h1, h2, fun i v hi => ?_⟩
  have hi' : (entL vs)[i]? = some (some v) := by
    unfold entP at hi
    by_cases hl : i < (entL vs).length
    · rw [List.getElem?_append_left hl] at hi; exact hi
    · rw [List.getElem?_append_right (by omega), List.getElem?_replicate] at hi
      split at hi <;> simp at hi
  obtain ⟨x, z1, z2⟩ := ent_get 0 i v h hi'
  rw [Nat.zero_add] at z1
  exact ⟨x, h3 _ z1, z2⟩
def roomOf (E : PE) : Room := E.2.2.2.1
/-- a contract out of a walk -/
theorem CT.of {l : Launch} {y : MethodName} {cc : ByteArray} {maxL : Nat} {ret : Option FieldType} {F L : Nat} {args : List PV} {H H' : PH} {r : Option PV} (own : String) (hy : plainName y.cls = true) (ho : y.cls = own) (ls0 : PL) (hls : entP maxL args = ls0) (hlen : Nat.ble (entL args).length maxL = true)
    (body : ∀ E : PE, FX E cc own → QE E r H' ret → nLof E = maxL → (roomOf E).frames = F → (roomOf E).locals = L → methOf E = y.name → PW E 0 ls0 [] H) : CT l y cc maxL ret F L args H r H' := by
  intro D A base av hav
  refine Met.ofW (cc := cc) (maxL := maxL) (ret := ret) hy rfl ?_
  intro p e s m args' below meth c s₁ B hml hv
  obtain ⟨rfl, hK, hH⟩ := hv
  have hts := atoms_spec (ws := Cond.code y cc maxL ret :: wsG) B.pre
  have hown : s.vm.findClass y.cls = some m.cls := findClass_of_methodNamed B.named
  rw [lg_entry_eq]
  refine body (p, l, e, (headSpec (Cond.code y cc maxL ret :: wsG) (rmF F L H)).room, s, m, av.toArray, below, meth, c, _, D, A, base, maxL) ⟨B.exec, B.bytes, hml, by rw [← ho]; exact hown, fun w hw => hts w (List.mem_cons_of_mem _ hw), hK, B.notSynchronized, H, hH, rfl, rfl⟩ ⟨B.returns, H, hH, rfl⟩ rfl rfl rfl (name_of_methodNamed B.named B.method).1 s.heap [] _ [] 0 0 hH (fun _ _ => rfl) (fun q hq => by cases hq) ?_ trivial
  rw [← hls]
  exact LR.entry hav (Nat.le_of_ble_eq_true hlen)
theorem good_code {y : MethodName} {cC : ByteArray} {mL : Nat} {ret : Option FieldType} (w5 : Cond.code y cC mL ret ∈ wsG) : GoodIn wsG (Cond.code y cC mL ret :: wsG) := by
  intro w hw
  have hm : w ∈ wsG := by
    rcases List.mem_cons.mp hw with rfl | h
    · exact w5
    · exact h
  exact ⟨hm, good_of_word (List.mem_filter.mp hm).2⟩
section Calls7
variable {E : PE} {cc : ByteArray} {own : String} {pc : Nat} {ls : PL} {st stk stk' : List PV} {H H' : PH} {y : MethodName} {cC : ByteArray} {mL : Nat} {ret : Option FieldType} {FR LC : Nat} {as : List PV} {r : Option PV}
theorem run_on {p : Program} {l : Launch} {e : Env} {R : Room} {s : State} {m : MethodId} {args : Array Value} {below : List Frame} {meth : Method} {c : Code} {Q : State → Prop} {D : va_G} {A : Nat → ClassId} {base nL : Nat} {MH : Heap} {locs : List Loc} {Ls : Array Slot} {St rest : List Value} {cells slots mc ms : Nat} {a : Array Value}
    (hr : va_Run p l e R s m args below meth c MH locs cells slots mc ms (F0 m pc Ls St) rest (QcF D A base r H' a) (fun q => base ≤ q)) (hO : ∀ q : Nat, q < base → MH[q]? = s.heap[q]?) (hl : ∀ q ∈ locs, base ≤ q.base) (hL : LR base nL ls Ls) (hS : rvs base st rest)
    (k : PWx p l e R s m args below meth c Q D A base nL (pc + 3) ls (r.toList ++ st) H') : W p l e R s m args below meth c MH locs cells slots Q (F0 m pc Ls St) := by
  intro T hT X
  obtain ⟨v, st₀, t, T', L, h0, X', hLo, e1, e2, ⟨⟨x, hx, hrx⟩, hH1, hfr⟩, hgo⟩ := hr T hT X
  cases hx
  have hst : rvs base (r.toList ++ st) (v.toList ++ rest) := by
    cases r with
    | none =>
      have hrx : v = none := hrx
      subst hrx
      exact hS
    | some w =>
      obtain ⟨z, rfl, hz⟩ := hrx
      exact ⟨hz, hS⟩
  obtain ⟨t2, a1, b1⟩ := k t.heap (locs ++ L) Ls _ _ _ hH1 (fun q hq => (hfr q hq).trans (by rw [h0]; exact hO q hq)) (t_lL (free := fun q => base ≤ q) hl hLo) hL hst T' e1 X'
  exact ⟨t2, hgo t2 a1, b1⟩
theorem ref_of {base : Nat} {a : Int} {v : Value} (h : rv base (vr a) v) (ha : 0 ≤ a) : v = .ref (base + a.toNat) := by
  rcases h with ⟨q, -⟩ | ⟨-, q⟩
  · dsimp only at q; omega
  · exact q
theorem gcell_spec {a : Int} {t : Nat} {ys : List Int} (h : gcell H a = some (t, ys)) : 0 ≤ a ∧ H[a.toNat]? = some (t, ys) := by
  unfold gcell at h
  split at h
  · exact ⟨‹_›, h⟩
  · cases h
theorem pw_callV (F : FX E cc own) (index : Nat) {a : Int} (c0 : Nat) (hc0 : c0 < 10) (hC : cR c0 = y.cls) (hM : ∀ l, CT l y cC mL ret FR LC (vr a :: as) H r H')
    (w1 : Cond.methodLink own index y ∈ wsG) (w2 : Cond.instanceMethod y ∈ wsG) (w3 : Cond.selects y.cls y y ∈ wsG) (w4 : Cond.initialized y.cls ∈ wsG) (w5 : Cond.code y cC mL ret ∈ wsG)
    (hd : y.cls ≠ "java/lang/invoke/MethodHandle" ∧ y.cls ≠ "java/lang/invoke/VarHandle" ∧ (parseMethodDescriptor y.desc).map (fun d => d.parameters.length) = some as.length) (hR : FR + 1 ≤ (roomOf E).frames ∧ 8 + (mL + 11) + LC ≤ (roomOf E).locals)
    (hcat : Nat.ble (st.map pcat).sum 8 = true) (hrec : ∃ ys, gcell H a = some (16 + c0, ys)) (hdg : decode cc pc = .ok (.invokevirtual index, 3)) (hstk : stk = as.reverse ++ vr a :: st) (hstk' : r.toList ++ st = stk') (k : PW E (pc + 3) ls stk' H') : PW E pc ls stk H := by
  obtain ⟨p, l, e, R, s, m, args, below, meth, c, Q, D, A, base, nL⟩ := E
  subst hstk hstk'
  intro MH locs Ls St cells slots hH hO hl hL hS
  obtain ⟨S1, S2, rfl, hS1, hS2⟩ := rvs_app hS
  obtain ⟨v, rest, rfl, hv, hS3⟩ := rvs_cons hS2
  obtain ⟨ys, hys⟩ := hrec
  obtain ⟨ha, hk⟩ := gcell_spec hys
  obtain rfl := ref_of hv ha
  obtain ⟨hx, hb, hml, hown, hts, hK, hlk, H0, hH0, hRc, hRs⟩ := F
  have hr1 := rvs_rev hS1
  rw [List.reverse_reverse] at hr1
  have hMet := hM l D A base (.ref (base + a.toNat) :: S1.reverse) ⟨Or.inr ⟨ha, rfl⟩, hr1⟩
  obtain ⟨cell, f1, f2, f3, f4, -⟩ := hH.2.2.2 _ _ hk
  have hKn := hK.1 c0 hc0
  refine W.room hH0 hH fun hle hsle => ?_
  have q1 := hH.2.1
  have q2 := hH.2.2.1
  have hlenAs : S1.reverse.length = as.length := rvs_len hr1
  refine run_on (va_runV (As := S1.reverse) (rest := rest) (C := y.cls) ⟨hx, hb, hml, hown, hts⟩ hMet ⟨callB_of as.length hts (good_code w5) rfl rfl rfl (hts _ w4) (hts _ w1) hd hR, hts _ w2, hts _ w3⟩ ⟨PcF.blind, ⟨cell, f1, by rw [f2]; rfl, ?_⟩, fun U hU hW => ⟨rfl, hK.warm hW, by rw [hU]; exact hH⟩⟩ rfl hlenAs hL.1 ?_ ?_ hdg ?_) hO hl hL hS3 k
  · rw [f4, ← hC, cls_obj]; exact hKn.2.1
  · show S1 ++ _ = S1.reverse.reverse ++ _
    rw [List.reverse_reverse]
  · exact lv_room (by rw [rvs_cats hS3]; exact Nat.le_of_ble_eq_true hcat)
  · rw [hRc, hRs]; exact ⟨by omega, by omega⟩
theorem pw_callS (F : FX E cc own) (index : Nat) (hM : ∀ l, CT l y cC mL ret FR LC as H r H')
    (w1 : Cond.methodLink own index y ∈ wsG) (w2 : Cond.static y ∈ wsG) (w4 : Cond.initialized y.cls ∈ wsG) (w5 : Cond.code y cC mL ret ∈ wsG)
    (hd : y.cls ≠ "java/lang/invoke/MethodHandle" ∧ y.cls ≠ "java/lang/invoke/VarHandle" ∧ (parseMethodDescriptor y.desc).map (fun d => d.parameters.length) = some as.length) (hR : FR + 1 ≤ (roomOf E).frames ∧ 8 + (mL + 11) + LC ≤ (roomOf E).locals)
    (hcat : Nat.ble (st.map pcat).sum 8 = true) (hdg : decode cc pc = .ok (.invokestatic index, 3)) (hstk : stk = as.reverse ++ st) (hstk' : r.toList ++ st = stk') (k : PW E (pc + 3) ls stk' H') : PW E pc ls stk H := by
  obtain ⟨p, l, e, R, s, m, args, below, meth, c, Q, D, A, base, nL⟩ := E
  subst hstk hstk'
  intro MH locs Ls St cells slots hH hO hl hL hS
  obtain ⟨S1, rest, rfl, hS1, hS3⟩ := rvs_app hS
  obtain ⟨hx, hb, hml, hown, hts, hK, hlk, H0, hH0, hRc, hRs⟩ := F
  have hr1 := rvs_rev hS1
  rw [List.reverse_reverse] at hr1
  have hMet := hM l D A base S1.reverse hr1
  refine W.room hH0 hH fun hle hsle => ?_
  have q1 := hH.2.1
  have q2 := hH.2.2.1
  have hlenAs : S1.reverse.length = as.length := rvs_len hr1
  refine run_on (va_runS (As := S1.reverse) (rest := rest) ⟨hx, hb, hml, hown, hts⟩ hMet ⟨callB_of as.length hts (good_code w5) rfl rfl rfl (hts _ w4) (hts _ w1) hd hR, hts _ w2⟩ ⟨PcF.blind, fun U hU hW => ⟨rfl, hK.warm hW, by rw [hU]; exact hH⟩⟩ rfl hlenAs hL.1 ?_ ?_ hdg ?_) hO hl hL hS3 k
  · show S1 ++ _ = S1.reverse.reverse ++ _
    rw [List.reverse_reverse]
  · exact lv_room (by rw [rvs_cats hS3]; exact Nat.le_of_ble_eq_true hcat)
  · rw [hRc, hRs]; exact ⟨by omega, by omega⟩
theorem pw_callSN (F : FX E cc own) (index : Nat) (host : String) (hM : ∀ l, CT l y cC mL ret FR LC as H r H')
    (w1 : ∀ D A U, KF D A U → va_Nw (.methodLinkNest own index y host) U) (w2 : Cond.static y ∈ wsG) (w4 : Cond.initialized y.cls ∈ wsG) (w5 : Cond.code y cC mL ret ∈ wsG)
    (hd : y.cls ≠ "java/lang/invoke/MethodHandle" ∧ y.cls ≠ "java/lang/invoke/VarHandle" ∧ (parseMethodDescriptor y.desc).map (fun d => d.parameters.length) = some as.length) (hR : FR + 1 ≤ (roomOf E).frames ∧ 8 + (mL + 11) + LC ≤ (roomOf E).locals)
    (hcat : Nat.ble (st.map pcat).sum 8 = true) (hdg : decode cc pc = .ok (.invokestatic index, 3)) (hstk : stk = as.reverse ++ st) (hstk' : r.toList ++ st = stk') (k : PW E (pc + 3) ls stk' H') : PW E pc ls stk H := by
  obtain ⟨p, l, e, R, s, m, args, below, meth, c, Q, D, A, base, nL⟩ := E
  subst hstk hstk'
  intro MH locs Ls St cells slots hH hO hl hL hS
  obtain ⟨S1, rest, rfl, hS1, hS3⟩ := rvs_app hS
  obtain ⟨hx, hb, hml, hown, hts, hK, hlk, H0, hH0, hRc, hRs⟩ := F
  have hr1 := rvs_rev hS1
  rw [List.reverse_reverse] at hr1
  have hMet := hM l D A base S1.reverse hr1
  refine W.room hH0 hH fun hle hsle => ?_
  have q1 := hH.2.1
  have q2 := hH.2.2.1
  have hlenAs : S1.reverse.length = as.length := rvs_len hr1
  refine run_on (va_runSN (As := S1.reverse) (rest := rest) ⟨hx, hb, hml, hown, hts⟩ hMet ⟨va_cnB as.length hts (good_code w5) rfl rfl rfl (w1 D A s hK) (hts _ w4) hd hR, hts _ w2, trivial⟩ ⟨PcF.blind, fun U hU hW => ⟨rfl, hK.warm hW, by rw [hU]; exact hH⟩⟩ rfl hlenAs hL.1 ?_ ?_ hdg ?_) hO hl hL hS3 k
  · show S1 ++ _ = S1.reverse.reverse ++ _
    rw [List.reverse_reverse]
  · exact lv_room (by rw [rvs_cats hS3]; exact Nat.le_of_ble_eq_true hcat)
  · rw [hRc, hRs]; exact ⟨by omega, by omega⟩
theorem pw_callI (F : FX E cc own) (index : Nat) {a : Int} (ha : 0 ≤ a) (hM : ∀ l, CT l y cC mL none FR LC (vr a :: as) H none H') (hin : y.name = "<init>")
    (w1 : Cond.methodLink own index y ∈ wsG) (w2 : Cond.instanceMethod y ∈ wsG) (w4 : Cond.initialized y.cls ∈ wsG) (w5 : Cond.code y cC mL none ∈ wsG)
    (hd : y.cls ≠ "java/lang/invoke/MethodHandle" ∧ y.cls ≠ "java/lang/invoke/VarHandle" ∧ (parseMethodDescriptor y.desc).map (fun d => d.parameters.length) = some as.length) (hR : FR + 1 ≤ (roomOf E).frames ∧ 8 + (mL + 11) + LC ≤ (roomOf E).locals)
    (hcat : Nat.ble (st.map pcat).sum 8 = true) (hdg : decode cc pc = .ok (.invokespecial index, 3)) (hstk : stk = as.reverse ++ vr a :: st) (k : PW E (pc + 3) ls st H') : PW E pc ls stk H := by
  obtain ⟨p, l, e, R, s, m, args, below, meth, c, Q, D, A, base, nL⟩ := E
  subst hstk
  intro MH locs Ls St cells slots hH hO hl hL hS
  obtain ⟨S1, S2, rfl, hS1, hS2⟩ := rvs_app hS
  obtain ⟨v, rest, rfl, hv, hS3⟩ := rvs_cons hS2
  obtain rfl := ref_of hv ha
  obtain ⟨hx, hb, hml, hown, hts, hK, hlk, H0, hH0, hRc, hRs⟩ := F
  have hr1 := rvs_rev hS1
  rw [List.reverse_reverse] at hr1
  have hMet := hM l D A base (.ref (base + a.toNat) :: S1.reverse) ⟨Or.inr ⟨ha, rfl⟩, hr1⟩
  refine W.room hH0 hH fun hle hsle => ?_
  have q1 := hH.2.1
  have q2 := hH.2.2.1
  have hlenAs : S1.reverse.length = as.length := rvs_len hr1
  refine run_on (va_runI (As := S1.reverse) (rest := rest) ⟨hx, hb, hml, hown, hts⟩ hMet ⟨callB_of as.length hts (good_code w5) rfl rfl rfl (hts _ w4) (hts _ w1) hd hR, hin, hts _ w2⟩ ⟨PcF.blind, fun U hU hW => ⟨rfl, hK.warm hW, by rw [hU]; exact hH⟩⟩ rfl hlenAs hL.1 ?_ ?_ hdg ?_) hO hl hL hS3 k
  · show S1 ++ _ = S1.reverse.reverse ++ _
    rw [List.reverse_reverse]
  · exact lv_room (by rw [rvs_cats hS3]; exact Nat.le_of_ble_eq_true hcat)
  · rw [hRc, hRs]; exact ⟨by omega, by omega⟩
theorem pw_callIN (F : FX E cc own) (index : Nat) (host : String) {a : Int} (ha : 0 ≤ a) (hM : ∀ l, CT l y cC mL none FR LC (vr a :: as) H none H') (hin : y.name = "<init>")
    (w1 : ∀ D A U, KF D A U → va_Nw (.methodLinkNest own index y host) U) (w2 : Cond.instanceMethod y ∈ wsG) (w4 : Cond.initialized y.cls ∈ wsG) (w5 : Cond.code y cC mL none ∈ wsG)
    (hd : y.cls ≠ "java/lang/invoke/MethodHandle" ∧ y.cls ≠ "java/lang/invoke/VarHandle" ∧ (parseMethodDescriptor y.desc).map (fun d => d.parameters.length) = some as.length) (hR : FR + 1 ≤ (roomOf E).frames ∧ 8 + (mL + 11) + LC ≤ (roomOf E).locals)
    (hcat : Nat.ble (st.map pcat).sum 8 = true) (hdg : decode cc pc = .ok (.invokespecial index, 3)) (hstk : stk = as.reverse ++ vr a :: st) (k : PW E (pc + 3) ls st H') : PW E pc ls stk H := by
  obtain ⟨p, l, e, R, s, m, args, below, meth, c, Q, D, A, base, nL⟩ := E
  subst hstk
  intro MH locs Ls St cells slots hH hO hl hL hS
  obtain ⟨S1, S2, rfl, hS1, hS2⟩ := rvs_app hS
  obtain ⟨v, rest, rfl, hv, hS3⟩ := rvs_cons hS2
  obtain rfl := ref_of hv ha
  obtain ⟨hx, hb, hml, hown, hts, hK, hlk, H0, hH0, hRc, hRs⟩ := F
  have hr1 := rvs_rev hS1
  rw [List.reverse_reverse] at hr1
  have hMet := hM l D A base (.ref (base + a.toNat) :: S1.reverse) ⟨Or.inr ⟨ha, rfl⟩, hr1⟩
  refine W.room hH0 hH fun hle hsle => ?_
  have q1 := hH.2.1
  have q2 := hH.2.2.1
  have hlenAs : S1.reverse.length = as.length := rvs_len hr1
  refine run_on (va_runIN (As := S1.reverse) (rest := rest) ⟨hx, hb, hml, hown, hts⟩ hMet ⟨va_cnB as.length hts (good_code w5) rfl rfl rfl (w1 D A s hK) (hts _ w4) hd hR, hin, hts _ w2⟩ ⟨PcF.blind, fun U hU hW => ⟨rfl, hK.warm hW, by rw [hU]; exact hH⟩⟩ rfl hlenAs hL.1 ?_ ?_ hdg ?_) hO hl hL hS3 k
  · show S1 ++ _ = S1.reverse.reverse ++ _
    rw [List.reverse_reverse]
  · exact lv_room (by rw [rvs_cats hS3]; exact Nat.le_of_ble_eq_true hcat)
  · rw [hRc, hRs]; exact ⟨by omega, by omega⟩
end Calls7
