theorem sw_in {ts : List Nat} {i t : Nat} {a lo hi : Int} (k : Nat) (ht : ts[i]? = some t) (ha : a = lo + i) (hk : ts.length = k) (hh : hi = lo + k - 1) : ¬ (a < lo ∨ hi < a) := by
  have := (List.getElem?_eq_some_iff.mp ht).1
  omega
theorem sw_at {α : Type} {L : List (Option α)} {a lo : Int} {i : Nat} {r : Option α} (ha : a = lo + i) (h : List.getD L (a - lo).toNat none = r) : List.getD L i none = r := by
  rw [ha, show (lo + (i : Int) - lo).toNat = i by omega] at h; exact h
theorem g_72a371778f : Cond.constant RJ6 265 (1431655765) ∈ wsG := inG 409 (by decide +kernel) (by decide +kernel)
theorem g_09cd821eef : Cond.constant RJ6 266 (858993459) ∈ wsG := inG 410 (by decide +kernel) (by decide +kernel)
theorem g_412cf73e67 : Cond.constant RJ6 267 (252645135) ∈ wsG := inG 411 (by decide +kernel) (by decide +kernel)
theorem g_49384ec3ea : Cond.methodLink RX0 3 Lib.objectInit ∈ wsG := inG 458 (by decide +kernel) (by decide +kernel)
theorem g_93fb852fc9 : Cond.instanceMethod Lib.objectInit ∈ wsG := inG 21 (by decide +kernel) (by decide +kernel)
theorem g_ecc6a87410 : Cond.code Lib.objectInit ⟨#[0xb1]⟩ 1 none ∈ wsG := inG 22 (by decide +kernel) (by decide +kernel)
theorem g_15d2394a48 : Cond.fieldLink RX0 9 (cT 0 0).1 (cT 0 0).2.1 (cT 0 0).2.2.1 ∈ wsG := inG 459 (by decide +kernel) (by decide +kernel)
theorem g_32eebd6c40 : Cond.fieldLink RX0 15 (cT 0 1).1 (cT 0 1).2.1 (cT 0 1).2.2.1 ∈ wsG := inG 461 (by decide +kernel) (by decide +kernel)
theorem g_0f05ebc43b : Cond.fieldLink RX0 18 (cT 0 2).1 (cT 0 2).2.1 (cT 0 2).2.2.1 ∈ wsG := inG 463 (by decide +kernel) (by decide +kernel)
theorem g_395243d74a : Cond.fieldLink RX0 21 (cT 0 3).1 (cT 0 3).2.1 (cT 0 3).2.2.1 ∈ wsG := inG 465 (by decide +kernel) (by decide +kernel)
theorem g_a98ea0f791 : Cond.fieldLink RX0 25 (cT 0 4).1 (cT 0 4).2.1 (cT 0 4).2.2.1 ∈ wsG := inG 467 (by decide +kernel) (by decide +kernel)
theorem g_a2b773c274 : Cond.fieldLink RX0 28 (cT 0 5).1 (cT 0 5).2.1 (cT 0 5).2.2.1 ∈ wsG := inG 470 (by decide +kernel) (by decide +kernel)
theorem g_8824e19cf3 : Cond.fieldLink RX0 31 (cT 0 6).1 (cT 0 6).2.1 (cT 0 6).2.2.1 ∈ wsG := inG 473 (by decide +kernel) (by decide +kernel)
theorem inl_0 : ∀ w ∈ u_ws (cR 0) (cT 0) (cN 0), w ∈ wsG := inL [475, 477, 479, 481, 483, 485, 487] (by decide +kernel) (by decide +kernel)
theorem g_e1958c4875 : Cond.methodLink RX1 1 Lib.objectInit ∈ wsG := inG 762 (by decide +kernel) (by decide +kernel)
theorem g_13ec0457a5 : Cond.fieldLink RX1 7 (cT 1 0).1 (cT 1 0).2.1 (cT 1 0).2.2.1 ∈ wsG := inG 763 (by decide +kernel) (by decide +kernel)
theorem g_00b5adc1fb : Cond.fieldLink RX1 13 (cT 1 1).1 (cT 1 1).2.1 (cT 1 1).2.2.1 ∈ wsG := inG 765 (by decide +kernel) (by decide +kernel)
theorem inl_1 : ∀ w ∈ u_ws (cR 1) (cT 1) (cN 1), w ∈ wsG := inL [767, 769] (by decide +kernel) (by decide +kernel)
theorem g_098869d33c : Cond.methodLink RX2 1 Lib.objectInit ∈ wsG := inG 106 (by decide +kernel) (by decide +kernel)
theorem g_49260ac341 : Cond.fieldLink RX2 7 (cT 2 0).1 (cT 2 0).2.1 (cT 2 0).2.2.1 ∈ wsG := inG 107 (by decide +kernel) (by decide +kernel)
theorem g_5f44329a01 : Cond.fieldLink RX2 13 (cT 2 1).1 (cT 2 1).2.1 (cT 2 1).2.2.1 ∈ wsG := inG 108 (by decide +kernel) (by decide +kernel)
theorem inl_2 : ∀ w ∈ u_ws (cR 2) (cT 2) (cN 2), w ∈ wsG := inL [113, 115, 117, 119, 121] (by decide +kernel) (by decide +kernel)
theorem g_5e3db9ed5a : Cond.fieldLink RX2 16 (cT 2 2).1 (cT 2 2).2.1 (cT 2 2).2.2.1 ∈ wsG := inG 110 (by decide +kernel) (by decide +kernel)
theorem g_827c13a8d8 : Cond.fieldLink RX2 19 (cT 2 3).1 (cT 2 3).2.1 (cT 2 3).2.2.1 ∈ wsG := inG 111 (by decide +kernel) (by decide +kernel)
theorem g_331067bbfe : Cond.fieldLink RX2 22 (cT 2 4).1 (cT 2 4).2.1 (cT 2 4).2.2.1 ∈ wsG := inG 112 (by decide +kernel) (by decide +kernel)
theorem g_ab6fb71672 : Cond.methodLink RX3 3 Lib.objectInit ∈ wsG := inG 28 (by decide +kernel) (by decide +kernel)
theorem g_e5a8f8c7cb : Cond.classLink RX3 9 (aC 6) ∈ wsG := inG 29 (by decide +kernel) (by decide +kernel)
theorem g_b400760f80 : Cond.fieldLink RX3 11 (cT 3 0).1 (cT 3 0).2.1 (cT 3 0).2.2.1 ∈ wsG := inG 33 (by decide +kernel) (by decide +kernel)
theorem g_67755c6944 : Cond.classLink RX3 17 (aC 3) ∈ wsG := inG 31 (by decide +kernel) (by decide +kernel)
theorem g_5bdd928727 : Cond.fieldLink RX3 19 (cT 3 2).1 (cT 3 2).2.1 (cT 3 2).2.2.1 ∈ wsG := inG 37 (by decide +kernel) (by decide +kernel)
theorem g_c17bb956eb : Cond.arrayClass (aty 0) ∈ wsG := inG 55 (by decide +kernel) (by decide +kernel)
theorem g_508b17616b : Cond.fieldLink RX3 23 (cT 3 4).1 (cT 3 4).2.1 (cT 3 4).2.2.1 ∈ wsG := inG 40 (by decide +kernel) (by decide +kernel)
theorem inl_3 : ∀ w ∈ u_ws (cR 3) (cT 3) (cN 3), w ∈ wsG := inL [42, 44, 46, 48, 50, 52] (by decide +kernel) (by decide +kernel)
theorem g_be38874c85 : Cond.fieldLink RX3 27 (cT 3 1).1 (cT 3 1).2.1 (cT 3 1).2.2.1 ∈ wsG := inG 35 (by decide +kernel) (by decide +kernel)
theorem g_35b94c9a1b : Cond.fieldLink RX3 31 (cT 3 3).1 (cT 3 3).2.1 (cT 3 3).2.2.1 ∈ wsG := inG 38 (by decide +kernel) (by decide +kernel)
theorem g_ef6ab81c3b : Cond.fieldLink RX3 55 (cT 3 5).1 (cT 3 5).2.1 (cT 3 5).2.2.1 ∈ wsG := inG 41 (by decide +kernel) (by decide +kernel)
theorem g_44b2781333 : Cond.fieldLink RX3 38 (cT 5 2).1 (cT 5 2).2.1 (cT 5 2).2.2.1 ∈ wsG := inG 175 (by decide +kernel) (by decide +kernel)
theorem g_4bf7a8e1a2 : Cond.fieldLink RX3 45 (cT 5 12).1 (cT 5 12).2.1 (cT 5 12).2.2.1 ∈ wsG := inG 193 (by decide +kernel) (by decide +kernel)
theorem inl_5 : ∀ w ∈ u_ws (cR 5) (cT 5) (cN 5), w ∈ wsG := inL [194, 196, 198, 200, 202, 204, 206, 208, 210, 212, 214, 216, 218] (by decide +kernel) (by decide +kernel)
theorem g_7084beed68 : Cond.code yX3_addStep cX3_addStep 2 (some .int) ∈ wsG := inG 229 (by decide +kernel) (by decide +kernel)
theorem g_106b72596f : Cond.initialized RX3 ∈ wsG := inG 2 (by decide +kernel) (by decide +kernel)
theorem g_9a15c5745a : Cond.methodLink RX3 41 yX3_addStep ∈ wsG := inG 226 (by decide +kernel) (by decide +kernel)
theorem g_7d14aa49ff : Cond.instanceMethod yX3_addStep ∈ wsG := inG 228 (by decide +kernel) (by decide +kernel)
theorem g_cdb6d561d8 : Cond.selects RX3 yX3_addStep yX3_addStep ∈ wsG := inS 0 (by decide +kernel) (by decide +kernel)
theorem g_78e42c8fc4 : Cond.code yX3_questionsAreFull cX3_questionsAreFull 1 (some .boolean) ∈ wsG := inG 160 (by decide +kernel) (by decide +kernel)
theorem g_9f3eb9c3cd : Cond.methodLink RX3 34 yX3_questionsAreFull ∈ wsG := inG 225 (by decide +kernel) (by decide +kernel)
theorem g_ce784a9137 : Cond.instanceMethod yX3_questionsAreFull ∈ wsG := inG 158 (by decide +kernel) (by decide +kernel)
theorem g_0604d5dbe4 : Cond.selects RX3 yX3_questionsAreFull yX3_questionsAreFull ∈ wsG := inG 159 (by decide +kernel) (by decide +kernel)
theorem g_d0c4430d92 : Cond.fieldLink RX3 48 (cT 0 5).1 (cT 0 5).2.1 (cT 0 5).2.2.1 ∈ wsG := inG 471 (by decide +kernel) (by decide +kernel)
theorem g_018437c032 : Cond.code yX3_conditionsAreFull cX3_conditionsAreFull 2 (some .boolean) ∈ wsG := inG 452 (by decide +kernel) (by decide +kernel)
theorem g_2ddaef1b07 : Cond.methodLink RX3 51 yX3_conditionsAreFull ∈ wsG := inG 494 (by decide +kernel) (by decide +kernel)
theorem g_bb5e9f492c : Cond.instanceMethod yX3_conditionsAreFull ∈ wsG := inG 450 (by decide +kernel) (by decide +kernel)
theorem g_c1a0ce728c : Cond.selects RX3 yX3_conditionsAreFull yX3_conditionsAreFull ∈ wsG := inG 451 (by decide +kernel) (by decide +kernel)
theorem g_7e990cd7f9 : Cond.fieldLink RX3 58 (cT 5 11).1 (cT 5 11).2.1 (cT 5 11).2.2.1 ∈ wsG := inG 191 (by decide +kernel) (by decide +kernel)
theorem g_72f7a14260 : Cond.fieldLink RX6 9 (cT 6 0).1 (cT 6 0).2.1 (cT 6 0).2.2.1 ∈ wsG := inG 315 (by decide +kernel) (by decide +kernel)
theorem g_0d0469f624 : Cond.code yX8_spot cX8_spot 2 (some .int) ∈ wsG := inG 236 (by decide +kernel) (by decide +kernel)
theorem g_99e03e18e2 : Cond.initialized RX8 ∈ wsG := inG 1 (by decide +kernel) (by decide +kernel)
theorem g_aa0997f699 : Cond.static yX8_spot ∈ wsG := inG 235 (by decide +kernel) (by decide +kernel)
theorem inl_6 : ∀ w ∈ u_ws (cR 6) (cT 6) (cN 6), w ∈ wsG := inL [323, 325] (by decide +kernel) (by decide +kernel)
theorem g_7de7b516aa : Cond.code yX6_persons cX6_persons 2 (some .int) ∈ wsG := inG 360 (by decide +kernel) (by decide +kernel)
theorem g_6d91b6d2eb : Cond.initialized RX6 ∈ wsG := inG 9 (by decide +kernel) (by decide +kernel)
theorem g_da7a44ffd1 : Cond.methodLink RX8 183 yX6_persons ∈ wsG := inG 357 (by decide +kernel) (by decide +kernel)
theorem g_57e4f7bfca : Cond.instanceMethod yX6_persons ∈ wsG := inG 358 (by decide +kernel) (by decide +kernel)
theorem g_eafb5ccad4 : Cond.selects RX6 yX6_persons yX6_persons ∈ wsG := inG 359 (by decide +kernel) (by decide +kernel)
theorem g_2531f3ea29 : Cond.fieldLink RX3 137 (cT 0 4).1 (cT 0 4).2.1 (cT 0 4).2.2.1 ∈ wsG := inG 469 (by decide +kernel) (by decide +kernel)
theorem g_55662c9da8 : Cond.fieldLink RX3 89 (cT 4 1).1 (cT 4 1).2.1 (cT 4 1).2.2.1 ∈ wsG := inG 332 (by decide +kernel) (by decide +kernel)
theorem inl_4 : ∀ w ∈ u_ws (cR 4) (cT 4) (cN 4), w ∈ wsG := inL [337, 339, 341, 343] (by decide +kernel) (by decide +kernel)
theorem g_d843082af2 : Cond.fieldLink RX3 143 (cT 0 1).1 (cT 0 1).2.1 (cT 0 1).2.2.1 ∈ wsG := inG 462 (by decide +kernel) (by decide +kernel)
theorem g_fae99af0fd : Cond.fieldLink RX3 134 (cT 5 0).1 (cT 5 0).2.1 (cT 5 0).2.2.1 ∈ wsG := inG 169 (by decide +kernel) (by decide +kernel)
theorem g_0a429a6f3f : Cond.fieldLink RX3 113 (cT 6 0).1 (cT 6 0).2.1 (cT 6 0).2.2.1 ∈ wsG := inG 317 (by decide +kernel) (by decide +kernel)
theorem g_a70b9a2a57 : Cond.fieldLink RX3 121 (cT 6 1).1 (cT 6 1).2.1 (cT 6 1).2.2.1 ∈ wsG := inG 321 (by decide +kernel) (by decide +kernel)
theorem g_fcc6de1c80 : Cond.code yX0_fits cX0_fits 5 (some .boolean) ∈ wsG := inG 420 (by decide +kernel) (by decide +kernel)
theorem g_82b0ef516c : Cond.initialized RX0 ∈ wsG := inG 12 (by decide +kernel) (by decide +kernel)
theorem g_8a5de6dd98 : Cond.methodLink RX3 161 yX0_fits ∈ wsG := inG 417 (by decide +kernel) (by decide +kernel)
theorem g_87d82c7ac4 : Cond.instanceMethod yX0_fits ∈ wsG := inG 418 (by decide +kernel) (by decide +kernel)
theorem g_ffeaa85ca0 : Cond.selects RX0 yX0_fits yX0_fits ∈ wsG := inG 419 (by decide +kernel) (by decide +kernel)
theorem g_393e23b85c : Cond.fieldLink RX3 71 (cT 4 0).1 (cT 4 0).2.1 (cT 4 0).2.2.1 ∈ wsG := inG 329 (by decide +kernel) (by decide +kernel)
theorem g_85fcf40116 : Cond.fieldLink RX3 140 (cT 0 0).1 (cT 0 0).2.1 (cT 0 0).2.2.1 ∈ wsG := inG 460 (by decide +kernel) (by decide +kernel)
theorem g_7190d6430a : Cond.code yX3_bitsOfAsk cX3_bitsOfAsk 8 (some .int) ∈ wsG := inG 415 (by decide +kernel) (by decide +kernel)
theorem g_c360cb407d : Cond.methodLink RX3 157 yX3_bitsOfAsk ∈ wsG := inG 412 (by decide +kernel) (by decide +kernel)
theorem g_a3a7179899 : Cond.instanceMethod yX3_bitsOfAsk ∈ wsG := inG 414 (by decide +kernel) (by decide +kernel)
theorem g_69bd7c1dd9 : Cond.selects RX3 yX3_bitsOfAsk yX3_bitsOfAsk ∈ wsG := inS 7 (by decide +kernel) (by decide +kernel)
theorem g_6a7cc6d20e : Cond.fieldLink RX3 150 (cT 0 2).1 (cT 0 2).2.1 (cT 0 2).2.2.1 ∈ wsG := inG 464 (by decide +kernel) (by decide +kernel)
theorem g_92266c1923 : Cond.code yX3_spread cX3_spread 4 (some .int) ∈ wsG := inG 405 (by decide +kernel) (by decide +kernel)
theorem g_a203b9fae5 : Cond.methodLink RX3 146 yX3_spread ∈ wsG := inG 402 (by decide +kernel) (by decide +kernel)
theorem g_f3800f0198 : Cond.instanceMethod yX3_spread ∈ wsG := inG 404 (by decide +kernel) (by decide +kernel)
theorem g_43aa712652 : Cond.selects RX3 yX3_spread yX3_spread ∈ wsG := inS 6 (by decide +kernel) (by decide +kernel)
theorem g_6b7e3560a7 : Cond.fieldLink RX3 153 (cT 0 3).1 (cT 0 3).2.1 (cT 0 3).2.2.1 ∈ wsG := inG 466 (by decide +kernel) (by decide +kernel)
theorem g_723f897fba : Cond.code yJ6_bitCount_0f7a4 cJ6_bitCount_0f7a4 1 (some .int) ∈ wsG := inG 408 (by decide +kernel) (by decide +kernel)
theorem g_adf3f26831 : Cond.initialized RJ6 ∈ wsG := inG 11 (by decide +kernel) (by decide +kernel)
theorem g_d625a12f10 : Cond.static yJ6_bitCount_0f7a4 ∈ wsG := inG 407 (by decide +kernel) (by decide +kernel)
theorem g_100318fa4f : Cond.methodLink RX3 95 yJ6_bitCount_0f7a4 ∈ wsG := inG 406 (by decide +kernel) (by decide +kernel)
theorem g_b1b540d8aa : Cond.code yX8_placesOf cX8_placesOf 2 (some .int) ∈ wsG := inG 401 (by decide +kernel) (by decide +kernel)
theorem g_4eaddf5732 : Cond.static yX8_placesOf ∈ wsG := inG 400 (by decide +kernel) (by decide +kernel)
theorem g_c27b71773b : Cond.fieldLink RX5 44 (cT 5 9).1 (cT 5 9).2.1 (cT 5 9).2.2.1 ∈ wsG := inG 186 (by decide +kernel) (by decide +kernel)
theorem g_50634ba720 : Cond.fieldLink RX5 28 (cT 5 6).1 (cT 5 6).2.1 (cT 5 6).2.2.1 ∈ wsG := inG 182 (by decide +kernel) (by decide +kernel)
theorem g_568b27af1b : Cond.fieldLink RX5 32 (cT 5 7).1 (cT 5 7).2.1 (cT 5 7).2.2.1 ∈ wsG := inG 183 (by decide +kernel) (by decide +kernel)
theorem g_89df54ea64 : Cond.fieldLink RX6 15 (cT 6 1).1 (cT 6 1).2.1 (cT 6 1).2.2.1 ∈ wsG := inG 319 (by decide +kernel) (by decide +kernel)
theorem g_f9f49b6d42 : Cond.fieldLink RX3 106 (cT 5 1).1 (cT 5 1).2.1 (cT 5 1).2.2.1 ∈ wsG := inG 172 (by decide +kernel) (by decide +kernel)
theorem g_304c2d7096 : Cond.fieldLink RX3 92 (cT 5 3).1 (cT 5 3).2.1 (cT 5 3).2.2.1 ∈ wsG := inG 177 (by decide +kernel) (by decide +kernel)
theorem g_c56130afe4 : Cond.fieldLink RX3 128 (cT 5 8).1 (cT 5 8).2.1 (cT 5 8).2.2.1 ∈ wsG := inG 185 (by decide +kernel) (by decide +kernel)
theorem g_5239673ccb : Cond.code yX6_put cX6_put 4 none ∈ wsG := inG 240 (by decide +kernel) (by decide +kernel)
theorem g_4ab4df0845 : Cond.methodLink RX3 100 yX6_put ∈ wsG := inG 430 (by decide +kernel) (by decide +kernel)
theorem g_a4f482ed8e : Cond.instanceMethod yX6_put ∈ wsG := inG 238 (by decide +kernel) (by decide +kernel)
theorem g_a6da26925e : Cond.selects RX6 yX6_put yX6_put ∈ wsG := inG 239 (by decide +kernel) (by decide +kernel)
theorem g_27df96ccd7 : Cond.code yX6_lack cX6_lack 3 none ∈ wsG := inG 378 (by decide +kernel) (by decide +kernel)
theorem g_4d052febd2 : Cond.methodLink RX3 124 yX6_lack ∈ wsG := inG 429 (by decide +kernel) (by decide +kernel)
theorem g_003e5e4580 : Cond.instanceMethod yX6_lack ∈ wsG := inG 376 (by decide +kernel) (by decide +kernel)
theorem g_33f4dd9f6c : Cond.selects RX6 yX6_lack yX6_lack ∈ wsG := inG 377 (by decide +kernel) (by decide +kernel)
theorem g_87d6814636 : Cond.code yX5_rowAround cX5_rowAround 4 (some .int) ∈ wsG := inG 428 (by decide +kernel) (by decide +kernel)
theorem g_5f14f7581a : Cond.initialized RX5 ∈ wsG := inG 6 (by decide +kernel) (by decide +kernel)
theorem g_4419968c03 : Cond.methodLink RX3 117 yX5_rowAround ∈ wsG := inG 425 (by decide +kernel) (by decide +kernel)
theorem g_2f635507d2 : Cond.instanceMethod yX5_rowAround ∈ wsG := inG 426 (by decide +kernel) (by decide +kernel)
theorem g_c793f7111e : Cond.selects RX5 yX5_rowAround yX5_rowAround ∈ wsG := inG 427 (by decide +kernel) (by decide +kernel)
theorem g_28683674ec : Cond.methodLink RX3 131 yX6_persons ∈ wsG := inG 435 (by decide +kernel) (by decide +kernel)
theorem g_2e29f0927d : Cond.fieldLink RX3 62 (cT 4 2).1 (cT 4 2).2.1 (cT 4 2).2.2.1 ∈ wsG := inG 334 (by decide +kernel) (by decide +kernel)
theorem g_86450edef1 : Cond.code yX3_makeHowMany cX3_makeHowMany 3 none ∈ wsG := inG 439 (by decide +kernel) (by decide +kernel)
theorem g_3e22aabfd0 : Cond.methodLink RX3 82 yX3_makeHowMany ∈ wsG := inG 436 (by decide +kernel) (by decide +kernel)
theorem g_cb23f8b7d9 : Cond.instanceMethod yX3_makeHowMany ∈ wsG := inG 438 (by decide +kernel) (by decide +kernel)
theorem g_5e4b8f9da6 : Cond.selects RX3 yX3_makeHowMany yX3_makeHowMany ∈ wsG := inS 10 (by decide +kernel) (by decide +kernel)
theorem g_0ad19b0235 : Cond.code yX3_makeSum cX3_makeSum 10 none ∈ wsG := inG 434 (by decide +kernel) (by decide +kernel)
theorem g_bfdea9ccea : Cond.methodLink RX3 79 yX3_makeSum ∈ wsG := inG 431 (by decide +kernel) (by decide +kernel)
theorem g_1f15513c11 : Cond.instanceMethod yX3_makeSum ∈ wsG := inG 433 (by decide +kernel) (by decide +kernel)
theorem g_39f2794b99 : Cond.selects RX3 yX3_makeSum yX3_makeSum ∈ wsG := inS 9 (by decide +kernel) (by decide +kernel)
theorem g_11e7f9ed13 : Cond.code yX3_makeMapped cX3_makeMapped 9 none ∈ wsG := inG 424 (by decide +kernel) (by decide +kernel)
theorem g_7c0979fafe : Cond.methodLink RX3 75 yX3_makeMapped ∈ wsG := inG 421 (by decide +kernel) (by decide +kernel)
theorem g_4028f8027a : Cond.instanceMethod yX3_makeMapped ∈ wsG := inG 423 (by decide +kernel) (by decide +kernel)
theorem g_dbad68bcd8 : Cond.selects RX3 yX3_makeMapped yX3_makeMapped ∈ wsG := inS 8 (by decide +kernel) (by decide +kernel)
theorem g_5eb3fd9bba : Cond.code yX3_makeTruths cX3_makeTruths 6 none ∈ wsG := inG 398 (by decide +kernel) (by decide +kernel)
theorem g_339c01efb6 : Cond.methodLink RX3 67 yX3_makeTruths ∈ wsG := inG 395 (by decide +kernel) (by decide +kernel)
theorem g_712ac3a3ca : Cond.instanceMethod yX3_makeTruths ∈ wsG := inG 397 (by decide +kernel) (by decide +kernel)
theorem g_1534c8ec07 : Cond.selects RX3 yX3_makeTruths yX3_makeTruths ∈ wsG := inS 5 (by decide +kernel) (by decide +kernel)
theorem g_f24f68bff4 : Cond.methodLink RX6 3 Lib.objectInit ∈ wsG := inG 311 (by decide +kernel) (by decide +kernel)
theorem g_5bec7c7dcf : Cond.arrayClass (aty 1) ∈ wsG := inG 100 (by decide +kernel) (by decide +kernel)
theorem g_eeb4d3e40c : Cond.code yJ7_fill_53178 cJ7_fill_53178 4 none ∈ wsG := inG 314 (by decide +kernel) (by decide +kernel)
theorem g_242181dc25 : Cond.initialized RJ7 ∈ wsG := inG 10 (by decide +kernel) (by decide +kernel)
theorem g_68318bac72 : Cond.static yJ7_fill_53178 ∈ wsG := inG 313 (by decide +kernel) (by decide +kernel)
theorem g_43d11fbe27 : Cond.methodLink RX6 19 yJ7_fill_53178 ∈ wsG := inG 312 (by decide +kernel) (by decide +kernel)
theorem g_e26db97033 : Cond.methodLink RX4 3 Lib.objectInit ∈ wsG := inG 305 (by decide +kernel) (by decide +kernel)
theorem g_ee233f99d7 : Cond.classLink RX4 9 (cR 6) ∈ wsG := inG 306 (by decide +kernel) (by decide +kernel)
theorem g_17df4778bc : Cond.instantiable (cR 6) (cN 6) ∈ wsG := inG 307 (by decide +kernel) (by decide +kernel)
theorem g_761596d198 : Cond.initialized (cR 6) ∈ wsG := inG 9 (by decide +kernel) (by decide +kernel)
theorem g_388a57b48e : Cond.fieldLink RX4 12 (cT 4 0).1 (cT 4 0).2.1 (cT 4 0).2.2.1 ∈ wsG := inG 328 (by decide +kernel) (by decide +kernel)
theorem g_f27e4cde6e : Cond.fieldLink RX4 18 (cT 4 1).1 (cT 4 1).2.1 (cT 4 1).2.2.1 ∈ wsG := inG 331 (by decide +kernel) (by decide +kernel)
theorem g_1e78f4eb9d : Cond.fieldLink RX4 22 (cT 4 3).1 (cT 4 3).2.1 (cT 4 3).2.2.1 ∈ wsG := inG 335 (by decide +kernel) (by decide +kernel)
theorem g_5eee904427 : Cond.code yX6_init cX6_init 1 none ∈ wsG := inG 310 (by decide +kernel) (by decide +kernel)
theorem g_85c98f22bc : Cond.instanceMethod yX6_init ∈ wsG := inG 309 (by decide +kernel) (by decide +kernel)
theorem g_6b230bcf0e : Cond.methodLink RX4 11 yX6_init ∈ wsG := inG 308 (by decide +kernel) (by decide +kernel)
theorem g_7c02a4b645 : Cond.fieldLink RX4 26 (cT 4 2).1 (cT 4 2).2.1 (cT 4 2).2.2.1 ∈ wsG := inG 333 (by decide +kernel) (by decide +kernel)
theorem g_858cc0dceb : Cond.methodLink RX4 29 Lib.Math.min.name ∈ wsG := inG 274 (by decide +kernel) (by decide +kernel)
theorem g_6443835c00 : Cond.static Lib.Math.min.name ∈ wsG := inG 275 (by decide +kernel) (by decide +kernel)
theorem g_544deca7c6 : Cond.initialized "java/lang/Math" ∈ wsG := inG 7 (by decide +kernel) (by decide +kernel)
theorem g_4cca852340 : Cond.code Lib.Math.min.name Lib.Math.min.code 2 (some .int) ∈ wsG := inG 276 (by decide +kernel) (by decide +kernel)
theorem g_aa0ee00f0f : Cond.methodLink RX5 3 Lib.objectInit ∈ wsG := inG 166 (by decide +kernel) (by decide +kernel)
theorem g_9c99a9e193 : Cond.fieldLink RX5 9 (cT 5 0).1 (cT 5 0).2.1 (cT 5 0).2.2.1 ∈ wsG := inG 167 (by decide +kernel) (by decide +kernel)
theorem g_dbd9ff6c69 : Cond.fieldLink RX5 15 (cT 5 1).1 (cT 5 1).2.1 (cT 5 1).2.2.1 ∈ wsG := inG 170 (by decide +kernel) (by decide +kernel)
theorem g_ee9fab3031 : Cond.fieldLink RX5 18 (cT 5 2).1 (cT 5 2).2.1 (cT 5 2).2.2.1 ∈ wsG := inG 173 (by decide +kernel) (by decide +kernel)
theorem g_e546dd3fbc : Cond.fieldLink RX5 21 (cT 5 3).1 (cT 5 3).2.1 (cT 5 3).2.2.1 ∈ wsG := inG 176 (by decide +kernel) (by decide +kernel)
theorem g_263512e477 : Cond.fieldLink RX5 24 (cT 5 4).1 (cT 5 4).2.1 (cT 5 4).2.2.1 ∈ wsG := inG 178 (by decide +kernel) (by decide +kernel)
theorem g_a61bef37a4 : Cond.fieldLink RX5 35 (cT 5 8).1 (cT 5 8).2.1 (cT 5 8).2.2.1 ∈ wsG := inG 184 (by decide +kernel) (by decide +kernel)
theorem g_835d4a81f2 : Cond.fieldLink RX5 38 (cT 5 10).1 (cT 5 10).2.1 (cT 5 10).2.2.1 ∈ wsG := inG 188 (by decide +kernel) (by decide +kernel)
theorem g_a2d82bf241 : Cond.fieldLink RX5 41 (cT 5 5).1 (cT 5 5).2.1 (cT 5 5).2.2.1 ∈ wsG := inG 180 (by decide +kernel) (by decide +kernel)
theorem g_c839b202be : Cond.code yX5_addCode cX5_addCode 2 none ∈ wsG := inG 255 (by decide +kernel) (by decide +kernel)
theorem g_4b3cf19447 : Cond.methodLink RX5 51 yX5_addCode ∈ wsG := inG 269 (by decide +kernel) (by decide +kernel)
theorem g_a0597c9762 : Cond.instanceMethod yX5_addCode ∈ wsG := inG 253 (by decide +kernel) (by decide +kernel)
theorem g_f7c8001723 : Cond.selects RX5 yX5_addCode yX5_addCode ∈ wsG := inG 254 (by decide +kernel) (by decide +kernel)
theorem g_dacd68e1e9 : Cond.code yX5_codeIndex cX5_codeIndex 4 (some .int) ∈ wsG := inG 251 (by decide +kernel) (by decide +kernel)
theorem g_22658e7647 : Cond.methodLink RX5 47 yX5_codeIndex ∈ wsG := inG 268 (by decide +kernel) (by decide +kernel)
theorem g_badf7ddd51 : Cond.instanceMethod yX5_codeIndex ∈ wsG := inG 249 (by decide +kernel) (by decide +kernel)
theorem g_77ec39cdaf : Cond.selects RX5 yX5_codeIndex yX5_codeIndex ∈ wsG := inG 250 (by decide +kernel) (by decide +kernel)
theorem g_0e5d502fa1 : Cond.constantLong RX5 63 (5) ∈ wsG := inG 370 (by decide +kernel) (by decide +kernel)
theorem g_8272c56ec2 : Cond.constantLong RX5 55 (-1000000000000000) ∈ wsG := inG 366 (by decide +kernel) (by decide +kernel)
theorem g_7667baf1ad : Cond.constantLong RX5 57 (1000000000000000) ∈ wsG := inG 367 (by decide +kernel) (by decide +kernel)
theorem g_3db483a591 : Cond.constantLong RX5 59 (-30000) ∈ wsG := inG 368 (by decide +kernel) (by decide +kernel)
theorem g_4d73c7f6e4 : Cond.constantLong RX5 61 (30000) ∈ wsG := inG 369 (by decide +kernel) (by decide +kernel)
theorem g_9b235ef6b4 : Cond.fieldLink RX5 65 (cT 6 1).1 (cT 6 1).2.1 (cT 6 1).2.2.1 ∈ wsG := inG 320 (by decide +kernel) (by decide +kernel)
theorem g_d11355c094 : Cond.fieldLink RX5 70 (cT 6 0).1 (cT 6 0).2.1 (cT 6 0).2.2.1 ∈ wsG := inG 316 (by decide +kernel) (by decide +kernel)
theorem g_ff0da30281 : Cond.methodLink RX6 25 Lib.Math.max.name ∈ wsG := inG 734 (by decide +kernel) (by decide +kernel)
theorem g_8b9497d0c0 : Cond.static Lib.Math.max.name ∈ wsG := inG 500 (by decide +kernel) (by decide +kernel)
theorem g_7292adb7fd : Cond.code Lib.Math.max.name Lib.Math.max.code 2 (some .int) ∈ wsG := inG 501 (by decide +kernel) (by decide +kernel)
theorem g_826dfb57b8 : Cond.methodLink RX6 31 Lib.Math.min.name ∈ wsG := inG 735 (by decide +kernel) (by decide +kernel)
theorem g_022ec0e8e9 : Cond.code yJ7_copyOf_59c91 cJ7_copyOf_59c91 3 (some (.array .int)) ∈ wsG := inG 752 (by decide +kernel) (by decide +kernel)
theorem g_88c03b934a : Cond.static yJ7_copyOf_59c91 ∈ wsG := inG 751 (by decide +kernel) (by decide +kernel)
theorem g_5051afb2b4 : Cond.methodLink RX6 38 yJ7_copyOf_59c91 ∈ wsG := inG 750 (by decide +kernel) (by decide +kernel)
theorem g_a15cf0554f : Cond.code yJ7_copyOf_c38d5 cJ7_copyOf_c38d5 3 (some (.array .long)) ∈ wsG := inG 738 (by decide +kernel) (by decide +kernel)
theorem g_957f08b128 : Cond.static yJ7_copyOf_c38d5 ∈ wsG := inG 737 (by decide +kernel) (by decide +kernel)
theorem g_e120e5ccb1 : Cond.methodLink RX6 34 yJ7_copyOf_c38d5 ∈ wsG := inG 736 (by decide +kernel) (by decide +kernel)
theorem g_84437ea564 : Cond.methodLink RX6 44 yX6_put ∈ wsG := inG 817 (by decide +kernel) (by decide +kernel)
theorem g_cbadd1ad6d : Cond.methodLink RX7 3 Lib.objectInit ∈ wsG := inG 65 (by decide +kernel) (by decide +kernel)
theorem g_b6ed047181 : Cond.fieldLink RX7 9 (cT 7 3).1 (cT 7 3).2.1 (cT 7 3).2.2.1 ∈ wsG := inG 71 (by decide +kernel) (by decide +kernel)
theorem g_4595692087 : Cond.fieldLink RX7 15 (cT 7 4).1 (cT 7 4).2.1 (cT 7 4).2.2.1 ∈ wsG := inG 73 (by decide +kernel) (by decide +kernel)
theorem g_174638763c : Cond.fieldLink RX7 19 (cT 7 5).1 (cT 7 5).2.1 (cT 7 5).2.2.1 ∈ wsG := inG 75 (by decide +kernel) (by decide +kernel)
theorem g_0d79f5ff1b : Cond.fieldLink RX7 22 (cT 7 6).1 (cT 7 6).2.1 (cT 7 6).2.2.1 ∈ wsG := inG 77 (by decide +kernel) (by decide +kernel)
theorem g_8fd9c0111a : Cond.fieldLink RX7 25 (cT 7 7).1 (cT 7 7).2.1 (cT 7 7).2.2.1 ∈ wsG := inG 78 (by decide +kernel) (by decide +kernel)
theorem inl_7 : ∀ w ∈ u_ws (cR 7) (cT 7) (cN 7), w ∈ wsG := inL [81, 83, 85, 87, 89, 91, 93, 95, 97] (by decide +kernel) (by decide +kernel)
theorem g_dbfccfd81a : Cond.fieldLink RX7 68 (cT 7 8).1 (cT 7 8).2.1 (cT 7 8).2.2.1 ∈ wsG := inG 79 (by decide +kernel) (by decide +kernel)
theorem g_4c43356a59 : Cond.methodLink RX7 39 yJ7_fill_53178 ∈ wsG := inG 569 (by decide +kernel) (by decide +kernel)
theorem g_7af97f1e3d : Cond.fieldLink RX7 28 (cT 7 0).1 (cT 7 0).2.1 (cT 7 0).2.2.1 ∈ wsG := inG 66 (by decide +kernel) (by decide +kernel)
theorem g_d0dccf0994 : Cond.fieldLink RX7 32 (cT 7 1).1 (cT 7 1).2.1 (cT 7 1).2.2.1 ∈ wsG := inG 68 (by decide +kernel) (by decide +kernel)
theorem g_1e8f3b285b : Cond.fieldLink RX7 35 (cT 7 2).1 (cT 7 2).2.1 (cT 7 2).2.2.1 ∈ wsG := inG 70 (by decide +kernel) (by decide +kernel)
theorem g_9b3b464a34 : Cond.code yX7_holdNone cX7_holdNone 1 none ∈ wsG := inG 576 (by decide +kernel) (by decide +kernel)
theorem g_030a77a6da : Cond.initialized RX7 ∈ wsG := inG 3 (by decide +kernel) (by decide +kernel)
theorem g_ef8c2311d6 : Cond.methodLink RX7 48 yX7_holdNone ∈ wsG := inG 573 (by decide +kernel) (by decide +kernel)
theorem g_96547fb903 : Cond.instanceMethod yX7_holdNone ∈ wsG := inG 575 (by decide +kernel) (by decide +kernel)
theorem g_6781550bf5 : Cond.selects RX7 yX7_holdNone yX7_holdNone ∈ wsG := inS 13 (by decide +kernel) (by decide +kernel)
theorem g_0a9b741f16 : Cond.code yJ7_fill_d0a16 cJ7_fill_d0a16 5 none ∈ wsG := inG 572 (by decide +kernel) (by decide +kernel)
theorem g_fc2fc69ffb : Cond.static yJ7_fill_d0a16 ∈ wsG := inG 571 (by decide +kernel) (by decide +kernel)
theorem g_a7202a3ab8 : Cond.methodLink RX7 45 yJ7_fill_d0a16 ∈ wsG := inG 570 (by decide +kernel) (by decide +kernel)
theorem g_4843a546b7 : Cond.code yX7_at cX7_at 3 (some .int) ∈ wsG := inG 592 (by decide +kernel) (by decide +kernel)
theorem g_fcdeebc82f : Cond.methodLink RX7 55 yX7_at ∈ wsG := inG 589 (by decide +kernel) (by decide +kernel)
theorem g_e482649742 : Cond.instanceMethod yX7_at ∈ wsG := inG 590 (by decide +kernel) (by decide +kernel)
theorem g_bf833bcebb : Cond.selects RX7 yX7_at yX7_at ∈ wsG := inG 591 (by decide +kernel) (by decide +kernel)
theorem g_7f7d992768 : Cond.code yX7_hasCell cX7_hasCell 3 (some .boolean) ∈ wsG := inG 588 (by decide +kernel) (by decide +kernel)
theorem g_57593ad30e : Cond.methodLink RX7 51 yX7_hasCell ∈ wsG := inG 585 (by decide +kernel) (by decide +kernel)
theorem g_9f89e3469c : Cond.instanceMethod yX7_hasCell ∈ wsG := inG 586 (by decide +kernel) (by decide +kernel)
theorem g_41bf281d0f : Cond.selects RX7 yX7_hasCell yX7_hasCell ∈ wsG := inG 587 (by decide +kernel) (by decide +kernel)
theorem g_b56b72a0e9 : Cond.constantLong RX7 66 (-1) ∈ wsG := inG 626 (by decide +kernel) (by decide +kernel)
theorem g_6db5cc8efa : Cond.code yX7_cells cX7_cells 1 (some .int) ∈ wsG := inG 596 (by decide +kernel) (by decide +kernel)
theorem g_8284c179e4 : Cond.methodLink RX7 59 yX7_cells ∈ wsG := inG 621 (by decide +kernel) (by decide +kernel)
theorem g_63b3101b09 : Cond.instanceMethod yX7_cells ∈ wsG := inG 594 (by decide +kernel) (by decide +kernel)
theorem g_52aff81344 : Cond.selects RX7 yX7_cells yX7_cells ∈ wsG := inG 595 (by decide +kernel) (by decide +kernel)
theorem g_08ba90cb68 : Cond.code yX7_giveOneMore cX7_giveOneMore 3 none ∈ wsG := inG 625 (by decide +kernel) (by decide +kernel)
theorem g_a9169ab7ac : Cond.methodLink RX7 63 yX7_giveOneMore ∈ wsG := inG 622 (by decide +kernel) (by decide +kernel)
theorem g_3894c1f5d6 : Cond.instanceMethod yX7_giveOneMore ∈ wsG := inG 624 (by decide +kernel) (by decide +kernel)
theorem g_f4886fce42 : Cond.selects RX7 yX7_giveOneMore yX7_giveOneMore ∈ wsG := inS 14 (by decide +kernel) (by decide +kernel)
theorem g_0827f3684b : Cond.code yX7_hold cX7_hold 3 none ∈ wsG := inG 642 (by decide +kernel) (by decide +kernel)
theorem g_c8bf8baadb : Cond.methodLink RX7 71 yX7_hold ∈ wsG := inG 639 (by decide +kernel) (by decide +kernel)
theorem g_aae1ed0d35 : Cond.instanceMethod yX7_hold ∈ wsG := inG 641 (by decide +kernel) (by decide +kernel)
theorem g_8ad7ddce2c : Cond.selects RX7 yX7_hold yX7_hold ∈ wsG := inS 15 (by decide +kernel) (by decide +kernel)
theorem g_d6f0552876 : Cond.code yX7_isFree cX7_isFree 7 (some .boolean) ∈ wsG := inG 655 (by decide +kernel) (by decide +kernel)
theorem g_5e3490a3b5 : Cond.methodLink RX7 88 yX7_isFree ∈ wsG := inG 652 (by decide +kernel) (by decide +kernel)
theorem g_00000286b2 : Cond.instanceMethod yX7_isFree ∈ wsG := inG 654 (by decide +kernel) (by decide +kernel)
theorem g_7fccd1169f : Cond.selects RX7 yX7_isFree yX7_isFree ∈ wsG := inS 16 (by decide +kernel) (by decide +kernel)
theorem g_24b12a3bb9 : Cond.code yX7_isHeld cX7_isHeld 3 (some .boolean) ∈ wsG := inG 607 (by decide +kernel) (by decide +kernel)
theorem g_209c21ef8e : Cond.methodLink RX7 85 yX7_isHeld ∈ wsG := inG 651 (by decide +kernel) (by decide +kernel)
theorem g_8e7660debb : Cond.instanceMethod yX7_isHeld ∈ wsG := inG 605 (by decide +kernel) (by decide +kernel)
theorem g_2bb44259a2 : Cond.selects RX7 yX7_isHeld yX7_isHeld ∈ wsG := inG 606 (by decide +kernel) (by decide +kernel)
theorem g_8cded42e92 : Cond.code yX7_leastOpen cX7_leastOpen 8 (some .int) ∈ wsG := inG 663 (by decide +kernel) (by decide +kernel)
theorem g_cf1bee7d8f : Cond.methodLink RX7 81 yX7_leastOpen ∈ wsG := inG 660 (by decide +kernel) (by decide +kernel)
theorem g_0a1e53129a : Cond.instanceMethod yX7_leastOpen ∈ wsG := inG 662 (by decide +kernel) (by decide +kernel)
theorem g_bf317880e6 : Cond.selects RX7 yX7_leastOpen yX7_leastOpen ∈ wsG := inS 18 (by decide +kernel) (by decide +kernel)
theorem g_21786c74fc : Cond.code yX7_coverFor cX7_coverFor 4 (some .int) ∈ wsG := inG 659 (by decide +kernel) (by decide +kernel)
theorem g_2ee5e9bb0e : Cond.methodLink RX7 78 yX7_coverFor ∈ wsG := inG 656 (by decide +kernel) (by decide +kernel)
theorem g_ae39a11e3d : Cond.instanceMethod yX7_coverFor ∈ wsG := inG 658 (by decide +kernel) (by decide +kernel)
theorem g_d9b23fb058 : Cond.selects RX7 yX7_coverFor yX7_coverFor ∈ wsG := inS 17 (by decide +kernel) (by decide +kernel)
theorem g_cc8cc63070 : Cond.code yX7_firstFollowing cX7_firstFollowing 3 (some .int) ∈ wsG := inG 650 (by decide +kernel) (by decide +kernel)
theorem g_91eb32ac8e : Cond.methodLink RX7 75 yX7_firstFollowing ∈ wsG := inG 647 (by decide +kernel) (by decide +kernel)
theorem g_fa48a5b1ca : Cond.instanceMethod yX7_firstFollowing ∈ wsG := inG 648 (by decide +kernel) (by decide +kernel)
theorem g_db304d50ea : Cond.selects RX7 yX7_firstFollowing yX7_firstFollowing ∈ wsG := inG 649 (by decide +kernel) (by decide +kernel)
theorem g_af9a7f9533 : Cond.methodLink RX8 3 Lib.objectInit ∈ wsG := inG 20 (by decide +kernel) (by decide +kernel)
theorem g_fecb561ddc : Cond.classLink RX8 9 (cR 3) ∈ wsG := inG 23 (by decide +kernel) (by decide +kernel)
theorem g_53ced633f8 : Cond.instantiable (cR 3) (cN 3) ∈ wsG := inG 24 (by decide +kernel) (by decide +kernel)
theorem g_109c1f2a9c : Cond.initialized (cR 3) ∈ wsG := inG 2 (by decide +kernel) (by decide +kernel)
theorem g_955d9610dc : Cond.fieldLink RX8 12 (cT 8 0).1 (cT 8 0).2.1 (cT 8 0).2.2.1 ∈ wsG := inG 124 (by decide +kernel) (by decide +kernel)
theorem g_8a2d8fff9c : Cond.classLink RX8 16 (aC 5) ∈ wsG := inG 56 (by decide +kernel) (by decide +kernel)
theorem g_0efda17134 : Cond.fieldLink RX8 18 (cT 8 1).1 (cT 8 1).2.1 (cT 8 1).2.2.1 ∈ wsG := inG 125 (by decide +kernel) (by decide +kernel)
theorem g_d3e76c4257 : Cond.classLink RX8 22 (aC 4) ∈ wsG := inG 58 (by decide +kernel) (by decide +kernel)
theorem g_09faac908b : Cond.fieldLink RX8 24 (cT 8 3).1 (cT 8 3).2.1 (cT 8 3).2.2.1 ∈ wsG := inG 127 (by decide +kernel) (by decide +kernel)
theorem g_cd365d05f2 : Cond.classLink RX8 28 (cR 7) ∈ wsG := inG 60 (by decide +kernel) (by decide +kernel)
theorem g_0a78190097 : Cond.instantiable (cR 7) (cN 7) ∈ wsG := inG 61 (by decide +kernel) (by decide +kernel)
theorem g_ea9ede6c1f : Cond.initialized (cR 7) ∈ wsG := inG 3 (by decide +kernel) (by decide +kernel)
theorem g_c78e80ff2c : Cond.fieldLink RX8 31 (cT 8 5).1 (cT 8 5).2.1 (cT 8 5).2.2.1 ∈ wsG := inG 129 (by decide +kernel) (by decide +kernel)
theorem g_adf28a77e2 : Cond.classLink RX8 35 (cR 2) ∈ wsG := inG 101 (by decide +kernel) (by decide +kernel)
theorem g_39798cf30a : Cond.instantiable (cR 2) (cN 2) ∈ wsG := inG 102 (by decide +kernel) (by decide +kernel)
theorem g_ab2a9d72c2 : Cond.initialized (cR 2) ∈ wsG := inG 4 (by decide +kernel) (by decide +kernel)
theorem g_f8de3d2cc6 : Cond.fieldLink RX8 38 (cT 8 6).1 (cT 8 6).2.1 (cT 8 6).2.2.1 ∈ wsG := inG 130 (by decide +kernel) (by decide +kernel)
theorem g_a5c01fe640 : Cond.fieldLink RX8 42 (cT 8 7).1 (cT 8 7).2.1 (cT 8 7).2.2.1 ∈ wsG := inG 131 (by decide +kernel) (by decide +kernel)
theorem inl_8 : ∀ w ∈ u_ws (cR 8) (cT 8) (cN 8), w ∈ wsG := inL [132, 134, 136, 138, 140, 142, 144, 146] (by decide +kernel) (by decide +kernel)
theorem g_8ede87a9ff : Cond.code yX2_init cX2_init 1 none ∈ wsG := inG 105 (by decide +kernel) (by decide +kernel)
theorem g_d27e9d3e51 : Cond.initialized RX2 ∈ wsG := inG 4 (by decide +kernel) (by decide +kernel)
theorem g_b45a5f35a0 : Cond.instanceMethod yX2_init ∈ wsG := inG 104 (by decide +kernel) (by decide +kernel)
theorem g_183331861c : Cond.code yX7_init cX7_init 1 none ∈ wsG := inG 64 (by decide +kernel) (by decide +kernel)
theorem g_cd6d5b3695 : Cond.instanceMethod yX7_init ∈ wsG := inG 63 (by decide +kernel) (by decide +kernel)
theorem g_06b129e771 : Cond.methodLink RX8 30 yX7_init ∈ wsG := inG 62 (by decide +kernel) (by decide +kernel)
theorem g_378d4b7cac : Cond.code yX3_init cX3_init 1 none ∈ wsG := inG 27 (by decide +kernel) (by decide +kernel)
theorem g_44227f2d6e : Cond.instanceMethod yX3_init ∈ wsG := inG 26 (by decide +kernel) (by decide +kernel)
theorem g_aa020a06a4 : Cond.methodLink RX8 11 yX3_init ∈ wsG := inG 25 (by decide +kernel) (by decide +kernel)
theorem g_51d983fb79 : Cond.fieldLink RX8 98 (cT 8 2).1 (cT 8 2).2.1 (cT 8 2).2.2.1 ∈ wsG := inG 126 (by decide +kernel) (by decide +kernel)
theorem g_8ec333b1d7 : Cond.fieldLink RX8 126 (cT 4 0).1 (cT 4 0).2.1 (cT 4 0).2.2.1 ∈ wsG := inG 330 (by decide +kernel) (by decide +kernel)
theorem g_3522351f4b : Cond.methodLink RX8 134 yX6_put ∈ wsG := inG 237 (by decide +kernel) (by decide +kernel)
theorem g_3d0f1a9b86 : Cond.methodLink RX8 130 yX8_spot ∈ wsG := inG 234 (by decide +kernel) (by decide +kernel)
theorem g_011bfacd25 : Cond.classLink RX8 51 (cR 5) ∈ wsG := inG 161 (by decide +kernel) (by decide +kernel)
theorem g_67734e73bb : Cond.instantiable (cR 5) (cN 5) ∈ wsG := inG 162 (by decide +kernel) (by decide +kernel)
theorem g_4c9cf21b63 : Cond.initialized (cR 5) ∈ wsG := inG 6 (by decide +kernel) (by decide +kernel)
theorem g_36f7898fe9 : Cond.code yX8_emptyEverywhere cX8_emptyEverywhere 3 none ∈ wsG := inG 233 (by decide +kernel) (by decide +kernel)
theorem g_59e4c766cb : Cond.methodLink RX8 67 yX8_emptyEverywhere ∈ wsG := inG 230 (by decide +kernel) (by decide +kernel)
theorem g_bcb4a1f684 : Cond.instanceMethod yX8_emptyEverywhere ∈ wsG := inG 232 (by decide +kernel) (by decide +kernel)
theorem g_41c7d38eaa : Cond.selects RX8 yX8_emptyEverywhere yX8_emptyEverywhere ∈ wsG := inS 1 (by decide +kernel) (by decide +kernel)
theorem g_70a600b6d9 : Cond.code yX3_addQuestion cX3_addQuestion 2 (some .int) ∈ wsG := inG 224 (by decide +kernel) (by decide +kernel)
theorem g_2f6f4a7b3d : Cond.methodLink RX8 63 yX3_addQuestion ∈ wsG := inG 221 (by decide +kernel) (by decide +kernel)
theorem g_3ac20f9694 : Cond.instanceMethod yX3_addQuestion ∈ wsG := inG 222 (by decide +kernel) (by decide +kernel)
theorem g_a19cc73e1c : Cond.selects RX3 yX3_addQuestion yX3_addQuestion ∈ wsG := inG 223 (by decide +kernel) (by decide +kernel)
theorem g_c34f2ef9c5 : Cond.code yX5_init cX5_init 6 none ∈ wsG := inG 165 (by decide +kernel) (by decide +kernel)
theorem g_055bdb828c : Cond.instanceMethod yX5_init ∈ wsG := inG 164 (by decide +kernel) (by decide +kernel)
theorem g_943deb2f8c : Cond.methodLink RX8 60 yX5_init ∈ wsG := inG 163 (by decide +kernel) (by decide +kernel)
theorem g_c1adf85407 : Cond.methodLink RX8 56 yX3_questionsAreFull ∈ wsG := inG 157 (by decide +kernel) (by decide +kernel)
theorem g_89512a4092 : Cond.fieldLink RX8 50 (cT 5 0).1 (cT 5 0).2.1 (cT 5 0).2.2.1 ∈ wsG := inG 168 (by decide +kernel) (by decide +kernel)
theorem g_1cf8e31489 : Cond.code yX3_questionOf cX3_questionOf 2 (some (.object "HouseholdVault$Question")) ∈ wsG := inG 156 (by decide +kernel) (by decide +kernel)
theorem g_babc17a83a : Cond.methodLink RX8 46 yX3_questionOf ∈ wsG := inG 153 (by decide +kernel) (by decide +kernel)
theorem g_e6ef547307 : Cond.instanceMethod yX3_questionOf ∈ wsG := inG 154 (by decide +kernel) (by decide +kernel)
theorem g_4b42450d0b : Cond.selects RX3 yX3_questionOf yX3_questionOf ∈ wsG := inG 155 (by decide +kernel) (by decide +kernel)
theorem g_3884a6eb9d : Cond.fieldLink RX8 75 (cT 5 2).1 (cT 5 2).2.1 (cT 5 2).2.2.1 ∈ wsG := inG 174 (by decide +kernel) (by decide +kernel)
theorem g_64ca63fe2f : Cond.fieldLink RX8 82 (cT 5 5).1 (cT 5 5).2.1 (cT 5 5).2.2.1 ∈ wsG := inG 181 (by decide +kernel) (by decide +kernel)
theorem g_6e97f19155 : Cond.methodLink RX8 85 yX5_addCode ∈ wsG := inG 252 (by decide +kernel) (by decide +kernel)
theorem g_8b2c3e563a : Cond.methodLink RX8 78 yX5_codeIndex ∈ wsG := inG 248 (by decide +kernel) (by decide +kernel)
theorem g_bb8df22d4a : Cond.code yX8_isCode cX8_isCode 1 (some .boolean) ∈ wsG := inG 247 (by decide +kernel) (by decide +kernel)
theorem g_25b5f5ffb4 : Cond.static yX8_isCode ∈ wsG := inG 246 (by decide +kernel) (by decide +kernel)
theorem g_36d17fe2e4 : Cond.methodLink RX8 71 yX8_isCode ∈ wsG := inG 245 (by decide +kernel) (by decide +kernel)
theorem g_3644918d03 : Cond.fieldLink RX8 88 (cT 5 1).1 (cT 5 1).2.1 (cT 5 1).2.2.1 ∈ wsG := inG 171 (by decide +kernel) (by decide +kernel)
theorem g_ff15e3ab08 : Cond.fieldLink RX8 91 (cT 5 9).1 (cT 5 9).2.1 (cT 5 9).2.2.1 ∈ wsG := inG 187 (by decide +kernel) (by decide +kernel)
theorem g_5354ba0caf : Cond.fieldLink RX8 101 (cT 5 12).1 (cT 5 12).2.1 (cT 5 12).2.2.1 ∈ wsG := inG 192 (by decide +kernel) (by decide +kernel)
theorem g_23d9030154 : Cond.code yX4_unsettle cX4_unsettle 2 none ∈ wsG := inG 273 (by decide +kernel) (by decide +kernel)
theorem g_2b384744dc : Cond.initialized RX4 ∈ wsG := inG 8 (by decide +kernel) (by decide +kernel)
theorem g_a6698af361 : Cond.methodLink RX8 104 yX4_unsettle ∈ wsG := inG 270 (by decide +kernel) (by decide +kernel)
theorem g_a3e941320c : Cond.instanceMethod yX4_unsettle ∈ wsG := inG 271 (by decide +kernel) (by decide +kernel)
theorem g_eeee0fdaa6 : Cond.selects RX4 yX4_unsettle yX4_unsettle ∈ wsG := inG 272 (by decide +kernel) (by decide +kernel)
theorem g_e8eb7fc96d : Cond.code yX5_addRow cX5_addRow 6 none ∈ wsG := inG 267 (by decide +kernel) (by decide +kernel)
theorem g_8030ffb268 : Cond.methodLink RX8 94 yX5_addRow ∈ wsG := inG 264 (by decide +kernel) (by decide +kernel)
theorem g_5f04ca034a : Cond.instanceMethod yX5_addRow ∈ wsG := inG 265 (by decide +kernel) (by decide +kernel)
theorem g_bbbbf10086 : Cond.selects RX5 yX5_addRow yX5_addRow ∈ wsG := inG 266 (by decide +kernel) (by decide +kernel)
theorem g_1ba1e534e4 : Cond.fieldLink RX8 111 (cT 0 4).1 (cT 0 4).2.1 (cT 0 4).2.2.1 ∈ wsG := inG 468 (by decide +kernel) (by decide +kernel)
theorem g_f065878191 : Cond.code yX3_conditionOf cX3_conditionOf 2 (some (.object "HouseholdVault$Condition")) ∈ wsG := inG 284 (by decide +kernel) (by decide +kernel)
theorem g_49928f6725 : Cond.methodLink RX8 107 yX3_conditionOf ∈ wsG := inG 281 (by decide +kernel) (by decide +kernel)
theorem g_b00562ac61 : Cond.instanceMethod yX3_conditionOf ∈ wsG := inG 282 (by decide +kernel) (by decide +kernel)
theorem g_8e73955a14 : Cond.selects RX3 yX3_conditionOf yX3_conditionOf ∈ wsG := inG 283 (by decide +kernel) (by decide +kernel)
theorem g_490b7fc7fe : Cond.fieldLink RX8 116 (cT 5 10).1 (cT 5 10).2.1 (cT 5 10).2.2.1 ∈ wsG := inG 189 (by decide +kernel) (by decide +kernel)
theorem g_5d7d6be57f : Cond.fieldLink RX8 119 (cT 5 11).1 (cT 5 11).2.1 (cT 5 11).2.2.1 ∈ wsG := inG 190 (by decide +kernel) (by decide +kernel)
theorem g_bc74ea0fed : Cond.fieldLink RX8 123 (cT 5 4).1 (cT 5 4).2.1 (cT 5 4).2.2.1 ∈ wsG := inG 179 (by decide +kernel) (by decide +kernel)
theorem g_1acbc022bb : Cond.classLink RX8 16 (cR 4) ∈ wsG := inG 56 (by decide +kernel) (by decide +kernel)
theorem g_ccc6ed48b6 : Cond.instantiable (cR 4) (cN 4) ∈ wsG := inG 301 (by decide +kernel) (by decide +kernel)
theorem g_375e6c049d : Cond.initialized (cR 4) ∈ wsG := inG 8 (by decide +kernel) (by decide +kernel)
theorem g_4a788c66ef : Cond.fieldLink RX8 141 (cT 3 1).1 (cT 3 1).2.1 (cT 3 1).2.2.1 ∈ wsG := inG 36 (by decide +kernel) (by decide +kernel)
theorem g_78df9fc092 : Cond.fieldLink RX8 144 (cT 3 0).1 (cT 3 0).2.1 (cT 3 0).2.2.1 ∈ wsG := inG 34 (by decide +kernel) (by decide +kernel)
theorem g_550b83d2f3 : Cond.code yX4_init cX4_init 1 none ∈ wsG := inG 304 (by decide +kernel) (by decide +kernel)
theorem g_2b51a23556 : Cond.instanceMethod yX4_init ∈ wsG := inG 303 (by decide +kernel) (by decide +kernel)
theorem g_10e2a65101 : Cond.methodLink RX8 140 yX4_init ∈ wsG := inG 302 (by decide +kernel) (by decide +kernel)
theorem g_583d81acf8 : Cond.methodLink RX8 164 yX6_lack ∈ wsG := inG 375 (by decide +kernel) (by decide +kernel)
theorem g_c69c822bd1 : Cond.code yX8_dropPersons cX8_dropPersons 6 none ∈ wsG := inG 374 (by decide +kernel) (by decide +kernel)
theorem g_9d6678be1e : Cond.methodLink RX8 160 yX8_dropPersons ∈ wsG := inG 371 (by decide +kernel) (by decide +kernel)
theorem g_86556c4e24 : Cond.instanceMethod yX8_dropPersons ∈ wsG := inG 373 (by decide +kernel) (by decide +kernel)
theorem g_c43c9371fe : Cond.selects RX8 yX8_dropPersons yX8_dropPersons ∈ wsG := inS 3 (by decide +kernel) (by decide +kernel)
theorem g_0ceb28062e : Cond.code yX5_takes cX5_takes 3 (some .boolean) ∈ wsG := inG 365 (by decide +kernel) (by decide +kernel)
theorem g_2ff6f54256 : Cond.methodLink RX8 156 yX5_takes ∈ wsG := inG 362 (by decide +kernel) (by decide +kernel)
theorem g_cdc5529348 : Cond.instanceMethod yX5_takes ∈ wsG := inG 363 (by decide +kernel) (by decide +kernel)
theorem g_575de87ca7 : Cond.selects RX5 yX5_takes yX5_takes ∈ wsG := inG 364 (by decide +kernel) (by decide +kernel)
theorem g_4c36b6c4cd : Cond.code yX8_isPlace cX8_isPlace 3 (some .boolean) ∈ wsG := inG 356 (by decide +kernel) (by decide +kernel)
theorem g_0137baa7bf : Cond.static yX8_isPlace ∈ wsG := inG 355 (by decide +kernel) (by decide +kernel)
theorem g_f22e7a095c : Cond.methodLink RX8 152 yX8_isPlace ∈ wsG := inG 354 (by decide +kernel) (by decide +kernel)
theorem g_d22af8c66c : Cond.code yX8_homeOf cX8_homeOf 2 (some (.object "HouseholdVault$Household")) ∈ wsG := inG 353 (by decide +kernel) (by decide +kernel)
theorem g_71dc4d703e : Cond.methodLink RX8 148 yX8_homeOf ∈ wsG := inG 350 (by decide +kernel) (by decide +kernel)
theorem g_171138aae7 : Cond.instanceMethod yX8_homeOf ∈ wsG := inG 352 (by decide +kernel) (by decide +kernel)
theorem g_757aa7485e : Cond.selects RX8 yX8_homeOf yX8_homeOf ∈ wsG := inS 2 (by decide +kernel) (by decide +kernel)
theorem g_d1a08fcf56 : Cond.code yX3_settle cX3_settle 4 none ∈ wsG := inG 394 (by decide +kernel) (by decide +kernel)
theorem g_9494b7b84e : Cond.methodLink RX8 179 yX3_settle ∈ wsG := inG 391 (by decide +kernel) (by decide +kernel)
theorem g_25b0bd7147 : Cond.instanceMethod yX3_settle ∈ wsG := inG 392 (by decide +kernel) (by decide +kernel)
theorem g_67c8dc0219 : Cond.selects RX3 yX3_settle yX3_settle ∈ wsG := inG 393 (by decide +kernel) (by decide +kernel)
theorem g_6a853c1f58 : Cond.fieldLink RX8 172 (cT 6 0).1 (cT 6 0).2.1 (cT 6 0).2.2.1 ∈ wsG := inG 318 (by decide +kernel) (by decide +kernel)
theorem g_c220954495 : Cond.code yX8_settledSheet cX8_settledSheet 6 (some (.object "HouseholdVault$Sheet")) ∈ wsG := inG 390 (by decide +kernel) (by decide +kernel)
theorem g_da1cdf0dad : Cond.methodLink RX8 168 yX8_settledSheet ∈ wsG := inG 387 (by decide +kernel) (by decide +kernel)
theorem g_b1533c37ef : Cond.instanceMethod yX8_settledSheet ∈ wsG := inG 389 (by decide +kernel) (by decide +kernel)
theorem g_ca3a699852 : Cond.selects RX8 yX8_settledSheet yX8_settledSheet ∈ wsG := inS 4 (by decide +kernel) (by decide +kernel)
theorem g_47f3fc4b56 : Cond.fieldLink RX8 176 (cT 6 1).1 (cT 6 1).2.1 (cT 6 1).2.2.1 ∈ wsG := inG 322 (by decide +kernel) (by decide +kernel)
theorem g_4523d8d8bf : Cond.classLink RX8 112 (cR 0) ∈ wsG := inG 453 (by decide +kernel) (by decide +kernel)
theorem g_854bb96d1c : Cond.instantiable (cR 0) (cN 0) ∈ wsG := inG 454 (by decide +kernel) (by decide +kernel)
theorem g_ef07f9ccec : Cond.initialized (cR 0) ∈ wsG := inG 12 (by decide +kernel) (by decide +kernel)
theorem g_e04be68bc8 : Cond.code yX3_addCondition cX3_addCondition 2 (some .int) ∈ wsG := inG 493 (by decide +kernel) (by decide +kernel)
theorem g_cb4e5a548a : Cond.methodLink RX8 195 yX3_addCondition ∈ wsG := inG 490 (by decide +kernel) (by decide +kernel)
theorem g_63018e7056 : Cond.instanceMethod yX3_addCondition ∈ wsG := inG 491 (by decide +kernel) (by decide +kernel)
theorem g_d894aaa55a : Cond.selects RX3 yX3_addCondition yX3_addCondition ∈ wsG := inG 492 (by decide +kernel) (by decide +kernel)
theorem g_d8fbc76a87 : Cond.code yX0_init cX0_init 9 none ∈ wsG := inG 457 (by decide +kernel) (by decide +kernel)
theorem g_203a6b265c : Cond.instanceMethod yX0_init ∈ wsG := inG 456 (by decide +kernel) (by decide +kernel)
theorem g_4a4e33672b : Cond.methodLink RX8 192 yX0_init ∈ wsG := inG 455 (by decide +kernel) (by decide +kernel)
theorem g_7417c9af48 : Cond.methodLink RX8 189 yX3_conditionsAreFull ∈ wsG := inG 449 (by decide +kernel) (by decide +kernel)
theorem g_1618d8a62f : Cond.constantLong RX8 187 (8) ∈ wsG := inG 448 (by decide +kernel) (by decide +kernel)
theorem g_d5ad117c5f : Cond.fieldLink RX8 199 (cT 0 5).1 (cT 0 5).2.1 (cT 0 5).2.2.1 ∈ wsG := inG 472 (by decide +kernel) (by decide +kernel)
theorem g_f8fbfc4672 : Cond.fieldLink RX8 202 (cT 0 6).1 (cT 0 6).2.1 (cT 0 6).2.2.1 ∈ wsG := inG 474 (by decide +kernel) (by decide +kernel)
theorem g_ca8853aa87 : Cond.methodLink RX8 205 Lib.Math.max.name ∈ wsG := inG 499 (by decide +kernel) (by decide +kernel)
theorem g_01f876b9a6 : Cond.code yX4_isSo cX4_isSo 5 (some .boolean) ∈ wsG := inG 513 (by decide +kernel) (by decide +kernel)
theorem g_98099921aa : Cond.methodLink RX8 210 yX4_isSo ∈ wsG := inG 510 (by decide +kernel) (by decide +kernel)
theorem g_6c53eda5c7 : Cond.instanceMethod yX4_isSo ∈ wsG := inG 511 (by decide +kernel) (by decide +kernel)
theorem g_f0127809a2 : Cond.selects RX4 yX4_isSo yX4_isSo ∈ wsG := inG 512 (by decide +kernel) (by decide +kernel)
theorem g_4a28ae1195 : Cond.code yX2_meet cX2_meet 4 none ∈ wsG := inG 544 (by decide +kernel) (by decide +kernel)
theorem g_9536165261 : Cond.methodLink RX8 241 yX2_meet ∈ wsG := inG 541 (by decide +kernel) (by decide +kernel)
theorem g_271e0cfd5d : Cond.instanceMethod yX2_meet ∈ wsG := inG 542 (by decide +kernel) (by decide +kernel)
theorem g_53b8e75756 : Cond.selects RX2 yX2_meet yX2_meet ∈ wsG := inG 543 (by decide +kernel) (by decide +kernel)
theorem g_b67ca90755 : Cond.code yX8_personOf cX8_personOf 2 (some .int) ∈ wsG := inG 540 (by decide +kernel) (by decide +kernel)
theorem g_0456d19d5b : Cond.static yX8_personOf ∈ wsG := inG 539 (by decide +kernel) (by decide +kernel)
theorem g_7cfdbc0380 : Cond.methodLink RX8 238 yX8_personOf ∈ wsG := inG 538 (by decide +kernel) (by decide +kernel)
theorem g_9e6f92d260 : Cond.code yX8_isGiven cX8_isGiven 3 (some .boolean) ∈ wsG := inG 537 (by decide +kernel) (by decide +kernel)
theorem g_1c0bf922d7 : Cond.static yX8_isGiven ∈ wsG := inG 536 (by decide +kernel) (by decide +kernel)
theorem g_92947af114 : Cond.methodLink RX8 234 yX8_isGiven ∈ wsG := inG 535 (by decide +kernel) (by decide +kernel)
theorem g_337a394b58 : Cond.methodLink RX8 230 yX8_placesOf ∈ wsG := inG 534 (by decide +kernel) (by decide +kernel)
theorem g_849a60cb0f : Cond.code yX8_meetAgainst cX8_meetAgainst 8 none ∈ wsG := inG 533 (by decide +kernel) (by decide +kernel)
theorem g_498b5d809c : Cond.methodLink RX8 227 yX8_meetAgainst ∈ wsG := inG 530 (by decide +kernel) (by decide +kernel)
theorem g_860c5b16a1 : Cond.instanceMethod yX8_meetAgainst ∈ wsG := inG 532 (by decide +kernel) (by decide +kernel)
theorem g_381c3614cd : Cond.selects RX8 yX8_meetAgainst yX8_meetAgainst ∈ wsG := inS 12 (by decide +kernel) (by decide +kernel)
theorem g_e6b26bf678 : Cond.code yX2_start cX2_start 2 none ∈ wsG := inG 529 (by decide +kernel) (by decide +kernel)
theorem g_379c302b23 : Cond.methodLink RX8 224 yX2_start ∈ wsG := inG 526 (by decide +kernel) (by decide +kernel)
theorem g_69fe0f0b64 : Cond.instanceMethod yX2_start ∈ wsG := inG 527 (by decide +kernel) (by decide +kernel)
theorem g_fa02ca82da : Cond.selects RX2 yX2_start yX2_start ∈ wsG := inG 528 (by decide +kernel) (by decide +kernel)
theorem g_c45e5dcd85 : Cond.fieldLink RX8 217 (cT 2 1).1 (cT 2 1).2.1 (cT 2 1).2.2.1 ∈ wsG := inG 109 (by decide +kernel) (by decide +kernel)
theorem g_da5cd22226 : Cond.code yX8_findAgainst cX8_findAgainst 4 none ∈ wsG := inG 525 (by decide +kernel) (by decide +kernel)
theorem g_e0282a4e76 : Cond.methodLink RX8 214 yX8_findAgainst ∈ wsG := inG 522 (by decide +kernel) (by decide +kernel)
theorem g_b346e4ee6a : Cond.instanceMethod yX8_findAgainst ∈ wsG := inG 524 (by decide +kernel) (by decide +kernel)
theorem g_a48630b731 : Cond.selects RX8 yX8_findAgainst yX8_findAgainst ∈ wsG := inS 11 (by decide +kernel) (by decide +kernel)
theorem g_e0ef5765d2 : Cond.code yX2_told cX2_told 4 (some .int) ∈ wsG := inG 552 (by decide +kernel) (by decide +kernel)
theorem g_975d610aae : Cond.methodLink RX8 220 yX2_told ∈ wsG := inG 549 (by decide +kernel) (by decide +kernel)
theorem g_2ddf4c4420 : Cond.instanceMethod yX2_told ∈ wsG := inG 550 (by decide +kernel) (by decide +kernel)
theorem g_c1c0e76a98 : Cond.selects RX2 yX2_told yX2_told ∈ wsG := inG 551 (by decide +kernel) (by decide +kernel)
theorem g_eaacb39f4f : Cond.fieldLink RX8 245 (cT 4 3).1 (cT 4 3).2.1 (cT 4 3).2.2.1 ∈ wsG := inG 336 (by decide +kernel) (by decide +kernel)
theorem g_3d29d25594 : Cond.methodLink RX8 260 yX7_cells ∈ wsG := inG 593 (by decide +kernel) (by decide +kernel)
theorem g_31e05e0bed : Cond.code yX7_add cX7_add 4 none ∈ wsG := inG 584 (by decide +kernel) (by decide +kernel)
theorem g_86996c46cb : Cond.methodLink RX8 257 yX7_add ∈ wsG := inG 581 (by decide +kernel) (by decide +kernel)
theorem g_dd920efc0e : Cond.instanceMethod yX7_add ∈ wsG := inG 582 (by decide +kernel) (by decide +kernel)
theorem g_d6a1aaf117 : Cond.selects RX7 yX7_add yX7_add ∈ wsG := inG 583 (by decide +kernel) (by decide +kernel)
theorem g_635f6f7457 : Cond.code yX5_lineOf cX5_lineOf 4 (some .int) ∈ wsG := inG 580 (by decide +kernel) (by decide +kernel)
theorem g_bfa4e4bba1 : Cond.methodLink RX8 254 yX5_lineOf ∈ wsG := inG 577 (by decide +kernel) (by decide +kernel)
theorem g_b3cde23ee5 : Cond.instanceMethod yX5_lineOf ∈ wsG := inG 578 (by decide +kernel) (by decide +kernel)
theorem g_6ae0ac66b4 : Cond.selects RX5 yX5_lineOf yX5_lineOf ∈ wsG := inG 579 (by decide +kernel) (by decide +kernel)
theorem g_afc6da9dc6 : Cond.code yX7_start cX7_start 4 none ∈ wsG := inG 568 (by decide +kernel) (by decide +kernel)
theorem g_60e5a608ca : Cond.methodLink RX8 251 yX7_start ∈ wsG := inG 565 (by decide +kernel) (by decide +kernel)
theorem g_9d93cff407 : Cond.instanceMethod yX7_start ∈ wsG := inG 566 (by decide +kernel) (by decide +kernel)
theorem g_4b0fd06b0b : Cond.selects RX7 yX7_start yX7_start ∈ wsG := inG 567 (by decide +kernel) (by decide +kernel)
theorem g_dc9b79beee : Cond.code yX5_makesLines cX5_makesLines 1 (some .boolean) ∈ wsG := inG 564 (by decide +kernel) (by decide +kernel)
theorem g_7bf7dfa137 : Cond.methodLink RX8 248 yX5_makesLines ∈ wsG := inG 561 (by decide +kernel) (by decide +kernel)
theorem g_5a5bc07de7 : Cond.instanceMethod yX5_makesLines ∈ wsG := inG 562 (by decide +kernel) (by decide +kernel)
theorem g_e37b655663 : Cond.selects RX5 yX5_makesLines yX5_makesLines ∈ wsG := inG 563 (by decide +kernel) (by decide +kernel)
theorem g_a2ef48c1d8 : Cond.constantLong RX8 268 (-1) ∈ wsG := inG 602 (by decide +kernel) (by decide +kernel)
theorem g_1e17824656 : Cond.fieldLink RX8 270 (cT 7 3).1 (cT 7 3).2.1 (cT 7 3).2.2.1 ∈ wsG := inG 72 (by decide +kernel) (by decide +kernel)
theorem g_4a2d7072d1 : Cond.methodLink RX8 273 yX7_at ∈ wsG := inG 603 (by decide +kernel) (by decide +kernel)
theorem g_e6acd3c6bb : Cond.fieldLink RX8 276 (cT 7 4).1 (cT 7 4).2.1 (cT 7 4).2.2.1 ∈ wsG := inG 74 (by decide +kernel) (by decide +kernel)
theorem g_518c4145f3 : Cond.methodLink RX8 279 yX7_isHeld ∈ wsG := inG 604 (by decide +kernel) (by decide +kernel)
theorem g_b2b8ba44bf : Cond.methodLink RX8 264 yX7_hasCell ∈ wsG := inG 601 (by decide +kernel) (by decide +kernel)
theorem g_c24706a7a2 : Cond.constant RX8 285 (1000000) ∈ wsG := inG 616 (by decide +kernel) (by decide +kernel)
theorem g_771f48c82c : Cond.code yX7_reckonShares cX7_reckonShares 6 (some .boolean) ∈ wsG := inG 620 (by decide +kernel) (by decide +kernel)
theorem g_aa59871201 : Cond.methodLink RX8 286 yX7_reckonShares ∈ wsG := inG 617 (by decide +kernel) (by decide +kernel)
theorem g_189ffc9cfe : Cond.instanceMethod yX7_reckonShares ∈ wsG := inG 618 (by decide +kernel) (by decide +kernel)
theorem g_fd95f1a6e1 : Cond.selects RX7 yX7_reckonShares yX7_reckonShares ∈ wsG := inG 619 (by decide +kernel) (by decide +kernel)
theorem g_80039af1cc : Cond.code yX7_isNone cX7_isNone 1 (some .boolean) ∈ wsG := inG 615 (by decide +kernel) (by decide +kernel)
theorem g_f11c670953 : Cond.methodLink RX8 282 yX7_isNone ∈ wsG := inG 612 (by decide +kernel) (by decide +kernel)
theorem g_6a2e40d3a1 : Cond.instanceMethod yX7_isNone ∈ wsG := inG 613 (by decide +kernel) (by decide +kernel)
theorem g_467962e0d4 : Cond.selects RX7 yX7_isNone yX7_isNone ∈ wsG := inG 614 (by decide +kernel) (by decide +kernel)
theorem g_68aa816e5c : Cond.fieldLink RX8 289 (cT 7 5).1 (cT 7 5).2.1 (cT 7 5).2.2.1 ∈ wsG := inG 76 (by decide +kernel) (by decide +kernel)
theorem g_b6085d72fc : Cond.fieldLink RX8 298 (cT 7 8).1 (cT 7 8).2.1 (cT 7 8).2.2.1 ∈ wsG := inG 80 (by decide +kernel) (by decide +kernel)
theorem g_e569cda3d3 : Cond.code yX7_holdUntilNoneFollows cX7_holdUntilNoneFollows 4 none ∈ wsG := inG 646 (by decide +kernel) (by decide +kernel)
theorem g_7fff5da993 : Cond.methodLink RX8 295 yX7_holdUntilNoneFollows ∈ wsG := inG 643 (by decide +kernel) (by decide +kernel)
theorem g_ccaebb7f1f : Cond.instanceMethod yX7_holdUntilNoneFollows ∈ wsG := inG 644 (by decide +kernel) (by decide +kernel)
theorem g_aae7acc735 : Cond.selects RX7 yX7_holdUntilNoneFollows yX7_holdUntilNoneFollows ∈ wsG := inG 645 (by decide +kernel) (by decide +kernel)
theorem g_19dd88596a : Cond.code yX7_holdBelow cX7_holdBelow 5 none ∈ wsG := inG 638 (by decide +kernel) (by decide +kernel)
theorem g_1dcef3543c : Cond.methodLink RX8 292 yX7_holdBelow ∈ wsG := inG 635 (by decide +kernel) (by decide +kernel)
theorem g_9a52488c7c : Cond.instanceMethod yX7_holdBelow ∈ wsG := inG 636 (by decide +kernel) (by decide +kernel)
theorem g_92f23cc307 : Cond.selects RX7 yX7_holdBelow yX7_holdBelow ∈ wsG := inG 637 (by decide +kernel) (by decide +kernel)
theorem g_af05f46ed2 : Cond.methodLink RX8 301 yX7_firstFollowing ∈ wsG := inG 668 (by decide +kernel) (by decide +kernel)
theorem g_c3baec6957 : Cond.code yX8_heightOf cX8_heightOf 6 (some .long) ∈ wsG := inG 684 (by decide +kernel) (by decide +kernel)
theorem g_eab7b74c61 : Cond.methodLink RX8 313 yX8_heightOf ∈ wsG := inG 681 (by decide +kernel) (by decide +kernel)
theorem g_5838d5ae2e : Cond.instanceMethod yX8_heightOf ∈ wsG := inG 683 (by decide +kernel) (by decide +kernel)
theorem g_9424d33f1b : Cond.selects RX8 yX8_heightOf yX8_heightOf ∈ wsG := inS 21 (by decide +kernel) (by decide +kernel)
theorem g_a71c5f65eb : Cond.code yX8_insertRising cX8_insertRising 7 none ∈ wsG := inG 680 (by decide +kernel) (by decide +kernel)
theorem g_7e68a734d2 : Cond.methodLink RX8 310 yX8_insertRising ∈ wsG := inG 677 (by decide +kernel) (by decide +kernel)
theorem g_65cbe0d982 : Cond.instanceMethod yX8_insertRising ∈ wsG := inG 679 (by decide +kernel) (by decide +kernel)
theorem g_3f4ccd4bfc : Cond.selects RX8 yX8_insertRising yX8_insertRising ∈ wsG := inS 20 (by decide +kernel) (by decide +kernel)
theorem g_5be34986fb : Cond.code yX8_missingAt cX8_missingAt 5 (some .int) ∈ wsG := inG 688 (by decide +kernel) (by decide +kernel)
theorem g_885c163c31 : Cond.methodLink RX8 307 yX8_missingAt ∈ wsG := inG 685 (by decide +kernel) (by decide +kernel)
theorem g_25905d43a7 : Cond.instanceMethod yX8_missingAt ∈ wsG := inG 687 (by decide +kernel) (by decide +kernel)
theorem g_785568d16d : Cond.selects RX8 yX8_missingAt yX8_missingAt ∈ wsG := inS 22 (by decide +kernel) (by decide +kernel)
theorem g_37e5212558 : Cond.code yX8_sortRising cX8_sortRising 6 (some .int) ∈ wsG := inG 676 (by decide +kernel) (by decide +kernel)
theorem g_b05158b03a : Cond.methodLink RX8 304 yX8_sortRising ∈ wsG := inG 673 (by decide +kernel) (by decide +kernel)
theorem g_7823623c0c : Cond.instanceMethod yX8_sortRising ∈ wsG := inG 675 (by decide +kernel) (by decide +kernel)
theorem g_78853c6ac0 : Cond.selects RX8 yX8_sortRising yX8_sortRising ∈ wsG := inS 19 (by decide +kernel) (by decide +kernel)
theorem g_f10e83a0e2 : Cond.code yX6_isLike cX6_isLike 3 (some .boolean) ∈ wsG := inG 716 (by decide +kernel) (by decide +kernel)
theorem g_f02cab396d : Cond.methodLink RX8 327 yX6_isLike ∈ wsG := inG 713 (by decide +kernel) (by decide +kernel)
theorem g_99b49d63a4 : Cond.instanceMethod yX6_isLike ∈ wsG := inG 714 (by decide +kernel) (by decide +kernel)
theorem g_e1eae53a3d : Cond.selects RX6 yX6_isLike yX6_isLike ∈ wsG := inG 715 (by decide +kernel) (by decide +kernel)
theorem g_a7dea15af1 : Cond.code yX8_areLikeIn cX8_areLikeIn 8 (some .boolean) ∈ wsG := inG 720 (by decide +kernel) (by decide +kernel)
theorem g_5c84d6cada : Cond.methodLink RX8 331 yX8_areLikeIn ∈ wsG := inG 717 (by decide +kernel) (by decide +kernel)
theorem g_867f725346 : Cond.instanceMethod yX8_areLikeIn ∈ wsG := inG 719 (by decide +kernel) (by decide +kernel)
theorem g_378e6b9d85 : Cond.selects RX8 yX8_areLikeIn yX8_areLikeIn ∈ wsG := inS 25 (by decide +kernel) (by decide +kernel)
theorem g_b03c4086fa : Cond.code yX8_areDoubles cX8_areDoubles 5 (some .boolean) ∈ wsG := inG 712 (by decide +kernel) (by decide +kernel)
theorem g_19963021a6 : Cond.methodLink RX8 323 yX8_areDoubles ∈ wsG := inG 709 (by decide +kernel) (by decide +kernel)
theorem g_c9c2f5ffba : Cond.instanceMethod yX8_areDoubles ∈ wsG := inG 711 (by decide +kernel) (by decide +kernel)
theorem g_7a3a83bd73 : Cond.selects RX8 yX8_areDoubles yX8_areDoubles ∈ wsG := inS 24 (by decide +kernel) (by decide +kernel)
theorem g_1672d01152 : Cond.code yX3_hasMarked cX3_hasMarked 2 (some .boolean) ∈ wsG := inG 708 (by decide +kernel) (by decide +kernel)
theorem g_2ea2858a30 : Cond.methodLink RX8 320 yX3_hasMarked ∈ wsG := inG 705 (by decide +kernel) (by decide +kernel)
theorem g_9a30a9d57b : Cond.instanceMethod yX3_hasMarked ∈ wsG := inG 706 (by decide +kernel) (by decide +kernel)
theorem g_b913c3c44e : Cond.selects RX3 yX3_hasMarked yX3_hasMarked ∈ wsG := inG 707 (by decide +kernel) (by decide +kernel)
theorem g_5a318fa1e7 : Cond.code yX8_findDoubles cX8_findDoubles 4 none ∈ wsG := inG 704 (by decide +kernel) (by decide +kernel)
theorem g_7d7244e19b : Cond.methodLink RX8 317 yX8_findDoubles ∈ wsG := inG 701 (by decide +kernel) (by decide +kernel)
theorem g_f5fed8dd0d : Cond.instanceMethod yX8_findDoubles ∈ wsG := inG 703 (by decide +kernel) (by decide +kernel)
theorem g_d8829d7a27 : Cond.selects RX8 yX8_findDoubles yX8_findDoubles ∈ wsG := inS 23 (by decide +kernel) (by decide +kernel)
theorem g_533bc01838 : Cond.fieldLink RX8 335 (cT 8 4).1 (cT 8 4).2.1 (cT 8 4).2.2.1 ∈ wsG := inG 128 (by decide +kernel) (by decide +kernel)
theorem g_f92ade062b : Cond.classLink RX8 135 (aC 7) ∈ wsG := inG 729 (by decide +kernel) (by decide +kernel)
theorem g_be4aa3ff4c : Cond.classLink RX8 22 (cR 1) ∈ wsG := inG 58 (by decide +kernel) (by decide +kernel)
theorem g_8ef65aad51 : Cond.instantiable (cR 1) (cN 1) ∈ wsG := inG 758 (by decide +kernel) (by decide +kernel)
theorem g_3431918d7c : Cond.initialized (cR 1) ∈ wsG := inG 14 (by decide +kernel) (by decide +kernel)
theorem g_76a26552d2 : Cond.code yX1_init cX1_init 3 none ∈ wsG := inG 761 (by decide +kernel) (by decide +kernel)
theorem g_cf66e99dd3 : Cond.initialized RX1 ∈ wsG := inG 14 (by decide +kernel) (by decide +kernel)
theorem g_ff320477db : Cond.instanceMethod yX1_init ∈ wsG := inG 760 (by decide +kernel) (by decide +kernel)
theorem g_f571e11dc1 : Cond.methodLink RX8 341 yX1_init ∈ wsG := inG 759 (by decide +kernel) (by decide +kernel)
theorem g_981c5d16b2 : Cond.classLink RX8 135 (cR 6) ∈ wsG := inG 729 (by decide +kernel) (by decide +kernel)
theorem g_f63b9c6a32 : Cond.code yX6_init_ cX6_init_ 4 none ∈ wsG := inG 733 (by decide +kernel) (by decide +kernel)
theorem g_40fc43b565 : Cond.instanceMethod yX6_init_ ∈ wsG := inG 732 (by decide +kernel) (by decide +kernel)
theorem g_668ddc41df : Cond.methodLink RX8 338 yX6_init_ ∈ wsG := inG 731 (by decide +kernel) (by decide +kernel)
theorem g_ec6a53010b : Cond.fieldLink RX8 376 (cT 1 1).1 (cT 1 1).2.1 (cT 1 1).2.2.1 ∈ wsG := inG 766 (by decide +kernel) (by decide +kernel)
theorem g_bee30a97df : Cond.fieldLink RX8 356 (cT 1 0).1 (cT 1 0).2.1 (cT 1 0).2.2.1 ∈ wsG := inG 764 (by decide +kernel) (by decide +kernel)
theorem g_c89f233e61 : Cond.code yX8_editionOf cX8_editionOf 2 (some (.object "HouseholdVault$Edition")) ∈ wsG := inG 783 (by decide +kernel) (by decide +kernel)
theorem g_4811072f13 : Cond.methodLink RX8 348 yX8_editionOf ∈ wsG := inG 780 (by decide +kernel) (by decide +kernel)
theorem g_fd5c22ba94 : Cond.instanceMethod yX8_editionOf ∈ wsG := inG 782 (by decide +kernel) (by decide +kernel)
theorem g_9b6d66f1d5 : Cond.selects RX8 yX8_editionOf yX8_editionOf ∈ wsG := inS 27 (by decide +kernel) (by decide +kernel)
theorem g_70b6ae201f : Cond.code yX8_frozenSheet cX8_frozenSheet 8 (some (.object "HouseholdVault$Sheet")) ∈ wsG := inG 779 (by decide +kernel) (by decide +kernel)
theorem g_b8a9624dde : Cond.methodLink RX8 344 yX8_frozenSheet ∈ wsG := inG 776 (by decide +kernel) (by decide +kernel)
theorem g_2f1dfae41c : Cond.instanceMethod yX8_frozenSheet ∈ wsG := inG 778 (by decide +kernel) (by decide +kernel)
theorem g_f147ea985b : Cond.selects RX8 yX8_frozenSheet yX8_frozenSheet ∈ wsG := inS 26 (by decide +kernel) (by decide +kernel)
theorem g_7b2c370fc8 : Cond.methodLink RX8 360 Lib.Math.min.name ∈ wsG := inG 796 (by decide +kernel) (by decide +kernel)
theorem g_4f4422c817 : Cond.code yX8_meetChanges cX8_meetChanges 11 none ∈ wsG := inG 800 (by decide +kernel) (by decide +kernel)
theorem g_3a763554e8 : Cond.methodLink RX8 377 yX8_meetChanges ∈ wsG := inG 797 (by decide +kernel) (by decide +kernel)
theorem g_22c7dcc6d2 : Cond.instanceMethod yX8_meetChanges ∈ wsG := inG 799 (by decide +kernel) (by decide +kernel)
theorem g_9bf74eb767 : Cond.selects RX8 yX8_meetChanges yX8_meetChanges ∈ wsG := inS 29 (by decide +kernel) (by decide +kernel)
theorem g_a2b578f693 : Cond.code yX8_findChanges cX8_findChanges 8 none ∈ wsG := inG 795 (by decide +kernel) (by decide +kernel)
theorem g_f7c48ed74e : Cond.methodLink RX8 352 yX8_findChanges ∈ wsG := inG 792 (by decide +kernel) (by decide +kernel)
theorem g_5ef13166ab : Cond.instanceMethod yX8_findChanges ∈ wsG := inG 794 (by decide +kernel) (by decide +kernel)
theorem g_b1789ceccb : Cond.selects RX8 yX8_findChanges yX8_findChanges ∈ wsG := inS 28 (by decide +kernel) (by decide +kernel)
theorem g_4aecf63455 : Cond.code yX6_takeFrom cX6_takeFrom 3 (some .boolean) ∈ wsG := inG 816 (by decide +kernel) (by decide +kernel)
theorem g_81e583ffce : Cond.methodLink RX8 381 yX6_takeFrom ∈ wsG := inG 813 (by decide +kernel) (by decide +kernel)
theorem g_d36287eb6b : Cond.instanceMethod yX6_takeFrom ∈ wsG := inG 814 (by decide +kernel) (by decide +kernel)
theorem g_7d89cefbeb : Cond.selects RX6 yX6_takeFrom yX6_takeFrom ∈ wsG := inG 815 (by decide +kernel) (by decide +kernel)
theorem g_7e27283c2d : Cond.code yX8_bringBack cX8_bringBack 10 (some .int) ∈ wsG := inG 812 (by decide +kernel) (by decide +kernel)
theorem g_c48bebf620 : Cond.methodLink RX8 363 yX8_bringBack ∈ wsG := inG 809 (by decide +kernel) (by decide +kernel)
theorem g_b6cd6eb474 : Cond.instanceMethod yX8_bringBack ∈ wsG := inG 811 (by decide +kernel) (by decide +kernel)
theorem g_83ea994df4 : Cond.selects RX8 yX8_bringBack yX8_bringBack ∈ wsG := inS 30 (by decide +kernel) (by decide +kernel)
theorem g_1406401fe0 : Cond.fieldLink RX8 367 (cT 3 3).1 (cT 3 3).2.1 (cT 3 3).2.2.1 ∈ wsG := inG 39 (by decide +kernel) (by decide +kernel)
theorem g_4f6698321f : Cond.fieldLink RX8 370 (cT 7 0).1 (cT 7 0).2.1 (cT 7 0).2.2.1 ∈ wsG := inG 67 (by decide +kernel) (by decide +kernel)
theorem g_27436ce6f7 : Cond.fieldLink RX8 373 (cT 7 1).1 (cT 7 1).2.1 (cT 7 1).2.2.1 ∈ wsG := inG 69 (by decide +kernel) (by decide +kernel)
theorem g_dfca54492e : Cond.methodLink RX9 1 Lib.objectInit ∈ wsG := inG 827 (by decide +kernel) (by decide +kernel)
theorem g_a89464ec18 : Cond.fieldLink RX9 7 (cT 9 1).1 (cT 9 1).2.1 (cT 9 1).2.2.1 ∈ wsG := inG 830 (by decide +kernel) (by decide +kernel)
theorem g_0c2899f53f : Cond.fieldLink RX9 13 (cT 9 2).1 (cT 9 2).2.1 (cT 9 2).2.2.1 ∈ wsG := inG 831 (by decide +kernel) (by decide +kernel)
theorem g_bd19d270ba : Cond.fieldLink RX9 16 (cT 9 3).1 (cT 9 3).2.1 (cT 9 3).2.2.1 ∈ wsG := inG 832 (by decide +kernel) (by decide +kernel)
theorem g_1b40c2a4c8 : Cond.fieldLink RX9 19 (cT 9 4).1 (cT 9 4).2.1 (cT 9 4).2.2.1 ∈ wsG := inG 833 (by decide +kernel) (by decide +kernel)
theorem g_cd0b03d2d5 : Cond.fieldLink RX9 22 (cT 9 5).1 (cT 9 5).2.1 (cT 9 5).2.2.1 ∈ wsG := inG 834 (by decide +kernel) (by decide +kernel)
theorem g_10019bf10f : Cond.fieldLink RX9 25 (cT 9 6).1 (cT 9 6).2.1 (cT 9 6).2.2.1 ∈ wsG := inG 835 (by decide +kernel) (by decide +kernel)
theorem g_377c53ae53 : Cond.arrayClass (aty 2) ∈ wsG := inG 989 (by decide +kernel) (by decide +kernel)
theorem g_993ceefc50 : Cond.fieldLink RX9 28 (cT 9 7).1 (cT 9 7).2.1 (cT 9 7).2.2.1 ∈ wsG := inG 836 (by decide +kernel) (by decide +kernel)
theorem g_8263c80882 : Cond.fieldLink RX9 32 (cT 9 8).1 (cT 9 8).2.1 (cT 9 8).2.2.1 ∈ wsG := inG 837 (by decide +kernel) (by decide +kernel)
theorem g_364d877551 : Cond.fieldLink RX9 35 (cT 9 9).1 (cT 9 9).2.1 (cT 9 9).2.2.1 ∈ wsG := inG 838 (by decide +kernel) (by decide +kernel)
theorem g_19aee9d404 : Cond.fieldLink RX9 38 (cT 9 10).1 (cT 9 10).2.1 (cT 9 10).2.2.1 ∈ wsG := inG 839 (by decide +kernel) (by decide +kernel)
theorem g_95eb8cebe6 : Cond.fieldLink RX9 42 (cT 9 11).1 (cT 9 11).2.1 (cT 9 11).2.2.1 ∈ wsG := inG 840 (by decide +kernel) (by decide +kernel)
theorem g_098a6cb5f4 : Cond.fieldLink RX9 45 (cT 9 12).1 (cT 9 12).2.1 (cT 9 12).2.2.1 ∈ wsG := inG 841 (by decide +kernel) (by decide +kernel)
theorem g_02ee53a81c : Cond.fieldLink RX9 48 (cT 9 13).1 (cT 9 13).2.1 (cT 9 13).2.2.1 ∈ wsG := inG 842 (by decide +kernel) (by decide +kernel)
theorem g_948f79b8fe : Cond.fieldLink RX9 51 (cT 9 15).1 (cT 9 15).2.1 (cT 9 15).2.2.1 ∈ wsG := inG 844 (by decide +kernel) (by decide +kernel)
theorem g_fd9fcec31c : Cond.fieldLink RX9 54 (cT 9 16).1 (cT 9 16).2.1 (cT 9 16).2.2.1 ∈ wsG := inG 845 (by decide +kernel) (by decide +kernel)
theorem g_8eca8acc62 : Cond.fieldLink RX9 57 (cT 9 17).1 (cT 9 17).2.1 (cT 9 17).2.2.1 ∈ wsG := inG 846 (by decide +kernel) (by decide +kernel)
theorem g_14ea23737e : Cond.fieldLink RX9 60 (cT 9 19).1 (cT 9 19).2.1 (cT 9 19).2.2.1 ∈ wsG := inG 848 (by decide +kernel) (by decide +kernel)
theorem g_ef6ee937d9 : Cond.fieldLink RX9 63 (cT 9 20).1 (cT 9 20).2.1 (cT 9 20).2.2.1 ∈ wsG := inG 849 (by decide +kernel) (by decide +kernel)
theorem g_aa88bfb7db : Cond.fieldLink RX9 66 (cT 9 21).1 (cT 9 21).2.1 (cT 9 21).2.2.1 ∈ wsG := inG 850 (by decide +kernel) (by decide +kernel)
theorem g_d4e5cb9e3b : Cond.fieldLink RX9 69 (cT 9 22).1 (cT 9 22).2.1 (cT 9 22).2.2.1 ∈ wsG := inG 851 (by decide +kernel) (by decide +kernel)
theorem g_630466eb5f : Cond.fieldLink RX9 72 (cT 9 23).1 (cT 9 23).2.1 (cT 9 23).2.2.1 ∈ wsG := inG 852 (by decide +kernel) (by decide +kernel)
theorem g_98c91f31c8 : Cond.fieldLink RX9 75 (cT 9 24).1 (cT 9 24).2.1 (cT 9 24).2.2.1 ∈ wsG := inG 853 (by decide +kernel) (by decide +kernel)
theorem g_26e1dbdafb : Cond.fieldLink RX9 78 (cT 9 25).1 (cT 9 25).2.1 (cT 9 25).2.2.1 ∈ wsG := inG 854 (by decide +kernel) (by decide +kernel)
theorem g_c6aa864b14 : Cond.fieldLink RX9 81 (cT 9 26).1 (cT 9 26).2.1 (cT 9 26).2.2.1 ∈ wsG := inG 855 (by decide +kernel) (by decide +kernel)
theorem g_b1cbbee2b7 : Cond.fieldLink RX9 84 (cT 9 27).1 (cT 9 27).2.1 (cT 9 27).2.2.1 ∈ wsG := inG 856 (by decide +kernel) (by decide +kernel)
theorem g_4cb92a74f5 : Cond.fieldLink RX9 87 (cT 9 28).1 (cT 9 28).2.1 (cT 9 28).2.2.1 ∈ wsG := inG 857 (by decide +kernel) (by decide +kernel)
theorem g_b2cdc3fd82 : Cond.fieldLink RX9 90 (cT 9 31).1 (cT 9 31).2.1 (cT 9 31).2.2.1 ∈ wsG := inG 860 (by decide +kernel) (by decide +kernel)
theorem g_f2c3c3bf67 : Cond.fieldLink RX9 93 (cT 9 32).1 (cT 9 32).2.1 (cT 9 32).2.2.1 ∈ wsG := inG 861 (by decide +kernel) (by decide +kernel)
theorem g_6bc3d64f36 : Cond.constant RX9 96 (34560) ∈ wsG := inG 828 (by decide +kernel) (by decide +kernel)
theorem g_e5d5e6041e : Cond.fieldLink RX9 97 (cT 9 33).1 (cT 9 33).2.1 (cT 9 33).2.2.1 ∈ wsG := inG 862 (by decide +kernel) (by decide +kernel)
theorem g_41a86a255d : Cond.fieldLink RX9 100 (cT 9 34).1 (cT 9 34).2.1 (cT 9 34).2.2.1 ∈ wsG := inG 863 (by decide +kernel) (by decide +kernel)
theorem g_f58399c680 : Cond.fieldLink RX9 103 (cT 9 39).1 (cT 9 39).2.1 (cT 9 39).2.2.1 ∈ wsG := inG 868 (by decide +kernel) (by decide +kernel)
theorem g_0282b418ab : Cond.fieldLink RX9 106 (cT 9 40).1 (cT 9 40).2.1 (cT 9 40).2.2.1 ∈ wsG := inG 869 (by decide +kernel) (by decide +kernel)
theorem g_06be4583fb : Cond.fieldLink RX9 109 (cT 9 41).1 (cT 9 41).2.1 (cT 9 41).2.2.1 ∈ wsG := inG 870 (by decide +kernel) (by decide +kernel)
theorem g_192e92b71c : Cond.fieldLink RX9 112 (cT 9 42).1 (cT 9 42).2.1 (cT 9 42).2.2.1 ∈ wsG := inG 871 (by decide +kernel) (by decide +kernel)
theorem g_e8763ca537 : Cond.fieldLink RX9 115 (cT 9 43).1 (cT 9 43).2.1 (cT 9 43).2.2.1 ∈ wsG := inG 872 (by decide +kernel) (by decide +kernel)
theorem g_5be5e353a9 : Cond.fieldLink RX9 118 (cT 9 44).1 (cT 9 44).2.1 (cT 9 44).2.2.1 ∈ wsG := inG 873 (by decide +kernel) (by decide +kernel)
theorem g_b75f1cdc97 : Cond.fieldLink RX9 121 (cT 9 45).1 (cT 9 45).2.1 (cT 9 45).2.2.1 ∈ wsG := inG 874 (by decide +kernel) (by decide +kernel)
theorem g_2b8e0555eb : Cond.fieldLink RX9 124 (cT 9 49).1 (cT 9 49).2.1 (cT 9 49).2.2.1 ∈ wsG := inG 878 (by decide +kernel) (by decide +kernel)
theorem g_f6b474c3e3 : Cond.fieldLink RX9 127 (cT 9 50).1 (cT 9 50).2.1 (cT 9 50).2.2.1 ∈ wsG := inG 879 (by decide +kernel) (by decide +kernel)
theorem g_efe9f028c9 : Cond.fieldLink RX9 130 (cT 9 51).1 (cT 9 51).2.1 (cT 9 51).2.2.1 ∈ wsG := inG 880 (by decide +kernel) (by decide +kernel)
theorem g_7893a1c5f2 : Cond.fieldLink RX9 133 (cT 9 52).1 (cT 9 52).2.1 (cT 9 52).2.2.1 ∈ wsG := inG 881 (by decide +kernel) (by decide +kernel)
theorem inl_9 : ∀ w ∈ u_ws (cR 9) (cT 9) (cN 9), w ∈ wsG := inL [882, 884, 886, 888, 890, 892, 894, 896, 898, 900, 902, 904, 906, 908, 910, 912, 914, 916, 918, 920, 922, 924, 926, 928, 930, 932, 934, 936, 938, 940, 942, 944, 946, 948, 950, 952, 954, 956, 958, 960, 962, 964, 966, 968, 970, 972, 974, 976, 978, 980, 982, 984, 986] (by decide +kernel) (by decide +kernel)
theorem g_eb25be88a8 : Cond.fieldLink RX9 136 (cT 9 0).1 (cT 9 0).2.1 (cT 9 0).2.2.1 ∈ wsG := inG 829 (by decide +kernel) (by decide +kernel)
theorem g_c0c30bc7de : Cond.code yX9_in cX9_in 6 (some .boolean) ∈ wsG := inG 997 (by decide +kernel) (by decide +kernel)
theorem g_2759d91faa : Cond.initialized RX9 ∈ wsG := inG 5 (by decide +kernel) (by decide +kernel)
theorem g_3fadeb3198 : Cond.static yX9_in ∈ wsG := inG 996 (by decide +kernel) (by decide +kernel)
theorem g_0174c906e2 : Cond.methodLink RX9 140 yX9_in ∈ wsG := inG 995 (by decide +kernel) (by decide +kernel)
theorem g_f4ed299937 : Cond.fieldLink RX9 144 (cT 9 14).1 (cT 9 14).2.1 (cT 9 14).2.2.1 ∈ wsG := inG 843 (by decide +kernel) (by decide +kernel)
theorem g_98b4b1c18b : Cond.fieldLink RX9 147 (cT 9 18).1 (cT 9 18).2.1 (cT 9 18).2.2.1 ∈ wsG := inG 847 (by decide +kernel) (by decide +kernel)
theorem g_205510d507 : Cond.code yX9_place cX9_place 3 (some .int) ∈ wsG := inG 1012 (by decide +kernel) (by decide +kernel)
theorem g_ec0534314d : Cond.static yX9_place ∈ wsG := inG 1011 (by decide +kernel) (by decide +kernel)
theorem g_ace1a9f84c : Cond.methodLink RX9 150 yX9_place ∈ wsG := inG 1010 (by decide +kernel) (by decide +kernel)
theorem g_e9280b5cc2 : Cond.fieldLink RX9 158 (cT 9 29).1 (cT 9 29).2.1 (cT 9 29).2.2.1 ∈ wsG := inG 858 (by decide +kernel) (by decide +kernel)
theorem g_df8e1135b4 : Cond.code yX9_blank cX9_blank 4 none ∈ wsG := inG 1009 (by decide +kernel) (by decide +kernel)
theorem g_0a8335923d : Cond.methodLink RX9 154 yX9_blank ∈ wsG := inG 1006 (by decide +kernel) (by decide +kernel)
theorem g_13467f71e4 : Cond.instanceMethod yX9_blank ∈ wsG := inG 1008 (by decide +kernel) (by decide +kernel)
theorem g_aac8bd4ee9 : Cond.selects RX9 yX9_blank yX9_blank ∈ wsG := inS 33 (by decide +kernel) (by decide +kernel)
theorem g_f5e836366d : Cond.constantLong RX9 161 (5) ∈ wsG := inG 994 (by decide +kernel) (by decide +kernel)
theorem g_c8224d232d : Cond.code yX9_add cX9_add 6 (some .int) ∈ wsG := inG 1005 (by decide +kernel) (by decide +kernel)
theorem g_4e37b5869d : Cond.methodLink RX9 167 yX9_add ∈ wsG := inG 1002 (by decide +kernel) (by decide +kernel)
theorem g_00ef69ae41 : Cond.instanceMethod yX9_add ∈ wsG := inG 1004 (by decide +kernel) (by decide +kernel)
theorem g_862b2bfc9b : Cond.selects RX9 yX9_add yX9_add ∈ wsG := inS 32 (by decide +kernel) (by decide +kernel)
theorem g_4f2165d1ca : Cond.code yX9_isQuestion cX9_isQuestion 2 (some .boolean) ∈ wsG := inG 1001 (by decide +kernel) (by decide +kernel)
theorem g_26236cf357 : Cond.methodLink RX9 163 yX9_isQuestion ∈ wsG := inG 998 (by decide +kernel) (by decide +kernel)
theorem g_504499df23 : Cond.instanceMethod yX9_isQuestion ∈ wsG := inG 1000 (by decide +kernel) (by decide +kernel)
theorem g_65a9490ac1 : Cond.selects RX9 yX9_isQuestion yX9_isQuestion ∈ wsG := inS 31 (by decide +kernel) (by decide +kernel)
theorem g_283eba2487 : Cond.constantLong RX9 170 (-128) ∈ wsG := inG 1017 (by decide +kernel) (by decide +kernel)
theorem g_d06778f810 : Cond.constantLong RX9 172 (127) ∈ wsG := inG 1018 (by decide +kernel) (by decide +kernel)
theorem g_522d481ddd : Cond.code yX9_codeNumber cX9_codeNumber 6 (some .int) ∈ wsG := inG 1022 (by decide +kernel) (by decide +kernel)
theorem g_74b15b1c50 : Cond.methodLink RX9 174 yX9_codeNumber ∈ wsG := inG 1019 (by decide +kernel) (by decide +kernel)
theorem g_5405ac1030 : Cond.instanceMethod yX9_codeNumber ∈ wsG := inG 1021 (by decide +kernel) (by decide +kernel)
theorem g_3d4c6b4b45 : Cond.selects RX9 yX9_codeNumber yX9_codeNumber ∈ wsG := inS 34 (by decide +kernel) (by decide +kernel)
theorem g_8ca3f2c8d6 : Cond.code yX9_isCondition cX9_isCondition 2 (some .boolean) ∈ wsG := inG 1038 (by decide +kernel) (by decide +kernel)
theorem g_7eb587748a : Cond.methodLink RX9 178 yX9_isCondition ∈ wsG := inG 1035 (by decide +kernel) (by decide +kernel)
theorem g_679f284a6f : Cond.instanceMethod yX9_isCondition ∈ wsG := inG 1037 (by decide +kernel) (by decide +kernel)
theorem g_67cc1a7d68 : Cond.selects RX9 yX9_isCondition yX9_isCondition ∈ wsG := inS 35 (by decide +kernel) (by decide +kernel)
theorem g_c55f0dc1c5 : Cond.code yX9_persons cX9_persons 3 (some .int) ∈ wsG := inG 1070 (by decide +kernel) (by decide +kernel)
theorem g_de33c5095d : Cond.methodLink RX9 184 yX9_persons ∈ wsG := inG 1067 (by decide +kernel) (by decide +kernel)
theorem g_d70a88cf42 : Cond.instanceMethod yX9_persons ∈ wsG := inG 1069 (by decide +kernel) (by decide +kernel)
theorem g_2197e2f2b8 : Cond.selects RX9 yX9_persons yX9_persons ∈ wsG := inS 38 (by decide +kernel) (by decide +kernel)
theorem g_8e41464c49 : Cond.code yX9_isHousehold cX9_isHousehold 2 (some .boolean) ∈ wsG := inG 1066 (by decide +kernel) (by decide +kernel)
theorem g_9d408e4d4c : Cond.methodLink RX9 181 yX9_isHousehold ∈ wsG := inG 1063 (by decide +kernel) (by decide +kernel)
theorem g_afb7bfae38 : Cond.instanceMethod yX9_isHousehold ∈ wsG := inG 1065 (by decide +kernel) (by decide +kernel)
theorem g_247017f9f2 : Cond.selects RX9 yX9_isHousehold yX9_isHousehold ∈ wsG := inS 37 (by decide +kernel) (by decide +kernel)
theorem g_69a79e1e8b : Cond.constantLong RX9 188 (-1000000000000000) ∈ wsG := inG 1075 (by decide +kernel) (by decide +kernel)
theorem g_b72d356c9a : Cond.constantLong RX9 190 (1000000000000000) ∈ wsG := inG 1076 (by decide +kernel) (by decide +kernel)
theorem g_846dcd1cc5 : Cond.constantLong RX9 192 (-30000) ∈ wsG := inG 1077 (by decide +kernel) (by decide +kernel)
theorem g_06b449786f : Cond.constantLong RX9 194 (30000) ∈ wsG := inG 1078 (by decide +kernel) (by decide +kernel)
theorem g_49cb50c2e0 : Cond.code yX9_people cX9_people 7 none ∈ wsG := inG 1082 (by decide +kernel) (by decide +kernel)
theorem g_a5c9403578 : Cond.methodLink RX9 204 yX9_people ∈ wsG := inG 1079 (by decide +kernel) (by decide +kernel)
theorem g_dad00ec571 : Cond.instanceMethod yX9_people ∈ wsG := inG 1081 (by decide +kernel) (by decide +kernel)
theorem g_47c98390be : Cond.selects RX9 yX9_people yX9_people ∈ wsG := inS 40 (by decide +kernel) (by decide +kernel)
theorem g_94e35b967a : Cond.code yX9_isValue cX9_isValue 4 (some .boolean) ∈ wsG := inG 1074 (by decide +kernel) (by decide +kernel)
theorem g_81ebbd05a6 : Cond.methodLink RX9 200 yX9_isValue ∈ wsG := inG 1071 (by decide +kernel) (by decide +kernel)
theorem g_1c5f71c0d0 : Cond.instanceMethod yX9_isValue ∈ wsG := inG 1073 (by decide +kernel) (by decide +kernel)
theorem g_f6fa3c9e6b : Cond.selects RX9 yX9_isValue yX9_isValue ∈ wsG := inS 39 (by decide +kernel) (by decide +kernel)
theorem g_b17f622d62 : Cond.code yX9_isPlace cX9_isPlace 4 (some .boolean) ∈ wsG := inG 1062 (by decide +kernel) (by decide +kernel)
theorem g_4eaf5d5c79 : Cond.methodLink RX9 196 yX9_isPlace ∈ wsG := inG 1059 (by decide +kernel) (by decide +kernel)
theorem g_c8b02f6700 : Cond.instanceMethod yX9_isPlace ∈ wsG := inG 1061 (by decide +kernel) (by decide +kernel)
theorem g_d798c155f8 : Cond.selects RX9 yX9_isPlace yX9_isPlace ∈ wsG := inS 36 (by decide +kernel) (by decide +kernel)
theorem g_fd92aa9107 : Cond.code yX9_told cX9_told 6 none ∈ wsG := inG 1098 (by decide +kernel) (by decide +kernel)
theorem g_b31a41e5be : Cond.methodLink RX9 208 yX9_told ∈ wsG := inG 1095 (by decide +kernel) (by decide +kernel)
theorem g_bf9f77486a : Cond.instanceMethod yX9_told ∈ wsG := inG 1097 (by decide +kernel) (by decide +kernel)
theorem g_02988af58e : Cond.selects RX9 yX9_told yX9_told ∈ wsG := inS 42 (by decide +kernel) (by decide +kernel)
theorem g_2faae90e47 : Cond.code yX9_mapAt cX9_mapAt 5 none ∈ wsG := inG 1106 (by decide +kernel) (by decide +kernel)
theorem g_25bc187d9b : Cond.methodLink RX9 212 yX9_mapAt ∈ wsG := inG 1103 (by decide +kernel) (by decide +kernel)
theorem g_89c9c1ab59 : Cond.instanceMethod yX9_mapAt ∈ wsG := inG 1105 (by decide +kernel) (by decide +kernel)
theorem g_3aea6bbae1 : Cond.selects RX9 yX9_mapAt yX9_mapAt ∈ wsG := inS 44 (by decide +kernel) (by decide +kernel)
theorem g_cc067aace1 : Cond.code yX9_isSaid cX9_isSaid 3 (some .boolean) ∈ wsG := inG 1118 (by decide +kernel) (by decide +kernel)
theorem g_2e24908044 : Cond.methodLink RX9 219 yX9_isSaid ∈ wsG := inG 1115 (by decide +kernel) (by decide +kernel)
theorem g_d693ff4c1a : Cond.instanceMethod yX9_isSaid ∈ wsG := inG 1117 (by decide +kernel) (by decide +kernel)
theorem g_a73f6b46fd : Cond.selects RX9 yX9_isSaid yX9_isSaid ∈ wsG := inS 47 (by decide +kernel) (by decide +kernel)
theorem g_3aff3be76b : Cond.code yX9_isAsked cX9_isAsked 7 (some .boolean) ∈ wsG := inG 1114 (by decide +kernel) (by decide +kernel)
theorem g_1d13176040 : Cond.methodLink RX9 215 yX9_isAsked ∈ wsG := inG 1111 (by decide +kernel) (by decide +kernel)
theorem g_493861a93f : Cond.instanceMethod yX9_isAsked ∈ wsG := inG 1113 (by decide +kernel) (by decide +kernel)
theorem g_deb49322ed : Cond.selects RX9 yX9_isAsked yX9_isAsked ∈ wsG := inS 46 (by decide +kernel) (by decide +kernel)
theorem g_e4d7315b47 : Cond.code yX9_sayAt cX9_sayAt 6 none ∈ wsG := inG 1110 (by decide +kernel) (by decide +kernel)
theorem g_e09bd91415 : Cond.methodLink RX9 225 yX9_sayAt ∈ wsG := inG 1107 (by decide +kernel) (by decide +kernel)
theorem g_926eef7197 : Cond.instanceMethod yX9_sayAt ∈ wsG := inG 1109 (by decide +kernel) (by decide +kernel)
theorem g_8b636c7661 : Cond.selects RX9 yX9_sayAt yX9_sayAt ∈ wsG := inS 45 (by decide +kernel) (by decide +kernel)
theorem g_728a03ecf0 : Cond.code yX9_makeAt cX9_makeAt 8 none ∈ wsG := inG 1102 (by decide +kernel) (by decide +kernel)
theorem g_a35f16221d : Cond.methodLink RX9 222 yX9_makeAt ∈ wsG := inG 1099 (by decide +kernel) (by decide +kernel)
theorem g_e70fb79457 : Cond.instanceMethod yX9_makeAt ∈ wsG := inG 1101 (by decide +kernel) (by decide +kernel)
theorem g_93c70f41ad : Cond.selects RX9 yX9_makeAt yX9_makeAt ∈ wsG := inS 43 (by decide +kernel) (by decide +kernel)
theorem g_717afd008d : Cond.code yX9_workOut cX9_workOut 4 none ∈ wsG := inG 1094 (by decide +kernel) (by decide +kernel)
theorem g_3818fe93c5 : Cond.methodLink RX9 228 yX9_workOut ∈ wsG := inG 1091 (by decide +kernel) (by decide +kernel)
theorem g_7e06b14cc4 : Cond.instanceMethod yX9_workOut ∈ wsG := inG 1093 (by decide +kernel) (by decide +kernel)
theorem g_7b1f6500ce : Cond.selects RX9 yX9_workOut yX9_workOut ∈ wsG := inS 41 (by decide +kernel) (by decide +kernel)
theorem g_a782196757 : Cond.constantLong RX9 232 (3) ∈ wsG := inG 1127 (by decide +kernel) (by decide +kernel)
theorem g_888a95070a : Cond.code yX9_condition cX9_condition 6 (some .int) ∈ wsG := inG 1132 (by decide +kernel) (by decide +kernel)
theorem g_f21e627dce : Cond.methodLink RX9 236 yX9_condition ∈ wsG := inG 1129 (by decide +kernel) (by decide +kernel)
theorem g_a48f3ef0f3 : Cond.instanceMethod yX9_condition ∈ wsG := inG 1131 (by decide +kernel) (by decide +kernel)
theorem g_10cc8562b4 : Cond.selects RX9 yX9_condition yX9_condition ∈ wsG := inS 48 (by decide +kernel) (by decide +kernel)
theorem g_5a2dda5f16 : Cond.constantLong RX9 234 (7) ∈ wsG := inG 1128 (by decide +kernel) (by decide +kernel)
theorem g_f9a9b8d2f4 : Cond.constantLong RX9 240 (2) ∈ wsG := inG 1137 (by decide +kernel) (by decide +kernel)
theorem g_5eda813601 : Cond.fieldLink RX9 245 (cT 9 46).1 (cT 9 46).2.1 (cT 9 46).2.2.1 ∈ wsG := inG 875 (by decide +kernel) (by decide +kernel)
theorem g_b49cc09124 : Cond.fieldLink RX9 248 (cT 9 47).1 (cT 9 47).2.1 (cT 9 47).2.2.1 ∈ wsG := inG 876 (by decide +kernel) (by decide +kernel)
theorem g_cc779e6b53 : Cond.fieldLink RX9 251 (cT 9 48).1 (cT 9 48).2.1 (cT 9 48).2.2.1 ∈ wsG := inG 877 (by decide +kernel) (by decide +kernel)
theorem g_11b717e14e : Cond.code yX9_isAgainst cX9_isAgainst 4 (some .boolean) ∈ wsG := inG 1161 (by decide +kernel) (by decide +kernel)
theorem g_5e06c91fb5 : Cond.methodLink RX9 242 yX9_isAgainst ∈ wsG := inG 1158 (by decide +kernel) (by decide +kernel)
theorem g_956def7474 : Cond.instanceMethod yX9_isAgainst ∈ wsG := inG 1160 (by decide +kernel) (by decide +kernel)
theorem g_cfa9dfa059 : Cond.selects RX9 yX9_isAgainst yX9_isAgainst ∈ wsG := inS 50 (by decide +kernel) (by decide +kernel)
theorem g_c251d318e2 : Cond.code yX9_countAgainst cX9_countAgainst 7 (some .int) ∈ wsG := inG 1157 (by decide +kernel) (by decide +kernel)
theorem g_36e60011f1 : Cond.methodLink RX9 254 yX9_countAgainst ∈ wsG := inG 1154 (by decide +kernel) (by decide +kernel)
theorem g_7ad39c56f6 : Cond.instanceMethod yX9_countAgainst ∈ wsG := inG 1156 (by decide +kernel) (by decide +kernel)
theorem g_e7924292b7 : Cond.selects RX9 yX9_countAgainst yX9_countAgainst ∈ wsG := inS 49 (by decide +kernel) (by decide +kernel)
theorem g_4fe738e030 : Cond.code yX9_sought cX9_sought 2 (some .int) ∈ wsG := inG 1169 (by decide +kernel) (by decide +kernel)
theorem g_04759b94c6 : Cond.methodLink RX9 258 yX9_sought ∈ wsG := inG 1166 (by decide +kernel) (by decide +kernel)
theorem g_f7d7b42c7f : Cond.instanceMethod yX9_sought ∈ wsG := inG 1168 (by decide +kernel) (by decide +kernel)
theorem g_0184e0801f : Cond.selects RX9 yX9_sought yX9_sought ∈ wsG := inS 51 (by decide +kernel) (by decide +kernel)
theorem g_5e18afccfb : Cond.constantLong RX9 261 (1000) ∈ wsG := inG 1174 (by decide +kernel) (by decide +kernel)
theorem g_81a9dba732 : Cond.constantLong RX9 263 (10) ∈ wsG := inG 1175 (by decide +kernel) (by decide +kernel)
theorem g_5b90579a7e : Cond.fieldLink RX9 268 (cT 9 35).1 (cT 9 35).2.1 (cT 9 35).2.2.1 ∈ wsG := inG 864 (by decide +kernel) (by decide +kernel)
theorem g_034d67ea87 : Cond.fieldLink RX9 272 (cT 9 36).1 (cT 9 36).2.1 (cT 9 36).2.2.1 ∈ wsG := inG 865 (by decide +kernel) (by decide +kernel)
theorem g_95aff2781a : Cond.fieldLink RX9 275 (cT 9 37).1 (cT 9 37).2.1 (cT 9 37).2.2.1 ∈ wsG := inG 866 (by decide +kernel) (by decide +kernel)
theorem g_3c3db0642c : Cond.fieldLink RX9 278 (cT 9 38).1 (cT 9 38).2.1 (cT 9 38).2.2.1 ∈ wsG := inG 867 (by decide +kernel) (by decide +kernel)
theorem g_a55981838e : Cond.code yX9_line cX9_line 3 (some .int) ∈ wsG := inG 1187 (by decide +kernel) (by decide +kernel)
theorem g_535c3ab89a : Cond.methodLink RX9 281 yX9_line ∈ wsG := inG 1184 (by decide +kernel) (by decide +kernel)
theorem g_33a7d3946c : Cond.instanceMethod yX9_line ∈ wsG := inG 1186 (by decide +kernel) (by decide +kernel)
theorem g_77fdb76092 : Cond.selects RX9 yX9_line yX9_line ∈ wsG := inS 53 (by decide +kernel) (by decide +kernel)
theorem g_96ce86cbdd : Cond.code yX9_isCodeAtTop cX9_isCodeAtTop 2 (some .boolean) ∈ wsG := inG 1183 (by decide +kernel) (by decide +kernel)
theorem g_0ee5932c4e : Cond.methodLink RX9 265 yX9_isCodeAtTop ∈ wsG := inG 1180 (by decide +kernel) (by decide +kernel)
theorem g_5c528716f1 : Cond.instanceMethod yX9_isCodeAtTop ∈ wsG := inG 1182 (by decide +kernel) (by decide +kernel)
theorem g_a61e2f7077 : Cond.selects RX9 yX9_isCodeAtTop yX9_isCodeAtTop ∈ wsG := inS 52 (by decide +kernel) (by decide +kernel)
theorem g_6f39f4cc85 : Cond.constantLong RX9 287 (-1) ∈ wsG := inG 1196 (by decide +kernel) (by decide +kernel)
theorem g_66b404b67b : Cond.code yX9_isCell cX9_isCell 3 (some .boolean) ∈ wsG := inG 1195 (by decide +kernel) (by decide +kernel)
theorem g_6dca55cd91 : Cond.methodLink RX9 284 yX9_isCell ∈ wsG := inG 1192 (by decide +kernel) (by decide +kernel)
theorem g_39338bb04e : Cond.instanceMethod yX9_isCell ∈ wsG := inG 1194 (by decide +kernel) (by decide +kernel)
theorem g_b754c3a7e4 : Cond.selects RX9 yX9_isCell yX9_isCell ∈ wsG := inS 54 (by decide +kernel) (by decide +kernel)
theorem g_c81ca586f9 : Cond.constantLong RX9 289 (1000000) ∈ wsG := inG 1201 (by decide +kernel) (by decide +kernel)
theorem g_f2883c5838 : Cond.code yX9_hangTogether cX9_hangTogether 8 (some .boolean) ∈ wsG := inG 1221 (by decide +kernel) (by decide +kernel)
theorem g_883378f3d7 : Cond.methodLink RX9 291 yX9_hangTogether ∈ wsG := inG 1218 (by decide +kernel) (by decide +kernel)
theorem g_30a19c5040 : Cond.instanceMethod yX9_hangTogether ∈ wsG := inG 1220 (by decide +kernel) (by decide +kernel)
theorem g_9bcf0bdd22 : Cond.selects RX9 yX9_hangTogether yX9_hangTogether ∈ wsG := inS 57 (by decide +kernel) (by decide +kernel)
theorem g_aabe9aced9 : Cond.code yX9_isFollowing cX9_isFollowing 4 (some .boolean) ∈ wsG := inG 1217 (by decide +kernel) (by decide +kernel)
theorem g_70dd9a0874 : Cond.methodLink RX9 294 yX9_isFollowing ∈ wsG := inG 1214 (by decide +kernel) (by decide +kernel)
theorem g_565a9316a4 : Cond.instanceMethod yX9_isFollowing ∈ wsG := inG 1216 (by decide +kernel) (by decide +kernel)
theorem g_e1c86b8c52 : Cond.selects RX9 yX9_isFollowing yX9_isFollowing ∈ wsG := inS 56 (by decide +kernel) (by decide +kernel)
theorem g_3f0767623b : Cond.code yX9_firstFollowing cX9_firstFollowing 2 (some .int) ∈ wsG := inG 1213 (by decide +kernel) (by decide +kernel)
theorem g_5327a4d8f9 : Cond.methodLink RX9 297 yX9_firstFollowing ∈ wsG := inG 1210 (by decide +kernel) (by decide +kernel)
theorem g_cec28586a8 : Cond.instanceMethod yX9_firstFollowing ∈ wsG := inG 1212 (by decide +kernel) (by decide +kernel)
theorem g_894a33542b : Cond.selects RX9 yX9_firstFollowing yX9_firstFollowing ∈ wsG := inS 55 (by decide +kernel) (by decide +kernel)
theorem g_6307869bba : Cond.code yX9_leastOf cX9_leastOf 6 (some .int) ∈ wsG := inG 1225 (by decide +kernel) (by decide +kernel)
theorem g_8e22ab4cec : Cond.methodLink RX9 301 yX9_leastOf ∈ wsG := inG 1222 (by decide +kernel) (by decide +kernel)
theorem g_62d82767c9 : Cond.instanceMethod yX9_leastOf ∈ wsG := inG 1224 (by decide +kernel) (by decide +kernel)
theorem g_ecd80a130e : Cond.selects RX9 yX9_leastOf yX9_leastOf ∈ wsG := inS 58 (by decide +kernel) (by decide +kernel)
theorem g_150642667b : Cond.constantLong RX9 304 (9223372036854775807) ∈ wsG := inG 1234 (by decide +kernel) (by decide +kernel)
theorem g_b3b37602a2 : Cond.code yX9_areLike cX9_areLike 7 (some .boolean) ∈ wsG := inG 1258 (by decide +kernel) (by decide +kernel)
theorem g_e38dbce6f2 : Cond.methodLink RX9 306 yX9_areLike ∈ wsG := inG 1255 (by decide +kernel) (by decide +kernel)
theorem g_35dcb62ee8 : Cond.instanceMethod yX9_areLike ∈ wsG := inG 1257 (by decide +kernel) (by decide +kernel)
theorem g_40377aece0 : Cond.selects RX9 yX9_areLike yX9_areLike ∈ wsG := inS 61 (by decide +kernel) (by decide +kernel)
theorem g_7351feb6e4 : Cond.code yX9_areDouble cX9_areDouble 7 (some .boolean) ∈ wsG := inG 1254 (by decide +kernel) (by decide +kernel)
theorem g_30ef6cf20e : Cond.methodLink RX9 310 yX9_areDouble ∈ wsG := inG 1251 (by decide +kernel) (by decide +kernel)
theorem g_8b13c7edd8 : Cond.instanceMethod yX9_areDouble ∈ wsG := inG 1253 (by decide +kernel) (by decide +kernel)
theorem g_ca3aa3001a : Cond.selects RX9 yX9_areDouble yX9_areDouble ∈ wsG := inS 60 (by decide +kernel) (by decide +kernel)
theorem g_d7b6962cae : Cond.code yX9_countDoubles cX9_countDoubles 5 (some .int) ∈ wsG := inG 1250 (by decide +kernel) (by decide +kernel)
theorem g_a69e9cb8d1 : Cond.methodLink RX9 313 yX9_countDoubles ∈ wsG := inG 1247 (by decide +kernel) (by decide +kernel)
theorem g_3c8513a85e : Cond.instanceMethod yX9_countDoubles ∈ wsG := inG 1249 (by decide +kernel) (by decide +kernel)
theorem g_9b3e9fb0d8 : Cond.selects RX9 yX9_countDoubles yX9_countDoubles ∈ wsG := inS 59 (by decide +kernel) (by decide +kernel)
theorem g_3bdbf5cb09 : Cond.fieldLink RX9 316 (cT 9 30).1 (cT 9 30).2.1 (cT 9 30).2.2.1 ∈ wsG := inG 859 (by decide +kernel) (by decide +kernel)
theorem g_73f398285b : Cond.code yX9_personsThen cX9_personsThen 4 (some .int) ∈ wsG := inG 1282 (by decide +kernel) (by decide +kernel)
theorem g_7240af1532 : Cond.methodLink RX9 322 yX9_personsThen ∈ wsG := inG 1279 (by decide +kernel) (by decide +kernel)
theorem g_bbe3792e2d : Cond.instanceMethod yX9_personsThen ∈ wsG := inG 1281 (by decide +kernel) (by decide +kernel)
theorem g_9a0cc18cc9 : Cond.selects RX9 yX9_personsThen yX9_personsThen ∈ wsG := inS 64 (by decide +kernel) (by decide +kernel)
theorem g_3abcb6d5e1 : Cond.code yX9_isEdition cX9_isEdition 2 (some .boolean) ∈ wsG := inG 1278 (by decide +kernel) (by decide +kernel)
theorem g_dd0beb76bd : Cond.methodLink RX9 319 yX9_isEdition ∈ wsG := inG 1275 (by decide +kernel) (by decide +kernel)
theorem g_1109160d54 : Cond.instanceMethod yX9_isEdition ∈ wsG := inG 1277 (by decide +kernel) (by decide +kernel)
theorem g_f5f25b7a85 : Cond.selects RX9 yX9_isEdition yX9_isEdition ∈ wsG := inS 63 (by decide +kernel) (by decide +kernel)
theorem g_db4a19a0a3 : Cond.code yX9_isFrozen cX9_isFrozen 5 (some .boolean) ∈ wsG := inG 1274 (by decide +kernel) (by decide +kernel)
theorem g_a39b35af7a : Cond.methodLink RX9 325 yX9_isFrozen ∈ wsG := inG 1271 (by decide +kernel) (by decide +kernel)
theorem g_e156651744 : Cond.instanceMethod yX9_isFrozen ∈ wsG := inG 1273 (by decide +kernel) (by decide +kernel)
theorem g_3b262d185a : Cond.selects RX9 yX9_isFrozen yX9_isFrozen ∈ wsG := inS 62 (by decide +kernel) (by decide +kernel)
theorem g_ba368c083b : Cond.code yX9_isChanged cX9_isChanged 8 (some .boolean) ∈ wsG := inG 1298 (by decide +kernel) (by decide +kernel)
theorem g_e3435001ab : Cond.methodLink RX9 328 yX9_isChanged ∈ wsG := inG 1295 (by decide +kernel) (by decide +kernel)
theorem g_448621e89d : Cond.instanceMethod yX9_isChanged ∈ wsG := inG 1297 (by decide +kernel) (by decide +kernel)
theorem g_2f1b386174 : Cond.selects RX9 yX9_isChanged yX9_isChanged ∈ wsG := inS 66 (by decide +kernel) (by decide +kernel)
theorem g_5a547b72ef : Cond.code yX9_countChanges cX9_countChanges 13 (some .int) ∈ wsG := inG 1294 (by decide +kernel) (by decide +kernel)
theorem g_0509681654 : Cond.methodLink RX9 332 yX9_countChanges ∈ wsG := inG 1291 (by decide +kernel) (by decide +kernel)
theorem g_f171b33d96 : Cond.instanceMethod yX9_countChanges ∈ wsG := inG 1293 (by decide +kernel) (by decide +kernel)
theorem g_6f1c9cdc6d : Cond.selects RX9 yX9_countChanges yX9_countChanges ∈ wsG := inS 65 (by decide +kernel) (by decide +kernel)
theorem hd_X0_init : yX0_init.cls ≠ "java/lang/invoke/MethodHandle" ∧ yX0_init.cls ≠ "java/lang/invoke/VarHandle" ∧ (parseMethodDescriptor yX0_init.desc).map (fun d => d.parameters.length) = some 7 := by decide +kernel
theorem hd_X0_fits : yX0_fits.cls ≠ "java/lang/invoke/MethodHandle" ∧ yX0_fits.cls ≠ "java/lang/invoke/VarHandle" ∧ (parseMethodDescriptor yX0_fits.desc).map (fun d => d.parameters.length) = some 3 := by decide +kernel
theorem hd_X1_init : yX1_init.cls ≠ "java/lang/invoke/MethodHandle" ∧ yX1_init.cls ≠ "java/lang/invoke/VarHandle" ∧ (parseMethodDescriptor yX1_init.desc).map (fun d => d.parameters.length) = some 2 := by decide +kernel
theorem hd_X2_init : yX2_init.cls ≠ "java/lang/invoke/MethodHandle" ∧ yX2_init.cls ≠ "java/lang/invoke/VarHandle" ∧ (parseMethodDescriptor yX2_init.desc).map (fun d => d.parameters.length) = some 0 := by decide +kernel
theorem hd_X2_start : yX2_start.cls ≠ "java/lang/invoke/MethodHandle" ∧ yX2_start.cls ≠ "java/lang/invoke/VarHandle" ∧ (parseMethodDescriptor yX2_start.desc).map (fun d => d.parameters.length) = some 1 := by decide +kernel
theorem hd_X2_meet : yX2_meet.cls ≠ "java/lang/invoke/MethodHandle" ∧ yX2_meet.cls ≠ "java/lang/invoke/VarHandle" ∧ (parseMethodDescriptor yX2_meet.desc).map (fun d => d.parameters.length) = some 3 := by decide +kernel
theorem hd_X2_told : yX2_told.cls ≠ "java/lang/invoke/MethodHandle" ∧ yX2_told.cls ≠ "java/lang/invoke/VarHandle" ∧ (parseMethodDescriptor yX2_told.desc).map (fun d => d.parameters.length) = some 3 := by decide +kernel
theorem hd_X3_init : yX3_init.cls ≠ "java/lang/invoke/MethodHandle" ∧ yX3_init.cls ≠ "java/lang/invoke/VarHandle" ∧ (parseMethodDescriptor yX3_init.desc).map (fun d => d.parameters.length) = some 0 := by decide +kernel
theorem hd_X3_questionOf : yX3_questionOf.cls ≠ "java/lang/invoke/MethodHandle" ∧ yX3_questionOf.cls ≠ "java/lang/invoke/VarHandle" ∧ (parseMethodDescriptor yX3_questionOf.desc).map (fun d => d.parameters.length) = some 1 := by decide +kernel
theorem hd_X3_conditionOf : yX3_conditionOf.cls ≠ "java/lang/invoke/MethodHandle" ∧ yX3_conditionOf.cls ≠ "java/lang/invoke/VarHandle" ∧ (parseMethodDescriptor yX3_conditionOf.desc).map (fun d => d.parameters.length) = some 1 := by decide +kernel
theorem hd_X3_questionsAreFull : yX3_questionsAreFull.cls ≠ "java/lang/invoke/MethodHandle" ∧ yX3_questionsAreFull.cls ≠ "java/lang/invoke/VarHandle" ∧ (parseMethodDescriptor yX3_questionsAreFull.desc).map (fun d => d.parameters.length) = some 0 := by decide +kernel
theorem hd_X3_conditionsAreFull : yX3_conditionsAreFull.cls ≠ "java/lang/invoke/MethodHandle" ∧ yX3_conditionsAreFull.cls ≠ "java/lang/invoke/VarHandle" ∧ (parseMethodDescriptor yX3_conditionsAreFull.desc).map (fun d => d.parameters.length) = some 1 := by decide +kernel
theorem hd_X3_addStep : yX3_addStep.cls ≠ "java/lang/invoke/MethodHandle" ∧ yX3_addStep.cls ≠ "java/lang/invoke/VarHandle" ∧ (parseMethodDescriptor yX3_addStep.desc).map (fun d => d.parameters.length) = some 1 := by decide +kernel
theorem hd_X3_addQuestion : yX3_addQuestion.cls ≠ "java/lang/invoke/MethodHandle" ∧ yX3_addQuestion.cls ≠ "java/lang/invoke/VarHandle" ∧ (parseMethodDescriptor yX3_addQuestion.desc).map (fun d => d.parameters.length) = some 1 := by decide +kernel
theorem hd_X3_addCondition : yX3_addCondition.cls ≠ "java/lang/invoke/MethodHandle" ∧ yX3_addCondition.cls ≠ "java/lang/invoke/VarHandle" ∧ (parseMethodDescriptor yX3_addCondition.desc).map (fun d => d.parameters.length) = some 1 := by decide +kernel
theorem hd_X3_hasMarked : yX3_hasMarked.cls ≠ "java/lang/invoke/MethodHandle" ∧ yX3_hasMarked.cls ≠ "java/lang/invoke/VarHandle" ∧ (parseMethodDescriptor yX3_hasMarked.desc).map (fun d => d.parameters.length) = some 0 := by decide +kernel
theorem hd_X8_spot : yX8_spot.cls ≠ "java/lang/invoke/MethodHandle" ∧ yX8_spot.cls ≠ "java/lang/invoke/VarHandle" ∧ (parseMethodDescriptor yX8_spot.desc).map (fun d => d.parameters.length) = some 2 := by decide +kernel
theorem hd_X6_persons : yX6_persons.cls ≠ "java/lang/invoke/MethodHandle" ∧ yX6_persons.cls ≠ "java/lang/invoke/VarHandle" ∧ (parseMethodDescriptor yX6_persons.desc).map (fun d => d.parameters.length) = some 1 := by decide +kernel
theorem hd_X8_placesOf : yX8_placesOf.cls ≠ "java/lang/invoke/MethodHandle" ∧ yX8_placesOf.cls ≠ "java/lang/invoke/VarHandle" ∧ (parseMethodDescriptor yX8_placesOf.desc).map (fun d => d.parameters.length) = some 2 := by decide +kernel
theorem hd_X3_spread : yX3_spread.cls ≠ "java/lang/invoke/MethodHandle" ∧ yX3_spread.cls ≠ "java/lang/invoke/VarHandle" ∧ (parseMethodDescriptor yX3_spread.desc).map (fun d => d.parameters.length) = some 3 := by decide +kernel
theorem hd_J6_bitCount_0f7a4 : yJ6_bitCount_0f7a4.cls ≠ "java/lang/invoke/MethodHandle" ∧ yJ6_bitCount_0f7a4.cls ≠ "java/lang/invoke/VarHandle" ∧ (parseMethodDescriptor yJ6_bitCount_0f7a4.desc).map (fun d => d.parameters.length) = some 1 := by decide +kernel
theorem hd_X3_bitsOfAsk : yX3_bitsOfAsk.cls ≠ "java/lang/invoke/MethodHandle" ∧ yX3_bitsOfAsk.cls ≠ "java/lang/invoke/VarHandle" ∧ (parseMethodDescriptor yX3_bitsOfAsk.desc).map (fun d => d.parameters.length) = some 3 := by decide +kernel
theorem hd_X3_makeTruths : yX3_makeTruths.cls ≠ "java/lang/invoke/MethodHandle" ∧ yX3_makeTruths.cls ≠ "java/lang/invoke/VarHandle" ∧ (parseMethodDescriptor yX3_makeTruths.desc).map (fun d => d.parameters.length) = some 2 := by decide +kernel
theorem hd_X5_rowAround : yX5_rowAround.cls ≠ "java/lang/invoke/MethodHandle" ∧ yX5_rowAround.cls ≠ "java/lang/invoke/VarHandle" ∧ (parseMethodDescriptor yX5_rowAround.desc).map (fun d => d.parameters.length) = some 1 := by decide +kernel
theorem hd_X6_lack : yX6_lack.cls ≠ "java/lang/invoke/MethodHandle" ∧ yX6_lack.cls ≠ "java/lang/invoke/VarHandle" ∧ (parseMethodDescriptor yX6_lack.desc).map (fun d => d.parameters.length) = some 2 := by decide +kernel
theorem hd_X6_put : yX6_put.cls ≠ "java/lang/invoke/MethodHandle" ∧ yX6_put.cls ≠ "java/lang/invoke/VarHandle" ∧ (parseMethodDescriptor yX6_put.desc).map (fun d => d.parameters.length) = some 2 := by decide +kernel
theorem hd_X3_makeMapped : yX3_makeMapped.cls ≠ "java/lang/invoke/MethodHandle" ∧ yX3_makeMapped.cls ≠ "java/lang/invoke/VarHandle" ∧ (parseMethodDescriptor yX3_makeMapped.desc).map (fun d => d.parameters.length) = some 2 := by decide +kernel
theorem hd_X3_makeSum : yX3_makeSum.cls ≠ "java/lang/invoke/MethodHandle" ∧ yX3_makeSum.cls ≠ "java/lang/invoke/VarHandle" ∧ (parseMethodDescriptor yX3_makeSum.desc).map (fun d => d.parameters.length) = some 2 := by decide +kernel
theorem hd_X3_makeHowMany : yX3_makeHowMany.cls ≠ "java/lang/invoke/MethodHandle" ∧ yX3_makeHowMany.cls ≠ "java/lang/invoke/VarHandle" ∧ (parseMethodDescriptor yX3_makeHowMany.desc).map (fun d => d.parameters.length) = some 2 := by decide +kernel
theorem hd_X3_settle : yX3_settle.cls ≠ "java/lang/invoke/MethodHandle" ∧ yX3_settle.cls ≠ "java/lang/invoke/VarHandle" ∧ (parseMethodDescriptor yX3_settle.desc).map (fun d => d.parameters.length) = some 1 := by decide +kernel
theorem hd_J7_fill_53178 : yJ7_fill_53178.cls ≠ "java/lang/invoke/MethodHandle" ∧ yJ7_fill_53178.cls ≠ "java/lang/invoke/VarHandle" ∧ (parseMethodDescriptor yJ7_fill_53178.desc).map (fun d => d.parameters.length) = some 2 := by decide +kernel
theorem hd_X6_init : yX6_init.cls ≠ "java/lang/invoke/MethodHandle" ∧ yX6_init.cls ≠ "java/lang/invoke/VarHandle" ∧ (parseMethodDescriptor yX6_init.desc).map (fun d => d.parameters.length) = some 0 := by decide +kernel
theorem hd_X4_init : yX4_init.cls ≠ "java/lang/invoke/MethodHandle" ∧ yX4_init.cls ≠ "java/lang/invoke/VarHandle" ∧ (parseMethodDescriptor yX4_init.desc).map (fun d => d.parameters.length) = some 0 := by decide +kernel
theorem hd_X4_unsettle : yX4_unsettle.cls ≠ "java/lang/invoke/MethodHandle" ∧ yX4_unsettle.cls ≠ "java/lang/invoke/VarHandle" ∧ (parseMethodDescriptor yX4_unsettle.desc).map (fun d => d.parameters.length) = some 1 := by decide +kernel
theorem hd_X4_isSo : yX4_isSo.cls ≠ "java/lang/invoke/MethodHandle" ∧ yX4_isSo.cls ≠ "java/lang/invoke/VarHandle" ∧ (parseMethodDescriptor yX4_isSo.desc).map (fun d => d.parameters.length) = some 3 := by decide +kernel
theorem hd_X5_init : yX5_init.cls ≠ "java/lang/invoke/MethodHandle" ∧ yX5_init.cls ≠ "java/lang/invoke/VarHandle" ∧ (parseMethodDescriptor yX5_init.desc).map (fun d => d.parameters.length) = some 4 := by decide +kernel
theorem hd_X5_codeIndex : yX5_codeIndex.cls ≠ "java/lang/invoke/MethodHandle" ∧ yX5_codeIndex.cls ≠ "java/lang/invoke/VarHandle" ∧ (parseMethodDescriptor yX5_codeIndex.desc).map (fun d => d.parameters.length) = some 1 := by decide +kernel
theorem hd_X5_addCode : yX5_addCode.cls ≠ "java/lang/invoke/MethodHandle" ∧ yX5_addCode.cls ≠ "java/lang/invoke/VarHandle" ∧ (parseMethodDescriptor yX5_addCode.desc).map (fun d => d.parameters.length) = some 1 := by decide +kernel
theorem hd_X5_addRow : yX5_addRow.cls ≠ "java/lang/invoke/MethodHandle" ∧ yX5_addRow.cls ≠ "java/lang/invoke/VarHandle" ∧ (parseMethodDescriptor yX5_addRow.desc).map (fun d => d.parameters.length) = some 3 := by decide +kernel
theorem hd_X5_takes : yX5_takes.cls ≠ "java/lang/invoke/MethodHandle" ∧ yX5_takes.cls ≠ "java/lang/invoke/VarHandle" ∧ (parseMethodDescriptor yX5_takes.desc).map (fun d => d.parameters.length) = some 1 := by decide +kernel
theorem hd_X5_makesLines : yX5_makesLines.cls ≠ "java/lang/invoke/MethodHandle" ∧ yX5_makesLines.cls ≠ "java/lang/invoke/VarHandle" ∧ (parseMethodDescriptor yX5_makesLines.desc).map (fun d => d.parameters.length) = some 0 := by decide +kernel
theorem hd_X5_lineOf : yX5_lineOf.cls ≠ "java/lang/invoke/MethodHandle" ∧ yX5_lineOf.cls ≠ "java/lang/invoke/VarHandle" ∧ (parseMethodDescriptor yX5_lineOf.desc).map (fun d => d.parameters.length) = some 2 := by decide +kernel
theorem hd_X6_init_ : yX6_init_.cls ≠ "java/lang/invoke/MethodHandle" ∧ yX6_init_.cls ≠ "java/lang/invoke/VarHandle" ∧ (parseMethodDescriptor yX6_init_.desc).map (fun d => d.parameters.length) = some 2 := by decide +kernel
theorem hd_X6_isLike : yX6_isLike.cls ≠ "java/lang/invoke/MethodHandle" ∧ yX6_isLike.cls ≠ "java/lang/invoke/VarHandle" ∧ (parseMethodDescriptor yX6_isLike.desc).map (fun d => d.parameters.length) = some 2 := by decide +kernel
theorem hd_X6_takeFrom : yX6_takeFrom.cls ≠ "java/lang/invoke/MethodHandle" ∧ yX6_takeFrom.cls ≠ "java/lang/invoke/VarHandle" ∧ (parseMethodDescriptor yX6_takeFrom.desc).map (fun d => d.parameters.length) = some 2 := by decide +kernel
theorem hd_X7_init : yX7_init.cls ≠ "java/lang/invoke/MethodHandle" ∧ yX7_init.cls ≠ "java/lang/invoke/VarHandle" ∧ (parseMethodDescriptor yX7_init.desc).map (fun d => d.parameters.length) = some 0 := by decide +kernel
theorem hd_J7_fill_d0a16 : yJ7_fill_d0a16.cls ≠ "java/lang/invoke/MethodHandle" ∧ yJ7_fill_d0a16.cls ≠ "java/lang/invoke/VarHandle" ∧ (parseMethodDescriptor yJ7_fill_d0a16.desc).map (fun d => d.parameters.length) = some 2 := by decide +kernel
theorem hd_X7_holdNone : yX7_holdNone.cls ≠ "java/lang/invoke/MethodHandle" ∧ yX7_holdNone.cls ≠ "java/lang/invoke/VarHandle" ∧ (parseMethodDescriptor yX7_holdNone.desc).map (fun d => d.parameters.length) = some 0 := by decide +kernel
theorem hd_X7_start : yX7_start.cls ≠ "java/lang/invoke/MethodHandle" ∧ yX7_start.cls ≠ "java/lang/invoke/VarHandle" ∧ (parseMethodDescriptor yX7_start.desc).map (fun d => d.parameters.length) = some 3 := by decide +kernel
theorem hd_X7_isNone : yX7_isNone.cls ≠ "java/lang/invoke/MethodHandle" ∧ yX7_isNone.cls ≠ "java/lang/invoke/VarHandle" ∧ (parseMethodDescriptor yX7_isNone.desc).map (fun d => d.parameters.length) = some 0 := by decide +kernel
theorem hd_X7_cells : yX7_cells.cls ≠ "java/lang/invoke/MethodHandle" ∧ yX7_cells.cls ≠ "java/lang/invoke/VarHandle" ∧ (parseMethodDescriptor yX7_cells.desc).map (fun d => d.parameters.length) = some 0 := by decide +kernel
theorem hd_X7_hasCell : yX7_hasCell.cls ≠ "java/lang/invoke/MethodHandle" ∧ yX7_hasCell.cls ≠ "java/lang/invoke/VarHandle" ∧ (parseMethodDescriptor yX7_hasCell.desc).map (fun d => d.parameters.length) = some 2 := by decide +kernel
theorem hd_X7_at : yX7_at.cls ≠ "java/lang/invoke/MethodHandle" ∧ yX7_at.cls ≠ "java/lang/invoke/VarHandle" ∧ (parseMethodDescriptor yX7_at.desc).map (fun d => d.parameters.length) = some 2 := by decide +kernel
theorem hd_X7_add : yX7_add.cls ≠ "java/lang/invoke/MethodHandle" ∧ yX7_add.cls ≠ "java/lang/invoke/VarHandle" ∧ (parseMethodDescriptor yX7_add.desc).map (fun d => d.parameters.length) = some 3 := by decide +kernel
theorem hd_X7_giveOneMore : yX7_giveOneMore.cls ≠ "java/lang/invoke/MethodHandle" ∧ yX7_giveOneMore.cls ≠ "java/lang/invoke/VarHandle" ∧ (parseMethodDescriptor yX7_giveOneMore.desc).map (fun d => d.parameters.length) = some 0 := by decide +kernel
theorem hd_X7_reckonShares : yX7_reckonShares.cls ≠ "java/lang/invoke/MethodHandle" ∧ yX7_reckonShares.cls ≠ "java/lang/invoke/VarHandle" ∧ (parseMethodDescriptor yX7_reckonShares.desc).map (fun d => d.parameters.length) = some 1 := by decide +kernel
theorem hd_X7_isHeld : yX7_isHeld.cls ≠ "java/lang/invoke/MethodHandle" ∧ yX7_isHeld.cls ≠ "java/lang/invoke/VarHandle" ∧ (parseMethodDescriptor yX7_isHeld.desc).map (fun d => d.parameters.length) = some 2 := by decide +kernel
theorem hd_X7_hold : yX7_hold.cls ≠ "java/lang/invoke/MethodHandle" ∧ yX7_hold.cls ≠ "java/lang/invoke/VarHandle" ∧ (parseMethodDescriptor yX7_hold.desc).map (fun d => d.parameters.length) = some 2 := by decide +kernel
theorem hd_X7_holdBelow : yX7_holdBelow.cls ≠ "java/lang/invoke/MethodHandle" ∧ yX7_holdBelow.cls ≠ "java/lang/invoke/VarHandle" ∧ (parseMethodDescriptor yX7_holdBelow.desc).map (fun d => d.parameters.length) = some 1 := by decide +kernel
theorem hd_X7_isFree : yX7_isFree.cls ≠ "java/lang/invoke/MethodHandle" ∧ yX7_isFree.cls ≠ "java/lang/invoke/VarHandle" ∧ (parseMethodDescriptor yX7_isFree.desc).map (fun d => d.parameters.length) = some 2 := by decide +kernel
theorem hd_X7_firstFollowing : yX7_firstFollowing.cls ≠ "java/lang/invoke/MethodHandle" ∧ yX7_firstFollowing.cls ≠ "java/lang/invoke/VarHandle" ∧ (parseMethodDescriptor yX7_firstFollowing.desc).map (fun d => d.parameters.length) = some 0 := by decide +kernel
theorem hd_X7_leastOpen : yX7_leastOpen.cls ≠ "java/lang/invoke/MethodHandle" ∧ yX7_leastOpen.cls ≠ "java/lang/invoke/VarHandle" ∧ (parseMethodDescriptor yX7_leastOpen.desc).map (fun d => d.parameters.length) = some 4 := by decide +kernel
theorem hd_X7_coverFor : yX7_coverFor.cls ≠ "java/lang/invoke/MethodHandle" ∧ yX7_coverFor.cls ≠ "java/lang/invoke/VarHandle" ∧ (parseMethodDescriptor yX7_coverFor.desc).map (fun d => d.parameters.length) = some 2 := by decide +kernel
theorem hd_X7_holdUntilNoneFollows : yX7_holdUntilNoneFollows.cls ≠ "java/lang/invoke/MethodHandle" ∧ yX7_holdUntilNoneFollows.cls ≠ "java/lang/invoke/VarHandle" ∧ (parseMethodDescriptor yX7_holdUntilNoneFollows.desc).map (fun d => d.parameters.length) = some 0 := by decide +kernel
theorem hd_X8_init : yX8_init.cls ≠ "java/lang/invoke/MethodHandle" ∧ yX8_init.cls ≠ "java/lang/invoke/VarHandle" ∧ (parseMethodDescriptor yX8_init.desc).map (fun d => d.parameters.length) = some 0 := by decide +kernel
theorem hd_X8_emptyEverywhere : yX8_emptyEverywhere.cls ≠ "java/lang/invoke/MethodHandle" ∧ yX8_emptyEverywhere.cls ≠ "java/lang/invoke/VarHandle" ∧ (parseMethodDescriptor yX8_emptyEverywhere.desc).map (fun d => d.parameters.length) = some 1 := by decide +kernel
theorem hd_X8_question : yX8_question.cls ≠ "java/lang/invoke/MethodHandle" ∧ yX8_question.cls ≠ "java/lang/invoke/VarHandle" ∧ (parseMethodDescriptor yX8_question.desc).map (fun d => d.parameters.length) = some 2 := by decide +kernel
theorem hd_X8_isCode : yX8_isCode.cls ≠ "java/lang/invoke/MethodHandle" ∧ yX8_isCode.cls ≠ "java/lang/invoke/VarHandle" ∧ (parseMethodDescriptor yX8_isCode.desc).map (fun d => d.parameters.length) = some 1 := by decide +kernel
theorem hd_X8_code : yX8_code.cls ≠ "java/lang/invoke/MethodHandle" ∧ yX8_code.cls ≠ "java/lang/invoke/VarHandle" ∧ (parseMethodDescriptor yX8_code.desc).map (fun d => d.parameters.length) = some 2 := by decide +kernel
theorem hd_X8_map : yX8_map.cls ≠ "java/lang/invoke/MethodHandle" ∧ yX8_map.cls ≠ "java/lang/invoke/VarHandle" ∧ (parseMethodDescriptor yX8_map.desc).map (fun d => d.parameters.length) = some 1 := by decide +kernel
theorem hd_X8_row : yX8_row.cls ≠ "java/lang/invoke/MethodHandle" ∧ yX8_row.cls ≠ "java/lang/invoke/VarHandle" ∧ (parseMethodDescriptor yX8_row.desc).map (fun d => d.parameters.length) = some 4 := by decide +kernel
theorem hd_X8_howMany : yX8_howMany.cls ≠ "java/lang/invoke/MethodHandle" ∧ yX8_howMany.cls ≠ "java/lang/invoke/VarHandle" ∧ (parseMethodDescriptor yX8_howMany.desc).map (fun d => d.parameters.length) = some 2 := by decide +kernel
theorem hd_X8_sum : yX8_sum.cls ≠ "java/lang/invoke/MethodHandle" ∧ yX8_sum.cls ≠ "java/lang/invoke/VarHandle" ∧ (parseMethodDescriptor yX8_sum.desc).map (fun d => d.parameters.length) = some 1 := by decide +kernel
theorem hd_X8_of : yX8_of.cls ≠ "java/lang/invoke/MethodHandle" ∧ yX8_of.cls ≠ "java/lang/invoke/VarHandle" ∧ (parseMethodDescriptor yX8_of.desc).map (fun d => d.parameters.length) = some 2 := by decide +kernel
theorem hd_X8_codeAt : yX8_codeAt.cls ≠ "java/lang/invoke/MethodHandle" ∧ yX8_codeAt.cls ≠ "java/lang/invoke/VarHandle" ∧ (parseMethodDescriptor yX8_codeAt.desc).map (fun d => d.parameters.length) = some 2 := by decide +kernel
theorem hd_X8_household : yX8_household.cls ≠ "java/lang/invoke/MethodHandle" ∧ yX8_household.cls ≠ "java/lang/invoke/VarHandle" ∧ (parseMethodDescriptor yX8_household.desc).map (fun d => d.parameters.length) = some 0 := by decide +kernel
theorem hd_X8_homeOf : yX8_homeOf.cls ≠ "java/lang/invoke/MethodHandle" ∧ yX8_homeOf.cls ≠ "java/lang/invoke/VarHandle" ∧ (parseMethodDescriptor yX8_homeOf.desc).map (fun d => d.parameters.length) = some 1 := by decide +kernel
theorem hd_X8_isPlace : yX8_isPlace.cls ≠ "java/lang/invoke/MethodHandle" ∧ yX8_isPlace.cls ≠ "java/lang/invoke/VarHandle" ∧ (parseMethodDescriptor yX8_isPlace.desc).map (fun d => d.parameters.length) = some 3 := by decide +kernel
theorem hd_X8_dropPersons : yX8_dropPersons.cls ≠ "java/lang/invoke/MethodHandle" ∧ yX8_dropPersons.cls ≠ "java/lang/invoke/VarHandle" ∧ (parseMethodDescriptor yX8_dropPersons.desc).map (fun d => d.parameters.length) = some 3 := by decide +kernel
theorem hd_X8_answer : yX8_answer.cls ≠ "java/lang/invoke/MethodHandle" ∧ yX8_answer.cls ≠ "java/lang/invoke/VarHandle" ∧ (parseMethodDescriptor yX8_answer.desc).map (fun d => d.parameters.length) = some 4 := by decide +kernel
theorem hd_X8_missing : yX8_missing.cls ≠ "java/lang/invoke/MethodHandle" ∧ yX8_missing.cls ≠ "java/lang/invoke/VarHandle" ∧ (parseMethodDescriptor yX8_missing.desc).map (fun d => d.parameters.length) = some 4 := by decide +kernel
theorem hd_X8_settledSheet : yX8_settledSheet.cls ≠ "java/lang/invoke/MethodHandle" ∧ yX8_settledSheet.cls ≠ "java/lang/invoke/VarHandle" ∧ (parseMethodDescriptor yX8_settledSheet.desc).map (fun d => d.parameters.length) = some 3 := by decide +kernel
theorem hd_X8_value : yX8_value.cls ≠ "java/lang/invoke/MethodHandle" ∧ yX8_value.cls ≠ "java/lang/invoke/VarHandle" ∧ (parseMethodDescriptor yX8_value.desc).map (fun d => d.parameters.length) = some 3 := by decide +kernel
theorem hd_X8_reason : yX8_reason.cls ≠ "java/lang/invoke/MethodHandle" ∧ yX8_reason.cls ≠ "java/lang/invoke/VarHandle" ∧ (parseMethodDescriptor yX8_reason.desc).map (fun d => d.parameters.length) = some 3 := by decide +kernel
theorem hd_X8_personOf : yX8_personOf.cls ≠ "java/lang/invoke/MethodHandle" ∧ yX8_personOf.cls ≠ "java/lang/invoke/VarHandle" ∧ (parseMethodDescriptor yX8_personOf.desc).map (fun d => d.parameters.length) = some 2 := by decide +kernel
theorem hd_X8_ask : yX8_ask.cls ≠ "java/lang/invoke/MethodHandle" ∧ yX8_ask.cls ≠ "java/lang/invoke/VarHandle" ∧ (parseMethodDescriptor yX8_ask.desc).map (fun d => d.parameters.length) = some 3 := by decide +kernel
theorem hd_X8_logic : yX8_logic.cls ≠ "java/lang/invoke/MethodHandle" ∧ yX8_logic.cls ≠ "java/lang/invoke/VarHandle" ∧ (parseMethodDescriptor yX8_logic.desc).map (fun d => d.parameters.length) = some 3 := by decide +kernel
theorem hd_X8_some : yX8_some.cls ≠ "java/lang/invoke/MethodHandle" ∧ yX8_some.cls ≠ "java/lang/invoke/VarHandle" ∧ (parseMethodDescriptor yX8_some.desc).map (fun d => d.parameters.length) = some 2 := by decide +kernel
theorem hd_X8_holds : yX8_holds.cls ≠ "java/lang/invoke/MethodHandle" ∧ yX8_holds.cls ≠ "java/lang/invoke/VarHandle" ∧ (parseMethodDescriptor yX8_holds.desc).map (fun d => d.parameters.length) = some 3 := by decide +kernel
theorem hd_X8_filter : yX8_filter.cls ≠ "java/lang/invoke/MethodHandle" ∧ yX8_filter.cls ≠ "java/lang/invoke/VarHandle" ∧ (parseMethodDescriptor yX8_filter.desc).map (fun d => d.parameters.length) = some 2 := by decide +kernel
theorem hd_X8_isGiven : yX8_isGiven.cls ≠ "java/lang/invoke/MethodHandle" ∧ yX8_isGiven.cls ≠ "java/lang/invoke/VarHandle" ∧ (parseMethodDescriptor yX8_isGiven.desc).map (fun d => d.parameters.length) = some 3 := by decide +kernel
theorem hd_X8_meetAgainst : yX8_meetAgainst.cls ≠ "java/lang/invoke/MethodHandle" ∧ yX8_meetAgainst.cls ≠ "java/lang/invoke/VarHandle" ∧ (parseMethodDescriptor yX8_meetAgainst.desc).map (fun d => d.parameters.length) = some 2 := by decide +kernel
theorem hd_X8_findAgainst : yX8_findAgainst.cls ≠ "java/lang/invoke/MethodHandle" ∧ yX8_findAgainst.cls ≠ "java/lang/invoke/VarHandle" ∧ (parseMethodDescriptor yX8_findAgainst.desc).map (fun d => d.parameters.length) = some 1 := by decide +kernel
theorem hd_X8_against : yX8_against.cls ≠ "java/lang/invoke/MethodHandle" ∧ yX8_against.cls ≠ "java/lang/invoke/VarHandle" ∧ (parseMethodDescriptor yX8_against.desc).map (fun d => d.parameters.length) = some 0 := by decide +kernel
theorem hd_X8_againstAt : yX8_againstAt.cls ≠ "java/lang/invoke/MethodHandle" ∧ yX8_againstAt.cls ≠ "java/lang/invoke/VarHandle" ∧ (parseMethodDescriptor yX8_againstAt.desc).map (fun d => d.parameters.length) = some 2 := by decide +kernel
theorem hd_X8_weight : yX8_weight.cls ≠ "java/lang/invoke/MethodHandle" ∧ yX8_weight.cls ≠ "java/lang/invoke/VarHandle" ∧ (parseMethodDescriptor yX8_weight.desc).map (fun d => d.parameters.length) = some 3 := by decide +kernel
theorem hd_X8_table : yX8_table.cls ≠ "java/lang/invoke/MethodHandle" ∧ yX8_table.cls ≠ "java/lang/invoke/VarHandle" ∧ (parseMethodDescriptor yX8_table.desc).map (fun d => d.parameters.length) = some 2 := by decide +kernel
theorem hd_X8_cell : yX8_cell.cls ≠ "java/lang/invoke/MethodHandle" ∧ yX8_cell.cls ≠ "java/lang/invoke/VarHandle" ∧ (parseMethodDescriptor yX8_cell.desc).map (fun d => d.parameters.length) = some 3 := by decide +kernel
theorem hd_X8_shares : yX8_shares.cls ≠ "java/lang/invoke/MethodHandle" ∧ yX8_shares.cls ≠ "java/lang/invoke/VarHandle" ∧ (parseMethodDescriptor yX8_shares.desc).map (fun d => d.parameters.length) = some 1 := by decide +kernel
theorem hd_X8_share : yX8_share.cls ≠ "java/lang/invoke/MethodHandle" ∧ yX8_share.cls ≠ "java/lang/invoke/VarHandle" ∧ (parseMethodDescriptor yX8_share.desc).map (fun d => d.parameters.length) = some 2 := by decide +kernel
theorem hd_X8_shown : yX8_shown.cls ≠ "java/lang/invoke/MethodHandle" ∧ yX8_shown.cls ≠ "java/lang/invoke/VarHandle" ∧ (parseMethodDescriptor yX8_shown.desc).map (fun d => d.parameters.length) = some 1 := by decide +kernel
theorem hd_X8_follows : yX8_follows.cls ≠ "java/lang/invoke/MethodHandle" ∧ yX8_follows.cls ≠ "java/lang/invoke/VarHandle" ∧ (parseMethodDescriptor yX8_follows.desc).map (fun d => d.parameters.length) = some 0 := by decide +kernel
theorem hd_X8_heightOf : yX8_heightOf.cls ≠ "java/lang/invoke/MethodHandle" ∧ yX8_heightOf.cls ≠ "java/lang/invoke/VarHandle" ∧ (parseMethodDescriptor yX8_heightOf.desc).map (fun d => d.parameters.length) = some 2 := by decide +kernel
theorem hd_X8_insertRising : yX8_insertRising.cls ≠ "java/lang/invoke/MethodHandle" ∧ yX8_insertRising.cls ≠ "java/lang/invoke/VarHandle" ∧ (parseMethodDescriptor yX8_insertRising.desc).map (fun d => d.parameters.length) = some 3 := by decide +kernel
theorem hd_X8_sortRising : yX8_sortRising.cls ≠ "java/lang/invoke/MethodHandle" ∧ yX8_sortRising.cls ≠ "java/lang/invoke/VarHandle" ∧ (parseMethodDescriptor yX8_sortRising.desc).map (fun d => d.parameters.length) = some 2 := by decide +kernel
theorem hd_X8_missingAt : yX8_missingAt.cls ≠ "java/lang/invoke/MethodHandle" ∧ yX8_missingAt.cls ≠ "java/lang/invoke/VarHandle" ∧ (parseMethodDescriptor yX8_missingAt.desc).map (fun d => d.parameters.length) = some 2 := by decide +kernel
theorem hd_X8_rank : yX8_rank.cls ≠ "java/lang/invoke/MethodHandle" ∧ yX8_rank.cls ≠ "java/lang/invoke/VarHandle" ∧ (parseMethodDescriptor yX8_rank.desc).map (fun d => d.parameters.length) = some 2 := by decide +kernel
theorem hd_X8_part : yX8_part.cls ≠ "java/lang/invoke/MethodHandle" ∧ yX8_part.cls ≠ "java/lang/invoke/VarHandle" ∧ (parseMethodDescriptor yX8_part.desc).map (fun d => d.parameters.length) = some 4 := by decide +kernel
theorem hd_X8_mark : yX8_mark.cls ≠ "java/lang/invoke/MethodHandle" ∧ yX8_mark.cls ≠ "java/lang/invoke/VarHandle" ∧ (parseMethodDescriptor yX8_mark.desc).map (fun d => d.parameters.length) = some 2 := by decide +kernel
theorem hd_X8_areLikeIn : yX8_areLikeIn.cls ≠ "java/lang/invoke/MethodHandle" ∧ yX8_areLikeIn.cls ≠ "java/lang/invoke/VarHandle" ∧ (parseMethodDescriptor yX8_areLikeIn.desc).map (fun d => d.parameters.length) = some 3 := by decide +kernel
theorem hd_X8_areDoubles : yX8_areDoubles.cls ≠ "java/lang/invoke/MethodHandle" ∧ yX8_areDoubles.cls ≠ "java/lang/invoke/VarHandle" ∧ (parseMethodDescriptor yX8_areDoubles.desc).map (fun d => d.parameters.length) = some 2 := by decide +kernel
theorem hd_X8_findDoubles : yX8_findDoubles.cls ≠ "java/lang/invoke/MethodHandle" ∧ yX8_findDoubles.cls ≠ "java/lang/invoke/VarHandle" ∧ (parseMethodDescriptor yX8_findDoubles.desc).map (fun d => d.parameters.length) = some 1 := by decide +kernel
theorem hd_X8_doubles : yX8_doubles.cls ≠ "java/lang/invoke/MethodHandle" ∧ yX8_doubles.cls ≠ "java/lang/invoke/VarHandle" ∧ (parseMethodDescriptor yX8_doubles.desc).map (fun d => d.parameters.length) = some 0 := by decide +kernel
theorem hd_X8_doubleAt : yX8_doubleAt.cls ≠ "java/lang/invoke/MethodHandle" ∧ yX8_doubleAt.cls ≠ "java/lang/invoke/VarHandle" ∧ (parseMethodDescriptor yX8_doubleAt.desc).map (fun d => d.parameters.length) = some 2 := by decide +kernel
theorem hd_X8_freeze : yX8_freeze.cls ≠ "java/lang/invoke/MethodHandle" ∧ yX8_freeze.cls ≠ "java/lang/invoke/VarHandle" ∧ (parseMethodDescriptor yX8_freeze.desc).map (fun d => d.parameters.length) = some 0 := by decide +kernel
theorem hd_X8_editionOf : yX8_editionOf.cls ≠ "java/lang/invoke/MethodHandle" ∧ yX8_editionOf.cls ≠ "java/lang/invoke/VarHandle" ∧ (parseMethodDescriptor yX8_editionOf.desc).map (fun d => d.parameters.length) = some 1 := by decide +kernel
theorem hd_X8_frozenSheet : yX8_frozenSheet.cls ≠ "java/lang/invoke/MethodHandle" ∧ yX8_frozenSheet.cls ≠ "java/lang/invoke/VarHandle" ∧ (parseMethodDescriptor yX8_frozenSheet.desc).map (fun d => d.parameters.length) = some 4 := by decide +kernel
theorem hd_X8_frozen : yX8_frozen.cls ≠ "java/lang/invoke/MethodHandle" ∧ yX8_frozen.cls ≠ "java/lang/invoke/VarHandle" ∧ (parseMethodDescriptor yX8_frozen.desc).map (fun d => d.parameters.length) = some 4 := by decide +kernel
theorem hd_X8_frozenReason : yX8_frozenReason.cls ≠ "java/lang/invoke/MethodHandle" ∧ yX8_frozenReason.cls ≠ "java/lang/invoke/VarHandle" ∧ (parseMethodDescriptor yX8_frozenReason.desc).map (fun d => d.parameters.length) = some 4 := by decide +kernel
theorem hd_X8_meetChanges : yX8_meetChanges.cls ≠ "java/lang/invoke/MethodHandle" ∧ yX8_meetChanges.cls ≠ "java/lang/invoke/VarHandle" ∧ (parseMethodDescriptor yX8_meetChanges.desc).map (fun d => d.parameters.length) = some 4 := by decide +kernel
theorem hd_X8_findChanges : yX8_findChanges.cls ≠ "java/lang/invoke/MethodHandle" ∧ yX8_findChanges.cls ≠ "java/lang/invoke/VarHandle" ∧ (parseMethodDescriptor yX8_findChanges.desc).map (fun d => d.parameters.length) = some 3 := by decide +kernel
theorem hd_X8_changes : yX8_changes.cls ≠ "java/lang/invoke/MethodHandle" ∧ yX8_changes.cls ≠ "java/lang/invoke/VarHandle" ∧ (parseMethodDescriptor yX8_changes.desc).map (fun d => d.parameters.length) = some 2 := by decide +kernel
theorem hd_X8_changeAt : yX8_changeAt.cls ≠ "java/lang/invoke/MethodHandle" ∧ yX8_changeAt.cls ≠ "java/lang/invoke/VarHandle" ∧ (parseMethodDescriptor yX8_changeAt.desc).map (fun d => d.parameters.length) = some 4 := by decide +kernel
theorem hd_X8_bringBack : yX8_bringBack.cls ≠ "java/lang/invoke/MethodHandle" ∧ yX8_bringBack.cls ≠ "java/lang/invoke/VarHandle" ∧ (parseMethodDescriptor yX8_bringBack.desc).map (fun d => d.parameters.length) = some 2 := by decide +kernel
theorem hd_X8_merge : yX8_merge.cls ≠ "java/lang/invoke/MethodHandle" ∧ yX8_merge.cls ≠ "java/lang/invoke/VarHandle" ∧ (parseMethodDescriptor yX8_merge.desc).map (fun d => d.parameters.length) = some 1 := by decide +kernel
theorem hd_X8_count : yX8_count.cls ≠ "java/lang/invoke/MethodHandle" ∧ yX8_count.cls ≠ "java/lang/invoke/VarHandle" ∧ (parseMethodDescriptor yX8_count.desc).map (fun d => d.parameters.length) = some 1 := by decide +kernel
theorem hd_X9_init : yX9_init.cls ≠ "java/lang/invoke/MethodHandle" ∧ yX9_init.cls ≠ "java/lang/invoke/VarHandle" ∧ (parseMethodDescriptor yX9_init.desc).map (fun d => d.parameters.length) = some 0 := by decide +kernel
theorem hd_X9_in : yX9_in.cls ≠ "java/lang/invoke/MethodHandle" ∧ yX9_in.cls ≠ "java/lang/invoke/VarHandle" ∧ (parseMethodDescriptor yX9_in.desc).map (fun d => d.parameters.length) = some 3 := by decide +kernel
theorem hd_X9_isQuestion : yX9_isQuestion.cls ≠ "java/lang/invoke/MethodHandle" ∧ yX9_isQuestion.cls ≠ "java/lang/invoke/VarHandle" ∧ (parseMethodDescriptor yX9_isQuestion.desc).map (fun d => d.parameters.length) = some 1 := by decide +kernel
theorem hd_X9_isHousehold : yX9_isHousehold.cls ≠ "java/lang/invoke/MethodHandle" ∧ yX9_isHousehold.cls ≠ "java/lang/invoke/VarHandle" ∧ (parseMethodDescriptor yX9_isHousehold.desc).map (fun d => d.parameters.length) = some 1 := by decide +kernel
theorem hd_X9_isCondition : yX9_isCondition.cls ≠ "java/lang/invoke/MethodHandle" ∧ yX9_isCondition.cls ≠ "java/lang/invoke/VarHandle" ∧ (parseMethodDescriptor yX9_isCondition.desc).map (fun d => d.parameters.length) = some 1 := by decide +kernel
theorem hd_X9_place : yX9_place.cls ≠ "java/lang/invoke/MethodHandle" ∧ yX9_place.cls ≠ "java/lang/invoke/VarHandle" ∧ (parseMethodDescriptor yX9_place.desc).map (fun d => d.parameters.length) = some 3 := by decide +kernel
theorem hd_X9_blank : yX9_blank.cls ≠ "java/lang/invoke/MethodHandle" ∧ yX9_blank.cls ≠ "java/lang/invoke/VarHandle" ∧ (parseMethodDescriptor yX9_blank.desc).map (fun d => d.parameters.length) = some 2 := by decide +kernel
theorem hd_X9_add : yX9_add.cls ≠ "java/lang/invoke/MethodHandle" ∧ yX9_add.cls ≠ "java/lang/invoke/VarHandle" ∧ (parseMethodDescriptor yX9_add.desc).map (fun d => d.parameters.length) = some 3 := by decide +kernel
theorem hd_X9_question : yX9_question.cls ≠ "java/lang/invoke/MethodHandle" ∧ yX9_question.cls ≠ "java/lang/invoke/VarHandle" ∧ (parseMethodDescriptor yX9_question.desc).map (fun d => d.parameters.length) = some 2 := by decide +kernel
theorem hd_X9_codeNumber : yX9_codeNumber.cls ≠ "java/lang/invoke/MethodHandle" ∧ yX9_codeNumber.cls ≠ "java/lang/invoke/VarHandle" ∧ (parseMethodDescriptor yX9_codeNumber.desc).map (fun d => d.parameters.length) = some 2 := by decide +kernel
theorem hd_X9_code : yX9_code.cls ≠ "java/lang/invoke/MethodHandle" ∧ yX9_code.cls ≠ "java/lang/invoke/VarHandle" ∧ (parseMethodDescriptor yX9_code.desc).map (fun d => d.parameters.length) = some 2 := by decide +kernel
theorem hd_X9_map : yX9_map.cls ≠ "java/lang/invoke/MethodHandle" ∧ yX9_map.cls ≠ "java/lang/invoke/VarHandle" ∧ (parseMethodDescriptor yX9_map.desc).map (fun d => d.parameters.length) = some 1 := by decide +kernel
theorem hd_X9_row : yX9_row.cls ≠ "java/lang/invoke/MethodHandle" ∧ yX9_row.cls ≠ "java/lang/invoke/VarHandle" ∧ (parseMethodDescriptor yX9_row.desc).map (fun d => d.parameters.length) = some 4 := by decide +kernel
theorem hd_X9_howMany : yX9_howMany.cls ≠ "java/lang/invoke/MethodHandle" ∧ yX9_howMany.cls ≠ "java/lang/invoke/VarHandle" ∧ (parseMethodDescriptor yX9_howMany.desc).map (fun d => d.parameters.length) = some 2 := by decide +kernel
theorem hd_X9_sum : yX9_sum.cls ≠ "java/lang/invoke/MethodHandle" ∧ yX9_sum.cls ≠ "java/lang/invoke/VarHandle" ∧ (parseMethodDescriptor yX9_sum.desc).map (fun d => d.parameters.length) = some 1 := by decide +kernel
theorem hd_X9_of : yX9_of.cls ≠ "java/lang/invoke/MethodHandle" ∧ yX9_of.cls ≠ "java/lang/invoke/VarHandle" ∧ (parseMethodDescriptor yX9_of.desc).map (fun d => d.parameters.length) = some 2 := by decide +kernel
theorem hd_X9_codeAt : yX9_codeAt.cls ≠ "java/lang/invoke/MethodHandle" ∧ yX9_codeAt.cls ≠ "java/lang/invoke/VarHandle" ∧ (parseMethodDescriptor yX9_codeAt.desc).map (fun d => d.parameters.length) = some 2 := by decide +kernel
theorem hd_X9_household : yX9_household.cls ≠ "java/lang/invoke/MethodHandle" ∧ yX9_household.cls ≠ "java/lang/invoke/VarHandle" ∧ (parseMethodDescriptor yX9_household.desc).map (fun d => d.parameters.length) = some 0 := by decide +kernel
theorem hd_X9_persons : yX9_persons.cls ≠ "java/lang/invoke/MethodHandle" ∧ yX9_persons.cls ≠ "java/lang/invoke/VarHandle" ∧ (parseMethodDescriptor yX9_persons.desc).map (fun d => d.parameters.length) = some 2 := by decide +kernel
theorem hd_X9_isPlace : yX9_isPlace.cls ≠ "java/lang/invoke/MethodHandle" ∧ yX9_isPlace.cls ≠ "java/lang/invoke/VarHandle" ∧ (parseMethodDescriptor yX9_isPlace.desc).map (fun d => d.parameters.length) = some 3 := by decide +kernel
theorem hd_X9_isValue : yX9_isValue.cls ≠ "java/lang/invoke/MethodHandle" ∧ yX9_isValue.cls ≠ "java/lang/invoke/VarHandle" ∧ (parseMethodDescriptor yX9_isValue.desc).map (fun d => d.parameters.length) = some 2 := by decide +kernel
theorem hd_X9_people : yX9_people.cls ≠ "java/lang/invoke/MethodHandle" ∧ yX9_people.cls ≠ "java/lang/invoke/VarHandle" ∧ (parseMethodDescriptor yX9_people.desc).map (fun d => d.parameters.length) = some 3 := by decide +kernel
theorem hd_X9_answer : yX9_answer.cls ≠ "java/lang/invoke/MethodHandle" ∧ yX9_answer.cls ≠ "java/lang/invoke/VarHandle" ∧ (parseMethodDescriptor yX9_answer.desc).map (fun d => d.parameters.length) = some 4 := by decide +kernel
theorem hd_X9_missing : yX9_missing.cls ≠ "java/lang/invoke/MethodHandle" ∧ yX9_missing.cls ≠ "java/lang/invoke/VarHandle" ∧ (parseMethodDescriptor yX9_missing.desc).map (fun d => d.parameters.length) = some 4 := by decide +kernel
theorem hd_X9_told : yX9_told.cls ≠ "java/lang/invoke/MethodHandle" ∧ yX9_told.cls ≠ "java/lang/invoke/VarHandle" ∧ (parseMethodDescriptor yX9_told.desc).map (fun d => d.parameters.length) = some 4 := by decide +kernel
theorem hd_X9_mapAt : yX9_mapAt.cls ≠ "java/lang/invoke/MethodHandle" ∧ yX9_mapAt.cls ≠ "java/lang/invoke/VarHandle" ∧ (parseMethodDescriptor yX9_mapAt.desc).map (fun d => d.parameters.length) = some 2 := by decide +kernel
theorem hd_X9_makeAt : yX9_makeAt.cls ≠ "java/lang/invoke/MethodHandle" ∧ yX9_makeAt.cls ≠ "java/lang/invoke/VarHandle" ∧ (parseMethodDescriptor yX9_makeAt.desc).map (fun d => d.parameters.length) = some 2 := by decide +kernel
theorem hd_X9_isAsked : yX9_isAsked.cls ≠ "java/lang/invoke/MethodHandle" ∧ yX9_isAsked.cls ≠ "java/lang/invoke/VarHandle" ∧ (parseMethodDescriptor yX9_isAsked.desc).map (fun d => d.parameters.length) = some 2 := by decide +kernel
theorem hd_X9_isSaid : yX9_isSaid.cls ≠ "java/lang/invoke/MethodHandle" ∧ yX9_isSaid.cls ≠ "java/lang/invoke/VarHandle" ∧ (parseMethodDescriptor yX9_isSaid.desc).map (fun d => d.parameters.length) = some 2 := by decide +kernel
theorem hd_X9_sayAt : yX9_sayAt.cls ≠ "java/lang/invoke/MethodHandle" ∧ yX9_sayAt.cls ≠ "java/lang/invoke/VarHandle" ∧ (parseMethodDescriptor yX9_sayAt.desc).map (fun d => d.parameters.length) = some 2 := by decide +kernel
theorem hd_X9_workOut : yX9_workOut.cls ≠ "java/lang/invoke/MethodHandle" ∧ yX9_workOut.cls ≠ "java/lang/invoke/VarHandle" ∧ (parseMethodDescriptor yX9_workOut.desc).map (fun d => d.parameters.length) = some 1 := by decide +kernel
theorem hd_X9_value : yX9_value.cls ≠ "java/lang/invoke/MethodHandle" ∧ yX9_value.cls ≠ "java/lang/invoke/VarHandle" ∧ (parseMethodDescriptor yX9_value.desc).map (fun d => d.parameters.length) = some 3 := by decide +kernel
theorem hd_X9_reason : yX9_reason.cls ≠ "java/lang/invoke/MethodHandle" ∧ yX9_reason.cls ≠ "java/lang/invoke/VarHandle" ∧ (parseMethodDescriptor yX9_reason.desc).map (fun d => d.parameters.length) = some 3 := by decide +kernel
theorem hd_X9_condition : yX9_condition.cls ≠ "java/lang/invoke/MethodHandle" ∧ yX9_condition.cls ≠ "java/lang/invoke/VarHandle" ∧ (parseMethodDescriptor yX9_condition.desc).map (fun d => d.parameters.length) = some 4 := by decide +kernel
theorem hd_X9_ask : yX9_ask.cls ≠ "java/lang/invoke/MethodHandle" ∧ yX9_ask.cls ≠ "java/lang/invoke/VarHandle" ∧ (parseMethodDescriptor yX9_ask.desc).map (fun d => d.parameters.length) = some 3 := by decide +kernel
theorem hd_X9_logic : yX9_logic.cls ≠ "java/lang/invoke/MethodHandle" ∧ yX9_logic.cls ≠ "java/lang/invoke/VarHandle" ∧ (parseMethodDescriptor yX9_logic.desc).map (fun d => d.parameters.length) = some 3 := by decide +kernel
theorem hd_X9_some : yX9_some.cls ≠ "java/lang/invoke/MethodHandle" ∧ yX9_some.cls ≠ "java/lang/invoke/VarHandle" ∧ (parseMethodDescriptor yX9_some.desc).map (fun d => d.parameters.length) = some 2 := by decide +kernel
theorem hd_X9_holds : yX9_holds.cls ≠ "java/lang/invoke/MethodHandle" ∧ yX9_holds.cls ≠ "java/lang/invoke/VarHandle" ∧ (parseMethodDescriptor yX9_holds.desc).map (fun d => d.parameters.length) = some 3 := by decide +kernel
theorem hd_X9_filter : yX9_filter.cls ≠ "java/lang/invoke/MethodHandle" ∧ yX9_filter.cls ≠ "java/lang/invoke/VarHandle" ∧ (parseMethodDescriptor yX9_filter.desc).map (fun d => d.parameters.length) = some 2 := by decide +kernel
theorem hd_X9_isAgainst : yX9_isAgainst.cls ≠ "java/lang/invoke/MethodHandle" ∧ yX9_isAgainst.cls ≠ "java/lang/invoke/VarHandle" ∧ (parseMethodDescriptor yX9_isAgainst.desc).map (fun d => d.parameters.length) = some 2 := by decide +kernel
theorem hd_X9_countAgainst : yX9_countAgainst.cls ≠ "java/lang/invoke/MethodHandle" ∧ yX9_countAgainst.cls ≠ "java/lang/invoke/VarHandle" ∧ (parseMethodDescriptor yX9_countAgainst.desc).map (fun d => d.parameters.length) = some 1 := by decide +kernel
theorem hd_X9_against : yX9_against.cls ≠ "java/lang/invoke/MethodHandle" ∧ yX9_against.cls ≠ "java/lang/invoke/VarHandle" ∧ (parseMethodDescriptor yX9_against.desc).map (fun d => d.parameters.length) = some 0 := by decide +kernel
theorem hd_X9_sought : yX9_sought.cls ≠ "java/lang/invoke/MethodHandle" ∧ yX9_sought.cls ≠ "java/lang/invoke/VarHandle" ∧ (parseMethodDescriptor yX9_sought.desc).map (fun d => d.parameters.length) = some 1 := by decide +kernel
theorem hd_X9_againstAt : yX9_againstAt.cls ≠ "java/lang/invoke/MethodHandle" ∧ yX9_againstAt.cls ≠ "java/lang/invoke/VarHandle" ∧ (parseMethodDescriptor yX9_againstAt.desc).map (fun d => d.parameters.length) = some 2 := by decide +kernel
theorem hd_X9_weight : yX9_weight.cls ≠ "java/lang/invoke/MethodHandle" ∧ yX9_weight.cls ≠ "java/lang/invoke/VarHandle" ∧ (parseMethodDescriptor yX9_weight.desc).map (fun d => d.parameters.length) = some 3 := by decide +kernel
theorem hd_X9_line : yX9_line.cls ≠ "java/lang/invoke/MethodHandle" ∧ yX9_line.cls ≠ "java/lang/invoke/VarHandle" ∧ (parseMethodDescriptor yX9_line.desc).map (fun d => d.parameters.length) = some 1 := by decide +kernel
theorem hd_X9_isCodeAtTop : yX9_isCodeAtTop.cls ≠ "java/lang/invoke/MethodHandle" ∧ yX9_isCodeAtTop.cls ≠ "java/lang/invoke/VarHandle" ∧ (parseMethodDescriptor yX9_isCodeAtTop.desc).map (fun d => d.parameters.length) = some 1 := by decide +kernel
theorem hd_X9_table : yX9_table.cls ≠ "java/lang/invoke/MethodHandle" ∧ yX9_table.cls ≠ "java/lang/invoke/VarHandle" ∧ (parseMethodDescriptor yX9_table.desc).map (fun d => d.parameters.length) = some 2 := by decide +kernel
theorem hd_X9_isCell : yX9_isCell.cls ≠ "java/lang/invoke/MethodHandle" ∧ yX9_isCell.cls ≠ "java/lang/invoke/VarHandle" ∧ (parseMethodDescriptor yX9_isCell.desc).map (fun d => d.parameters.length) = some 2 := by decide +kernel
theorem hd_X9_cell : yX9_cell.cls ≠ "java/lang/invoke/MethodHandle" ∧ yX9_cell.cls ≠ "java/lang/invoke/VarHandle" ∧ (parseMethodDescriptor yX9_cell.desc).map (fun d => d.parameters.length) = some 3 := by decide +kernel
theorem hd_X9_shares : yX9_shares.cls ≠ "java/lang/invoke/MethodHandle" ∧ yX9_shares.cls ≠ "java/lang/invoke/VarHandle" ∧ (parseMethodDescriptor yX9_shares.desc).map (fun d => d.parameters.length) = some 1 := by decide +kernel
theorem hd_X9_share : yX9_share.cls ≠ "java/lang/invoke/MethodHandle" ∧ yX9_share.cls ≠ "java/lang/invoke/VarHandle" ∧ (parseMethodDescriptor yX9_share.desc).map (fun d => d.parameters.length) = some 2 := by decide +kernel
theorem hd_X9_hangTogether : yX9_hangTogether.cls ≠ "java/lang/invoke/MethodHandle" ∧ yX9_hangTogether.cls ≠ "java/lang/invoke/VarHandle" ∧ (parseMethodDescriptor yX9_hangTogether.desc).map (fun d => d.parameters.length) = some 3 := by decide +kernel
theorem hd_X9_isFollowing : yX9_isFollowing.cls ≠ "java/lang/invoke/MethodHandle" ∧ yX9_isFollowing.cls ≠ "java/lang/invoke/VarHandle" ∧ (parseMethodDescriptor yX9_isFollowing.desc).map (fun d => d.parameters.length) = some 1 := by decide +kernel
theorem hd_X9_firstFollowing : yX9_firstFollowing.cls ≠ "java/lang/invoke/MethodHandle" ∧ yX9_firstFollowing.cls ≠ "java/lang/invoke/VarHandle" ∧ (parseMethodDescriptor yX9_firstFollowing.desc).map (fun d => d.parameters.length) = some 0 := by decide +kernel
theorem hd_X9_leastOf : yX9_leastOf.cls ≠ "java/lang/invoke/MethodHandle" ∧ yX9_leastOf.cls ≠ "java/lang/invoke/VarHandle" ∧ (parseMethodDescriptor yX9_leastOf.desc).map (fun d => d.parameters.length) = some 2 := by decide +kernel
theorem hd_X9_shown : yX9_shown.cls ≠ "java/lang/invoke/MethodHandle" ∧ yX9_shown.cls ≠ "java/lang/invoke/VarHandle" ∧ (parseMethodDescriptor yX9_shown.desc).map (fun d => d.parameters.length) = some 1 := by decide +kernel
theorem hd_X9_follows : yX9_follows.cls ≠ "java/lang/invoke/MethodHandle" ∧ yX9_follows.cls ≠ "java/lang/invoke/VarHandle" ∧ (parseMethodDescriptor yX9_follows.desc).map (fun d => d.parameters.length) = some 0 := by decide +kernel
theorem hd_X9_rank : yX9_rank.cls ≠ "java/lang/invoke/MethodHandle" ∧ yX9_rank.cls ≠ "java/lang/invoke/VarHandle" ∧ (parseMethodDescriptor yX9_rank.desc).map (fun d => d.parameters.length) = some 2 := by decide +kernel
theorem hd_X9_part : yX9_part.cls ≠ "java/lang/invoke/MethodHandle" ∧ yX9_part.cls ≠ "java/lang/invoke/VarHandle" ∧ (parseMethodDescriptor yX9_part.desc).map (fun d => d.parameters.length) = some 4 := by decide +kernel
theorem hd_X9_mark : yX9_mark.cls ≠ "java/lang/invoke/MethodHandle" ∧ yX9_mark.cls ≠ "java/lang/invoke/VarHandle" ∧ (parseMethodDescriptor yX9_mark.desc).map (fun d => d.parameters.length) = some 2 := by decide +kernel
theorem hd_X9_areLike : yX9_areLike.cls ≠ "java/lang/invoke/MethodHandle" ∧ yX9_areLike.cls ≠ "java/lang/invoke/VarHandle" ∧ (parseMethodDescriptor yX9_areLike.desc).map (fun d => d.parameters.length) = some 4 := by decide +kernel
theorem hd_X9_areDouble : yX9_areDouble.cls ≠ "java/lang/invoke/MethodHandle" ∧ yX9_areDouble.cls ≠ "java/lang/invoke/VarHandle" ∧ (parseMethodDescriptor yX9_areDouble.desc).map (fun d => d.parameters.length) = some 2 := by decide +kernel
theorem hd_X9_countDoubles : yX9_countDoubles.cls ≠ "java/lang/invoke/MethodHandle" ∧ yX9_countDoubles.cls ≠ "java/lang/invoke/VarHandle" ∧ (parseMethodDescriptor yX9_countDoubles.desc).map (fun d => d.parameters.length) = some 1 := by decide +kernel
theorem hd_X9_doubles : yX9_doubles.cls ≠ "java/lang/invoke/MethodHandle" ∧ yX9_doubles.cls ≠ "java/lang/invoke/VarHandle" ∧ (parseMethodDescriptor yX9_doubles.desc).map (fun d => d.parameters.length) = some 0 := by decide +kernel
theorem hd_X9_doubleAt : yX9_doubleAt.cls ≠ "java/lang/invoke/MethodHandle" ∧ yX9_doubleAt.cls ≠ "java/lang/invoke/VarHandle" ∧ (parseMethodDescriptor yX9_doubleAt.desc).map (fun d => d.parameters.length) = some 2 := by decide +kernel
theorem hd_X9_freeze : yX9_freeze.cls ≠ "java/lang/invoke/MethodHandle" ∧ yX9_freeze.cls ≠ "java/lang/invoke/VarHandle" ∧ (parseMethodDescriptor yX9_freeze.desc).map (fun d => d.parameters.length) = some 0 := by decide +kernel
theorem hd_X9_isEdition : yX9_isEdition.cls ≠ "java/lang/invoke/MethodHandle" ∧ yX9_isEdition.cls ≠ "java/lang/invoke/VarHandle" ∧ (parseMethodDescriptor yX9_isEdition.desc).map (fun d => d.parameters.length) = some 1 := by decide +kernel
theorem hd_X9_personsThen : yX9_personsThen.cls ≠ "java/lang/invoke/MethodHandle" ∧ yX9_personsThen.cls ≠ "java/lang/invoke/VarHandle" ∧ (parseMethodDescriptor yX9_personsThen.desc).map (fun d => d.parameters.length) = some 3 := by decide +kernel
theorem hd_X9_isFrozen : yX9_isFrozen.cls ≠ "java/lang/invoke/MethodHandle" ∧ yX9_isFrozen.cls ≠ "java/lang/invoke/VarHandle" ∧ (parseMethodDescriptor yX9_isFrozen.desc).map (fun d => d.parameters.length) = some 4 := by decide +kernel
theorem hd_X9_frozen : yX9_frozen.cls ≠ "java/lang/invoke/MethodHandle" ∧ yX9_frozen.cls ≠ "java/lang/invoke/VarHandle" ∧ (parseMethodDescriptor yX9_frozen.desc).map (fun d => d.parameters.length) = some 4 := by decide +kernel
theorem hd_X9_frozenReason : yX9_frozenReason.cls ≠ "java/lang/invoke/MethodHandle" ∧ yX9_frozenReason.cls ≠ "java/lang/invoke/VarHandle" ∧ (parseMethodDescriptor yX9_frozenReason.desc).map (fun d => d.parameters.length) = some 4 := by decide +kernel
theorem hd_X9_isChanged : yX9_isChanged.cls ≠ "java/lang/invoke/MethodHandle" ∧ yX9_isChanged.cls ≠ "java/lang/invoke/VarHandle" ∧ (parseMethodDescriptor yX9_isChanged.desc).map (fun d => d.parameters.length) = some 5 := by decide +kernel
theorem hd_X9_countChanges : yX9_countChanges.cls ≠ "java/lang/invoke/MethodHandle" ∧ yX9_countChanges.cls ≠ "java/lang/invoke/VarHandle" ∧ (parseMethodDescriptor yX9_countChanges.desc).map (fun d => d.parameters.length) = some 3 := by decide +kernel
theorem hd_X9_changes : yX9_changes.cls ≠ "java/lang/invoke/MethodHandle" ∧ yX9_changes.cls ≠ "java/lang/invoke/VarHandle" ∧ (parseMethodDescriptor yX9_changes.desc).map (fun d => d.parameters.length) = some 2 := by decide +kernel
theorem hd_X9_changeAt : yX9_changeAt.cls ≠ "java/lang/invoke/MethodHandle" ∧ yX9_changeAt.cls ≠ "java/lang/invoke/VarHandle" ∧ (parseMethodDescriptor yX9_changeAt.desc).map (fun d => d.parameters.length) = some 4 := by decide +kernel
theorem hd_X9_merge : yX9_merge.cls ≠ "java/lang/invoke/MethodHandle" ∧ yX9_merge.cls ≠ "java/lang/invoke/VarHandle" ∧ (parseMethodDescriptor yX9_merge.desc).map (fun d => d.parameters.length) = some 1 := by decide +kernel
theorem hd_X9_count : yX9_count.cls ≠ "java/lang/invoke/MethodHandle" ∧ yX9_count.cls ≠ "java/lang/invoke/VarHandle" ∧ (parseMethodDescriptor yX9_count.desc).map (fun d => d.parameters.length) = some 1 := by decide +kernel
theorem hd_J7_copyOf_59c91 : yJ7_copyOf_59c91.cls ≠ "java/lang/invoke/MethodHandle" ∧ yJ7_copyOf_59c91.cls ≠ "java/lang/invoke/VarHandle" ∧ (parseMethodDescriptor yJ7_copyOf_59c91.desc).map (fun d => d.parameters.length) = some 2 := by decide +kernel
theorem hd_J7_copyOf_c38d5 : yJ7_copyOf_c38d5.cls ≠ "java/lang/invoke/MethodHandle" ∧ yJ7_copyOf_c38d5.cls ≠ "java/lang/invoke/VarHandle" ∧ (parseMethodDescriptor yJ7_copyOf_c38d5.desc).map (fun d => d.parameters.length) = some 2 := by decide +kernel
